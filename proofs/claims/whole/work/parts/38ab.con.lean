set_option maxHeartbeats 40000000 in
set_option maxRecDepth 100000 in
theorem db_X19_remember_27 {p : Program} {l : Launch} {e : Env} {s : State} {m : MethodId} {args : Array Value} {below : List Frame} {meth : Method} {c : Code} {Q : State → Prop} {A : Nat → Prop} {dC : Nat → ClassId} {dI : Nat → Nat → Nat} {a : Nat → Nat} {ac : Nat → ClassId} {n : Nat} {r : St × (St) × (St × (St × (St))) × (St) × (St)} (C : nd_C p l s m args c A (dC, dI) cX19_remember 2 RX19 ow_dm_X19_remember (dk_X19 ac)) (K : nd_Kv p l e (headSpec ow_dm_X19_remember ({ frames := 7, cells := 0, slots := 0, locals := 166 })).room s m args below meth c Q A (dC, dI) cX19_remember (St × (St) × (St × (St × (St))) × (St) × (St)) (dw_X19 a ac) r) {g2 : Int32 → (St × (St) × (St × (St × (St))) × (St) × (St)) → Option (St × (St) × (St × (St × (St))) × (St) × (St))} (J2 : dj_X19_remember_2 p l e s m args below meth c Q A dC dI a ac g2 r) : dj_X19_remember_27 p l e s m args below meth c Q A dC dI a ac (df_X19_remember_27 n g2) r := by
  obtain ⟨hlt, hx, hb, hml, hown, hts, hN, hA, hK⟩ := id C
  intro x1 s0 H locs ls h hP hD hS hl
  unfold df_X19_remember_27 at h
  obtain ⟨z7, ez7, h⟩ := nd_let_e h
  refine lv_iinc (v := z7) (lv' := [(1, .int z7), (0, .ref (a 0))]) hx hb dX19_remember_27 hl (k := 1) rfl (by rw [ez7]) (by decide) rfl (fun ls hl => ?_)
  refine lv_goto (tgt := 2) hx hb dX19_remember_30 (by decide) ?_
  exact (J2) (z7) s0 _ _ _ h hP hD hS (lv_sub hl [1, 0] rfl)
set_option maxHeartbeats 40000000 in
set_option maxRecDepth 100000 in
theorem dB_X19_remember_2 {p : Program} {l : Launch} {e : Env} {s : State} {m : MethodId} {args : Array Value} {below : List Frame} {meth : Method} {c : Code} {Q : State → Prop} {A : Nat → Prop} {dC : Nat → ClassId} {dI : Nat → Nat → Nat} {a : Nat → Nat} {ac : Nat → ClassId} {n : Nat} {r : St × (St) × (St × (St × (St))) × (St) × (St)} (C : nd_C p l s m args c A (dC, dI) cX19_remember 2 RX19 ow_dm_X19_remember (dk_X19 ac)) (K : nd_Kv p l e (headSpec ow_dm_X19_remember ({ frames := 7, cells := 0, slots := 0, locals := 166 })).room s m args below meth c Q A (dC, dI) cX19_remember (St × (St) × (St × (St × (St))) × (St) × (St)) (dw_X19 a ac) r) {g2 : Int32 → (St × (St) × (St × (St × (St))) × (St) × (St)) → Option (St × (St) × (St × (St × (St))) × (St) × (St))} (J2 : dj_X19_remember_2 p l e s m args below meth c Q A dC dI a ac g2 r) : dj_X19_remember_2 p l e s m args below meth c Q A dC dI a ac (dF_X19_remember_2 n g2) r := by
  obtain ⟨hlt, hx, hb, hml, hown, hts, hN, hA, hK⟩ := id C
  intro x1 s0 H locs ls h hP hD hS hl
  unfold dF_X19_remember_2 at h
  refine lv_iload_n hx hb dX19_remember_2 rfl (lv_at hl 1 rfl) ?_
  refine lv_bipush (v := 8) hx hb dX19_remember_3 (by decide) ?_
  refine lv_icmp_ge (tgt := 33) hx hb dX19_remember_5 (by decide) (fun c1 => ?_) (fun c1 => ?_)
  · have h := nd_pos h c1
    exact K _ _ _ _ _ dX19_remember_33 (Option.some.inj h).symm hP hD hS
  · have h := nd_neg h c1
    refine lv_aload_n hx hb dX19_remember_8 rfl (lv_at hl 0 rfl) ?_
    refine va_get (D := (dC, dI)) (ci := 20) (v := .ref (a 27)) (C := RX19) (T := TX19) (N := 36) hx hb hts hi_dm_X19_remember_X19 hown hK hP 0 rfl rfl 14 (by decide) (hts (.fieldLink RX19 67 "TimeMachineModel" "conditions" "LTimeMachineModel$Conditions;") (List.mem_of_getElem? (i := 1) rfl)) (fun _ h9 => h9) rfl dX19_remember_9 ?_
    refine lv_iload_n hx hb dX19_remember_12 rfl (lv_at hl 1 rfl) ?_
    obtain ⟨q2, s3, hq, h⟩ := nd_b2_e h
    have hPc := dp_X19_27 hP
    have hDc := dd_X19_27 hD
    have hKc := dy_X19_27 hK
    have hFc := nd_rs hDc hS hA
    have hzA : ∀ q : Nat, H.size ≤ q → A q := fun q h => hA q (Nat.le_trans hS.1 h)
    refine nd_cVi (As := [.int x1]) (rest := []) (q := q2) (w' := dw_X15 (fun k => a (k + 27)) (fun k => ac (k + 27)) s3) ⟨hx, hb, hml, hown, hts⟩ (fun sz => dm_X15_isThere l hlt dC dI (fun k => a (k + 27)) (fun k => ac (k + 27)) n (x1) s0.2.2.1 hq sz) (cwV 1 hts gi_dm_X19_remember_0 rfl rfl rfl (by decide +kernel) ⟨Nat.le_of_ble_eq_true rfl, Nat.le_of_ble_eq_true rfl⟩) hPc hDc hKc hS hA hN (va_recv hKc hPc (ci := 16) (q0 := 0) rfl rfl) rfl hl.1 rfl (Nat.le_of_ble_eq_true rfl) dX19_remember_13 (fun H locs hP1 hD1 hk1 hS => ?_)
    obtain ⟨hP, hD⟩ := dn_X19_27 hP hD hzA hk1 hP1 hD1
    obtain ⟨s5, es5, h⟩ := nd_let_e h
    have hP : va_P (dC, dI) vwCl (dw_X19 a ac s5) H := by rw [es5]; exact hP
    have hD : va_D A (dw_X19 a ac s5) := by rw [es5]; exact hD
    refine lv_if_eq (tgt := 27) hx hb dX19_remember_16 (by decide) (fun c6 => ?_) (fun c6 => ?_)
    · have h := nd_pos h c6
      exact (db_X19_remember_27 C K J2) (x1) s5 _ _ _ h hP hD hS (lv_sub hl [0, 1] rfl)
    · have h := nd_neg h c6
      refine lv_aload_n hx hb dX19_remember_19 rfl (lv_at hl 0 rfl) ?_
      refine va_get (D := (dC, dI)) (ci := 20) (v := .ref (a 27)) (C := RX19) (T := TX19) (N := 36) hx hb hts hi_dm_X19_remember_X19 hown hK hP 0 rfl rfl 14 (by decide) (hts (.fieldLink RX19 67 "TimeMachineModel" "conditions" "LTimeMachineModel$Conditions;") (List.mem_of_getElem? (i := 1) rfl)) (fun _ h9 => h9) rfl dX19_remember_20 ?_
      refine lv_iload_n hx hb dX19_remember_23 rfl (lv_at hl 1 rfl) ?_
      obtain ⟨s9, hq, h⟩ := nd_b1_e h
      have hPc := dp_X19_27 hP
      have hDc := dd_X19_27 hD
      have hKc := dy_X19_27 hK
      have hFc := nd_rs hDc hS hA
      have hzA : ∀ q : Nat, H.size ≤ q → A q := fun q h => hA q (Nat.le_trans hS.1 h)
      refine nd_cVv (As := [.int x1]) (rest := []) (w' := dw_X15 (fun k => a (k + 27)) (fun k => ac (k + 27)) s9) ⟨hx, hb, hml, hown, hts⟩ (fun sz => dm_X15_remember l hlt dC dI (fun k => a (k + 27)) (fun k => ac (k + 27)) n (x1) s5.2.2.1 hq sz) (cwV 1 hts gi_dm_X19_remember_1 rfl rfl rfl (by decide +kernel) ⟨Nat.le_of_ble_eq_true rfl, Nat.le_of_ble_eq_true rfl⟩) hPc hDc hKc hS hA hN (va_recv hKc hPc (ci := 16) (q0 := 0) rfl rfl) rfl hl.1 rfl (Nat.le_of_ble_eq_true rfl) dX19_remember_24 (fun H locs hP1 hD1 hk1 hS => ?_)
      obtain ⟨hP, hD⟩ := dn_X19_27 hP hD hzA hk1 hP1 hD1
      obtain ⟨s11, es11, h⟩ := nd_let_e h
      have hP : va_P (dC, dI) vwCl (dw_X19 a ac s11) H := by rw [es11]; exact hP
      have hD : va_D A (dw_X19 a ac s11) := by rw [es11]; exact hD
      exact (db_X19_remember_27 C K J2) (x1) s11 _ _ _ h hP hD hS (lv_sub hl [0, 1] rfl)
set_option maxHeartbeats 40000000 in
set_option maxRecDepth 100000 in
theorem db_X19_remember_2 {p : Program} {l : Launch} {e : Env} {s : State} {m : MethodId} {args : Array Value} {below : List Frame} {meth : Method} {c : Code} {Q : State → Prop} {A : Nat → Prop} {dC : Nat → ClassId} {dI : Nat → Nat → Nat} {a : Nat → Nat} {ac : Nat → ClassId} {n : Nat} {r : St × (St) × (St × (St × (St))) × (St) × (St)} (C : nd_C p l s m args c A (dC, dI) cX19_remember 2 RX19 ow_dm_X19_remember (dk_X19 ac)) (K : nd_Kv p l e (headSpec ow_dm_X19_remember ({ frames := 7, cells := 0, slots := 0, locals := 166 })).room s m args below meth c Q A (dC, dI) cX19_remember (St × (St) × (St × (St × (St))) × (St) × (St)) (dw_X19 a ac) r) (k : Nat) : dj_X19_remember_2 p l e s m args below meth c Q A dC dI a ac (df_X19_remember_2 n k) r := by
  induction k with
  | zero => intro x1 s0 H locs ls h; exact nomatch (show (none : Option (St × (St) × (St × (St × (St))) × (St) × (St))) = some r from h)
  | succ k ih => exact dB_X19_remember_2 C K ih
set_option maxHeartbeats 40000000 in
set_option maxRecDepth 100000 in
theorem db_X19_remember_0 {p : Program} {l : Launch} {e : Env} {s : State} {m : MethodId} {args : Array Value} {below : List Frame} {meth : Method} {c : Code} {Q : State → Prop} {A : Nat → Prop} {dC : Nat → ClassId} {dI : Nat → Nat → Nat} {a : Nat → Nat} {ac : Nat → ClassId} {n : Nat} {r : St × (St) × (St × (St × (St))) × (St) × (St)} (C : nd_C p l s m args c A (dC, dI) cX19_remember 2 RX19 ow_dm_X19_remember (dk_X19 ac)) (K : nd_Kv p l e (headSpec ow_dm_X19_remember ({ frames := 7, cells := 0, slots := 0, locals := 166 })).room s m args below meth c Q A (dC, dI) cX19_remember (St × (St) × (St × (St × (St))) × (St) × (St)) (dw_X19 a ac) r) : dj_X19_remember_0 p l e s m args below meth c Q A dC dI a ac (df_X19_remember_0 n) r := by
  obtain ⟨hlt, hx, hb, hml, hown, hts, hN, hA, hK⟩ := id C
  intro s0 H locs ls h hP hD hS hl
  unfold df_X19_remember_0 at h
  refine lv_iconst (v := 0) hx hb dX19_remember_0 (by decide) ?_
  refine lv_istore_n (lv' := [(1, .int 0), (0, .ref (a 0))]) hx hb dX19_remember_1 rfl hl (by decide) rfl (fun ls hl => ?_)
  exact (db_X19_remember_2 C K n) (0) s0 _ _ _ h hP hD hS (lv_sub hl [1, 0] rfl)
set_option maxHeartbeats 40000000 in
set_option maxRecDepth 100000 in
theorem dm_X19_remember (l : Launch) (hlt : l.stackTraces = false) (dC : Nat → ClassId) (dI : Nat → Nat → Nat) (a : Nat → Nat) (ac : Nat → ClassId) (n : Nat) (s0 : St × (St) × (St × (St × (St))) × (St) × (St)) {r : St × (St) × (St × (St × (St))) × (St) × (St)} (h : df_X19_remember n s0 = some r) (sz : Nat) : Met l yX19_remember ow_dm_X19_remember ({ frames := 7, cells := 0, slots := 0, locals := 166 }) (va_Pc [.ref (a 0)] (fun U => U.heap.size = sz ∧ va_P (dC, dI) vwCl (dw_X19 a ac s0) U.heap ∧ va_K (dC, dI) vwCl (dk_X19 ac) U ∧ va_D (fun _ => True) (dw_X19 a ac s0) ∧ nv_E dI (va_A (dw_X19 a ac s0) sz) U)) (va_Qv (fun _ => True) (fun (_ : Unit) t => va_P (dC, dI) vwCl (dw_X19 a ac r) t.heap ∧ va_K (dC, dI) vwCl (dk_X19 ac) t ∧ va_D (va_A (dw_X19 a ac s0) sz) (dw_X19 a ac r)) (va_A (dw_X19 a ac s0) sz)) 0 0 (va_A (dw_X19 a ac s0) sz) := by
  refine Met.ofW (cc := cX19_remember) (maxL := 2) (ret := none) (by decide) rfl ?_
  intro p e s m args below meth c s₁ B hml hv
  obtain ⟨rfl, hsz, hP, hK, hD0, hN⟩ := hv
  have hx := B.exec
  have hb := B.bytes
  have hr := B.returns
  have hts := atoms_spec (ws := ow_dm_X19_remember) B.pre
  have hown : s.vm.findClass RX19 = some m.cls := findClass_of_methodNamed B.named
  have hlocks := B.notSynchronized
  subst hsz
  have hD := hD0.self (sz := s.heap.size)
  generalize hAe : va_A (dw_X19 a ac s0) s.heap.size = A at hD hN ⊢
  have hA : ∀ q : Nat, s.heap.size ≤ q → A q := fun q h => by rw [← hAe]; exact Or.inr h
  have hl := lv_entry ([.ref (a 0)]) (n := 2) (Nat.le_of_ble_eq_true rfl)
  rw [lg_entry_eq]
  generalize (lg_sl ([.ref (a 0)]) ++ List.replicate (2 - (lg_sl ([.ref (a 0)])).length) Slot.unset).toArray = ls at hl ⊢
  have hl : lv_has ls 2 [(0, .ref (a 0))] := hl
  exact db_X19_remember_0 (dC := dC) (dI := dI) (a := a) (ac := ac) (n := n) (r := r) ⟨hlt, hx, hb, hml, hown, hts, hN, hA, hK⟩ (fun pc τ H locs ls d er hP hD hS => by subst er; exact W.vret hx hb hr (fun t ht hW => ⟨⟨(), rfl, trivial, by rw [ht]; exact hP, va_K.moved hW.alike hK, hD⟩, hS.F ht⟩) hS.2.2 d) s0 _ _ _ h hP hD va_S.rf (lv_sub hl [0] rfl)
def ow_dm_X19_run : List Cond := Cond.code yX19_run cX19_run 6 (some .int) :: ([Cond.constantLong RX19 283 (60000), Cond.methodLink RX19 126 yX19_in, Cond.static yX19_in, Cond.initialized RX19, Cond.methodLink RX19 136 yX19_fails, Cond.instanceMethod yX19_fails, Cond.selects RX19 yX19_fails yX19_fails, Cond.fieldLink RX19 234 "TimeMachineModel" "now" "I", Cond.methodLink RX19 266 yX19_come, Cond.instanceMethod yX19_come, Cond.selects RX19 yX19_come yX19_come, Cond.fieldLink RX19 236 "TimeMachineModel" "refused" "Z", Cond.fieldLink RX19 285 "TimeMachineModel" "why" "I", Cond.constant RX19 288 (60000), Cond.fieldLink RX19 58 "TimeMachineModel" "m" "LTimeMachineModel$Machine;", Cond.methodLink RX19 289 yX16_count, Cond.instanceMethod yX16_count, Cond.selects RX16 yX16_count yX16_count, Cond.initialized RX16, Cond.constantLong RX19 292 (-1), Cond.methodLink RX19 297 yX19_remember, Cond.instanceMethod yX19_remember, Cond.selects RX19 yX19_remember yX19_remember, Cond.methodLink RX19 209 yX19_tick, Cond.instanceMethod yX19_tick, Cond.selects RX19 yX19_tick yX19_tick, Cond.fieldLink RX19 210 "TimeMachineModel" "end" "I", Cond.methodLink RX19 299 yX19_hit, Cond.instanceMethod yX19_hit, Cond.selects RX19 yX19_hit yX19_hit, Cond.methodLink RX19 252 yX19_takeScheduled, Cond.instanceMethod yX19_takeScheduled, Cond.selects RX19 yX19_takeScheduled yX19_takeScheduled, Cond.methodLink RX19 294 yX16_isWaiting, Cond.instanceMethod yX16_isWaiting, Cond.selects RX16 yX16_isWaiting yX16_isWaiting, Cond.fieldLink RX19 231 "TimeMachineModel" "booted" "Z"] ++ (u_ws RX19 TX19 36 ++ (ow_dm_X19_in ++ (ow_dm_X19_fails ++ (ow_dm_X19_come ++ (ow_dm_X16_count ++ (ow_dm_X19_remember ++ (ow_dm_X19_tick ++ (ow_dm_X19_hit ++ (ow_dm_X19_takeScheduled ++ (ow_dm_X16_isWaiting ++ [])))))))))))
theorem gd_dm_X19_run : ∀ w ∈ ow_dm_X19_run, (w.onTables && w.keeps) = true ∨ ∃ ty, w = Cond.arrayClass ty := List.forall_mem_cons.mpr ⟨good_of_word rfl, List.forall_mem_append.mpr ⟨fun w h => good_of_word (List.all_eq_true.mp (by decide +kernel) w h), List.forall_mem_append.mpr ⟨gu_X19, List.forall_mem_append.mpr ⟨gd_dm_X19_in, List.forall_mem_append.mpr ⟨gd_dm_X19_fails, List.forall_mem_append.mpr ⟨gd_dm_X19_come, List.forall_mem_append.mpr ⟨gd_dm_X16_count, List.forall_mem_append.mpr ⟨gd_dm_X19_remember, List.forall_mem_append.mpr ⟨gd_dm_X19_tick, List.forall_mem_append.mpr ⟨gd_dm_X19_hit, List.forall_mem_append.mpr ⟨gd_dm_X19_takeScheduled, List.forall_mem_append.mpr ⟨gd_dm_X16_isWaiting, fun _ h => nomatch h⟩⟩⟩⟩⟩⟩⟩⟩⟩⟩⟩⟩
theorem hi_dm_X19_run_X19 : ∀ w ∈ u_ws RX19 TX19 36, w ∈ ow_dm_X19_run := fun w h => List.mem_cons_of_mem _ (List.mem_append_right _ (List.mem_append_left _ h))
theorem gi_dm_X19_run_0 : GoodIn ow_dm_X19_run (wsS RX19 126 yX19_in ow_dm_X19_in) := goodIn_app (goodIn_of _ (by decide +kernel)) (fun w h => ⟨List.mem_cons_of_mem _ (List.mem_append_right _ (List.mem_append_right _ (List.mem_append_left _ h))), gd_dm_X19_in w h⟩)
theorem gi_dm_X19_run_1 : GoodIn ow_dm_X19_run (wsV RX19 136 RX19 yX19_fails ow_dm_X19_fails) := goodIn_app (goodIn_of _ (by decide +kernel)) (fun w h => ⟨List.mem_cons_of_mem _ (List.mem_append_right _ (List.mem_append_right _ (List.mem_append_right _ (List.mem_append_left _ h)))), gd_dm_X19_fails w h⟩)
theorem gi_dm_X19_run_2 : GoodIn ow_dm_X19_run (wsV RX19 266 RX19 yX19_come ow_dm_X19_come) := goodIn_app (goodIn_of _ (by decide +kernel)) (fun w h => ⟨List.mem_cons_of_mem _ (List.mem_append_right _ (List.mem_append_right _ (List.mem_append_right _ (List.mem_append_right _ (List.mem_append_left _ h))))), gd_dm_X19_come w h⟩)
theorem gi_dm_X19_run_3 : GoodIn ow_dm_X19_run (wsV RX19 289 RX16 yX16_count ow_dm_X16_count) := goodIn_app (goodIn_of _ (by decide +kernel)) (fun w h => ⟨List.mem_cons_of_mem _ (List.mem_append_right _ (List.mem_append_right _ (List.mem_append_right _ (List.mem_append_right _ (List.mem_append_right _ (List.mem_append_left _ h)))))), gd_dm_X16_count w h⟩)
theorem gi_dm_X19_run_4 : GoodIn ow_dm_X19_run (wsV RX19 297 RX19 yX19_remember ow_dm_X19_remember) := goodIn_app (goodIn_of _ (by decide +kernel)) (fun w h => ⟨List.mem_cons_of_mem _ (List.mem_append_right _ (List.mem_append_right _ (List.mem_append_right _ (List.mem_append_right _ (List.mem_append_right _ (List.mem_append_right _ (List.mem_append_left _ h))))))), gd_dm_X19_remember w h⟩)
theorem gi_dm_X19_run_5 : GoodIn ow_dm_X19_run (wsV RX19 209 RX19 yX19_tick ow_dm_X19_tick) := goodIn_app (goodIn_of _ (by decide +kernel)) (fun w h => ⟨List.mem_cons_of_mem _ (List.mem_append_right _ (List.mem_append_right _ (List.mem_append_right _ (List.mem_append_right _ (List.mem_append_right _ (List.mem_append_right _ (List.mem_append_right _ (List.mem_append_left _ h)))))))), gd_dm_X19_tick w h⟩)
theorem gi_dm_X19_run_6 : GoodIn ow_dm_X19_run (wsV RX19 299 RX19 yX19_hit ow_dm_X19_hit) := goodIn_app (goodIn_of _ (by decide +kernel)) (fun w h => ⟨List.mem_cons_of_mem _ (List.mem_append_right _ (List.mem_append_right _ (List.mem_append_right _ (List.mem_append_right _ (List.mem_append_right _ (List.mem_append_right _ (List.mem_append_right _ (List.mem_append_right _ (List.mem_append_left _ h))))))))), gd_dm_X19_hit w h⟩)
theorem gi_dm_X19_run_7 : GoodIn ow_dm_X19_run (wsV RX19 252 RX19 yX19_takeScheduled ow_dm_X19_takeScheduled) := goodIn_app (goodIn_of _ (by decide +kernel)) (fun w h => ⟨List.mem_cons_of_mem _ (List.mem_append_right _ (List.mem_append_right _ (List.mem_append_right _ (List.mem_append_right _ (List.mem_append_right _ (List.mem_append_right _ (List.mem_append_right _ (List.mem_append_right _ (List.mem_append_right _ (List.mem_append_left _ h)))))))))), gd_dm_X19_takeScheduled w h⟩)
theorem gi_dm_X19_run_8 : GoodIn ow_dm_X19_run (wsV RX19 294 RX16 yX16_isWaiting ow_dm_X16_isWaiting) := goodIn_app (goodIn_of _ (by decide +kernel)) (fun w h => ⟨List.mem_cons_of_mem _ (List.mem_append_right _ (List.mem_append_right _ (List.mem_append_right _ (List.mem_append_right _ (List.mem_append_right _ (List.mem_append_right _ (List.mem_append_right _ (List.mem_append_right _ (List.mem_append_right _ (List.mem_append_right _ (List.mem_append_left _ h))))))))))), gd_dm_X16_isWaiting w h⟩)
def dj_X19_run_237 (p : Program) (l : Launch) (e : Env) (s : State) (m : MethodId) (args : Array Value) (below : List Frame) (meth : Method) (c : Code) (Q : State → Prop) (A : Nat → Prop) (dC : Nat → ClassId) (dI : Nat → Nat → Nat) (a : Nat → Nat) (ac : Nat → ClassId) (g : Int32 → (St × (St) × (St × (St × (St))) × (St) × (St)) → Option (Int32 × (St × (St) × (St × (St × (St))) × (St) × (St)))) (r : Int32 × (St × (St) × (St × (St × (St))) × (St) × (St))) : Prop := ∀ (x3 : Int32) (s0 : St × (St) × (St × (St × (St))) × (St) × (St)) (H : Heap) (locs : List Loc) (ls : Array Slot), g x3 s0 = some r → va_P (dC, dI) vwCl (dw_X19 a ac s0) H → va_D A (dw_X19 a ac s0) → va_S A s.heap H locs → lv_has ls 6 [(3, .int x3)] → W p l e (headSpec ow_dm_X19_run ({ frames := 10, cells := 0, slots := 0, locals := 225 })).room s m args below meth c H locs 0 0 Q (F0 m 237 ls [])
def dj_X19_run_231 (p : Program) (l : Launch) (e : Env) (s : State) (m : MethodId) (args : Array Value) (below : List Frame) (meth : Method) (c : Code) (Q : State → Prop) (A : Nat → Prop) (dC : Nat → ClassId) (dI : Nat → Nat → Nat) (a : Nat → Nat) (ac : Nat → ClassId) (g : Int32 → Int32 → Int32 → (St × (St) × (St × (St × (St))) × (St) × (St)) → Option (Int32 × (St × (St) × (St × (St × (St))) × (St) × (St)))) (r : Int32 × (St × (St) × (St × (St × (St))) × (St) × (St))) : Prop := ∀ (x1 : Int32) (x3 : Int32) (y1 : Int32) (s0 : St × (St) × (St × (St × (St))) × (St) × (St)) (H : Heap) (locs : List Loc) (ls : Array Slot), g x1 x3 y1 s0 = some r → va_P (dC, dI) vwCl (dw_X19 a ac s0) H → va_D A (dw_X19 a ac s0) → va_S A s.heap H locs → lv_has ls 6 [(0, .ref (a 0)), (1, .int x1), (3, .int x3)] → W p l e (headSpec ow_dm_X19_run ({ frames := 10, cells := 0, slots := 0, locals := 225 })).room s m args below meth c H locs 0 0 Q (F0 m 231 ls [.int y1, .ref (a 0)])
def dj_X19_run_199 (p : Program) (l : Launch) (e : Env) (s : State) (m : MethodId) (args : Array Value) (below : List Frame) (meth : Method) (c : Code) (Q : State → Prop) (A : Nat → Prop) (dC : Nat → ClassId) (dI : Nat → Nat → Nat) (a : Nat → Nat) (ac : Nat → ClassId) (g : Int32 → Int32 → Int32 → (St × (St) × (St × (St × (St))) × (St) × (St)) → Option (Int32 × (St × (St) × (St × (St × (St))) × (St) × (St)))) (r : Int32 × (St × (St) × (St × (St × (St))) × (St) × (St))) : Prop := ∀ (x1 : Int32) (x3 : Int32) (x4 : Int32) (s0 : St × (St) × (St × (St × (St))) × (St) × (St)) (H : Heap) (locs : List Loc) (ls : Array Slot), g x1 x3 x4 s0 = some r → va_P (dC, dI) vwCl (dw_X19 a ac s0) H → va_D A (dw_X19 a ac s0) → va_S A s.heap H locs → lv_has ls 6 [(0, .ref (a 0)), (1, .int x1), (3, .int x3), (4, .int x4)] → W p l e (headSpec ow_dm_X19_run ({ frames := 10, cells := 0, slots := 0, locals := 225 })).room s m args below meth c H locs 0 0 Q (F0 m 199 ls [])
def dj_X19_run_139 (p : Program) (l : Launch) (e : Env) (s : State) (m : MethodId) (args : Array Value) (below : List Frame) (meth : Method) (c : Code) (Q : State → Prop) (A : Nat → Prop) (dC : Nat → ClassId) (dI : Nat → Nat → Nat) (a : Nat → Nat) (ac : Nat → ClassId) (g : Int32 → Int32 → (St × (St) × (St × (St × (St))) × (St) × (St)) → Option (Int32 × (St × (St) × (St × (St × (St))) × (St) × (St)))) (r : Int32 × (St × (St) × (St × (St × (St))) × (St) × (St))) : Prop := ∀ (x1 : Int32) (x3 : Int32) (s0 : St × (St) × (St × (St × (St))) × (St) × (St)) (H : Heap) (locs : List Loc) (ls : Array Slot), g x1 x3 s0 = some r → va_P (dC, dI) vwCl (dw_X19 a ac s0) H → va_D A (dw_X19 a ac s0) → va_S A s.heap H locs → lv_has ls 6 [(0, .ref (a 0)), (1, .int x1), (3, .int x3)] → W p l e (headSpec ow_dm_X19_run ({ frames := 10, cells := 0, slots := 0, locals := 225 })).room s m args below meth c H locs 0 0 Q (F0 m 139 ls [])
def dj_X19_run_136 (p : Program) (l : Launch) (e : Env) (s : State) (m : MethodId) (args : Array Value) (below : List Frame) (meth : Method) (c : Code) (Q : State → Prop) (A : Nat → Prop) (dC : Nat → ClassId) (dI : Nat → Nat → Nat) (a : Nat → Nat) (ac : Nat → ClassId) (g : Int32 → Int32 → Int32 → (St × (St) × (St × (St × (St))) × (St) × (St)) → Option (Int32 × (St × (St) × (St × (St × (St))) × (St) × (St)))) (r : Int32 × (St × (St) × (St × (St × (St))) × (St) × (St))) : Prop := ∀ (x1 : Int32) (x3 : Int32) (y1 : Int32) (s0 : St × (St) × (St × (St × (St))) × (St) × (St)) (H : Heap) (locs : List Loc) (ls : Array Slot), g x1 x3 y1 s0 = some r → va_P (dC, dI) vwCl (dw_X19 a ac s0) H → va_D A (dw_X19 a ac s0) → va_S A s.heap H locs → lv_has ls 6 [(0, .ref (a 0)), (1, .int x1), (3, .int x3)] → W p l e (headSpec ow_dm_X19_run ({ frames := 10, cells := 0, slots := 0, locals := 225 })).room s m args below meth c H locs 0 0 Q (F0 m 136 ls [.int y1, .ref (a 0)])
def dj_X19_run_75 (p : Program) (l : Launch) (e : Env) (s : State) (m : MethodId) (args : Array Value) (below : List Frame) (meth : Method) (c : Code) (Q : State → Prop) (A : Nat → Prop) (dC : Nat → ClassId) (dI : Nat → Nat → Nat) (a : Nat → Nat) (ac : Nat → ClassId) (g : Int32 → Int32 → (St × (St) × (St × (St × (St))) × (St) × (St)) → Option (Int32 × (St × (St) × (St × (St × (St))) × (St) × (St)))) (r : Int32 × (St × (St) × (St × (St × (St))) × (St) × (St))) : Prop := ∀ (x1 : Int32) (x3 : Int32) (s0 : St × (St) × (St × (St × (St))) × (St) × (St)) (H : Heap) (locs : List Loc) (ls : Array Slot), g x1 x3 s0 = some r → va_P (dC, dI) vwCl (dw_X19 a ac s0) H → va_D A (dw_X19 a ac s0) → va_S A s.heap H locs → lv_has ls 6 [(0, .ref (a 0)), (1, .int x1), (3, .int x3)] → W p l e (headSpec ow_dm_X19_run ({ frames := 10, cells := 0, slots := 0, locals := 225 })).room s m args below meth c H locs 0 0 Q (F0 m 75 ls [])
def dj_X19_run_65 (p : Program) (l : Launch) (e : Env) (s : State) (m : MethodId) (args : Array Value) (below : List Frame) (meth : Method) (c : Code) (Q : State → Prop) (A : Nat → Prop) (dC : Nat → ClassId) (dI : Nat → Nat → Nat) (a : Nat → Nat) (ac : Nat → ClassId) (g : Int32 → Int32 → (St × (St) × (St × (St × (St))) × (St) × (St)) → Option (Int32 × (St × (St) × (St × (St × (St))) × (St) × (St)))) (r : Int32 × (St × (St) × (St × (St × (St))) × (St) × (St))) : Prop := ∀ (x1 : Int32) (y1 : Int32) (s0 : St × (St) × (St × (St × (St))) × (St) × (St)) (H : Heap) (locs : List Loc) (ls : Array Slot), g x1 y1 s0 = some r → va_P (dC, dI) vwCl (dw_X19 a ac s0) H → va_D A (dw_X19 a ac s0) → va_S A s.heap H locs → lv_has ls 6 [(0, .ref (a 0)), (1, .int x1)] → W p l e (headSpec ow_dm_X19_run ({ frames := 10, cells := 0, slots := 0, locals := 225 })).room s m args below meth c H locs 0 0 Q (F0 m 65 ls [.int y1, .ref (a 0)])
def dj_X19_run_36 (p : Program) (l : Launch) (e : Env) (s : State) (m : MethodId) (args : Array Value) (below : List Frame) (meth : Method) (c : Code) (Q : State → Prop) (A : Nat → Prop) (dC : Nat → ClassId) (dI : Nat → Nat → Nat) (a : Nat → Nat) (ac : Nat → ClassId) (g : Int32 → Int32 → Int32 → (St × (St) × (St × (St × (St))) × (St) × (St)) → Option (Int32 × (St × (St) × (St × (St × (St))) × (St) × (St)))) (r : Int32 × (St × (St) × (St × (St × (St))) × (St) × (St))) : Prop := ∀ (x1 : Int32) (y1 : Int32) (y2 : Int32) (s0 : St × (St) × (St × (St × (St))) × (St) × (St)) (H : Heap) (locs : List Loc) (ls : Array Slot), g x1 y1 y2 s0 = some r → va_P (dC, dI) vwCl (dw_X19 a ac s0) H → va_D A (dw_X19 a ac s0) → va_S A s.heap H locs → lv_has ls 6 [(0, .ref (a 0)), (1, .int x1)] → W p l e (headSpec ow_dm_X19_run ({ frames := 10, cells := 0, slots := 0, locals := 225 })).room s m args below meth c H locs 0 0 Q (F0 m 36 ls [.int y2, .int y1, .ref (a 0)])
def dj_X19_run_35 (p : Program) (l : Launch) (e : Env) (s : State) (m : MethodId) (args : Array Value) (below : List Frame) (meth : Method) (c : Code) (Q : State → Prop) (A : Nat → Prop) (dC : Nat → ClassId) (dI : Nat → Nat → Nat) (a : Nat → Nat) (ac : Nat → ClassId) (g : Int32 → Int32 → (St × (St) × (St × (St × (St))) × (St) × (St)) → Option (Int32 × (St × (St) × (St × (St × (St))) × (St) × (St)))) (r : Int32 × (St × (St) × (St × (St × (St))) × (St) × (St))) : Prop := ∀ (x1 : Int32) (y1 : Int32) (s0 : St × (St) × (St × (St × (St))) × (St) × (St)) (H : Heap) (locs : List Loc) (ls : Array Slot), g x1 y1 s0 = some r → va_P (dC, dI) vwCl (dw_X19 a ac s0) H → va_D A (dw_X19 a ac s0) → va_S A s.heap H locs → lv_has ls 6 [(0, .ref (a 0)), (1, .int x1)] → W p l e (headSpec ow_dm_X19_run ({ frames := 10, cells := 0, slots := 0, locals := 225 })).room s m args below meth c H locs 0 0 Q (F0 m 35 ls [.int y1, .ref (a 0)])
def dj_X19_run_20 (p : Program) (l : Launch) (e : Env) (s : State) (m : MethodId) (args : Array Value) (below : List Frame) (meth : Method) (c : Code) (Q : State → Prop) (A : Nat → Prop) (dC : Nat → ClassId) (dI : Nat → Nat → Nat) (a : Nat → Nat) (ac : Nat → ClassId) (g : Int32 → Int32 → Int32 → (St × (St) × (St × (St × (St))) × (St) × (St)) → Option (Int32 × (St × (St) × (St × (St × (St))) × (St) × (St)))) (r : Int32 × (St × (St) × (St × (St × (St))) × (St) × (St))) : Prop := ∀ (x1 : Int32) (x2 : Int32) (y1 : Int32) (s0 : St × (St) × (St × (St × (St))) × (St) × (St)) (H : Heap) (locs : List Loc) (ls : Array Slot), g x1 x2 y1 s0 = some r → va_P (dC, dI) vwCl (dw_X19 a ac s0) H → va_D A (dw_X19 a ac s0) → va_S A s.heap H locs → lv_has ls 6 [(0, .ref (a 0)), (1, .int x1), (2, .int x2)] → W p l e (headSpec ow_dm_X19_run ({ frames := 10, cells := 0, slots := 0, locals := 225 })).room s m args below meth c H locs 0 0 Q (F0 m 20 ls [.int y1, .ref (a 0)])
def dj_X19_run_0 (p : Program) (l : Launch) (e : Env) (s : State) (m : MethodId) (args : Array Value) (below : List Frame) (meth : Method) (c : Code) (Q : State → Prop) (A : Nat → Prop) (dC : Nat → ClassId) (dI : Nat → Nat → Nat) (a : Nat → Nat) (ac : Nat → ClassId) (g : Int32 → (St × (St) × (St × (St × (St))) × (St) × (St)) → Option (Int32 × (St × (St) × (St × (St × (St))) × (St) × (St)))) (r : Int32 × (St × (St) × (St × (St × (St))) × (St) × (St))) : Prop := ∀ (v0 : Int32) (s0 : St × (St) × (St × (St × (St))) × (St) × (St)) (H : Heap) (locs : List Loc) (ls : Array Slot), g v0 s0 = some r → va_P (dC, dI) vwCl (dw_X19 a ac s0) H → va_D A (dw_X19 a ac s0) → va_S A s.heap H locs → lv_has ls 6 [(0, .ref (a 0)), (1, .int v0)] → W p l e (headSpec ow_dm_X19_run ({ frames := 10, cells := 0, slots := 0, locals := 225 })).room s m args below meth c H locs 0 0 Q (F0 m 0 ls [])
set_option maxHeartbeats 40000000 in
set_option maxRecDepth 100000 in
theorem db_X19_run_237 {p : Program} {l : Launch} {e : Env} {s : State} {m : MethodId} {args : Array Value} {below : List Frame} {meth : Method} {c : Code} {Q : State → Prop} {A : Nat → Prop} {dC : Nat → ClassId} {dI : Nat → Nat → Nat} {a : Nat → Nat} {ac : Nat → ClassId} {n : Nat} {r : Int32 × (St × (St) × (St × (St × (St))) × (St) × (St))} (C : nd_C p l s m args c A (dC, dI) cX19_run 6 RX19 ow_dm_X19_run (dk_X19 ac)) (K : nd_Ki p l e (headSpec ow_dm_X19_run ({ frames := 10, cells := 0, slots := 0, locals := 225 })).room s m args below meth c Q A (dC, dI) cX19_run .int (St × (St) × (St × (St × (St))) × (St) × (St)) (dw_X19 a ac) r) : dj_X19_run_237 p l e s m args below meth c Q A dC dI a ac (df_X19_run_237 n) r := by
  obtain ⟨hlt, hx, hb, hml, hown, hts, hN, hA, hK⟩ := id C
  intro x3 s0 H locs ls h hP hD hS hl
  unfold df_X19_run_237 at h
  refine lv_iload_n hx hb dX19_run_237 rfl (lv_at hl 0 rfl) ?_
  exact K _ _ _ _ _ _ dX19_run_238 rfl (Option.some.inj h).symm hP hD hS
set_option maxHeartbeats 40000000 in
set_option maxRecDepth 100000 in
theorem db_X19_run_231 {p : Program} {l : Launch} {e : Env} {s : State} {m : MethodId} {args : Array Value} {below : List Frame} {meth : Method} {c : Code} {Q : State → Prop} {A : Nat → Prop} {dC : Nat → ClassId} {dI : Nat → Nat → Nat} {a : Nat → Nat} {ac : Nat → ClassId} {n : Nat} {r : Int32 × (St × (St) × (St × (St × (St))) × (St) × (St))} (C : nd_C p l s m args c A (dC, dI) cX19_run 6 RX19 ow_dm_X19_run (dk_X19 ac)) (K : nd_Ki p l e (headSpec ow_dm_X19_run ({ frames := 10, cells := 0, slots := 0, locals := 225 })).room s m args below meth c Q A (dC, dI) cX19_run .int (St × (St) × (St × (St × (St))) × (St) × (St)) (dw_X19 a ac) r) {g75 : Int32 → Int32 → (St × (St) × (St × (St × (St))) × (St) × (St)) → Option (Int32 × (St × (St) × (St × (St × (St))) × (St) × (St)))} (J75 : dj_X19_run_75 p l e s m args below meth c Q A dC dI a ac g75 r) : dj_X19_run_231 p l e s m args below meth c Q A dC dI a ac (df_X19_run_231 n g75) r := by
  obtain ⟨hlt, hx, hb, hml, hown, hts, hN, hA, hK⟩ := id C
  intro x1 x3 y1 s0 H locs ls h hP hD hS hl
  unfold df_X19_run_231 at h
  refine va_put (D := (dC, dI)) (ci := 20) (v := .int y1) (ty := .int) (C := RX19) (T := TX19) (N := 36) hx hb hts hi_dm_X19_run_X19 tyX19 tyX19_ok nmX19 hown hK hP hD hS 0 rfl rfl 21 (by decide) (hts (.fieldLink RX19 285 "TimeMachineModel" "why" "I") (List.mem_of_getElem? (i := 13) rfl)) (fun _ h9 => h9) rfl (by decide +kernel) rfl rfl (Nat.le_of_ble_eq_true rfl) dX19_run_231 (fun H locs hP hD hS => ?_)
  obtain ⟨s39, es39, h⟩ := nd_let_e h
  have hP : va_P (dC, dI) vwCl (dw_X19 a ac s39) H := by rw [es39]; exact hP
  have hD : va_D A (dw_X19 a ac s39) := by rw [es39]; exact hD
  refine lv_goto (tgt := 75) hx hb dX19_run_234 (by decide) ?_
  exact (J75) (x1) (x3) s39 _ _ _ h hP hD hS (lv_sub hl [0, 1, 2] rfl)
set_option maxHeartbeats 40000000 in
set_option maxRecDepth 100000 in
theorem db_X19_run_199 {p : Program} {l : Launch} {e : Env} {s : State} {m : MethodId} {args : Array Value} {below : List Frame} {meth : Method} {c : Code} {Q : State → Prop} {A : Nat → Prop} {dC : Nat → ClassId} {dI : Nat → Nat → Nat} {a : Nat → Nat} {ac : Nat → ClassId} {n : Nat} {r : Int32 × (St × (St) × (St × (St × (St))) × (St) × (St))} (C : nd_C p l s m args c A (dC, dI) cX19_run 6 RX19 ow_dm_X19_run (dk_X19 ac)) (K : nd_Ki p l e (headSpec ow_dm_X19_run ({ frames := 10, cells := 0, slots := 0, locals := 225 })).room s m args below meth c Q A (dC, dI) cX19_run .int (St × (St) × (St × (St × (St))) × (St) × (St)) (dw_X19 a ac) r) {g75 : Int32 → Int32 → (St × (St) × (St × (St × (St))) × (St) × (St)) → Option (Int32 × (St × (St) × (St × (St × (St))) × (St) × (St)))} (J75 : dj_X19_run_75 p l e s m args below meth c Q A dC dI a ac g75 r) : dj_X19_run_199 p l e s m args below meth c Q A dC dI a ac (df_X19_run_199 n g75) r := by
  obtain ⟨hlt, hx, hb, hml, hown, hts, hN, hA, hK⟩ := id C
  intro x1 x3 x4 s0 H locs ls h hP hD hS hl
  unfold df_X19_run_199 at h
  refine lv_aload_n hx hb dX19_run_199 rfl (lv_at hl 0 rfl) ?_
  obtain ⟨q34, s35, hq, h⟩ := nd_b2_e h
  have hPc := hP
  have hDc := hD
  have hKc := hK
  have hFc := nd_rs hD hS hA
  refine nd_cVi (As := []) (rest := []) (q := q34) (w' := dw_X19 a ac s35) ⟨hx, hb, hml, hown, hts⟩ (fun sz => dm_X19_hit l hlt dC dI a ac n  s0 hq sz) (cwV 0 hts gi_dm_X19_run_6 rfl rfl rfl (by decide +kernel) ⟨Nat.le_of_ble_eq_true rfl, Nat.le_of_ble_eq_true rfl⟩) hPc hDc hKc hS hA hN (va_recv hKc hPc (ci := 20) (q0 := 0) rfl rfl) rfl hl.1 rfl (Nat.le_of_ble_eq_true rfl) dX19_run_200 (fun H locs hP1 hD1 hk1 hS => ?_)
  have hP := hP1
  have hD := hD1.weaken (fun k q _ h => hFc q.1 h)
  refine lv_istore (lv' := [(5, .int q34), (0, .ref (a 0)), (1, .int x1), (3, .int x3), (4, .int x4)]) hx hb dX19_run_203 hl (by decide) rfl (fun ls hl => ?_)
  refine lv_aload_n hx hb dX19_run_205 rfl (lv_at hl 1 rfl) ?_
  refine lv_iload hx hb dX19_run_206 (lv_at hl 4 rfl) ?_
  refine lv_if_ne (tgt := 215) hx hb dX19_run_208 (by decide) (fun c37 => ?_) (fun c37 => ?_)
  · have h := nd_neg h c37
    refine lv_iload hx hb dX19_run_215 (lv_at hl 0 rfl) ?_
    refine lv_if_lt (tgt := 230) hx hb dX19_run_217 (by decide) (fun c38 => ?_) (fun c38 => ?_)
    · have h := nd_pos h c38
      refine lv_iconst (v := 0) hx hb dX19_run_230 (by decide) ?_
      exact (db_X19_run_231 C K J75) (x1) (x3) (0) s35 _ _ _ h hP hD hS (lv_sub hl [1, 2, 3] rfl)
    · have h := nd_neg h c38
      refine lv_iconst (v := 3) hx hb dX19_run_220 (by decide) ?_
      refine lv_bipush (v := 8) hx hb dX19_run_221 (by decide) ?_
      refine lv_iload hx hb dX19_run_223 (lv_at hl 0 rfl) ?_
      refine lv_imul hx hb dX19_run_225 ?_
      refine lv_iadd hx hb dX19_run_226 ?_
      refine lv_goto (tgt := 231) hx hb dX19_run_227 (by decide) ?_
      exact (db_X19_run_231 C K J75) (x1) (x3) ((3 + (8 * q34))) s35 _ _ _ h hP hD hS (lv_sub hl [1, 2, 3] rfl)
  · have h := nd_pos h c37
    refine lv_iconst (v := 5) hx hb dX19_run_211 (by decide) ?_
    refine lv_goto (tgt := 231) hx hb dX19_run_212 (by decide) ?_
    exact (db_X19_run_231 C K J75) (x1) (x3) (5) s35 _ _ _ h hP hD hS (lv_sub hl [1, 2, 3] rfl)
set_option maxHeartbeats 40000000 in
set_option maxRecDepth 100000 in
theorem db_X19_run_139 {p : Program} {l : Launch} {e : Env} {s : State} {m : MethodId} {args : Array Value} {below : List Frame} {meth : Method} {c : Code} {Q : State → Prop} {A : Nat → Prop} {dC : Nat → ClassId} {dI : Nat → Nat → Nat} {a : Nat → Nat} {ac : Nat → ClassId} {n : Nat} {r : Int32 × (St × (St) × (St × (St × (St))) × (St) × (St))} (C : nd_C p l s m args c A (dC, dI) cX19_run 6 RX19 ow_dm_X19_run (dk_X19 ac)) (K : nd_Ki p l e (headSpec ow_dm_X19_run ({ frames := 10, cells := 0, slots := 0, locals := 225 })).room s m args below meth c Q A (dC, dI) cX19_run .int (St × (St) × (St × (St × (St))) × (St) × (St)) (dw_X19 a ac) r) {g75 : Int32 → Int32 → (St × (St) × (St × (St × (St))) × (St) × (St)) → Option (Int32 × (St × (St) × (St × (St × (St))) × (St) × (St)))} (J75 : dj_X19_run_75 p l e s m args below meth c Q A dC dI a ac g75 r) : dj_X19_run_139 p l e s m args below meth c Q A dC dI a ac (df_X19_run_139 n g75) r := by
  obtain ⟨hlt, hx, hb, hml, hown, hts, hN, hA, hK⟩ := id C
  intro x1 x3 s0 H locs ls h hP hD hS hl
  unfold df_X19_run_139 at h
  refine lv_aload_n hx hb dX19_run_139 rfl (lv_at hl 0 rfl) ?_
  refine va_get (D := (dC, dI)) (ci := 20) (v := .int (sI s0.1 7)) (C := RX19) (T := TX19) (N := 36) hx hb hts hi_dm_X19_run_X19 hown hK hP 0 rfl rfl 21 (by decide) (hts (.fieldLink RX19 285 "TimeMachineModel" "why" "I") (List.mem_of_getElem? (i := 13) rfl)) (fun _ h9 => h9) rfl dX19_run_140 ?_
  refine lv_if_le (tgt := 149) hx hb dX19_run_143 (by decide) (fun c24 => ?_) (fun c24 => ?_)
  · have h := nd_pos h c24
    refine lv_aload_n hx hb dX19_run_149 rfl (lv_at hl 0 rfl) ?_
    obtain ⟨s26, hq, h⟩ := nd_b1_e h
    have hPc := hP
    have hDc := hD
    have hKc := hK
    have hFc := nd_rs hD hS hA
    refine nd_cVv (As := []) (rest := []) (w' := dw_X19 a ac s26) ⟨hx, hb, hml, hown, hts⟩ (fun sz => dm_X19_remember l hlt dC dI a ac n  s0 hq sz) (cwV 0 hts gi_dm_X19_run_4 rfl rfl rfl (by decide +kernel) ⟨Nat.le_of_ble_eq_true rfl, Nat.le_of_ble_eq_true rfl⟩) hPc hDc hKc hS hA hN (va_recv hKc hPc (ci := 20) (q0 := 0) rfl rfl) rfl hl.1 rfl (Nat.le_of_ble_eq_true rfl) dX19_run_150 (fun H locs hP1 hD1 hk1 hS => ?_)
    have hP := hP1
    have hD := hD1.weaken (fun k q _ h => hFc q.1 h)
    refine lv_aload_n hx hb dX19_run_153 rfl (lv_at hl 0 rfl) ?_
    obtain ⟨q28, s29, hq, h⟩ := nd_b2_e h
    have hPc := hP
    have hDc := hD
    have hKc := hK
    have hFc := nd_rs hD hS hA
    refine nd_cVi (As := []) (rest := []) (q := q28) (w' := dw_X19 a ac s29) ⟨hx, hb, hml, hown, hts⟩ (fun sz => dm_X19_tick l hlt dC dI a ac n  s26 hq sz) (cwV 0 hts gi_dm_X19_run_5 rfl rfl rfl (by decide +kernel) ⟨Nat.le_of_ble_eq_true rfl, Nat.le_of_ble_eq_true rfl⟩) hPc hDc hKc hS hA hN (va_recv hKc hPc (ci := 20) (q0 := 0) rfl rfl) rfl hl.1 rfl (Nat.le_of_ble_eq_true rfl) dX19_run_154 (fun H locs hP1 hD1 hk1 hS => ?_)
    have hP := hP1
    have hD := hD1.weaken (fun k q _ h => hFc q.1 h)
    refine lv_pop hx hb dX19_run_157 rfl ?_
    refine lv_aload_n hx hb dX19_run_158 rfl (lv_at hl 0 rfl) ?_
    refine lv_dup hx hb dX19_run_159 rfl ?_
    refine va_get (D := (dC, dI)) (ci := 20) (v := .int (sI s29.1 5)) (C := RX19) (T := TX19) (N := 36) hx hb hts hi_dm_X19_run_X19 hown hK hP 0 rfl rfl 19 (by decide) (hts (.fieldLink RX19 234 "TimeMachineModel" "now" "I") (List.mem_of_getElem? (i := 8) rfl)) (fun _ h9 => h9) rfl dX19_run_160 ?_
    refine lv_iconst (v := 1) hx hb dX19_run_163 (by decide) ?_
    refine lv_iadd hx hb dX19_run_164 ?_
    refine va_put (D := (dC, dI)) (ci := 20) (v := .int ((sI s29.1 5) + 1)) (ty := .int) (C := RX19) (T := TX19) (N := 36) hx hb hts hi_dm_X19_run_X19 tyX19 tyX19_ok nmX19 hown hK hP hD hS 0 rfl rfl 19 (by decide) (hts (.fieldLink RX19 234 "TimeMachineModel" "now" "I") (List.mem_of_getElem? (i := 8) rfl)) (fun _ h9 => h9) rfl (by decide +kernel) rfl rfl (Nat.le_of_ble_eq_true rfl) dX19_run_165 (fun H locs hP hD hS => ?_)
    obtain ⟨s31, es31, h⟩ := nd_let_e h
    have hP : va_P (dC, dI) vwCl (dw_X19 a ac s31) H := by rw [es31]; exact hP
    have hD : va_D A (dw_X19 a ac s31) := by rw [es31]; exact hD
    obtain ⟨z32, ez32, h⟩ := nd_let_e h
    refine lv_iinc (v := z32) (lv' := [(3, .int z32), (0, .ref (a 0)), (1, .int x1)]) hx hb dX19_run_168 hl (k := 2) rfl (by rw [ez32]) (by decide) rfl (fun ls hl => ?_)
    refine lv_iconst (v := 1) hx hb dX19_run_171 (by decide) ?_
    refine lv_istore (lv' := [(4, .int 1), (3, .int z32), (0, .ref (a 0)), (1, .int x1)]) hx hb dX19_run_172 hl (by decide) rfl (fun ls hl => ?_)
    refine lv_aload_n hx hb dX19_run_174 rfl (lv_at hl 2 rfl) ?_
    refine va_get (D := (dC, dI)) (ci := 20) (v := .int (sI s31.1 5)) (C := RX19) (T := TX19) (N := 36) hx hb hts hi_dm_X19_run_X19 hown hK hP 0 rfl rfl 19 (by decide) (hts (.fieldLink RX19 234 "TimeMachineModel" "now" "I") (List.mem_of_getElem? (i := 8) rfl)) (fun _ h9 => h9) rfl dX19_run_175 ?_
    refine lv_aload_n hx hb dX19_run_178 rfl (lv_at hl 2 rfl) ?_
    refine va_get (D := (dC, dI)) (ci := 20) (v := .int (sI s31.1 6)) (C := RX19) (T := TX19) (N := 36) hx hb hts hi_dm_X19_run_X19 hown hK hP 0 rfl rfl 20 (by decide) (hts (.fieldLink RX19 210 "TimeMachineModel" "end" "I") (List.mem_of_getElem? (i := 27) rfl)) (fun _ h9 => h9) rfl dX19_run_179 ?_
    refine lv_icmp_le (tgt := 199) hx hb dX19_run_182 (by decide) (fun c33 => ?_) (fun c33 => ?_)
    · have h := nd_pos h c33
      exact (db_X19_run_199 C K J75) (x1) (z32) (1) s31 _ _ _ h hP hD hS (lv_sub hl [2, 3, 1, 0] rfl)
    · have h := nd_neg h c33
      refine lv_aload_n hx hb dX19_run_185 rfl (lv_at hl 2 rfl) ?_
      refine lv_aload_n hx hb dX19_run_186 rfl (lv_at hl 2 rfl) ?_
      refine va_get (D := (dC, dI)) (ci := 20) (v := .int (sI s31.1 5)) (C := RX19) (T := TX19) (N := 36) hx hb hts hi_dm_X19_run_X19 hown hK hP 0 rfl rfl 19 (by decide) (hts (.fieldLink RX19 234 "TimeMachineModel" "now" "I") (List.mem_of_getElem? (i := 8) rfl)) (fun _ h9 => h9) rfl dX19_run_187 ?_
      refine va_put (D := (dC, dI)) (ci := 20) (v := .int (sI s31.1 5)) (ty := .int) (C := RX19) (T := TX19) (N := 36) hx hb hts hi_dm_X19_run_X19 tyX19 tyX19_ok nmX19 hown hK hP hD hS 0 rfl rfl 20 (by decide) (hts (.fieldLink RX19 210 "TimeMachineModel" "end" "I") (List.mem_of_getElem? (i := 27) rfl)) (fun _ h9 => h9) rfl (by decide +kernel) rfl rfl (Nat.le_of_ble_eq_true rfl) dX19_run_190 (fun H locs hP hD hS => ?_)
      obtain ⟨s40, es40, h⟩ := nd_let_e h
      have hP : va_P (dC, dI) vwCl (dw_X19 a ac s40) H := by rw [es40]; exact hP
      have hD : va_D A (dw_X19 a ac s40) := by rw [es40]; exact hD
      refine lv_aload_n hx hb dX19_run_193 rfl (lv_at hl 2 rfl) ?_
      obtain ⟨q41, s42, hq, h⟩ := nd_b2_e h
      have hPc := hP
      have hDc := hD
      have hKc := hK
      have hFc := nd_rs hD hS hA
      refine nd_cVi (As := []) (rest := []) (q := q41) (w' := dw_X19 a ac s42) ⟨hx, hb, hml, hown, hts⟩ (fun sz => dm_X19_takeScheduled l hlt dC dI a ac n  s40 hq sz) (cwV 0 hts gi_dm_X19_run_7 rfl rfl rfl (by decide +kernel) ⟨Nat.le_of_ble_eq_true rfl, Nat.le_of_ble_eq_true rfl⟩) hPc hDc hKc hS hA hN (va_recv hKc hPc (ci := 20) (q0 := 0) rfl rfl) rfl hl.1 rfl (Nat.le_of_ble_eq_true rfl) dX19_run_194 (fun H locs hP1 hD1 hk1 hS => ?_)
      have hP := hP1
      have hD := hD1.weaken (fun k q _ h => hFc q.1 h)
      refine lv_istore (lv' := [(4, .int q41), (3, .int z32), (0, .ref (a 0)), (1, .int x1)]) hx hb dX19_run_197 hl (by decide) rfl (fun ls hl => ?_)
      exact (db_X19_run_199 C K J75) (x1) (z32) (q41) s42 _ _ _ h hP hD hS (lv_sub hl [2, 3, 1, 0] rfl)
  · have h := nd_neg h c24
    refine lv_goto (tgt := 75) hx hb dX19_run_146 (by decide) ?_
    exact (J75) (x1) (x3) s0 _ _ _ h hP hD hS (lv_sub hl [0, 1, 2] rfl)
set_option maxHeartbeats 40000000 in
set_option maxRecDepth 100000 in
theorem db_X19_run_136 {p : Program} {l : Launch} {e : Env} {s : State} {m : MethodId} {args : Array Value} {below : List Frame} {meth : Method} {c : Code} {Q : State → Prop} {A : Nat → Prop} {dC : Nat → ClassId} {dI : Nat → Nat → Nat} {a : Nat → Nat} {ac : Nat → ClassId} {n : Nat} {r : Int32 × (St × (St) × (St × (St × (St))) × (St) × (St))} (C : nd_C p l s m args c A (dC, dI) cX19_run 6 RX19 ow_dm_X19_run (dk_X19 ac)) (K : nd_Ki p l e (headSpec ow_dm_X19_run ({ frames := 10, cells := 0, slots := 0, locals := 225 })).room s m args below meth c Q A (dC, dI) cX19_run .int (St × (St) × (St × (St × (St))) × (St) × (St)) (dw_X19 a ac) r) {g75 : Int32 → Int32 → (St × (St) × (St × (St × (St))) × (St) × (St)) → Option (Int32 × (St × (St) × (St × (St × (St))) × (St) × (St)))} (J75 : dj_X19_run_75 p l e s m args below meth c Q A dC dI a ac g75 r) : dj_X19_run_136 p l e s m args below meth c Q A dC dI a ac (df_X19_run_136 n g75) r := by
  obtain ⟨hlt, hx, hb, hml, hown, hts, hN, hA, hK⟩ := id C
  intro x1 x3 y1 s0 H locs ls h hP hD hS hl
  unfold df_X19_run_136 at h
  refine va_put (D := (dC, dI)) (ci := 20) (v := .int y1) (ty := .int) (C := RX19) (T := TX19) (N := 36) hx hb hts hi_dm_X19_run_X19 tyX19 tyX19_ok nmX19 hown hK hP hD hS 0 rfl rfl 21 (by decide) (hts (.fieldLink RX19 285 "TimeMachineModel" "why" "I") (List.mem_of_getElem? (i := 13) rfl)) (fun _ h9 => h9) rfl (by decide +kernel) rfl rfl (Nat.le_of_ble_eq_true rfl) dX19_run_136 (fun H locs hP hD hS => ?_)
  obtain ⟨s49, es49, h⟩ := nd_let_e h
  have hP : va_P (dC, dI) vwCl (dw_X19 a ac s49) H := by rw [es49]; exact hP
  have hD : va_D A (dw_X19 a ac s49) := by rw [es49]; exact hD
  exact (db_X19_run_139 C K J75) (x1) (x3) s49 _ _ _ h hP hD hS (lv_sub hl [0, 1, 2] rfl)
set_option maxHeartbeats 40000000 in
set_option maxRecDepth 100000 in
theorem dB_X19_run_75 {p : Program} {l : Launch} {e : Env} {s : State} {m : MethodId} {args : Array Value} {below : List Frame} {meth : Method} {c : Code} {Q : State → Prop} {A : Nat → Prop} {dC : Nat → ClassId} {dI : Nat → Nat → Nat} {a : Nat → Nat} {ac : Nat → ClassId} {n : Nat} {r : Int32 × (St × (St) × (St × (St × (St))) × (St) × (St))} (C : nd_C p l s m args c A (dC, dI) cX19_run 6 RX19 ow_dm_X19_run (dk_X19 ac)) (K : nd_Ki p l e (headSpec ow_dm_X19_run ({ frames := 10, cells := 0, slots := 0, locals := 225 })).room s m args below meth c Q A (dC, dI) cX19_run .int (St × (St) × (St × (St × (St))) × (St) × (St)) (dw_X19 a ac) r) {g75 : Int32 → Int32 → (St × (St) × (St × (St × (St))) × (St) × (St)) → Option (Int32 × (St × (St) × (St × (St × (St))) × (St) × (St)))} (J75 : dj_X19_run_75 p l e s m args below meth c Q A dC dI a ac g75 r) : dj_X19_run_75 p l e s m args below meth c Q A dC dI a ac (dF_X19_run_75 n g75) r := by
  obtain ⟨hlt, hx, hb, hml, hown, hts, hN, hA, hK⟩ := id C
  intro x1 x3 s0 H locs ls h hP hD hS hl
  unfold dF_X19_run_75 at h
  refine lv_iload_n hx hb dX19_run_75 rfl (lv_at hl 2 rfl) ?_
  refine lv_iload_n hx hb dX19_run_76 rfl (lv_at hl 1 rfl) ?_
  refine lv_icmp_ge (tgt := 237) hx hb dX19_run_77 (by decide) (fun c16 => ?_) (fun c16 => ?_)
  · have h := nd_pos h c16
    exact (db_X19_run_237 C K) (x3) s0 _ _ _ h hP hD hS (lv_sub hl [2] rfl)
  · have h := nd_neg h c16
    refine lv_aload_n hx hb dX19_run_80 rfl (lv_at hl 0 rfl) ?_
    refine va_get (D := (dC, dI)) (ci := 20) (v := .int (sI s0.1 7)) (C := RX19) (T := TX19) (N := 36) hx hb hts hi_dm_X19_run_X19 hown hK hP 0 rfl rfl 21 (by decide) (hts (.fieldLink RX19 285 "TimeMachineModel" "why" "I") (List.mem_of_getElem? (i := 13) rfl)) (fun _ h9 => h9) rfl dX19_run_81 ?_
    refine lv_if_ne (tgt := 237) hx hb dX19_run_84 (by decide) (fun c17 => ?_) (fun c17 => ?_)
    · have h := nd_neg h c17
      exact (db_X19_run_237 C K) (x3) s0 _ _ _ h hP hD hS (lv_sub hl [2] rfl)
    · have h := nd_pos h c17
      refine lv_aload_n hx hb dX19_run_87 rfl (lv_at hl 0 rfl) ?_
      refine va_get (D := (dC, dI)) (ci := 20) (v := .int (sI s0.1 5)) (C := RX19) (T := TX19) (N := 36) hx hb hts hi_dm_X19_run_X19 hown hK hP 0 rfl rfl 19 (by decide) (hts (.fieldLink RX19 234 "TimeMachineModel" "now" "I") (List.mem_of_getElem? (i := 8) rfl)) (fun _ h9 => h9) rfl dX19_run_88 ?_
      refine lv_ldcw hx hb hown (hts (.constant RX19 288 (60000)) (List.mem_of_getElem? (i := 14) rfl)) dX19_run_91 ?_
      refine lv_icmp_ne (tgt := 105) hx hb dX19_run_94 (by decide) (fun c18 => ?_) (fun c18 => ?_)
      · have h := nd_neg h c18
        refine lv_aload_n hx hb dX19_run_105 rfl (lv_at hl 0 rfl) ?_
        refine va_get (D := (dC, dI)) (ci := 20) (v := .ref (a 44)) (C := RX19) (T := TX19) (N := 36) hx hb hts hi_dm_X19_run_X19 hown hK hP 0 rfl rfl 13 (by decide) (hts (.fieldLink RX19 58 "TimeMachineModel" "m" "LTimeMachineModel$Machine;") (List.mem_of_getElem? (i := 15) rfl)) (fun _ h9 => h9) rfl dX19_run_106 ?_
        refine lv_iconst (v := 2) hx hb dX19_run_109 (by decide) ?_
        obtain ⟨q19, s20, hq, h⟩ := nd_b2_e h
        have hPc := dp_X19_44 hP
        have hDc := dd_X19_44 hD
        have hKc := dy_X19_44 hK
        have hFc := nd_rs hDc hS hA
        have hzA : ∀ q : Nat, H.size ≤ q → A q := fun q h => hA q (Nat.le_trans hS.1 h)
        refine nd_cVl (As := [.int 2]) (rest := []) (q := q19) (w' := dw_X16 (fun k => a (k + 44)) (fun k => ac (k + 44)) s20) ⟨hx, hb, hml, hown, hts⟩ (fun sz => dm_X16_count l hlt dC dI (fun k => a (k + 44)) (fun k => ac (k + 44)) n (2) s0.2.2.1.2 hq sz) (cwV 1 hts gi_dm_X19_run_3 rfl rfl rfl (by decide +kernel) ⟨Nat.le_of_ble_eq_true rfl, Nat.le_of_ble_eq_true rfl⟩) hPc hDc hKc hS hA hN (va_recv hKc hPc (ci := 17) (q0 := 0) rfl rfl) rfl hl.1 rfl (Nat.le_of_ble_eq_true rfl) dX19_run_110 (fun H locs hP1 hD1 hk1 hS => ?_)
        obtain ⟨hP, hD⟩ := dn_X19_44 hP hD hzA hk1 hP1 hD1
        obtain ⟨s22, es22, h⟩ := nd_let_e h
        have hP : va_P (dC, dI) vwCl (dw_X19 a ac s22) H := by rw [es22]; exact hP
        have hD : va_D A (dw_X19 a ac s22) := by rw [es22]; exact hD
        refine lv_ldc2 hx hb hown (hts (.constantLong RX19 292 (-1)) (List.mem_of_getElem? (i := 20) rfl)) dX19_run_113 ?_
        refine W.lcmp hx hb dX19_run_116 ?_
        refine lv_if_ne (tgt := 139) hx hb dX19_run_117 (by decide) (fun c23 => ?_) (fun c23 => ?_)
        · have h := nd_neg h c23
          exact (db_X19_run_139 C K J75) (x1) (x3) s22 _ _ _ h hP hD hS (lv_sub hl [0, 1, 2] rfl)
        · have h := nd_pos h c23
          refine lv_aload_n hx hb dX19_run_120 rfl (lv_at hl 0 rfl) ?_
          refine lv_aload_n hx hb dX19_run_121 rfl (lv_at hl 0 rfl) ?_
          refine va_get (D := (dC, dI)) (ci := 20) (v := .ref (a 44)) (C := RX19) (T := TX19) (N := 36) hx hb hts hi_dm_X19_run_X19 hown hK hP 0 rfl rfl 13 (by decide) (hts (.fieldLink RX19 58 "TimeMachineModel" "m" "LTimeMachineModel$Machine;") (List.mem_of_getElem? (i := 15) rfl)) (fun _ h9 => h9) rfl dX19_run_122 ?_
          obtain ⟨q44, s45, hq, h⟩ := nd_b2_e h
          have hPc := dp_X19_44 hP
          have hDc := dd_X19_44 hD
          have hKc := dy_X19_44 hK
          have hFc := nd_rs hDc hS hA
          have hzA : ∀ q : Nat, H.size ≤ q → A q := fun q h => hA q (Nat.le_trans hS.1 h)
          refine nd_cVi (As := []) (rest := [.ref (a 0)]) (q := q44) (w' := dw_X16 (fun k => a (k + 44)) (fun k => ac (k + 44)) s45) ⟨hx, hb, hml, hown, hts⟩ (fun sz => dm_X16_isWaiting l hlt dC dI (fun k => a (k + 44)) (fun k => ac (k + 44)) n  s22.2.2.1.2 hq sz) (cwV 0 hts gi_dm_X19_run_8 rfl rfl rfl (by decide +kernel) ⟨Nat.le_of_ble_eq_true rfl, Nat.le_of_ble_eq_true rfl⟩) hPc hDc hKc hS hA hN (va_recv hKc hPc (ci := 17) (q0 := 0) rfl rfl) rfl hl.1 rfl (Nat.le_of_ble_eq_true rfl) dX19_run_125 (fun H locs hP1 hD1 hk1 hS => ?_)
          obtain ⟨hP, hD⟩ := dn_X19_44 hP hD hzA hk1 hP1 hD1
          obtain ⟨s47, es47, h⟩ := nd_let_e h
          have hP : va_P (dC, dI) vwCl (dw_X19 a ac s47) H := by rw [es47]; exact hP
          have hD : va_D A (dw_X19 a ac s47) := by rw [es47]; exact hD
          refine lv_if_eq (tgt := 135) hx hb dX19_run_128 (by decide) (fun c48 => ?_) (fun c48 => ?_)
          · have h := nd_pos h c48
            refine lv_iconst (v := 2) hx hb dX19_run_135 (by decide) ?_
            exact (db_X19_run_136 C K J75) (x1) (x3) (2) s47 _ _ _ h hP hD hS (lv_sub hl [0, 1, 2] rfl)
          · have h := nd_neg h c48
            refine lv_iconst (v := 1) hx hb dX19_run_131 (by decide) ?_
            refine lv_goto (tgt := 136) hx hb dX19_run_132 (by decide) ?_
            exact (db_X19_run_136 C K J75) (x1) (x3) (1) s47 _ _ _ h hP hD hS (lv_sub hl [0, 1, 2] rfl)
      · have h := nd_pos h c18
        refine lv_aload_n hx hb dX19_run_97 rfl (lv_at hl 0 rfl) ?_
        refine lv_iconst (v := 4) hx hb dX19_run_98 (by decide) ?_
        refine va_put (D := (dC, dI)) (ci := 20) (v := .int 4) (ty := .int) (C := RX19) (T := TX19) (N := 36) hx hb hts hi_dm_X19_run_X19 tyX19 tyX19_ok nmX19 hown hK hP hD hS 0 rfl rfl 21 (by decide) (hts (.fieldLink RX19 285 "TimeMachineModel" "why" "I") (List.mem_of_getElem? (i := 13) rfl)) (fun _ h9 => h9) rfl (by decide +kernel) rfl rfl (Nat.le_of_ble_eq_true rfl) dX19_run_99 (fun H locs hP hD hS => ?_)
        obtain ⟨s50, es50, h⟩ := nd_let_e h
        have hP : va_P (dC, dI) vwCl (dw_X19 a ac s50) H := by rw [es50]; exact hP
        have hD : va_D A (dw_X19 a ac s50) := by rw [es50]; exact hD
        refine lv_goto (tgt := 139) hx hb dX19_run_102 (by decide) ?_
        exact (db_X19_run_139 C K J75) (x1) (x3) s50 _ _ _ h hP hD hS (lv_sub hl [0, 1, 2] rfl)
set_option maxHeartbeats 40000000 in
set_option maxRecDepth 100000 in
theorem db_X19_run_75 {p : Program} {l : Launch} {e : Env} {s : State} {m : MethodId} {args : Array Value} {below : List Frame} {meth : Method} {c : Code} {Q : State → Prop} {A : Nat → Prop} {dC : Nat → ClassId} {dI : Nat → Nat → Nat} {a : Nat → Nat} {ac : Nat → ClassId} {n : Nat} {r : Int32 × (St × (St) × (St × (St × (St))) × (St) × (St))} (C : nd_C p l s m args c A (dC, dI) cX19_run 6 RX19 ow_dm_X19_run (dk_X19 ac)) (K : nd_Ki p l e (headSpec ow_dm_X19_run ({ frames := 10, cells := 0, slots := 0, locals := 225 })).room s m args below meth c Q A (dC, dI) cX19_run .int (St × (St) × (St × (St × (St))) × (St) × (St)) (dw_X19 a ac) r) (k : Nat) : dj_X19_run_75 p l e s m args below meth c Q A dC dI a ac (df_X19_run_75 n k) r := by
  induction k with
  | zero => intro x1 x3 s0 H locs ls h; exact nomatch (show (none : Option (Int32 × (St × (St) × (St × (St × (St))) × (St) × (St)))) = some r from h)
  | succ k ih => exact dB_X19_run_75 C K ih
set_option maxHeartbeats 40000000 in
set_option maxRecDepth 100000 in
theorem db_X19_run_65 {p : Program} {l : Launch} {e : Env} {s : State} {m : MethodId} {args : Array Value} {below : List Frame} {meth : Method} {c : Code} {Q : State → Prop} {A : Nat → Prop} {dC : Nat → ClassId} {dI : Nat → Nat → Nat} {a : Nat → Nat} {ac : Nat → ClassId} {n : Nat} {r : Int32 × (St × (St) × (St × (St × (St))) × (St) × (St))} (C : nd_C p l s m args c A (dC, dI) cX19_run 6 RX19 ow_dm_X19_run (dk_X19 ac)) (K : nd_Ki p l e (headSpec ow_dm_X19_run ({ frames := 10, cells := 0, slots := 0, locals := 225 })).room s m args below meth c Q A (dC, dI) cX19_run .int (St × (St) × (St × (St × (St))) × (St) × (St)) (dw_X19 a ac) r) : dj_X19_run_65 p l e s m args below meth c Q A dC dI a ac (df_X19_run_65 n) r := by
  obtain ⟨hlt, hx, hb, hml, hown, hts, hN, hA, hK⟩ := id C
  intro x1 y1 s0 H locs ls h hP hD hS hl
  unfold df_X19_run_65 at h
  refine va_put (D := (dC, dI)) (ci := 20) (v := .int y1) (ty := .int) (C := RX19) (T := TX19) (N := 36) hx hb hts hi_dm_X19_run_X19 tyX19 tyX19_ok nmX19 hown hK hP hD hS 0 rfl rfl 21 (by decide) (hts (.fieldLink RX19 285 "TimeMachineModel" "why" "I") (List.mem_of_getElem? (i := 13) rfl)) (fun _ h9 => h9) rfl (by decide +kernel) rfl rfl (Nat.le_of_ble_eq_true rfl) dX19_run_65 (fun H locs hP hD hS => ?_)
  obtain ⟨s14, es14, h⟩ := nd_let_e h
  have hP : va_P (dC, dI) vwCl (dw_X19 a ac s14) H := by rw [es14]; exact hP
  have hD : va_D A (dw_X19 a ac s14) := by rw [es14]; exact hD
  refine lv_aload_n hx hb dX19_run_68 rfl (lv_at hl 0 rfl) ?_
  refine lv_iconst (v := 0) hx hb dX19_run_69 (by decide) ?_
  refine va_put (D := (dC, dI)) (ci := 20) (v := .int 0) (ty := .boolean) (C := RX19) (T := TX19) (N := 36) hx hb hts hi_dm_X19_run_X19 tyX19 tyX19_ok nmX19 hown hK hP hD hS 0 rfl rfl 25 (by decide) (hts (.fieldLink RX19 236 "TimeMachineModel" "refused" "Z") (List.mem_of_getElem? (i := 12) rfl)) (fun _ h9 => h9) rfl (by decide +kernel) (by first | rfl | decide) rfl (Nat.le_of_ble_eq_true rfl) dX19_run_70 (fun H locs hP hD hS => ?_)
  obtain ⟨s15, es15, h⟩ := nd_let_e h
  have hP : va_P (dC, dI) vwCl (dw_X19 a ac s15) H := by rw [es15]; exact hP
  have hD : va_D A (dw_X19 a ac s15) := by rw [es15]; exact hD
  refine lv_iconst (v := 0) hx hb dX19_run_73 (by decide) ?_
  refine lv_istore_n (lv' := [(3, .int 0), (0, .ref (a 0)), (1, .int x1)]) hx hb dX19_run_74 rfl hl (by decide) rfl (fun ls hl => ?_)
  exact (db_X19_run_75 C K n) (x1) (0) s15 _ _ _ h hP hD hS (lv_sub hl [1, 2, 0] rfl)
set_option maxHeartbeats 40000000 in
set_option maxRecDepth 100000 in
theorem db_X19_run_36 {p : Program} {l : Launch} {e : Env} {s : State} {m : MethodId} {args : Array Value} {below : List Frame} {meth : Method} {c : Code} {Q : State → Prop} {A : Nat → Prop} {dC : Nat → ClassId} {dI : Nat → Nat → Nat} {a : Nat → Nat} {ac : Nat → ClassId} {n : Nat} {r : Int32 × (St × (St) × (St × (St × (St))) × (St) × (St))} (C : nd_C p l s m args c A (dC, dI) cX19_run 6 RX19 ow_dm_X19_run (dk_X19 ac)) (K : nd_Ki p l e (headSpec ow_dm_X19_run ({ frames := 10, cells := 0, slots := 0, locals := 225 })).room s m args below meth c Q A (dC, dI) cX19_run .int (St × (St) × (St × (St × (St))) × (St) × (St)) (dw_X19 a ac) r) : dj_X19_run_36 p l e s m args below meth c Q A dC dI a ac (df_X19_run_36 n) r := by
  obtain ⟨hlt, hx, hb, hml, hown, hts, hN, hA, hK⟩ := id C
  intro x1 y1 y2 s0 H locs ls h hP hD hS hl
  unfold df_X19_run_36 at h
  obtain ⟨q6, s7, hq, h⟩ := nd_b2_e h
  have hPc := hP
  have hDc := hD
  have hKc := hK
  have hFc := nd_rs hD hS hA
  refine nd_cVi (As := [.int y1, .int y2]) (rest := []) (q := q6) (w' := dw_X19 a ac s7) ⟨hx, hb, hml, hown, hts⟩ (fun sz => dm_X19_fails l hlt dC dI a ac n (y1) (y2) s0 hq sz) (cwV 2 hts gi_dm_X19_run_1 rfl rfl rfl (by decide +kernel) ⟨Nat.le_of_ble_eq_true rfl, Nat.le_of_ble_eq_true rfl⟩) hPc hDc hKc hS hA hN (va_recv hKc hPc (ci := 20) (q0 := 0) rfl rfl) rfl hl.1 rfl (Nat.le_of_ble_eq_true rfl) dX19_run_36 (fun H locs hP1 hD1 hk1 hS => ?_)
  have hP := hP1
  have hD := hD1.weaken (fun k q _ h => hFc q.1 h)
  refine lv_if_eq (tgt := 44) hx hb dX19_run_39 (by decide) (fun c9 => ?_) (fun c9 => ?_)
  · have h := nd_pos h c9
    refine lv_aload_n hx hb dX19_run_44 rfl (lv_at hl 0 rfl) ?_
    refine lv_aload_n hx hb dX19_run_45 rfl (lv_at hl 0 rfl) ?_
    refine va_get (D := (dC, dI)) (ci := 20) (v := .int (sI s7.1 5)) (C := RX19) (T := TX19) (N := 36) hx hb hts hi_dm_X19_run_X19 hown hK hP 0 rfl rfl 19 (by decide) (hts (.fieldLink RX19 234 "TimeMachineModel" "now" "I") (List.mem_of_getElem? (i := 8) rfl)) (fun _ h9 => h9) rfl dX19_run_46 ?_
    obtain ⟨s11, hq, h⟩ := nd_b1_e h
    have hPc := hP
    have hDc := hD
    have hKc := hK
    have hFc := nd_rs hD hS hA
    refine nd_cVv (As := [.int (sI s7.1 5)]) (rest := []) (w' := dw_X19 a ac s11) ⟨hx, hb, hml, hown, hts⟩ (fun sz => dm_X19_come l hlt dC dI a ac n ((sI s7.1 5)) s7 hq sz) (cwV 1 hts gi_dm_X19_run_2 rfl rfl rfl (by decide +kernel) ⟨Nat.le_of_ble_eq_true rfl, Nat.le_of_ble_eq_true rfl⟩) hPc hDc hKc hS hA hN (va_recv hKc hPc (ci := 20) (q0 := 0) rfl rfl) rfl hl.1 rfl (Nat.le_of_ble_eq_true rfl) dX19_run_49 (fun H locs hP1 hD1 hk1 hS => ?_)
    have hP := hP1
    have hD := hD1.weaken (fun k q _ h => hFc q.1 h)
    refine lv_aload_n hx hb dX19_run_52 rfl (lv_at hl 0 rfl) ?_
    refine lv_aload_n hx hb dX19_run_53 rfl (lv_at hl 0 rfl) ?_
    refine va_get (D := (dC, dI)) (ci := 20) (v := .int (sI s11.1 11)) (C := RX19) (T := TX19) (N := 36) hx hb hts hi_dm_X19_run_X19 hown hK hP 0 rfl rfl 25 (by decide) (hts (.fieldLink RX19 236 "TimeMachineModel" "refused" "Z") (List.mem_of_getElem? (i := 12) rfl)) (fun _ h9 => h9) rfl dX19_run_54 ?_
    refine lv_if_eq (tgt := 64) hx hb dX19_run_57 (by decide) (fun c13 => ?_) (fun c13 => ?_)
    · have h := nd_pos h c13
      refine lv_iconst (v := 0) hx hb dX19_run_64 (by decide) ?_
      exact (db_X19_run_65 C K) (x1) (0) s11 _ _ _ h hP hD hS (lv_sub hl [0, 1] rfl)
    · have h := nd_neg h c13
      refine lv_iconst (v := 5) hx hb dX19_run_60 (by decide) ?_
      refine lv_goto (tgt := 65) hx hb dX19_run_61 (by decide) ?_
      exact (db_X19_run_65 C K) (x1) (5) s11 _ _ _ h hP hD hS (lv_sub hl [0, 1] rfl)
  · have h := nd_neg h c9
    refine lv_iconst (v := 0) hx hb dX19_run_42 (by decide) ?_
    exact K _ _ _ _ _ _ dX19_run_43 rfl (Option.some.inj h).symm hP hD hS
set_option maxHeartbeats 40000000 in
set_option maxRecDepth 100000 in
theorem db_X19_run_35 {p : Program} {l : Launch} {e : Env} {s : State} {m : MethodId} {args : Array Value} {below : List Frame} {meth : Method} {c : Code} {Q : State → Prop} {A : Nat → Prop} {dC : Nat → ClassId} {dI : Nat → Nat → Nat} {a : Nat → Nat} {ac : Nat → ClassId} {n : Nat} {r : Int32 × (St × (St) × (St × (St × (St))) × (St) × (St))} (C : nd_C p l s m args c A (dC, dI) cX19_run 6 RX19 ow_dm_X19_run (dk_X19 ac)) (K : nd_Ki p l e (headSpec ow_dm_X19_run ({ frames := 10, cells := 0, slots := 0, locals := 225 })).room s m args below meth c Q A (dC, dI) cX19_run .int (St × (St) × (St × (St × (St))) × (St) × (St)) (dw_X19 a ac) r) : dj_X19_run_35 p l e s m args below meth c Q A dC dI a ac (df_X19_run_35 n) r := by
  obtain ⟨hlt, hx, hb, hml, hown, hts, hN, hA, hK⟩ := id C
  intro x1 y1 s0 H locs ls h hP hD hS hl
  unfold df_X19_run_35 at h
  refine lv_iconst (v := 0) hx hb dX19_run_35 (by decide) ?_
  exact (db_X19_run_36 C K) (x1) (y1) (0) s0 _ _ _ h hP hD hS (lv_sub hl [0, 1] rfl)
set_option maxHeartbeats 40000000 in
set_option maxRecDepth 100000 in
theorem db_X19_run_20 {p : Program} {l : Launch} {e : Env} {s : State} {m : MethodId} {args : Array Value} {below : List Frame} {meth : Method} {c : Code} {Q : State → Prop} {A : Nat → Prop} {dC : Nat → ClassId} {dI : Nat → Nat → Nat} {a : Nat → Nat} {ac : Nat → ClassId} {n : Nat} {r : Int32 × (St × (St) × (St × (St × (St))) × (St) × (St))} (C : nd_C p l s m args c A (dC, dI) cX19_run 6 RX19 ow_dm_X19_run (dk_X19 ac)) (K : nd_Ki p l e (headSpec ow_dm_X19_run ({ frames := 10, cells := 0, slots := 0, locals := 225 })).room s m args below meth c Q A (dC, dI) cX19_run .int (St × (St) × (St × (St × (St))) × (St) × (St)) (dw_X19 a ac) r) : dj_X19_run_20 p l e s m args below meth c Q A dC dI a ac (df_X19_run_20 n) r := by
  obtain ⟨hlt, hx, hb, hml, hown, hts, hN, hA, hK⟩ := id C
  intro x1 x2 y1 s0 H locs ls h hP hD hS hl
  unfold df_X19_run_20 at h
  refine lv_iload_n hx hb dX19_run_20 rfl (lv_at hl 2 rfl) ?_
  refine lv_if_eq (tgt := 35) hx hb dX19_run_21 (by decide) (fun c5 => ?_) (fun c5 => ?_)
  · have h := nd_pos h c5
    exact (db_X19_run_35 C K) (x1) (y1) s0 _ _ _ h hP hD hS (lv_sub hl [0, 1] rfl)
  · have h := nd_neg h c5
    refine lv_aload_n hx hb dX19_run_24 rfl (lv_at hl 0 rfl) ?_
    refine va_get (D := (dC, dI)) (ci := 20) (v := .int (sI s0.1 3)) (C := RX19) (T := TX19) (N := 36) hx hb hts hi_dm_X19_run_X19 hown hK hP 0 rfl rfl 17 (by decide) (hts (.fieldLink RX19 231 "TimeMachineModel" "booted" "Z") (List.mem_of_getElem? (i := 37) rfl)) (fun _ h9 => h9) rfl dX19_run_25 ?_
    refine lv_if_ne (tgt := 35) hx hb dX19_run_28 (by decide) (fun c51 => ?_) (fun c51 => ?_)
    · have h := nd_neg h c51
      exact (db_X19_run_35 C K) (x1) (y1) s0 _ _ _ h hP hD hS (lv_sub hl [0, 1] rfl)
    · have h := nd_pos h c51
      refine lv_iconst (v := 1) hx hb dX19_run_31 (by decide) ?_
      refine lv_goto (tgt := 36) hx hb dX19_run_32 (by decide) ?_
      exact (db_X19_run_36 C K) (x1) (y1) (1) s0 _ _ _ h hP hD hS (lv_sub hl [0, 1] rfl)
set_option maxHeartbeats 40000000 in
set_option maxRecDepth 100000 in
theorem db_X19_run_0 {p : Program} {l : Launch} {e : Env} {s : State} {m : MethodId} {args : Array Value} {below : List Frame} {meth : Method} {c : Code} {Q : State → Prop} {A : Nat → Prop} {dC : Nat → ClassId} {dI : Nat → Nat → Nat} {a : Nat → Nat} {ac : Nat → ClassId} {n : Nat} {r : Int32 × (St × (St) × (St × (St × (St))) × (St) × (St))} (C : nd_C p l s m args c A (dC, dI) cX19_run 6 RX19 ow_dm_X19_run (dk_X19 ac)) (K : nd_Ki p l e (headSpec ow_dm_X19_run ({ frames := 10, cells := 0, slots := 0, locals := 225 })).room s m args below meth c Q A (dC, dI) cX19_run .int (St × (St) × (St × (St × (St))) × (St) × (St)) (dw_X19 a ac) r) : dj_X19_run_0 p l e s m args below meth c Q A dC dI a ac (df_X19_run_0 n) r := by
  obtain ⟨hlt, hx, hb, hml, hown, hts, hN, hA, hK⟩ := id C
  intro v0 s0 H locs ls h hP hD hS hl
  unfold df_X19_run_0 at h
  refine lv_iload_n hx hb dX19_run_0 rfl (lv_at hl 1 rfl) ?_
  refine lv_i2l hx hb dX19_run_1 rfl ?_
  refine lv_lconst (v := 0) hx hb dX19_run_2 (by decide) ?_
  refine lv_ldc2 hx hb hown (hts (.constantLong RX19 283 (60000)) (List.mem_of_getElem? (i := 1) rfl)) dX19_run_3 ?_
  obtain ⟨q1, s2, hq, h⟩ := nd_b2_e h
  have hPc : va_P (dC, dI) vwCl (dw_P a ac ()) H := nd_p0
  have hDc : va_D A (dw_P a ac ()) := nd_d0
  have hKc : va_K (dC, dI) vwCl (dk_P ac) s := nd_y0 hK
  have hFc : ∀ q, va_A (dw_P a ac ()) H.size q → A q := nd_r0 hS hA
  refine nd_cSi (As := [.long (v0.toInt64), .long 0, .long 60000]) (rest := []) (q := q1) (w' := dw_P a ac s2) ⟨hx, hb, hml, hown, hts⟩ (fun sz => dm_X19_in l hlt dC dI a ac n ((v0.toInt64)) (0) (60000) () hq sz) (cwS 3 hts gi_dm_X19_run_0 rfl rfl rfl (by decide +kernel) ⟨Nat.le_of_ble_eq_true rfl, Nat.le_of_ble_eq_true rfl⟩) hPc hDc hKc hS hA hN rfl hl.1 rfl (Nat.le_of_ble_eq_true rfl) dX19_run_6 (fun H locs hP1 hD1 hk1 hS => ?_)
  have hP := nd_n0 hP hk1
  refine lv_istore_n (lv' := [(2, .int q1), (0, .ref (a 0)), (1, .int v0)]) hx hb dX19_run_9 rfl hl (by decide) rfl (fun ls hl => ?_)
  refine lv_aload_n hx hb dX19_run_10 rfl (lv_at hl 1 rfl) ?_
  refine lv_iload_n hx hb dX19_run_11 rfl (lv_at hl 0 rfl) ?_
  refine lv_if_ne (tgt := 19) hx hb dX19_run_12 (by decide) (fun c4 => ?_) (fun c4 => ?_)
  · have h := nd_neg h c4
    refine lv_iconst (v := 0) hx hb dX19_run_19 (by decide) ?_
    exact (db_X19_run_20 C K) (v0) (q1) (0) s0 _ _ _ h hP hD hS (lv_sub hl [1, 2, 0] rfl)
  · have h := nd_pos h c4
    refine lv_iconst (v := 1) hx hb dX19_run_15 (by decide) ?_
    refine lv_goto (tgt := 20) hx hb dX19_run_16 (by decide) ?_
    exact (db_X19_run_20 C K) (v0) (q1) (1) s0 _ _ _ h hP hD hS (lv_sub hl [1, 2, 0] rfl)
set_option maxHeartbeats 40000000 in
set_option maxRecDepth 100000 in
theorem dm_X19_run (l : Launch) (hlt : l.stackTraces = false) (dC : Nat → ClassId) (dI : Nat → Nat → Nat) (a : Nat → Nat) (ac : Nat → ClassId) (n : Nat) (v0 : Int32) (s0 : St × (St) × (St × (St × (St))) × (St) × (St)) {r : Int32 × (St × (St) × (St × (St × (St))) × (St) × (St))} (h : df_X19_run n v0 s0 = some r) (sz : Nat) : Met l yX19_run ow_dm_X19_run ({ frames := 10, cells := 0, slots := 0, locals := 225 }) (va_Pc [.ref (a 0), .int v0] (fun U => U.heap.size = sz ∧ va_P (dC, dI) vwCl (dw_X19 a ac s0) U.heap ∧ va_K (dC, dI) vwCl (dk_X19 ac) U ∧ va_D (fun _ => True) (dw_X19 a ac s0) ∧ nv_E dI (va_A (dw_X19 a ac s0) sz) U)) (va_Qi (fun x _ => x = r.1) (fun (_ : Unit) t => va_P (dC, dI) vwCl (dw_X19 a ac r.2) t.heap ∧ va_K (dC, dI) vwCl (dk_X19 ac) t ∧ va_D (va_A (dw_X19 a ac s0) sz) (dw_X19 a ac r.2)) (va_A (dw_X19 a ac s0) sz)) 0 0 (va_A (dw_X19 a ac s0) sz) := by
  refine Met.ofW (cc := cX19_run) (maxL := 6) (ret := (some .int)) (by decide) rfl ?_
  intro p e s m args below meth c s₁ B hml hv
  obtain ⟨rfl, hsz, hP, hK, hD0, hN⟩ := hv
  have hx := B.exec
  have hb := B.bytes
  have hr := B.returns
  have hts := atoms_spec (ws := ow_dm_X19_run) B.pre
  have hown : s.vm.findClass RX19 = some m.cls := findClass_of_methodNamed B.named
  have hlocks := B.notSynchronized
  subst hsz
  have hD := hD0.self (sz := s.heap.size)
  generalize hAe : va_A (dw_X19 a ac s0) s.heap.size = A at hD hN ⊢
  have hA : ∀ q : Nat, s.heap.size ≤ q → A q := fun q h => by rw [← hAe]; exact Or.inr h
  have hl := lv_entry ([.ref (a 0), .int v0]) (n := 6) (Nat.le_of_ble_eq_true rfl)
  rw [lg_entry_eq]
  generalize (lg_sl ([.ref (a 0), .int v0]) ++ List.replicate (6 - (lg_sl ([.ref (a 0), .int v0])).length) Slot.unset).toArray = ls at hl ⊢
  have hl : lv_has ls 6 [(0, .ref (a 0)), (1, .int v0)] := hl
  exact db_X19_run_0 (dC := dC) (dI := dI) (a := a) (ac := ac) (n := n) (r := r) ⟨hlt, hx, hb, hml, hown, hts, hN, hA, hK⟩ (fun pc v τ H locs ls d z er hP hD hS => by subst er; exact W.zret (v := v) hx hb hr z (fun t ht hW => ⟨⟨v, (), rfl, rfl, by rw [ht]; exact hP, va_K.moved hW.alike hK, hD⟩, hS.F ht⟩) hS.2.2 d) v0 s0 _ _ _ h hP hD va_S.rf (lv_sub hl [0, 1] rfl)
def ow_dm_X19_reason : List Cond := Cond.code yX19_reason cX19_reason 1 (some .int) :: ([Cond.fieldLink RX19 113 "TimeMachineModel" "code" "I", Cond.fieldLink RX19 285 "TimeMachineModel" "why" "I"] ++ (u_ws RX19 TX19 36 ++ []))
theorem gd_dm_X19_reason : ∀ w ∈ ow_dm_X19_reason, (w.onTables && w.keeps) = true ∨ ∃ ty, w = Cond.arrayClass ty := List.forall_mem_cons.mpr ⟨good_of_word rfl, List.forall_mem_append.mpr ⟨fun w h => good_of_word (List.all_eq_true.mp (by decide +kernel) w h), List.forall_mem_append.mpr ⟨gu_X19, fun _ h => nomatch h⟩⟩⟩
theorem hi_dm_X19_reason_X19 : ∀ w ∈ u_ws RX19 TX19 36, w ∈ ow_dm_X19_reason := fun w h => List.mem_cons_of_mem _ (List.mem_append_right _ (List.mem_append_left _ h))
def dj_X19_reason_0 (p : Program) (l : Launch) (e : Env) (s : State) (m : MethodId) (args : Array Value) (below : List Frame) (meth : Method) (c : Code) (Q : State → Prop) (A : Nat → Prop) (dC : Nat → ClassId) (dI : Nat → Nat → Nat) (a : Nat → Nat) (ac : Nat → ClassId) (g : (St × (St) × (St × (St × (St))) × (St) × (St)) → Option (Int32 × (St × (St) × (St × (St × (St))) × (St) × (St)))) (r : Int32 × (St × (St) × (St × (St × (St))) × (St) × (St))) : Prop := ∀ (s0 : St × (St) × (St × (St × (St))) × (St) × (St)) (H : Heap) (locs : List Loc) (ls : Array Slot), g s0 = some r → va_P (dC, dI) vwCl (dw_X19 a ac s0) H → va_D A (dw_X19 a ac s0) → va_S A s.heap H locs → lv_has ls 1 [(0, .ref (a 0))] → W p l e (headSpec ow_dm_X19_reason ({ frames := 0, cells := 0, slots := 0, locals := 0 })).room s m args below meth c H locs 0 0 Q (F0 m 0 ls [])
set_option maxHeartbeats 40000000 in
set_option maxRecDepth 100000 in
theorem db_X19_reason_0 {p : Program} {l : Launch} {e : Env} {s : State} {m : MethodId} {args : Array Value} {below : List Frame} {meth : Method} {c : Code} {Q : State → Prop} {A : Nat → Prop} {dC : Nat → ClassId} {dI : Nat → Nat → Nat} {a : Nat → Nat} {ac : Nat → ClassId} {n : Nat} {r : Int32 × (St × (St) × (St × (St × (St))) × (St) × (St))} (C : nd_C p l s m args c A (dC, dI) cX19_reason 1 RX19 ow_dm_X19_reason (dk_X19 ac)) (K : nd_Ki p l e (headSpec ow_dm_X19_reason ({ frames := 0, cells := 0, slots := 0, locals := 0 })).room s m args below meth c Q A (dC, dI) cX19_reason .int (St × (St) × (St × (St × (St))) × (St) × (St)) (dw_X19 a ac) r) : dj_X19_reason_0 p l e s m args below meth c Q A dC dI a ac (df_X19_reason_0 n) r := by
  obtain ⟨hlt, hx, hb, hml, hown, hts, hN, hA, hK⟩ := id C
  intro s0 H locs ls h hP hD hS hl
  unfold df_X19_reason_0 at h
  refine lv_aload_n hx hb dX19_reason_0 rfl (lv_at hl 0 rfl) ?_
  refine lv_iconst (v := 0) hx hb dX19_reason_1 (by decide) ?_
  refine va_put (D := (dC, dI)) (ci := 20) (v := .int 0) (ty := .int) (C := RX19) (T := TX19) (N := 36) hx hb hts hi_dm_X19_reason_X19 tyX19 tyX19_ok nmX19 hown hK hP hD hS 0 rfl rfl 0 (by decide) (hts (.fieldLink RX19 113 "TimeMachineModel" "code" "I") (List.mem_of_getElem? (i := 1) rfl)) (fun _ h9 => h9) rfl (by decide +kernel) rfl rfl (Nat.le_of_ble_eq_true rfl) dX19_reason_2 (fun H locs hP hD hS => ?_)
  obtain ⟨s1, es1, h⟩ := nd_let_e h
  have hP : va_P (dC, dI) vwCl (dw_X19 a ac s1) H := by rw [es1]; exact hP
  have hD : va_D A (dw_X19 a ac s1) := by rw [es1]; exact hD
  refine lv_aload_n hx hb dX19_reason_5 rfl (lv_at hl 0 rfl) ?_
  refine va_get (D := (dC, dI)) (ci := 20) (v := .int (sI s1.1 7)) (C := RX19) (T := TX19) (N := 36) hx hb hts hi_dm_X19_reason_X19 hown hK hP 0 rfl rfl 21 (by decide) (hts (.fieldLink RX19 285 "TimeMachineModel" "why" "I") (List.mem_of_getElem? (i := 2) rfl)) (fun _ h9 => h9) rfl dX19_reason_6 ?_
  exact K _ _ _ _ _ _ dX19_reason_9 rfl (Option.some.inj h).symm hP hD hS
set_option maxHeartbeats 40000000 in
set_option maxRecDepth 100000 in
theorem dm_X19_reason (l : Launch) (hlt : l.stackTraces = false) (dC : Nat → ClassId) (dI : Nat → Nat → Nat) (a : Nat → Nat) (ac : Nat → ClassId) (n : Nat) (s0 : St × (St) × (St × (St × (St))) × (St) × (St)) {r : Int32 × (St × (St) × (St × (St × (St))) × (St) × (St))} (h : df_X19_reason n s0 = some r) (sz : Nat) : Met l yX19_reason ow_dm_X19_reason ({ frames := 0, cells := 0, slots := 0, locals := 0 }) (va_Pc [.ref (a 0)] (fun U => U.heap.size = sz ∧ va_P (dC, dI) vwCl (dw_X19 a ac s0) U.heap ∧ va_K (dC, dI) vwCl (dk_X19 ac) U ∧ va_D (fun _ => True) (dw_X19 a ac s0) ∧ nv_E dI (va_A (dw_X19 a ac s0) sz) U)) (va_Qi (fun x _ => x = r.1) (fun (_ : Unit) t => va_P (dC, dI) vwCl (dw_X19 a ac r.2) t.heap ∧ va_K (dC, dI) vwCl (dk_X19 ac) t ∧ va_D (va_A (dw_X19 a ac s0) sz) (dw_X19 a ac r.2)) (va_A (dw_X19 a ac s0) sz)) 0 0 (va_A (dw_X19 a ac s0) sz) := by
  refine Met.ofW (cc := cX19_reason) (maxL := 1) (ret := (some .int)) (by decide) rfl ?_
  intro p e s m args below meth c s₁ B hml hv
  obtain ⟨rfl, hsz, hP, hK, hD0, hN⟩ := hv
  have hx := B.exec
  have hb := B.bytes
  have hr := B.returns
  have hts := atoms_spec (ws := ow_dm_X19_reason) B.pre
  have hown : s.vm.findClass RX19 = some m.cls := findClass_of_methodNamed B.named
  have hlocks := B.notSynchronized
  subst hsz
  have hD := hD0.self (sz := s.heap.size)
  generalize hAe : va_A (dw_X19 a ac s0) s.heap.size = A at hD hN ⊢
  have hA : ∀ q : Nat, s.heap.size ≤ q → A q := fun q h => by rw [← hAe]; exact Or.inr h
  have hl := lv_entry ([.ref (a 0)]) (n := 1) (Nat.le_of_ble_eq_true rfl)
  rw [lg_entry_eq]
  generalize (lg_sl ([.ref (a 0)]) ++ List.replicate (1 - (lg_sl ([.ref (a 0)])).length) Slot.unset).toArray = ls at hl ⊢
  have hl : lv_has ls 1 [(0, .ref (a 0))] := hl
  exact db_X19_reason_0 (dC := dC) (dI := dI) (a := a) (ac := ac) (n := n) (r := r) ⟨hlt, hx, hb, hml, hown, hts, hN, hA, hK⟩ (fun pc v τ H locs ls d z er hP hD hS => by subst er; exact W.zret (v := v) hx hb hr z (fun t ht hW => ⟨⟨v, (), rfl, rfl, by rw [ht]; exact hP, va_K.moved hW.alike hK, hD⟩, hS.F ht⟩) hS.2.2 d) s0 _ _ _ h hP hD va_S.rf (lv_sub hl [0] rfl)
def ow_dm_X19_go : List Cond := Cond.code yX19_go cX19_go 2 none :: ([Cond.fieldLink RX19 231 "TimeMachineModel" "booted" "Z", Cond.methodLink RX19 136 yX19_fails, Cond.instanceMethod yX19_fails, Cond.selects RX19 yX19_fails yX19_fails, Cond.initialized RX19, Cond.fieldLink RX19 234 "TimeMachineModel" "now" "I", Cond.fieldLink RX19 210 "TimeMachineModel" "end" "I", Cond.methodLink RX19 126 yX19_in, Cond.static yX19_in] ++ (u_ws RX19 TX19 36 ++ (ow_dm_X19_fails ++ (ow_dm_X19_in ++ []))))
theorem gd_dm_X19_go : ∀ w ∈ ow_dm_X19_go, (w.onTables && w.keeps) = true ∨ ∃ ty, w = Cond.arrayClass ty := List.forall_mem_cons.mpr ⟨good_of_word rfl, List.forall_mem_append.mpr ⟨fun w h => good_of_word (List.all_eq_true.mp (by decide +kernel) w h), List.forall_mem_append.mpr ⟨gu_X19, List.forall_mem_append.mpr ⟨gd_dm_X19_fails, List.forall_mem_append.mpr ⟨gd_dm_X19_in, fun _ h => nomatch h⟩⟩⟩⟩⟩
theorem hi_dm_X19_go_X19 : ∀ w ∈ u_ws RX19 TX19 36, w ∈ ow_dm_X19_go := fun w h => List.mem_cons_of_mem _ (List.mem_append_right _ (List.mem_append_left _ h))
theorem gi_dm_X19_go_0 : GoodIn ow_dm_X19_go (wsV RX19 136 RX19 yX19_fails ow_dm_X19_fails) := goodIn_app (goodIn_of _ (by decide +kernel)) (fun w h => ⟨List.mem_cons_of_mem _ (List.mem_append_right _ (List.mem_append_right _ (List.mem_append_left _ h))), gd_dm_X19_fails w h⟩)
theorem gi_dm_X19_go_1 : GoodIn ow_dm_X19_go (wsS RX19 126 yX19_in ow_dm_X19_in) := goodIn_app (goodIn_of _ (by decide +kernel)) (fun w h => ⟨List.mem_cons_of_mem _ (List.mem_append_right _ (List.mem_append_right _ (List.mem_append_right _ (List.mem_append_left _ h)))), gd_dm_X19_in w h⟩)
def dj_X19_go_39 (p : Program) (l : Launch) (e : Env) (s : State) (m : MethodId) (args : Array Value) (below : List Frame) (meth : Method) (c : Code) (Q : State → Prop) (A : Nat → Prop) (dC : Nat → ClassId) (dI : Nat → Nat → Nat) (a : Nat → Nat) (ac : Nat → ClassId) (g : (St × (St) × (St × (St × (St))) × (St) × (St)) → Option (St × (St) × (St × (St × (St))) × (St) × (St))) (r : St × (St) × (St × (St × (St))) × (St) × (St)) : Prop := ∀ (s0 : St × (St) × (St × (St × (St))) × (St) × (St)) (H : Heap) (locs : List Loc) (ls : Array Slot), g s0 = some r → va_P (dC, dI) vwCl (dw_X19 a ac s0) H → va_D A (dw_X19 a ac s0) → va_S A s.heap H locs → lv_has ls 2 [] → W p l e (headSpec ow_dm_X19_go ({ frames := 1, cells := 0, slots := 0, locals := 25 })).room s m args below meth c H locs 0 0 Q (F0 m 39 ls [])
def dj_X19_go_27 (p : Program) (l : Launch) (e : Env) (s : State) (m : MethodId) (args : Array Value) (below : List Frame) (meth : Method) (c : Code) (Q : State → Prop) (A : Nat → Prop) (dC : Nat → ClassId) (dI : Nat → Nat → Nat) (a : Nat → Nat) (ac : Nat → ClassId) (g : Int32 → Int32 → (St × (St) × (St × (St × (St))) × (St) × (St)) → Option (St × (St) × (St × (St × (St))) × (St) × (St))) (r : St × (St) × (St × (St × (St))) × (St) × (St)) : Prop := ∀ (x1 : Int32) (y1 : Int32) (s0 : St × (St) × (St × (St × (St))) × (St) × (St)) (H : Heap) (locs : List Loc) (ls : Array Slot), g x1 y1 s0 = some r → va_P (dC, dI) vwCl (dw_X19 a ac s0) H → va_D A (dw_X19 a ac s0) → va_S A s.heap H locs → lv_has ls 2 [(0, .ref (a 0)), (1, .int x1)] → W p l e (headSpec ow_dm_X19_go ({ frames := 1, cells := 0, slots := 0, locals := 25 })).room s m args below meth c H locs 0 0 Q (F0 m 27 ls [.int y1, .ref (a 0)])
def dj_X19_go_22 (p : Program) (l : Launch) (e : Env) (s : State) (m : MethodId) (args : Array Value) (below : List Frame) (meth : Method) (c : Code) (Q : State → Prop) (A : Nat → Prop) (dC : Nat → ClassId) (dI : Nat → Nat → Nat) (a : Nat → Nat) (ac : Nat → ClassId) (g : Int32 → (St × (St) × (St × (St × (St))) × (St) × (St)) → Option (St × (St) × (St × (St × (St))) × (St) × (St))) (r : St × (St) × (St × (St × (St))) × (St) × (St)) : Prop := ∀ (x1 : Int32) (s0 : St × (St) × (St × (St × (St))) × (St) × (St)) (H : Heap) (locs : List Loc) (ls : Array Slot), g x1 s0 = some r → va_P (dC, dI) vwCl (dw_X19 a ac s0) H → va_D A (dw_X19 a ac s0) → va_S A s.heap H locs → lv_has ls 2 [(0, .ref (a 0)), (1, .int x1)] → W p l e (headSpec ow_dm_X19_go ({ frames := 1, cells := 0, slots := 0, locals := 25 })).room s m args below meth c H locs 0 0 Q (F0 m 22 ls [.ref (a 0)])
def dj_X19_go_0 (p : Program) (l : Launch) (e : Env) (s : State) (m : MethodId) (args : Array Value) (below : List Frame) (meth : Method) (c : Code) (Q : State → Prop) (A : Nat → Prop) (dC : Nat → ClassId) (dI : Nat → Nat → Nat) (a : Nat → Nat) (ac : Nat → ClassId) (g : Int32 → (St × (St) × (St × (St × (St))) × (St) × (St)) → Option (St × (St) × (St × (St × (St))) × (St) × (St))) (r : St × (St) × (St × (St × (St))) × (St) × (St)) : Prop := ∀ (v0 : Int32) (s0 : St × (St) × (St × (St × (St))) × (St) × (St)) (H : Heap) (locs : List Loc) (ls : Array Slot), g v0 s0 = some r → va_P (dC, dI) vwCl (dw_X19 a ac s0) H → va_D A (dw_X19 a ac s0) → va_S A s.heap H locs → lv_has ls 2 [(0, .ref (a 0)), (1, .int v0)] → W p l e (headSpec ow_dm_X19_go ({ frames := 1, cells := 0, slots := 0, locals := 25 })).room s m args below meth c H locs 0 0 Q (F0 m 0 ls [])
set_option maxHeartbeats 40000000 in
set_option maxRecDepth 100000 in
theorem db_X19_go_39 {p : Program} {l : Launch} {e : Env} {s : State} {m : MethodId} {args : Array Value} {below : List Frame} {meth : Method} {c : Code} {Q : State → Prop} {A : Nat → Prop} {dC : Nat → ClassId} {dI : Nat → Nat → Nat} {a : Nat → Nat} {ac : Nat → ClassId} {n : Nat} {r : St × (St) × (St × (St × (St))) × (St) × (St)} (C : nd_C p l s m args c A (dC, dI) cX19_go 2 RX19 ow_dm_X19_go (dk_X19 ac)) (K : nd_Kv p l e (headSpec ow_dm_X19_go ({ frames := 1, cells := 0, slots := 0, locals := 25 })).room s m args below meth c Q A (dC, dI) cX19_go (St × (St) × (St × (St × (St))) × (St) × (St)) (dw_X19 a ac) r) : dj_X19_go_39 p l e s m args below meth c Q A dC dI a ac (df_X19_go_39 n) r := by
  obtain ⟨hlt, hx, hb, hml, hown, hts, hN, hA, hK⟩ := id C
  intro s0 H locs ls h hP hD hS hl
  unfold df_X19_go_39 at h
  exact K _ _ _ _ _ dX19_go_39 (Option.some.inj h).symm hP hD hS
set_option maxHeartbeats 40000000 in
set_option maxRecDepth 100000 in
theorem db_X19_go_27 {p : Program} {l : Launch} {e : Env} {s : State} {m : MethodId} {args : Array Value} {below : List Frame} {meth : Method} {c : Code} {Q : State → Prop} {A : Nat → Prop} {dC : Nat → ClassId} {dI : Nat → Nat → Nat} {a : Nat → Nat} {ac : Nat → ClassId} {n : Nat} {r : St × (St) × (St × (St × (St))) × (St) × (St)} (C : nd_C p l s m args c A (dC, dI) cX19_go 2 RX19 ow_dm_X19_go (dk_X19 ac)) (K : nd_Kv p l e (headSpec ow_dm_X19_go ({ frames := 1, cells := 0, slots := 0, locals := 25 })).room s m args below meth c Q A (dC, dI) cX19_go (St × (St) × (St × (St × (St))) × (St) × (St)) (dw_X19 a ac) r) : dj_X19_go_27 p l e s m args below meth c Q A dC dI a ac (df_X19_go_27 n) r := by
  obtain ⟨hlt, hx, hb, hml, hown, hts, hN, hA, hK⟩ := id C
  intro x1 y1 s0 H locs ls h hP hD hS hl
  unfold df_X19_go_27 at h
  refine lv_iconst (v := 0) hx hb dX19_go_27 (by decide) ?_
  obtain ⟨q2, s3, hq, h⟩ := nd_b2_e h
  have hPc := hP
  have hDc := hD
  have hKc := hK
  have hFc := nd_rs hD hS hA
  refine nd_cVi (As := [.int y1, .int 0]) (rest := []) (q := q2) (w' := dw_X19 a ac s3) ⟨hx, hb, hml, hown, hts⟩ (fun sz => dm_X19_fails l hlt dC dI a ac n (y1) (0) s0 hq sz) (cwV 2 hts gi_dm_X19_go_0 rfl rfl rfl (by decide +kernel) ⟨Nat.le_of_ble_eq_true rfl, Nat.le_of_ble_eq_true rfl⟩) hPc hDc hKc hS hA hN (va_recv hKc hPc (ci := 20) (q0 := 0) rfl rfl) rfl hl.1 rfl (Nat.le_of_ble_eq_true rfl) dX19_go_28 (fun H locs hP1 hD1 hk1 hS => ?_)
  have hP := hP1
  have hD := hD1.weaken (fun k q _ h => hFc q.1 h)
  refine lv_if_ne (tgt := 39) hx hb dX19_go_31 (by decide) (fun c5 => ?_) (fun c5 => ?_)
  · have h := nd_neg h c5
    exact (db_X19_go_39 C K)  s3 _ _ _ h hP hD hS (lv_sub hl [] rfl)
  · have h := nd_pos h c5
    refine lv_aload_n hx hb dX19_go_34 rfl (lv_at hl 0 rfl) ?_
    refine lv_iload_n hx hb dX19_go_35 rfl (lv_at hl 1 rfl) ?_
    refine va_put (D := (dC, dI)) (ci := 20) (v := .int x1) (ty := .int) (C := RX19) (T := TX19) (N := 36) hx hb hts hi_dm_X19_go_X19 tyX19 tyX19_ok nmX19 hown hK hP hD hS 0 rfl rfl 19 (by decide) (hts (.fieldLink RX19 234 "TimeMachineModel" "now" "I") (List.mem_of_getElem? (i := 6) rfl)) (fun _ h9 => h9) rfl (by decide +kernel) rfl rfl (Nat.le_of_ble_eq_true rfl) dX19_go_36 (fun H locs hP hD hS => ?_)
    obtain ⟨s6, es6, h⟩ := nd_let_e h
    have hP : va_P (dC, dI) vwCl (dw_X19 a ac s6) H := by rw [es6]; exact hP
    have hD : va_D A (dw_X19 a ac s6) := by rw [es6]; exact hD
    exact (db_X19_go_39 C K)  s6 _ _ _ h hP hD hS (lv_sub hl [] rfl)
set_option maxHeartbeats 40000000 in
set_option maxRecDepth 100000 in
theorem db_X19_go_22 {p : Program} {l : Launch} {e : Env} {s : State} {m : MethodId} {args : Array Value} {below : List Frame} {meth : Method} {c : Code} {Q : State → Prop} {A : Nat → Prop} {dC : Nat → ClassId} {dI : Nat → Nat → Nat} {a : Nat → Nat} {ac : Nat → ClassId} {n : Nat} {r : St × (St) × (St × (St × (St))) × (St) × (St)} (C : nd_C p l s m args c A (dC, dI) cX19_go 2 RX19 ow_dm_X19_go (dk_X19 ac)) (K : nd_Kv p l e (headSpec ow_dm_X19_go ({ frames := 1, cells := 0, slots := 0, locals := 25 })).room s m args below meth c Q A (dC, dI) cX19_go (St × (St) × (St × (St × (St))) × (St) × (St)) (dw_X19 a ac) r) : dj_X19_go_22 p l e s m args below meth c Q A dC dI a ac (df_X19_go_22 n) r := by
  obtain ⟨hlt, hx, hb, hml, hown, hts, hN, hA, hK⟩ := id C
  intro x1 s0 H locs ls h hP hD hS hl
  unfold df_X19_go_22 at h
  refine lv_iconst (v := 1) hx hb dX19_go_22 (by decide) ?_
  refine lv_goto (tgt := 27) hx hb dX19_go_23 (by decide) ?_
  exact (db_X19_go_27 C K) (x1) (1) s0 _ _ _ h hP hD hS (lv_sub hl [0, 1] rfl)
set_option maxHeartbeats 40000000 in
set_option maxRecDepth 100000 in
theorem db_X19_go_0 {p : Program} {l : Launch} {e : Env} {s : State} {m : MethodId} {args : Array Value} {below : List Frame} {meth : Method} {c : Code} {Q : State → Prop} {A : Nat → Prop} {dC : Nat → ClassId} {dI : Nat → Nat → Nat} {a : Nat → Nat} {ac : Nat → ClassId} {n : Nat} {r : St × (St) × (St × (St × (St))) × (St) × (St)} (C : nd_C p l s m args c A (dC, dI) cX19_go 2 RX19 ow_dm_X19_go (dk_X19 ac)) (K : nd_Kv p l e (headSpec ow_dm_X19_go ({ frames := 1, cells := 0, slots := 0, locals := 25 })).room s m args below meth c Q A (dC, dI) cX19_go (St × (St) × (St × (St × (St))) × (St) × (St)) (dw_X19 a ac) r) : dj_X19_go_0 p l e s m args below meth c Q A dC dI a ac (df_X19_go_0 n) r := by
  obtain ⟨hlt, hx, hb, hml, hown, hts, hN, hA, hK⟩ := id C
  intro v0 s0 H locs ls h hP hD hS hl
  unfold df_X19_go_0 at h
  refine lv_aload_n hx hb dX19_go_0 rfl (lv_at hl 0 rfl) ?_
  refine lv_aload_n hx hb dX19_go_1 rfl (lv_at hl 0 rfl) ?_
  refine va_get (D := (dC, dI)) (ci := 20) (v := .int (sI s0.1 3)) (C := RX19) (T := TX19) (N := 36) hx hb hts hi_dm_X19_go_X19 hown hK hP 0 rfl rfl 17 (by decide) (hts (.fieldLink RX19 231 "TimeMachineModel" "booted" "Z") (List.mem_of_getElem? (i := 1) rfl)) (fun _ h9 => h9) rfl dX19_go_2 ?_
  refine lv_if_eq (tgt := 22) hx hb dX19_go_5 (by decide) (fun c1 => ?_) (fun c1 => ?_)
  · have h := nd_pos h c1
    exact (db_X19_go_22 C K) (v0) s0 _ _ _ h hP hD hS (lv_sub hl [0, 1] rfl)
  · have h := nd_neg h c1
    refine lv_iload_n hx hb dX19_go_8 rfl (lv_at hl 1 rfl) ?_
    refine lv_i2l hx hb dX19_go_9 rfl ?_
    refine lv_lconst (v := 0) hx hb dX19_go_10 (by decide) ?_
    refine lv_aload_n hx hb dX19_go_11 rfl (lv_at hl 0 rfl) ?_
    refine va_get (D := (dC, dI)) (ci := 20) (v := .int (sI s0.1 6)) (C := RX19) (T := TX19) (N := 36) hx hb hts hi_dm_X19_go_X19 hown hK hP 0 rfl rfl 20 (by decide) (hts (.fieldLink RX19 210 "TimeMachineModel" "end" "I") (List.mem_of_getElem? (i := 7) rfl)) (fun _ h9 => h9) rfl dX19_go_12 ?_
    refine lv_i2l hx hb dX19_go_15 rfl ?_
    obtain ⟨q7, s8, hq, h⟩ := nd_b2_e h
    have hPc : va_P (dC, dI) vwCl (dw_P a ac ()) H := nd_p0
    have hDc : va_D A (dw_P a ac ()) := nd_d0
    have hKc : va_K (dC, dI) vwCl (dk_P ac) s := nd_y0 hK
    have hFc : ∀ q, va_A (dw_P a ac ()) H.size q → A q := nd_r0 hS hA
    refine nd_cSi (As := [.long (v0.toInt64), .long 0, .long (((sI s0.1 6) : Int32).toInt64)]) (rest := [.ref (a 0)]) (q := q7) (w' := dw_P a ac s8) ⟨hx, hb, hml, hown, hts⟩ (fun sz => dm_X19_in l hlt dC dI a ac n ((v0.toInt64)) (0) ((((sI s0.1 6) : Int32).toInt64)) () hq sz) (cwS 3 hts gi_dm_X19_go_1 rfl rfl rfl (by decide +kernel) ⟨Nat.le_of_ble_eq_true rfl, Nat.le_of_ble_eq_true rfl⟩) hPc hDc hKc hS hA hN rfl hl.1 rfl (Nat.le_of_ble_eq_true rfl) dX19_go_16 (fun H locs hP1 hD1 hk1 hS => ?_)
    have hP := nd_n0 hP hk1
    refine lv_if_ne (tgt := 26) hx hb dX19_go_19 (by decide) (fun c10 => ?_) (fun c10 => ?_)
    · have h := nd_neg h c10
      refine lv_iconst (v := 0) hx hb dX19_go_26 (by decide) ?_
      exact (db_X19_go_27 C K) (v0) (0) s0 _ _ _ h hP hD hS (lv_sub hl [0, 1] rfl)
    · have h := nd_pos h c10
      exact (db_X19_go_22 C K) (v0) s0 _ _ _ h hP hD hS (lv_sub hl [0, 1] rfl)
set_option maxHeartbeats 40000000 in
set_option maxRecDepth 100000 in
theorem dm_X19_go (l : Launch) (hlt : l.stackTraces = false) (dC : Nat → ClassId) (dI : Nat → Nat → Nat) (a : Nat → Nat) (ac : Nat → ClassId) (n : Nat) (v0 : Int32) (s0 : St × (St) × (St × (St × (St))) × (St) × (St)) {r : St × (St) × (St × (St × (St))) × (St) × (St)} (h : df_X19_go n v0 s0 = some r) (sz : Nat) : Met l yX19_go ow_dm_X19_go ({ frames := 1, cells := 0, slots := 0, locals := 25 }) (va_Pc [.ref (a 0), .int v0] (fun U => U.heap.size = sz ∧ va_P (dC, dI) vwCl (dw_X19 a ac s0) U.heap ∧ va_K (dC, dI) vwCl (dk_X19 ac) U ∧ va_D (fun _ => True) (dw_X19 a ac s0) ∧ nv_E dI (va_A (dw_X19 a ac s0) sz) U)) (va_Qv (fun _ => True) (fun (_ : Unit) t => va_P (dC, dI) vwCl (dw_X19 a ac r) t.heap ∧ va_K (dC, dI) vwCl (dk_X19 ac) t ∧ va_D (va_A (dw_X19 a ac s0) sz) (dw_X19 a ac r)) (va_A (dw_X19 a ac s0) sz)) 0 0 (va_A (dw_X19 a ac s0) sz) := by
  refine Met.ofW (cc := cX19_go) (maxL := 2) (ret := none) (by decide) rfl ?_
  intro p e s m args below meth c s₁ B hml hv
  obtain ⟨rfl, hsz, hP, hK, hD0, hN⟩ := hv
  have hx := B.exec
  have hb := B.bytes
  have hr := B.returns
  have hts := atoms_spec (ws := ow_dm_X19_go) B.pre
  have hown : s.vm.findClass RX19 = some m.cls := findClass_of_methodNamed B.named
  have hlocks := B.notSynchronized
  subst hsz
  have hD := hD0.self (sz := s.heap.size)
  generalize hAe : va_A (dw_X19 a ac s0) s.heap.size = A at hD hN ⊢
  have hA : ∀ q : Nat, s.heap.size ≤ q → A q := fun q h => by rw [← hAe]; exact Or.inr h
  have hl := lv_entry ([.ref (a 0), .int v0]) (n := 2) (Nat.le_of_ble_eq_true rfl)
  rw [lg_entry_eq]
  generalize (lg_sl ([.ref (a 0), .int v0]) ++ List.replicate (2 - (lg_sl ([.ref (a 0), .int v0])).length) Slot.unset).toArray = ls at hl ⊢
  have hl : lv_has ls 2 [(0, .ref (a 0)), (1, .int v0)] := hl
  exact db_X19_go_0 (dC := dC) (dI := dI) (a := a) (ac := ac) (n := n) (r := r) ⟨hlt, hx, hb, hml, hown, hts, hN, hA, hK⟩ (fun pc τ H locs ls d er hP hD hS => by subst er; exact W.vret hx hb hr (fun t ht hW => ⟨⟨(), rfl, trivial, by rw [ht]; exact hP, va_K.moved hW.alike hK, hD⟩, hS.F ht⟩) hS.2.2 d) v0 s0 _ _ _ h hP hD va_S.rf (lv_sub hl [0, 1] rfl)
def ow_dm_X19_cut : List Cond := Cond.code yX19_cut cX19_cut 2 (some .int) :: ([Cond.fieldLink RX19 113 "TimeMachineModel" "code" "I", Cond.fieldLink RX19 231 "TimeMachineModel" "booted" "Z", Cond.fieldLink RX19 210 "TimeMachineModel" "end" "I", Cond.fieldLink RX19 234 "TimeMachineModel" "now" "I", Cond.methodLink RX19 266 yX19_come, Cond.instanceMethod yX19_come, Cond.selects RX19 yX19_come yX19_come, Cond.initialized RX19, Cond.fieldLink RX19 192 "TimeMachineModel" "events" "I", Cond.fieldLink RX19 186 "TimeMachineModel" "taken" "I", Cond.fieldLink RX19 212 "TimeMachineModel" "scheduled" "I", Cond.fieldLink RX19 236 "TimeMachineModel" "refused" "Z", Cond.fieldLink RX19 91 "TimeMachineModel" "when" "[I"] ++ (u_ws RX19 TX19 36 ++ (ow_dm_X19_come ++ [])))
theorem gd_dm_X19_cut : ∀ w ∈ ow_dm_X19_cut, (w.onTables && w.keeps) = true ∨ ∃ ty, w = Cond.arrayClass ty := List.forall_mem_cons.mpr ⟨good_of_word rfl, List.forall_mem_append.mpr ⟨fun w h => good_of_word (List.all_eq_true.mp (by decide +kernel) w h), List.forall_mem_append.mpr ⟨gu_X19, List.forall_mem_append.mpr ⟨gd_dm_X19_come, fun _ h => nomatch h⟩⟩⟩⟩
theorem hi_dm_X19_cut_X19 : ∀ w ∈ u_ws RX19 TX19 36, w ∈ ow_dm_X19_cut := fun w h => List.mem_cons_of_mem _ (List.mem_append_right _ (List.mem_append_left _ h))
theorem gi_dm_X19_cut_0 : GoodIn ow_dm_X19_cut (wsV RX19 266 RX19 yX19_come ow_dm_X19_come) := goodIn_app (goodIn_of _ (by decide +kernel)) (fun w h => ⟨List.mem_cons_of_mem _ (List.mem_append_right _ (List.mem_append_right _ (List.mem_append_left _ h))), gd_dm_X19_come w h⟩)
def dj_X19_cut_78 (p : Program) (l : Launch) (e : Env) (s : State) (m : MethodId) (args : Array Value) (below : List Frame) (meth : Method) (c : Code) (Q : State → Prop) (A : Nat → Prop) (dC : Nat → ClassId) (dI : Nat → Nat → Nat) (a : Nat → Nat) (ac : Nat → ClassId) (g : Int32 → (St × (St) × (St × (St × (St))) × (St) × (St)) → Option (Int32 × (St × (St) × (St × (St × (St))) × (St) × (St)))) (r : Int32 × (St × (St) × (St × (St × (St))) × (St) × (St))) : Prop := ∀ (x1 : Int32) (s0 : St × (St) × (St × (St × (St))) × (St) × (St)) (H : Heap) (locs : List Loc) (ls : Array Slot), g x1 s0 = some r → va_P (dC, dI) vwCl (dw_X19 a ac s0) H → va_D A (dw_X19 a ac s0) → va_S A s.heap H locs → lv_has ls 2 [(0, .ref (a 0)), (1, .int x1)] → W p l e (headSpec ow_dm_X19_cut ({ frames := 10, cells := 0, slots := 0, locals := 225 })).room s m args below meth c H locs 0 0 Q (F0 m 78 ls [])
def dj_X19_cut_40 (p : Program) (l : Launch) (e : Env) (s : State) (m : MethodId) (args : Array Value) (below : List Frame) (meth : Method) (c : Code) (Q : State → Prop) (A : Nat → Prop) (dC : Nat → ClassId) (dI : Nat → Nat → Nat) (a : Nat → Nat) (ac : Nat → ClassId) (g : Int32 → (St × (St) × (St × (St × (St))) × (St) × (St)) → Option (Int32 × (St × (St) × (St × (St × (St))) × (St) × (St)))) (r : Int32 × (St × (St) × (St × (St × (St))) × (St) × (St))) : Prop := ∀ (x1 : Int32) (s0 : St × (St) × (St × (St × (St))) × (St) × (St)) (H : Heap) (locs : List Loc) (ls : Array Slot), g x1 s0 = some r → va_P (dC, dI) vwCl (dw_X19 a ac s0) H → va_D A (dw_X19 a ac s0) → va_S A s.heap H locs → lv_has ls 2 [(0, .ref (a 0)), (1, .int x1)] → W p l e (headSpec ow_dm_X19_cut ({ frames := 10, cells := 0, slots := 0, locals := 225 })).room s m args below meth c H locs 0 0 Q (F0 m 40 ls [])
def dj_X19_cut_0 (p : Program) (l : Launch) (e : Env) (s : State) (m : MethodId) (args : Array Value) (below : List Frame) (meth : Method) (c : Code) (Q : State → Prop) (A : Nat → Prop) (dC : Nat → ClassId) (dI : Nat → Nat → Nat) (a : Nat → Nat) (ac : Nat → ClassId) (g : (St × (St) × (St × (St × (St))) × (St) × (St)) → Option (Int32 × (St × (St) × (St × (St × (St))) × (St) × (St)))) (r : Int32 × (St × (St) × (St × (St × (St))) × (St) × (St))) : Prop := ∀ (s0 : St × (St) × (St × (St × (St))) × (St) × (St)) (H : Heap) (locs : List Loc) (ls : Array Slot), g s0 = some r → va_P (dC, dI) vwCl (dw_X19 a ac s0) H → va_D A (dw_X19 a ac s0) → va_S A s.heap H locs → lv_has ls 2 [(0, .ref (a 0))] → W p l e (headSpec ow_dm_X19_cut ({ frames := 10, cells := 0, slots := 0, locals := 225 })).room s m args below meth c H locs 0 0 Q (F0 m 0 ls [])
set_option maxHeartbeats 40000000 in
set_option maxRecDepth 100000 in
theorem db_X19_cut_78 {p : Program} {l : Launch} {e : Env} {s : State} {m : MethodId} {args : Array Value} {below : List Frame} {meth : Method} {c : Code} {Q : State → Prop} {A : Nat → Prop} {dC : Nat → ClassId} {dI : Nat → Nat → Nat} {a : Nat → Nat} {ac : Nat → ClassId} {n : Nat} {r : Int32 × (St × (St) × (St × (St × (St))) × (St) × (St))} (C : nd_C p l s m args c A (dC, dI) cX19_cut 2 RX19 ow_dm_X19_cut (dk_X19 ac)) (K : nd_Ki p l e (headSpec ow_dm_X19_cut ({ frames := 10, cells := 0, slots := 0, locals := 225 })).room s m args below meth c Q A (dC, dI) cX19_cut .int (St × (St) × (St × (St × (St))) × (St) × (St)) (dw_X19 a ac) r) : dj_X19_cut_78 p l e s m args below meth c Q A dC dI a ac (df_X19_cut_78 n) r := by
  obtain ⟨hlt, hx, hb, hml, hown, hts, hN, hA, hK⟩ := id C
  intro x1 s0 H locs ls h hP hD hS hl
  unfold df_X19_cut_78 at h
  refine lv_aload_n hx hb dX19_cut_78 rfl (lv_at hl 0 rfl) ?_
  refine lv_aload_n hx hb dX19_cut_79 rfl (lv_at hl 0 rfl) ?_
  refine va_get (D := (dC, dI)) (ci := 20) (v := .int (sI s0.1 8)) (C := RX19) (T := TX19) (N := 36) hx hb hts hi_dm_X19_cut_X19 hown hK hP 0 rfl rfl 22 (by decide) (hts (.fieldLink RX19 192 "TimeMachineModel" "events" "I") (List.mem_of_getElem? (i := 9) rfl)) (fun _ h9 => h9) rfl dX19_cut_80 ?_
  refine va_put (D := (dC, dI)) (ci := 20) (v := .int (sI s0.1 8)) (ty := .int) (C := RX19) (T := TX19) (N := 36) hx hb hts hi_dm_X19_cut_X19 tyX19 tyX19_ok nmX19 hown hK hP hD hS 0 rfl rfl 24 (by decide) (hts (.fieldLink RX19 186 "TimeMachineModel" "taken" "I") (List.mem_of_getElem? (i := 10) rfl)) (fun _ h9 => h9) rfl (by decide +kernel) rfl rfl (Nat.le_of_ble_eq_true rfl) dX19_cut_83 (fun H locs hP hD hS => ?_)
  obtain ⟨s9, es9, h⟩ := nd_let_e h
  have hP : va_P (dC, dI) vwCl (dw_X19 a ac s9) H := by rw [es9]; exact hP
  have hD : va_D A (dw_X19 a ac s9) := by rw [es9]; exact hD
  refine lv_aload_n hx hb dX19_cut_86 rfl (lv_at hl 0 rfl) ?_
  refine lv_iconst (v := 0) hx hb dX19_cut_87 (by decide) ?_
  refine va_put (D := (dC, dI)) (ci := 20) (v := .int 0) (ty := .int) (C := RX19) (T := TX19) (N := 36) hx hb hts hi_dm_X19_cut_X19 tyX19 tyX19_ok nmX19 hown hK hP hD hS 0 rfl rfl 23 (by decide) (hts (.fieldLink RX19 212 "TimeMachineModel" "scheduled" "I") (List.mem_of_getElem? (i := 11) rfl)) (fun _ h9 => h9) rfl (by decide +kernel) rfl rfl (Nat.le_of_ble_eq_true rfl) dX19_cut_88 (fun H locs hP hD hS => ?_)
  obtain ⟨s10, es10, h⟩ := nd_let_e h
  have hP : va_P (dC, dI) vwCl (dw_X19 a ac s10) H := by rw [es10]; exact hP
  have hD : va_D A (dw_X19 a ac s10) := by rw [es10]; exact hD
  refine lv_aload_n hx hb dX19_cut_91 rfl (lv_at hl 0 rfl) ?_
  refine lv_iconst (v := 0) hx hb dX19_cut_92 (by decide) ?_
  refine va_put (D := (dC, dI)) (ci := 20) (v := .int 0) (ty := .boolean) (C := RX19) (T := TX19) (N := 36) hx hb hts hi_dm_X19_cut_X19 tyX19 tyX19_ok nmX19 hown hK hP hD hS 0 rfl rfl 25 (by decide) (hts (.fieldLink RX19 236 "TimeMachineModel" "refused" "Z") (List.mem_of_getElem? (i := 12) rfl)) (fun _ h9 => h9) rfl (by decide +kernel) (by first | rfl | decide) rfl (Nat.le_of_ble_eq_true rfl) dX19_cut_93 (fun H locs hP hD hS => ?_)
  obtain ⟨s11, es11, h⟩ := nd_let_e h
  have hP : va_P (dC, dI) vwCl (dw_X19 a ac s11) H := by rw [es11]; exact hP
  have hD : va_D A (dw_X19 a ac s11) := by rw [es11]; exact hD
  refine lv_iload_n hx hb dX19_cut_96 rfl (lv_at hl 1 rfl) ?_
  exact K _ _ _ _ _ _ dX19_cut_97 rfl (Option.some.inj h).symm hP hD hS
set_option maxHeartbeats 40000000 in
set_option maxRecDepth 100000 in
theorem dB_X19_cut_40 {p : Program} {l : Launch} {e : Env} {s : State} {m : MethodId} {args : Array Value} {below : List Frame} {meth : Method} {c : Code} {Q : State → Prop} {A : Nat → Prop} {dC : Nat → ClassId} {dI : Nat → Nat → Nat} {a : Nat → Nat} {ac : Nat → ClassId} {n : Nat} {r : Int32 × (St × (St) × (St × (St × (St))) × (St) × (St))} (C : nd_C p l s m args c A (dC, dI) cX19_cut 2 RX19 ow_dm_X19_cut (dk_X19 ac)) (K : nd_Ki p l e (headSpec ow_dm_X19_cut ({ frames := 10, cells := 0, slots := 0, locals := 225 })).room s m args below meth c Q A (dC, dI) cX19_cut .int (St × (St) × (St × (St × (St))) × (St) × (St)) (dw_X19 a ac) r) {g40 : Int32 → (St × (St) × (St × (St × (St))) × (St) × (St)) → Option (Int32 × (St × (St) × (St × (St × (St))) × (St) × (St)))} (J40 : dj_X19_cut_40 p l e s m args below meth c Q A dC dI a ac g40 r) : dj_X19_cut_40 p l e s m args below meth c Q A dC dI a ac (dF_X19_cut_40 n g40) r := by
  obtain ⟨hlt, hx, hb, hml, hown, hts, hN, hA, hK⟩ := id C
  intro x1 s0 H locs ls h hP hD hS hl
  unfold dF_X19_cut_40 at h
  refine lv_aload_n hx hb dX19_cut_40 rfl (lv_at hl 0 rfl) ?_
  refine va_get (D := (dC, dI)) (ci := 20) (v := .int (sI s0.1 8)) (C := RX19) (T := TX19) (N := 36) hx hb hts hi_dm_X19_cut_X19 hown hK hP 0 rfl rfl 22 (by decide) (hts (.fieldLink RX19 192 "TimeMachineModel" "events" "I") (List.mem_of_getElem? (i := 9) rfl)) (fun _ h9 => h9) rfl dX19_cut_41 ?_
  refine lv_if_le (tgt := 78) hx hb dX19_cut_44 (by decide) (fun c8 => ?_) (fun c8 => ?_)
  · have h := nd_pos h c8
    exact (db_X19_cut_78 C K) (x1) s0 _ _ _ h hP hD hS (lv_sub hl [0, 1] rfl)
  · have h := nd_neg h c8
    refine lv_aload_n hx hb dX19_cut_47 rfl (lv_at hl 0 rfl) ?_
    refine va_get (D := (dC, dI)) (ci := 20) (v := .ref (a 8)) (C := RX19) (T := TX19) (N := 36) hx hb hts hi_dm_X19_cut_X19 hown hK hP 0 rfl rfl 28 (by decide) (hts (.fieldLink RX19 91 "TimeMachineModel" "when" "[I") (List.mem_of_getElem? (i := 13) rfl)) (fun _ h9 => h9) rfl dX19_cut_48 ?_
    refine lv_aload_n hx hb dX19_cut_51 rfl (lv_at hl 0 rfl) ?_
    refine va_get (D := (dC, dI)) (ci := 20) (v := .int (sI s0.1 8)) (C := RX19) (T := TX19) (N := 36) hx hb hts hi_dm_X19_cut_X19 hown hK hP 0 rfl rfl 22 (by decide) (hts (.fieldLink RX19 192 "TimeMachineModel" "events" "I") (List.mem_of_getElem? (i := 9) rfl)) (fun _ h9 => h9) rfl dX19_cut_52 ?_
    refine lv_iconst (v := 1) hx hb dX19_cut_55 (by decide) ?_
    refine lv_isub hx hb dX19_cut_56 ?_
    obtain ⟨i12, h⟩ := nd_ck_e h
    refine va_iald (i := ((sI s0.1 8) - 1)) hx hb hK hP 8 7 rfl rfl i12 dX19_cut_57 ?_
    refine lv_aload_n hx hb dX19_cut_58 rfl (lv_at hl 0 rfl) ?_
    refine va_get (D := (dC, dI)) (ci := 20) (v := .int (sI s0.1 5)) (C := RX19) (T := TX19) (N := 36) hx hb hts hi_dm_X19_cut_X19 hown hK hP 0 rfl rfl 19 (by decide) (hts (.fieldLink RX19 234 "TimeMachineModel" "now" "I") (List.mem_of_getElem? (i := 4) rfl)) (fun _ h9 => h9) rfl dX19_cut_59 ?_
    refine lv_icmp_le (tgt := 78) hx hb dX19_cut_62 (by decide) (fun c13 => ?_) (fun c13 => ?_)
    · have h := nd_pos h c13
      exact (db_X19_cut_78 C K) (x1) s0 _ _ _ h hP hD hS (lv_sub hl [0, 1] rfl)
    · have h := nd_neg h c13
      refine lv_aload_n hx hb dX19_cut_65 rfl (lv_at hl 0 rfl) ?_
      refine lv_dup hx hb dX19_cut_66 rfl ?_
      refine va_get (D := (dC, dI)) (ci := 20) (v := .int (sI s0.1 8)) (C := RX19) (T := TX19) (N := 36) hx hb hts hi_dm_X19_cut_X19 hown hK hP 0 rfl rfl 22 (by decide) (hts (.fieldLink RX19 192 "TimeMachineModel" "events" "I") (List.mem_of_getElem? (i := 9) rfl)) (fun _ h9 => h9) rfl dX19_cut_67 ?_
      refine lv_iconst (v := 1) hx hb dX19_cut_70 (by decide) ?_
      refine lv_isub hx hb dX19_cut_71 ?_
      refine va_put (D := (dC, dI)) (ci := 20) (v := .int ((sI s0.1 8) - 1)) (ty := .int) (C := RX19) (T := TX19) (N := 36) hx hb hts hi_dm_X19_cut_X19 tyX19 tyX19_ok nmX19 hown hK hP hD hS 0 rfl rfl 22 (by decide) (hts (.fieldLink RX19 192 "TimeMachineModel" "events" "I") (List.mem_of_getElem? (i := 9) rfl)) (fun _ h9 => h9) rfl (by decide +kernel) rfl rfl (Nat.le_of_ble_eq_true rfl) dX19_cut_72 (fun H locs hP hD hS => ?_)
      obtain ⟨s14, es14, h⟩ := nd_let_e h
      have hP : va_P (dC, dI) vwCl (dw_X19 a ac s14) H := by rw [es14]; exact hP
      have hD : va_D A (dw_X19 a ac s14) := by rw [es14]; exact hD
      refine lv_goto (tgt := 40) hx hb dX19_cut_75 (by decide) ?_
      exact (J40) (x1) s14 _ _ _ h hP hD hS (lv_sub hl [0, 1] rfl)
set_option maxHeartbeats 40000000 in
set_option maxRecDepth 100000 in
theorem db_X19_cut_40 {p : Program} {l : Launch} {e : Env} {s : State} {m : MethodId} {args : Array Value} {below : List Frame} {meth : Method} {c : Code} {Q : State → Prop} {A : Nat → Prop} {dC : Nat → ClassId} {dI : Nat → Nat → Nat} {a : Nat → Nat} {ac : Nat → ClassId} {n : Nat} {r : Int32 × (St × (St) × (St × (St × (St))) × (St) × (St))} (C : nd_C p l s m args c A (dC, dI) cX19_cut 2 RX19 ow_dm_X19_cut (dk_X19 ac)) (K : nd_Ki p l e (headSpec ow_dm_X19_cut ({ frames := 10, cells := 0, slots := 0, locals := 225 })).room s m args below meth c Q A (dC, dI) cX19_cut .int (St × (St) × (St × (St × (St))) × (St) × (St)) (dw_X19 a ac) r) (k : Nat) : dj_X19_cut_40 p l e s m args below meth c Q A dC dI a ac (df_X19_cut_40 n k) r := by
  induction k with
  | zero => intro x1 s0 H locs ls h; exact nomatch (show (none : Option (Int32 × (St × (St) × (St × (St × (St))) × (St) × (St)))) = some r from h)
  | succ k ih => exact dB_X19_cut_40 C K ih
set_option maxHeartbeats 40000000 in
set_option maxRecDepth 100000 in
theorem db_X19_cut_0 {p : Program} {l : Launch} {e : Env} {s : State} {m : MethodId} {args : Array Value} {below : List Frame} {meth : Method} {c : Code} {Q : State → Prop} {A : Nat → Prop} {dC : Nat → ClassId} {dI : Nat → Nat → Nat} {a : Nat → Nat} {ac : Nat → ClassId} {n : Nat} {r : Int32 × (St × (St) × (St × (St × (St))) × (St) × (St))} (C : nd_C p l s m args c A (dC, dI) cX19_cut 2 RX19 ow_dm_X19_cut (dk_X19 ac)) (K : nd_Ki p l e (headSpec ow_dm_X19_cut ({ frames := 10, cells := 0, slots := 0, locals := 225 })).room s m args below meth c Q A (dC, dI) cX19_cut .int (St × (St) × (St × (St × (St))) × (St) × (St)) (dw_X19 a ac) r) : dj_X19_cut_0 p l e s m args below meth c Q A dC dI a ac (df_X19_cut_0 n) r := by
  obtain ⟨hlt, hx, hb, hml, hown, hts, hN, hA, hK⟩ := id C
  intro s0 H locs ls h hP hD hS hl
  unfold df_X19_cut_0 at h
  refine lv_aload_n hx hb dX19_cut_0 rfl (lv_at hl 0 rfl) ?_
  refine lv_iconst (v := 0) hx hb dX19_cut_1 (by decide) ?_
  refine va_put (D := (dC, dI)) (ci := 20) (v := .int 0) (ty := .int) (C := RX19) (T := TX19) (N := 36) hx hb hts hi_dm_X19_cut_X19 tyX19 tyX19_ok nmX19 hown hK hP hD hS 0 rfl rfl 0 (by decide) (hts (.fieldLink RX19 113 "TimeMachineModel" "code" "I") (List.mem_of_getElem? (i := 1) rfl)) (fun _ h9 => h9) rfl (by decide +kernel) rfl rfl (Nat.le_of_ble_eq_true rfl) dX19_cut_2 (fun H locs hP hD hS => ?_)
  obtain ⟨s1, es1, h⟩ := nd_let_e h
  have hP : va_P (dC, dI) vwCl (dw_X19 a ac s1) H := by rw [es1]; exact hP
  have hD : va_D A (dw_X19 a ac s1) := by rw [es1]; exact hD
  refine lv_aload_n hx hb dX19_cut_5 rfl (lv_at hl 0 rfl) ?_
  refine va_get (D := (dC, dI)) (ci := 20) (v := .int (sI s1.1 3)) (C := RX19) (T := TX19) (N := 36) hx hb hts hi_dm_X19_cut_X19 hown hK hP 0 rfl rfl 17 (by decide) (hts (.fieldLink RX19 231 "TimeMachineModel" "booted" "Z") (List.mem_of_getElem? (i := 2) rfl)) (fun _ h9 => h9) rfl dX19_cut_6 ?_
  refine lv_if_ne (tgt := 14) hx hb dX19_cut_9 (by decide) (fun c2 => ?_) (fun c2 => ?_)
  · have h := nd_neg h c2
    refine lv_aload_n hx hb dX19_cut_14 rfl (lv_at hl 0 rfl) ?_
    refine va_get (D := (dC, dI)) (ci := 20) (v := .int (sI s1.1 6)) (C := RX19) (T := TX19) (N := 36) hx hb hts hi_dm_X19_cut_X19 hown hK hP 0 rfl rfl 20 (by decide) (hts (.fieldLink RX19 210 "TimeMachineModel" "end" "I") (List.mem_of_getElem? (i := 3) rfl)) (fun _ h9 => h9) rfl dX19_cut_15 ?_
    refine lv_aload_n hx hb dX19_cut_18 rfl (lv_at hl 0 rfl) ?_
    refine va_get (D := (dC, dI)) (ci := 20) (v := .int (sI s1.1 5)) (C := RX19) (T := TX19) (N := 36) hx hb hts hi_dm_X19_cut_X19 hown hK hP 0 rfl rfl 19 (by decide) (hts (.fieldLink RX19 234 "TimeMachineModel" "now" "I") (List.mem_of_getElem? (i := 4) rfl)) (fun _ h9 => h9) rfl dX19_cut_19 ?_
    refine lv_isub hx hb dX19_cut_22 ?_
    refine lv_topi (fun z3 ez3 => ?_)
    have h := nd_at h ez3
    refine lv_istore_n (lv' := [(1, .int z3), (0, .ref (a 0))]) hx hb dX19_cut_23 rfl hl (by decide) rfl (fun ls hl => ?_)
    refine lv_aload_n hx hb dX19_cut_24 rfl (lv_at hl 1 rfl) ?_
    refine lv_aload_n hx hb dX19_cut_25 rfl (lv_at hl 1 rfl) ?_
    refine va_get (D := (dC, dI)) (ci := 20) (v := .int (sI s1.1 5)) (C := RX19) (T := TX19) (N := 36) hx hb hts hi_dm_X19_cut_X19 hown hK hP 0 rfl rfl 19 (by decide) (hts (.fieldLink RX19 234 "TimeMachineModel" "now" "I") (List.mem_of_getElem? (i := 4) rfl)) (fun _ h9 => h9) rfl dX19_cut_26 ?_
    obtain ⟨s5, hq, h⟩ := nd_b1_e h
    have hPc := hP
    have hDc := hD
    have hKc := hK
    have hFc := nd_rs hD hS hA
    refine nd_cVv (As := [.int (sI s1.1 5)]) (rest := []) (w' := dw_X19 a ac s5) ⟨hx, hb, hml, hown, hts⟩ (fun sz => dm_X19_come l hlt dC dI a ac n ((sI s1.1 5)) s1 hq sz) (cwV 1 hts gi_dm_X19_cut_0 rfl rfl rfl (by decide +kernel) ⟨Nat.le_of_ble_eq_true rfl, Nat.le_of_ble_eq_true rfl⟩) hPc hDc hKc hS hA hN (va_recv hKc hPc (ci := 20) (q0 := 0) rfl rfl) rfl hl.1 rfl (Nat.le_of_ble_eq_true rfl) dX19_cut_29 (fun H locs hP1 hD1 hk1 hS => ?_)
    have hP := hP1
    have hD := hD1.weaken (fun k q _ h => hFc q.1 h)
    refine lv_aload_n hx hb dX19_cut_32 rfl (lv_at hl 1 rfl) ?_
    refine lv_aload_n hx hb dX19_cut_33 rfl (lv_at hl 1 rfl) ?_
    refine va_get (D := (dC, dI)) (ci := 20) (v := .int (sI s5.1 5)) (C := RX19) (T := TX19) (N := 36) hx hb hts hi_dm_X19_cut_X19 hown hK hP 0 rfl rfl 19 (by decide) (hts (.fieldLink RX19 234 "TimeMachineModel" "now" "I") (List.mem_of_getElem? (i := 4) rfl)) (fun _ h9 => h9) rfl dX19_cut_34 ?_
    refine va_put (D := (dC, dI)) (ci := 20) (v := .int (sI s5.1 5)) (ty := .int) (C := RX19) (T := TX19) (N := 36) hx hb hts hi_dm_X19_cut_X19 tyX19 tyX19_ok nmX19 hown hK hP hD hS 0 rfl rfl 20 (by decide) (hts (.fieldLink RX19 210 "TimeMachineModel" "end" "I") (List.mem_of_getElem? (i := 3) rfl)) (fun _ h9 => h9) rfl (by decide +kernel) rfl rfl (Nat.le_of_ble_eq_true rfl) dX19_cut_37 (fun H locs hP hD hS => ?_)
    obtain ⟨s7, es7, h⟩ := nd_let_e h
    have hP : va_P (dC, dI) vwCl (dw_X19 a ac s7) H := by rw [es7]; exact hP
    have hD : va_D A (dw_X19 a ac s7) := by rw [es7]; exact hD
    exact (db_X19_cut_40 C K n) (z3) s7 _ _ _ h hP hD hS (lv_sub hl [1, 0] rfl)
  · have h := nd_pos h c2
    refine lv_iconst (v := 0) hx hb dX19_cut_12 (by decide) ?_
    exact K _ _ _ _ _ _ dX19_cut_13 rfl (Option.some.inj h).symm hP hD hS
set_option maxHeartbeats 40000000 in
set_option maxRecDepth 100000 in
theorem dm_X19_cut (l : Launch) (hlt : l.stackTraces = false) (dC : Nat → ClassId) (dI : Nat → Nat → Nat) (a : Nat → Nat) (ac : Nat → ClassId) (n : Nat) (s0 : St × (St) × (St × (St × (St))) × (St) × (St)) {r : Int32 × (St × (St) × (St × (St × (St))) × (St) × (St))} (h : df_X19_cut n s0 = some r) (sz : Nat) : Met l yX19_cut ow_dm_X19_cut ({ frames := 10, cells := 0, slots := 0, locals := 225 }) (va_Pc [.ref (a 0)] (fun U => U.heap.size = sz ∧ va_P (dC, dI) vwCl (dw_X19 a ac s0) U.heap ∧ va_K (dC, dI) vwCl (dk_X19 ac) U ∧ va_D (fun _ => True) (dw_X19 a ac s0) ∧ nv_E dI (va_A (dw_X19 a ac s0) sz) U)) (va_Qi (fun x _ => x = r.1) (fun (_ : Unit) t => va_P (dC, dI) vwCl (dw_X19 a ac r.2) t.heap ∧ va_K (dC, dI) vwCl (dk_X19 ac) t ∧ va_D (va_A (dw_X19 a ac s0) sz) (dw_X19 a ac r.2)) (va_A (dw_X19 a ac s0) sz)) 0 0 (va_A (dw_X19 a ac s0) sz) := by
  refine Met.ofW (cc := cX19_cut) (maxL := 2) (ret := (some .int)) (by decide) rfl ?_
  intro p e s m args below meth c s₁ B hml hv
  obtain ⟨rfl, hsz, hP, hK, hD0, hN⟩ := hv
  have hx := B.exec
  have hb := B.bytes
  have hr := B.returns
  have hts := atoms_spec (ws := ow_dm_X19_cut) B.pre
  have hown : s.vm.findClass RX19 = some m.cls := findClass_of_methodNamed B.named
  have hlocks := B.notSynchronized
  subst hsz
  have hD := hD0.self (sz := s.heap.size)
  generalize hAe : va_A (dw_X19 a ac s0) s.heap.size = A at hD hN ⊢
  have hA : ∀ q : Nat, s.heap.size ≤ q → A q := fun q h => by rw [← hAe]; exact Or.inr h
  have hl := lv_entry ([.ref (a 0)]) (n := 2) (Nat.le_of_ble_eq_true rfl)
  rw [lg_entry_eq]
  generalize (lg_sl ([.ref (a 0)]) ++ List.replicate (2 - (lg_sl ([.ref (a 0)])).length) Slot.unset).toArray = ls at hl ⊢
  have hl : lv_has ls 2 [(0, .ref (a 0))] := hl
  exact db_X19_cut_0 (dC := dC) (dI := dI) (a := a) (ac := ac) (n := n) (r := r) ⟨hlt, hx, hb, hml, hown, hts, hN, hA, hK⟩ (fun pc v τ H locs ls d z er hP hD hS => by subst er; exact W.zret (v := v) hx hb hr z (fun t ht hW => ⟨⟨v, (), rfl, rfl, by rw [ht]; exact hP, va_K.moved hW.alike hK, hD⟩, hS.F ht⟩) hS.2.2 d) s0 _ _ _ h hP hD va_S.rf (lv_sub hl [0] rfl)
set_option maxHeartbeats 40000000 in
set_option maxRecDepth 100000 in
theorem de_vX19_X15t_0 {a : Nat → Nat} {ac : Nat → ClassId} {τ : St × (St × (St × (St)))} : ([[(a 92, .inl (ac 92, 32768, .inl (sR τ.1 0)))], dw_X15 (fun k => a (k + 27)) (fun k => ac (k + 27)) τ.2] : List va_W).flatten = dw_X15t (nd_cn (a 92) (fun k => a (k + 27))) (nd_cn (ac 92) (fun k => ac (k + 27))) τ := by
  simp only [List.flatten_cons, List.flatten_nil, List.append_nil]
  rfl
set_option maxHeartbeats 40000000 in
set_option maxRecDepth 100000 in
theorem dp_vX19_X15t_0 {D : va_G} {H : Heap} {a : Nat → Nat} {ac : Nat → ClassId} {σ : St × (St) × (St × (St × (St))) × (St) × (St)} (h : va_P D vwCl (dw_X19 a ac σ) H) : va_P D vwCl (dw_X15t (nd_cn (a 92) (fun k => a (k + 27))) (nd_cn (ac 92) (fun k => ac (k + 27))) ((pR nd_st0 0 (sR σ.2.2.2.1 3)), σ.2.2.1)) H := by
  rw [eX19] at h
  have h2 := nd_vp (segs := sgX19 a ac σ) (ix := [4, 2]) (old := [[(a 92, .inl (ac 92, 32768, .inl (sR σ.2.2.2.1 3)))], dw_X15 (fun k => a (k + 27)) (fun k => ac (k + 27)) σ.2.2.1]) h (nd_co rfl (nd_co rfl rfl))
  have e := de_vX19_X15t_0 (a := a) (ac := ac) (τ := ((pR nd_st0 0 (sR σ.2.2.2.1 3)), σ.2.2.1))
  exact e ▸ h2
set_option maxHeartbeats 40000000 in
set_option maxRecDepth 100000 in
theorem dd_vX19_X15t_0 {A : Nat → Prop} {a : Nat → Nat} {ac : Nat → ClassId} {σ : St × (St) × (St × (St × (St))) × (St) × (St)} (h : va_D A (dw_X19 a ac σ)) : va_D A (dw_X15t (nd_cn (a 92) (fun k => a (k + 27))) (nd_cn (ac 92) (fun k => ac (k + 27))) ((pR nd_st0 0 (sR σ.2.2.2.1 3)), σ.2.2.1)) := by
  rw [eX19] at h
  have h2 := nd_vd (segs := sgX19 a ac σ) (ix := [4, 2]) (old := [[(a 92, .inl (ac 92, 32768, .inl (sR σ.2.2.2.1 3)))], dw_X15 (fun k => a (k + 27)) (fun k => ac (k + 27)) σ.2.2.1]) h (nd_co rfl (nd_co rfl rfl)) (by decide)
  have e := de_vX19_X15t_0 (a := a) (ac := ac) (τ := ((pR nd_st0 0 (sR σ.2.2.2.1 3)), σ.2.2.1))
  exact e ▸ h2
set_option maxHeartbeats 40000000 in
set_option maxRecDepth 100000 in
theorem dy_vX19_X15t_0 {D : va_G} {U : State} {ac : Nat → ClassId} (h : va_K D vwCl (dk_X19 ac) U) : va_K D vwCl (dk_X15t (nd_cn (ac 92) (fun k => ac (k + 27)))) U := h.sub [86, 25, 26, 27, 28, 29, 30, 31, 32, 33, 34, 35, 36, 37, 38, 39, 40, 41, 42, 43, 44, 45, 46, 47, 48, 49, 50, 51, 52, 53, 54, 55, 56, 57, 58, 59, 60, 61, 62, 63, 64, 65, 66, 67, 68, 69, 70, 71, 72, 73, 74, 75, 76, 77, 78, 79, 80] rfl
set_option maxHeartbeats 40000000 in
set_option maxRecDepth 100000 in
theorem dn_vX19_X15t_0 {A0 : Nat → Prop} {D : va_G} {H H1 : Heap} {a : Nat → Nat} {ac : Nat → ClassId} {σ : St × (St) × (St × (St × (St))) × (St) × (St)} {τ : St × (St × (St × (St)))} (hP : va_P D vwCl (dw_X19 a ac σ) H) (hD : va_D A0 (dw_X19 a ac σ)) (hA : ∀ q : Nat, H.size ≤ q → A0 q) (hk : ∀ q : Nat, q < H.size → ¬ va_A (dw_X15t (nd_cn (a 92) (fun k => a (k + 27))) (nd_cn (ac 92) (fun k => ac (k + 27))) ((pR nd_st0 0 (sR σ.2.2.2.1 3)), σ.2.2.1)) H.size q → H1[q]? = H[q]?) (h1 : va_P D vwCl (dw_X15t (nd_cn (a 92) (fun k => a (k + 27))) (nd_cn (ac 92) (fun k => ac (k + 27))) τ) H1) (h2 : va_D (va_A (dw_X15t (nd_cn (a 92) (fun k => a (k + 27))) (nd_cn (ac 92) (fun k => ac (k + 27))) ((pR nd_st0 0 (sR σ.2.2.2.1 3)), σ.2.2.1)) H.size) (dw_X15t (nd_cn (a 92) (fun k => a (k + 27))) (nd_cn (ac 92) (fun k => ac (k + 27))) τ)) : va_P D vwCl (dw_X19 a ac ((σ.1, (σ.2.1, (σ.2.2.1, ((pR σ.2.2.2.1 3 (sR τ.1 0)), σ.2.2.2.2)))).1, ((σ.1, (σ.2.1, (σ.2.2.1, ((pR σ.2.2.2.1 3 (sR τ.1 0)), σ.2.2.2.2)))).2.1, (τ.2, (σ.1, (σ.2.1, (σ.2.2.1, ((pR σ.2.2.2.1 3 (sR τ.1 0)), σ.2.2.2.2)))).2.2.2)))) H1 ∧ va_D A0 (dw_X19 a ac ((σ.1, (σ.2.1, (σ.2.2.1, ((pR σ.2.2.2.1 3 (sR τ.1 0)), σ.2.2.2.2)))).1, ((σ.1, (σ.2.1, (σ.2.2.1, ((pR σ.2.2.2.1 3 (sR τ.1 0)), σ.2.2.2.2)))).2.1, (τ.2, (σ.1, (σ.2.1, (σ.2.2.1, ((pR σ.2.2.2.1 3 (sR τ.1 0)), σ.2.2.2.2)))).2.2.2)))) := by
  have eo := de_vX19_X15t_0 (a := a) (ac := ac) (τ := ((pR nd_st0 0 (sR σ.2.2.2.1 3)), σ.2.2.1))
  have en := de_vX19_X15t_0 (a := a) (ac := ac) (τ := τ)
  have hD1 := hD
  rw [eX19] at hP hD
  have h := nd_vn (segs := sgX19 a ac σ) (ix := [4, 2]) (old := [[(a 92, .inl (ac 92, 32768, .inl (sR σ.2.2.2.1 3)))], dw_X15 (fun k => a (k + 27)) (fun k => ac (k + 27)) σ.2.2.1]) (new := [[(a 92, .inl (ac 92, 32768, .inl (sR τ.1 0)))], dw_X15 (fun k => a (k + 27)) (fun k => ac (k + 27)) τ.2]) hP hD (nd_co rfl (nd_co rfl rfl)) rfl (fun q z y => hk q z (fun w => y (eo ▸ w))) (en ▸ h1)
  have ee : nd_sets (sgX19 a ac σ) [4, 2] [[(a 92, .inl (ac 92, 32768, .inl (sR τ.1 0)))], dw_X15 (fun k => a (k + 27)) (fun k => ac (k + 27)) τ.2] = sgX19 a ac ((σ.1, (σ.2.1, (σ.2.2.1, ((pR σ.2.2.2.1 3 (sR τ.1 0)), σ.2.2.2.2)))).1, ((σ.1, (σ.2.1, (σ.2.2.1, ((pR σ.2.2.2.1 3 (sR τ.1 0)), σ.2.2.2.2)))).2.1, (τ.2, (σ.1, (σ.2.1, (σ.2.2.1, ((pR σ.2.2.2.1 3 (sR τ.1 0)), σ.2.2.2.2)))).2.2.2))) := rfl
  rw [ee, ← eX19] at h
  exact ⟨h, nd_Da hD1 dA_X19⟩
def ow_dm_X19_watch : List Cond := Cond.code yX19_watch cX19_watch 3 (some .int) :: ([Cond.constantLong RX19 302 (7), Cond.methodLink RX19 126 yX19_in, Cond.static yX19_in, Cond.initialized RX19, Cond.methodLink RX19 136 yX19_fails, Cond.instanceMethod yX19_fails, Cond.selects RX19 yX19_fails yX19_fails, Cond.fieldLink RX19 67 "TimeMachineModel" "conditions" "LTimeMachineModel$Conditions;", Cond.fieldLink RX19 10 "TimeMachineModel" "tape" "[I", Cond.fieldLink RX19 117 "TimeMachineModel" "taped" "I", Cond.methodLink RX19 304 yX15_compile, Cond.instanceMethod yX15_compile, Cond.selects RX15 yX15_compile yX15_compile, Cond.initialized RX15, Cond.methodLink RX19 148 yX19_use, Cond.instanceMethod yX19_use, Cond.selects RX19 yX19_use yX19_use] ++ (u_ws RX19 TX19 36 ++ (ow_dm_X19_in ++ (ow_dm_X19_fails ++ (ow_dm_X15_compile ++ (ow_dm_X19_use ++ []))))))
theorem gd_dm_X19_watch : ∀ w ∈ ow_dm_X19_watch, (w.onTables && w.keeps) = true ∨ ∃ ty, w = Cond.arrayClass ty := List.forall_mem_cons.mpr ⟨good_of_word rfl, List.forall_mem_append.mpr ⟨fun w h => good_of_word (List.all_eq_true.mp (by decide +kernel) w h), List.forall_mem_append.mpr ⟨gu_X19, List.forall_mem_append.mpr ⟨gd_dm_X19_in, List.forall_mem_append.mpr ⟨gd_dm_X19_fails, List.forall_mem_append.mpr ⟨gd_dm_X15_compile, List.forall_mem_append.mpr ⟨gd_dm_X19_use, fun _ h => nomatch h⟩⟩⟩⟩⟩⟩⟩
theorem hi_dm_X19_watch_X19 : ∀ w ∈ u_ws RX19 TX19 36, w ∈ ow_dm_X19_watch := fun w h => List.mem_cons_of_mem _ (List.mem_append_right _ (List.mem_append_left _ h))
theorem gi_dm_X19_watch_0 : GoodIn ow_dm_X19_watch (wsS RX19 126 yX19_in ow_dm_X19_in) := goodIn_app (goodIn_of _ (by decide +kernel)) (fun w h => ⟨List.mem_cons_of_mem _ (List.mem_append_right _ (List.mem_append_right _ (List.mem_append_left _ h))), gd_dm_X19_in w h⟩)
theorem gi_dm_X19_watch_1 : GoodIn ow_dm_X19_watch (wsV RX19 136 RX19 yX19_fails ow_dm_X19_fails) := goodIn_app (goodIn_of _ (by decide +kernel)) (fun w h => ⟨List.mem_cons_of_mem _ (List.mem_append_right _ (List.mem_append_right _ (List.mem_append_right _ (List.mem_append_left _ h)))), gd_dm_X19_fails w h⟩)
theorem gi_dm_X19_watch_2 : GoodIn ow_dm_X19_watch (wsV RX19 304 RX15 yX15_compile ow_dm_X15_compile) := goodIn_app (goodIn_of _ (by decide +kernel)) (fun w h => ⟨List.mem_cons_of_mem _ (List.mem_append_right _ (List.mem_append_right _ (List.mem_append_right _ (List.mem_append_right _ (List.mem_append_left _ h))))), gd_dm_X15_compile w h⟩)
theorem gi_dm_X19_watch_3 : GoodIn ow_dm_X19_watch (wsV RX19 148 RX19 yX19_use ow_dm_X19_use) := goodIn_app (goodIn_of _ (by decide +kernel)) (fun w h => ⟨List.mem_cons_of_mem _ (List.mem_append_right _ (List.mem_append_right _ (List.mem_append_right _ (List.mem_append_right _ (List.mem_append_right _ (List.mem_append_left _ h)))))), gd_dm_X19_use w h⟩)
def dj_X19_watch_18 (p : Program) (l : Launch) (e : Env) (s : State) (m : MethodId) (args : Array Value) (below : List Frame) (meth : Method) (c : Code) (Q : State → Prop) (A : Nat → Prop) (dC : Nat → ClassId) (dI : Nat → Nat → Nat) (a : Nat → Nat) (ac : Nat → ClassId) (g : Int32 → Int32 → (St × (St) × (St × (St × (St))) × (St) × (St)) → Option (Int32 × (St × (St) × (St × (St × (St))) × (St) × (St)))) (r : Int32 × (St × (St) × (St × (St × (St))) × (St) × (St))) : Prop := ∀ (x1 : Int32) (y1 : Int32) (s0 : St × (St) × (St × (St × (St))) × (St) × (St)) (H : Heap) (locs : List Loc) (ls : Array Slot), g x1 y1 s0 = some r → va_P (dC, dI) vwCl (dw_X19 a ac s0) H → va_D A (dw_X19 a ac s0) → va_S A s.heap H locs → lv_has ls 3 [(0, .ref (a 0)), (1, .int x1)] → W p l e (headSpec ow_dm_X19_watch ({ frames := 5, cells := 0, slots := 0, locals := 122 })).room s m args below meth c H locs 0 0 Q (F0 m 18 ls [.int y1, .ref (a 0)])
def dj_X19_watch_0 (p : Program) (l : Launch) (e : Env) (s : State) (m : MethodId) (args : Array Value) (below : List Frame) (meth : Method) (c : Code) (Q : State → Prop) (A : Nat → Prop) (dC : Nat → ClassId) (dI : Nat → Nat → Nat) (a : Nat → Nat) (ac : Nat → ClassId) (g : Int32 → (St × (St) × (St × (St × (St))) × (St) × (St)) → Option (Int32 × (St × (St) × (St × (St × (St))) × (St) × (St)))) (r : Int32 × (St × (St) × (St × (St × (St))) × (St) × (St))) : Prop := ∀ (v0 : Int32) (s0 : St × (St) × (St × (St × (St))) × (St) × (St)) (H : Heap) (locs : List Loc) (ls : Array Slot), g v0 s0 = some r → va_P (dC, dI) vwCl (dw_X19 a ac s0) H → va_D A (dw_X19 a ac s0) → va_S A s.heap H locs → lv_has ls 3 [(0, .ref (a 0)), (1, .int v0)] → W p l e (headSpec ow_dm_X19_watch ({ frames := 5, cells := 0, slots := 0, locals := 122 })).room s m args below meth c H locs 0 0 Q (F0 m 0 ls [])
set_option maxHeartbeats 40000000 in
set_option maxRecDepth 100000 in
theorem db_X19_watch_18 {p : Program} {l : Launch} {e : Env} {s : State} {m : MethodId} {args : Array Value} {below : List Frame} {meth : Method} {c : Code} {Q : State → Prop} {A : Nat → Prop} {dC : Nat → ClassId} {dI : Nat → Nat → Nat} {a : Nat → Nat} {ac : Nat → ClassId} {n : Nat} {r : Int32 × (St × (St) × (St × (St × (St))) × (St) × (St))} (C : nd_C p l s m args c A (dC, dI) cX19_watch 3 RX19 ow_dm_X19_watch (dk_X19 ac)) (K : nd_Ki p l e (headSpec ow_dm_X19_watch ({ frames := 5, cells := 0, slots := 0, locals := 122 })).room s m args below meth c Q A (dC, dI) cX19_watch .int (St × (St) × (St × (St × (St))) × (St) × (St)) (dw_X19 a ac) r) : dj_X19_watch_18 p l e s m args below meth c Q A dC dI a ac (df_X19_watch_18 n) r := by
  obtain ⟨hlt, hx, hb, hml, hown, hts, hN, hA, hK⟩ := id C
  intro x1 y1 s0 H locs ls h hP hD hS hl
  unfold df_X19_watch_18 at h
  refine lv_iconst (v := 0) hx hb dX19_watch_18 (by decide) ?_
  obtain ⟨q5, s6, hq, h⟩ := nd_b2_e h
  have hPc := hP
  have hDc := hD
  have hKc := hK
  have hFc := nd_rs hD hS hA
  refine nd_cVi (As := [.int y1, .int 0]) (rest := []) (q := q5) (w' := dw_X19 a ac s6) ⟨hx, hb, hml, hown, hts⟩ (fun sz => dm_X19_fails l hlt dC dI a ac n (y1) (0) s0 hq sz) (cwV 2 hts gi_dm_X19_watch_1 rfl rfl rfl (by decide +kernel) ⟨Nat.le_of_ble_eq_true rfl, Nat.le_of_ble_eq_true rfl⟩) hPc hDc hKc hS hA hN (va_recv hKc hPc (ci := 20) (q0 := 0) rfl rfl) rfl hl.1 rfl (Nat.le_of_ble_eq_true rfl) dX19_watch_19 (fun H locs hP1 hD1 hk1 hS => ?_)
  have hP := hP1
  have hD := hD1.weaken (fun k q _ h => hFc q.1 h)
  refine lv_if_eq (tgt := 27) hx hb dX19_watch_22 (by decide) (fun c8 => ?_) (fun c8 => ?_)
  · have h := nd_pos h c8
    refine lv_aload_n hx hb dX19_watch_27 rfl (lv_at hl 0 rfl) ?_
    refine va_get (D := (dC, dI)) (ci := 20) (v := .ref (a 27)) (C := RX19) (T := TX19) (N := 36) hx hb hts hi_dm_X19_watch_X19 hown hK hP 0 rfl rfl 14 (by decide) (hts (.fieldLink RX19 67 "TimeMachineModel" "conditions" "LTimeMachineModel$Conditions;") (List.mem_of_getElem? (i := 8) rfl)) (fun _ h9 => h9) rfl dX19_watch_28 ?_
    refine lv_iload_n hx hb dX19_watch_31 rfl (lv_at hl 1 rfl) ?_
    refine lv_aload_n hx hb dX19_watch_32 rfl (lv_at hl 0 rfl) ?_
    refine va_get (D := (dC, dI)) (ci := 20) (v := .ref (a 92)) (C := RX19) (T := TX19) (N := 36) hx hb hts hi_dm_X19_watch_X19 hown hK hP 0 rfl rfl 1 (by decide) (hts (.fieldLink RX19 10 "TimeMachineModel" "tape" "[I") (List.mem_of_getElem? (i := 9) rfl)) (fun _ h9 => h9) rfl dX19_watch_33 ?_
    refine lv_aload_n hx hb dX19_watch_36 rfl (lv_at hl 0 rfl) ?_
    refine va_get (D := (dC, dI)) (ci := 20) (v := .int (sI s6.1 1)) (C := RX19) (T := TX19) (N := 36) hx hb hts hi_dm_X19_watch_X19 hown hK hP 0 rfl rfl 2 (by decide) (hts (.fieldLink RX19 117 "TimeMachineModel" "taped" "I") (List.mem_of_getElem? (i := 10) rfl)) (fun _ h9 => h9) rfl dX19_watch_37 ?_
    obtain ⟨q9, s10, hq, h⟩ := nd_b2_e h
    have hPc := dp_vX19_X15t_0 hP
    have hDc := dd_vX19_X15t_0 hD
    have hKc := dy_vX19_X15t_0 hK
    have hFc := nd_rs hDc hS hA
    have hzA : ∀ q : Nat, H.size ≤ q → A q := fun q h => hA q (Nat.le_trans hS.1 h)
    refine nd_cVi (As := [.int x1, .ref (a 92), .int (sI s6.1 1)]) (rest := []) (q := q9) (w' := dw_X15t (nd_cn (a 92) (fun k => a (k + 27))) (nd_cn (ac 92) (fun k => ac (k + 27))) s10) ⟨hx, hb, hml, hown, hts⟩ (fun sz => dm_X15_compile l hlt dC dI (nd_cn (a 92) (fun k => a (k + 27))) (nd_cn (ac 92) (fun k => ac (k + 27))) n (x1) ((sI s6.1 1)) ((pR nd_st0 0 (sR s6.2.2.2.1 3)), s6.2.2.1) hq sz) (cwV 3 hts gi_dm_X19_watch_2 rfl rfl rfl (by decide +kernel) ⟨Nat.le_of_ble_eq_true rfl, Nat.le_of_ble_eq_true rfl⟩) hPc hDc hKc hS hA hN (va_recv hKc hPc (ci := 16) (q0 := 1) rfl rfl) rfl hl.1 rfl (Nat.le_of_ble_eq_true rfl) dX19_watch_40 (fun H locs hP1 hD1 hk1 hS => ?_)
    obtain ⟨hP, hD⟩ := dn_vX19_X15t_0 hP hD hzA hk1 hP1 hD1
    obtain ⟨s12, es12, h⟩ := nd_let_e h
    have hP : va_P (dC, dI) vwCl (dw_X19 a ac s12) H := by rw [es12]; exact hP
    have hD : va_D A (dw_X19 a ac s12) := by rw [es12]; exact hD
    refine lv_istore_n (lv' := [(2, .int q9), (0, .ref (a 0)), (1, .int x1)]) hx hb dX19_watch_43 rfl hl (by decide) rfl (fun ls hl => ?_)
    refine lv_aload_n hx hb dX19_watch_44 rfl (lv_at hl 1 rfl) ?_
    obtain ⟨s14, hq, h⟩ := nd_b1_e h
    have hPc := hP
    have hDc := hD
    have hKc := hK
    have hFc := nd_rs hD hS hA
    refine nd_cVv (As := []) (rest := []) (w' := dw_X19 a ac s14) ⟨hx, hb, hml, hown, hts⟩ (fun sz => dm_X19_use l hlt dC dI a ac n  s12 hq sz) (cwV 0 hts gi_dm_X19_watch_3 rfl rfl rfl (by decide +kernel) ⟨Nat.le_of_ble_eq_true rfl, Nat.le_of_ble_eq_true rfl⟩) hPc hDc hKc hS hA hN (va_recv hKc hPc (ci := 20) (q0 := 0) rfl rfl) rfl hl.1 rfl (Nat.le_of_ble_eq_true rfl) dX19_watch_45 (fun H locs hP1 hD1 hk1 hS => ?_)
    have hP := hP1
    have hD := hD1.weaken (fun k q _ h => hFc q.1 h)
    refine lv_iload_n hx hb dX19_watch_48 rfl (lv_at hl 0 rfl) ?_
    exact K _ _ _ _ _ _ dX19_watch_49 rfl (Option.some.inj h).symm hP hD hS
  · have h := nd_neg h c8
    refine lv_iconst (v := 0) hx hb dX19_watch_25 (by decide) ?_
    exact K _ _ _ _ _ _ dX19_watch_26 rfl (Option.some.inj h).symm hP hD hS
set_option maxHeartbeats 40000000 in
set_option maxRecDepth 100000 in
theorem db_X19_watch_0 {p : Program} {l : Launch} {e : Env} {s : State} {m : MethodId} {args : Array Value} {below : List Frame} {meth : Method} {c : Code} {Q : State → Prop} {A : Nat → Prop} {dC : Nat → ClassId} {dI : Nat → Nat → Nat} {a : Nat → Nat} {ac : Nat → ClassId} {n : Nat} {r : Int32 × (St × (St) × (St × (St × (St))) × (St) × (St))} (C : nd_C p l s m args c A (dC, dI) cX19_watch 3 RX19 ow_dm_X19_watch (dk_X19 ac)) (K : nd_Ki p l e (headSpec ow_dm_X19_watch ({ frames := 5, cells := 0, slots := 0, locals := 122 })).room s m args below meth c Q A (dC, dI) cX19_watch .int (St × (St) × (St × (St × (St))) × (St) × (St)) (dw_X19 a ac) r) : dj_X19_watch_0 p l e s m args below meth c Q A dC dI a ac (df_X19_watch_0 n) r := by
  obtain ⟨hlt, hx, hb, hml, hown, hts, hN, hA, hK⟩ := id C
  intro v0 s0 H locs ls h hP hD hS hl
  unfold df_X19_watch_0 at h
  refine lv_aload_n hx hb dX19_watch_0 rfl (lv_at hl 0 rfl) ?_
  refine lv_iload_n hx hb dX19_watch_1 rfl (lv_at hl 1 rfl) ?_
  refine lv_i2l hx hb dX19_watch_2 rfl ?_
  refine lv_lconst (v := 0) hx hb dX19_watch_3 (by decide) ?_
  refine lv_ldc2 hx hb hown (hts (.constantLong RX19 302 (7)) (List.mem_of_getElem? (i := 1) rfl)) dX19_watch_4 ?_
  obtain ⟨q1, s2, hq, h⟩ := nd_b2_e h
  have hPc : va_P (dC, dI) vwCl (dw_P a ac ()) H := nd_p0
  have hDc : va_D A (dw_P a ac ()) := nd_d0
  have hKc : va_K (dC, dI) vwCl (dk_P ac) s := nd_y0 hK
  have hFc : ∀ q, va_A (dw_P a ac ()) H.size q → A q := nd_r0 hS hA
  refine nd_cSi (As := [.long (v0.toInt64), .long 0, .long 7]) (rest := [.ref (a 0)]) (q := q1) (w' := dw_P a ac s2) ⟨hx, hb, hml, hown, hts⟩ (fun sz => dm_X19_in l hlt dC dI a ac n ((v0.toInt64)) (0) (7) () hq sz) (cwS 3 hts gi_dm_X19_watch_0 rfl rfl rfl (by decide +kernel) ⟨Nat.le_of_ble_eq_true rfl, Nat.le_of_ble_eq_true rfl⟩) hPc hDc hKc hS hA hN rfl hl.1 rfl (Nat.le_of_ble_eq_true rfl) dX19_watch_7 (fun H locs hP1 hD1 hk1 hS => ?_)
  have hP := nd_n0 hP hk1
  refine lv_if_ne (tgt := 17) hx hb dX19_watch_10 (by decide) (fun c4 => ?_) (fun c4 => ?_)
  · have h := nd_neg h c4
    refine lv_iconst (v := 0) hx hb dX19_watch_17 (by decide) ?_
    exact (db_X19_watch_18 C K) (v0) (0) s0 _ _ _ h hP hD hS (lv_sub hl [0, 1] rfl)
  · have h := nd_pos h c4
    refine lv_iconst (v := 1) hx hb dX19_watch_13 (by decide) ?_
    refine lv_goto (tgt := 18) hx hb dX19_watch_14 (by decide) ?_
    exact (db_X19_watch_18 C K) (v0) (1) s0 _ _ _ h hP hD hS (lv_sub hl [0, 1] rfl)
set_option maxHeartbeats 40000000 in
set_option maxRecDepth 100000 in
theorem dm_X19_watch (l : Launch) (hlt : l.stackTraces = false) (dC : Nat → ClassId) (dI : Nat → Nat → Nat) (a : Nat → Nat) (ac : Nat → ClassId) (n : Nat) (v0 : Int32) (s0 : St × (St) × (St × (St × (St))) × (St) × (St)) {r : Int32 × (St × (St) × (St × (St × (St))) × (St) × (St))} (h : df_X19_watch n v0 s0 = some r) (sz : Nat) : Met l yX19_watch ow_dm_X19_watch ({ frames := 5, cells := 0, slots := 0, locals := 122 }) (va_Pc [.ref (a 0), .int v0] (fun U => U.heap.size = sz ∧ va_P (dC, dI) vwCl (dw_X19 a ac s0) U.heap ∧ va_K (dC, dI) vwCl (dk_X19 ac) U ∧ va_D (fun _ => True) (dw_X19 a ac s0) ∧ nv_E dI (va_A (dw_X19 a ac s0) sz) U)) (va_Qi (fun x _ => x = r.1) (fun (_ : Unit) t => va_P (dC, dI) vwCl (dw_X19 a ac r.2) t.heap ∧ va_K (dC, dI) vwCl (dk_X19 ac) t ∧ va_D (va_A (dw_X19 a ac s0) sz) (dw_X19 a ac r.2)) (va_A (dw_X19 a ac s0) sz)) 0 0 (va_A (dw_X19 a ac s0) sz) := by
  refine Met.ofW (cc := cX19_watch) (maxL := 3) (ret := (some .int)) (by decide) rfl ?_
  intro p e s m args below meth c s₁ B hml hv
  obtain ⟨rfl, hsz, hP, hK, hD0, hN⟩ := hv
  have hx := B.exec
  have hb := B.bytes
  have hr := B.returns
  have hts := atoms_spec (ws := ow_dm_X19_watch) B.pre
  have hown : s.vm.findClass RX19 = some m.cls := findClass_of_methodNamed B.named
  have hlocks := B.notSynchronized
  subst hsz
  have hD := hD0.self (sz := s.heap.size)
  generalize hAe : va_A (dw_X19 a ac s0) s.heap.size = A at hD hN ⊢
  have hA : ∀ q : Nat, s.heap.size ≤ q → A q := fun q h => by rw [← hAe]; exact Or.inr h
  have hl := lv_entry ([.ref (a 0), .int v0]) (n := 3) (Nat.le_of_ble_eq_true rfl)
  rw [lg_entry_eq]
  generalize (lg_sl ([.ref (a 0), .int v0]) ++ List.replicate (3 - (lg_sl ([.ref (a 0), .int v0])).length) Slot.unset).toArray = ls at hl ⊢
  have hl : lv_has ls 3 [(0, .ref (a 0)), (1, .int v0)] := hl
  exact db_X19_watch_0 (dC := dC) (dI := dI) (a := a) (ac := ac) (n := n) (r := r) ⟨hlt, hx, hb, hml, hown, hts, hN, hA, hK⟩ (fun pc v τ H locs ls d z er hP hD hS => by subst er; exact W.zret (v := v) hx hb hr z (fun t ht hW => ⟨⟨v, (), rfl, rfl, by rw [ht]; exact hP, va_K.moved hW.alike hK, hD⟩, hS.F ht⟩) hS.2.2 d) v0 s0 _ _ _ h hP hD va_S.rf (lv_sub hl [0, 1] rfl)
def ow_dm_X19_drop : List Cond := Cond.code yX19_drop cX19_drop 2 (some .boolean) :: ([Cond.constantLong RX19 302 (7), Cond.methodLink RX19 126 yX19_in, Cond.static yX19_in, Cond.initialized RX19, Cond.methodLink RX19 136 yX19_fails, Cond.instanceMethod yX19_fails, Cond.selects RX19 yX19_fails yX19_fails, Cond.fieldLink RX19 67 "TimeMachineModel" "conditions" "LTimeMachineModel$Conditions;", Cond.methodLink RX19 308 yX15_drop, Cond.instanceMethod yX15_drop, Cond.selects RX15 yX15_drop yX15_drop, Cond.initialized RX15] ++ (u_ws RX19 TX19 36 ++ (ow_dm_X19_in ++ (ow_dm_X19_fails ++ (ow_dm_X15_drop ++ [])))))
theorem gd_dm_X19_drop : ∀ w ∈ ow_dm_X19_drop, (w.onTables && w.keeps) = true ∨ ∃ ty, w = Cond.arrayClass ty := List.forall_mem_cons.mpr ⟨good_of_word rfl, List.forall_mem_append.mpr ⟨fun w h => good_of_word (List.all_eq_true.mp (by decide +kernel) w h), List.forall_mem_append.mpr ⟨gu_X19, List.forall_mem_append.mpr ⟨gd_dm_X19_in, List.forall_mem_append.mpr ⟨gd_dm_X19_fails, List.forall_mem_append.mpr ⟨gd_dm_X15_drop, fun _ h => nomatch h⟩⟩⟩⟩⟩⟩
theorem hi_dm_X19_drop_X19 : ∀ w ∈ u_ws RX19 TX19 36, w ∈ ow_dm_X19_drop := fun w h => List.mem_cons_of_mem _ (List.mem_append_right _ (List.mem_append_left _ h))
theorem gi_dm_X19_drop_0 : GoodIn ow_dm_X19_drop (wsS RX19 126 yX19_in ow_dm_X19_in) := goodIn_app (goodIn_of _ (by decide +kernel)) (fun w h => ⟨List.mem_cons_of_mem _ (List.mem_append_right _ (List.mem_append_right _ (List.mem_append_left _ h))), gd_dm_X19_in w h⟩)
theorem gi_dm_X19_drop_1 : GoodIn ow_dm_X19_drop (wsV RX19 136 RX19 yX19_fails ow_dm_X19_fails) := goodIn_app (goodIn_of _ (by decide +kernel)) (fun w h => ⟨List.mem_cons_of_mem _ (List.mem_append_right _ (List.mem_append_right _ (List.mem_append_right _ (List.mem_append_left _ h)))), gd_dm_X19_fails w h⟩)
theorem gi_dm_X19_drop_2 : GoodIn ow_dm_X19_drop (wsV RX19 308 RX15 yX15_drop ow_dm_X15_drop) := goodIn_app (goodIn_of _ (by decide +kernel)) (fun w h => ⟨List.mem_cons_of_mem _ (List.mem_append_right _ (List.mem_append_right _ (List.mem_append_right _ (List.mem_append_right _ (List.mem_append_left _ h))))), gd_dm_X15_drop w h⟩)
def dj_X19_drop_41 (p : Program) (l : Launch) (e : Env) (s : State) (m : MethodId) (args : Array Value) (below : List Frame) (meth : Method) (c : Code) (Q : State → Prop) (A : Nat → Prop) (dC : Nat → ClassId) (dI : Nat → Nat → Nat) (a : Nat → Nat) (ac : Nat → ClassId) (g : Int32 → (St × (St) × (St × (St × (St))) × (St) × (St)) → Option (Int32 × (St × (St) × (St × (St × (St))) × (St) × (St)))) (r : Int32 × (St × (St) × (St × (St × (St))) × (St) × (St))) : Prop := ∀ (y0 : Int32) (s0 : St × (St) × (St × (St × (St))) × (St) × (St)) (H : Heap) (locs : List Loc) (ls : Array Slot), g y0 s0 = some r → va_P (dC, dI) vwCl (dw_X19 a ac s0) H → va_D A (dw_X19 a ac s0) → va_S A s.heap H locs → lv_has ls 2 [] → W p l e (headSpec ow_dm_X19_drop ({ frames := 1, cells := 0, slots := 0, locals := 25 })).room s m args below meth c H locs 0 0 Q (F0 m 41 ls [.int y0])
def dj_X19_drop_40 (p : Program) (l : Launch) (e : Env) (s : State) (m : MethodId) (args : Array Value) (below : List Frame) (meth : Method) (c : Code) (Q : State → Prop) (A : Nat → Prop) (dC : Nat → ClassId) (dI : Nat → Nat → Nat) (a : Nat → Nat) (ac : Nat → ClassId) (g : (St × (St) × (St × (St × (St))) × (St) × (St)) → Option (Int32 × (St × (St) × (St × (St × (St))) × (St) × (St)))) (r : Int32 × (St × (St) × (St × (St × (St))) × (St) × (St))) : Prop := ∀ (s0 : St × (St) × (St × (St × (St))) × (St) × (St)) (H : Heap) (locs : List Loc) (ls : Array Slot), g s0 = some r → va_P (dC, dI) vwCl (dw_X19 a ac s0) H → va_D A (dw_X19 a ac s0) → va_S A s.heap H locs → lv_has ls 2 [] → W p l e (headSpec ow_dm_X19_drop ({ frames := 1, cells := 0, slots := 0, locals := 25 })).room s m args below meth c H locs 0 0 Q (F0 m 40 ls [])
def dj_X19_drop_18 (p : Program) (l : Launch) (e : Env) (s : State) (m : MethodId) (args : Array Value) (below : List Frame) (meth : Method) (c : Code) (Q : State → Prop) (A : Nat → Prop) (dC : Nat → ClassId) (dI : Nat → Nat → Nat) (a : Nat → Nat) (ac : Nat → ClassId) (g : Int32 → Int32 → (St × (St) × (St × (St × (St))) × (St) × (St)) → Option (Int32 × (St × (St) × (St × (St × (St))) × (St) × (St)))) (r : Int32 × (St × (St) × (St × (St × (St))) × (St) × (St))) : Prop := ∀ (x1 : Int32) (y1 : Int32) (s0 : St × (St) × (St × (St × (St))) × (St) × (St)) (H : Heap) (locs : List Loc) (ls : Array Slot), g x1 y1 s0 = some r → va_P (dC, dI) vwCl (dw_X19 a ac s0) H → va_D A (dw_X19 a ac s0) → va_S A s.heap H locs → lv_has ls 2 [(0, .ref (a 0)), (1, .int x1)] → W p l e (headSpec ow_dm_X19_drop ({ frames := 1, cells := 0, slots := 0, locals := 25 })).room s m args below meth c H locs 0 0 Q (F0 m 18 ls [.int y1, .ref (a 0)])
def dj_X19_drop_0 (p : Program) (l : Launch) (e : Env) (s : State) (m : MethodId) (args : Array Value) (below : List Frame) (meth : Method) (c : Code) (Q : State → Prop) (A : Nat → Prop) (dC : Nat → ClassId) (dI : Nat → Nat → Nat) (a : Nat → Nat) (ac : Nat → ClassId) (g : Int32 → (St × (St) × (St × (St × (St))) × (St) × (St)) → Option (Int32 × (St × (St) × (St × (St × (St))) × (St) × (St)))) (r : Int32 × (St × (St) × (St × (St × (St))) × (St) × (St))) : Prop := ∀ (v0 : Int32) (s0 : St × (St) × (St × (St × (St))) × (St) × (St)) (H : Heap) (locs : List Loc) (ls : Array Slot), g v0 s0 = some r → va_P (dC, dI) vwCl (dw_X19 a ac s0) H → va_D A (dw_X19 a ac s0) → va_S A s.heap H locs → lv_has ls 2 [(0, .ref (a 0)), (1, .int v0)] → W p l e (headSpec ow_dm_X19_drop ({ frames := 1, cells := 0, slots := 0, locals := 25 })).room s m args below meth c H locs 0 0 Q (F0 m 0 ls [])
set_option maxHeartbeats 40000000 in
set_option maxRecDepth 100000 in
theorem db_X19_drop_41 {p : Program} {l : Launch} {e : Env} {s : State} {m : MethodId} {args : Array Value} {below : List Frame} {meth : Method} {c : Code} {Q : State → Prop} {A : Nat → Prop} {dC : Nat → ClassId} {dI : Nat → Nat → Nat} {a : Nat → Nat} {ac : Nat → ClassId} {n : Nat} {r : Int32 × (St × (St) × (St × (St × (St))) × (St) × (St))} (C : nd_C p l s m args c A (dC, dI) cX19_drop 2 RX19 ow_dm_X19_drop (dk_X19 ac)) (K : nd_Ki p l e (headSpec ow_dm_X19_drop ({ frames := 1, cells := 0, slots := 0, locals := 25 })).room s m args below meth c Q A (dC, dI) cX19_drop .boolean (St × (St) × (St × (St × (St))) × (St) × (St)) (dw_X19 a ac) r) : dj_X19_drop_41 p l e s m args below meth c Q A dC dI a ac (df_X19_drop_41 n) r := by
  obtain ⟨hlt, hx, hb, hml, hown, hts, hN, hA, hK⟩ := id C
  intro y0 s0 H locs ls h hP hD hS hl
  unfold df_X19_drop_41 at h
  obtain ⟨n9, h⟩ := nd_z_e ⟨_, rfl⟩ h
  exact K _ _ _ _ _ _ dX19_drop_41 n9 (Option.some.inj h).symm hP hD hS
set_option maxHeartbeats 40000000 in
set_option maxRecDepth 100000 in
theorem db_X19_drop_40 {p : Program} {l : Launch} {e : Env} {s : State} {m : MethodId} {args : Array Value} {below : List Frame} {meth : Method} {c : Code} {Q : State → Prop} {A : Nat → Prop} {dC : Nat → ClassId} {dI : Nat → Nat → Nat} {a : Nat → Nat} {ac : Nat → ClassId} {n : Nat} {r : Int32 × (St × (St) × (St × (St × (St))) × (St) × (St))} (C : nd_C p l s m args c A (dC, dI) cX19_drop 2 RX19 ow_dm_X19_drop (dk_X19 ac)) (K : nd_Ki p l e (headSpec ow_dm_X19_drop ({ frames := 1, cells := 0, slots := 0, locals := 25 })).room s m args below meth c Q A (dC, dI) cX19_drop .boolean (St × (St) × (St × (St × (St))) × (St) × (St)) (dw_X19 a ac) r) : dj_X19_drop_40 p l e s m args below meth c Q A dC dI a ac (df_X19_drop_40 n) r := by
  obtain ⟨hlt, hx, hb, hml, hown, hts, hN, hA, hK⟩ := id C
  intro s0 H locs ls h hP hD hS hl
  unfold df_X19_drop_40 at h
  refine lv_iconst (v := 0) hx hb dX19_drop_40 (by decide) ?_
  exact (db_X19_drop_41 C K) (0) s0 _ _ _ h hP hD hS (lv_sub hl [] rfl)
set_option maxHeartbeats 40000000 in
set_option maxRecDepth 100000 in
theorem db_X19_drop_18 {p : Program} {l : Launch} {e : Env} {s : State} {m : MethodId} {args : Array Value} {below : List Frame} {meth : Method} {c : Code} {Q : State → Prop} {A : Nat → Prop} {dC : Nat → ClassId} {dI : Nat → Nat → Nat} {a : Nat → Nat} {ac : Nat → ClassId} {n : Nat} {r : Int32 × (St × (St) × (St × (St × (St))) × (St) × (St))} (C : nd_C p l s m args c A (dC, dI) cX19_drop 2 RX19 ow_dm_X19_drop (dk_X19 ac)) (K : nd_Ki p l e (headSpec ow_dm_X19_drop ({ frames := 1, cells := 0, slots := 0, locals := 25 })).room s m args below meth c Q A (dC, dI) cX19_drop .boolean (St × (St) × (St × (St × (St))) × (St) × (St)) (dw_X19 a ac) r) : dj_X19_drop_18 p l e s m args below meth c Q A dC dI a ac (df_X19_drop_18 n) r := by
  obtain ⟨hlt, hx, hb, hml, hown, hts, hN, hA, hK⟩ := id C
  intro x1 y1 s0 H locs ls h hP hD hS hl
  unfold df_X19_drop_18 at h
  refine lv_iconst (v := 0) hx hb dX19_drop_18 (by decide) ?_
  obtain ⟨q5, s6, hq, h⟩ := nd_b2_e h
  have hPc := hP
  have hDc := hD
  have hKc := hK
  have hFc := nd_rs hD hS hA
  refine nd_cVi (As := [.int y1, .int 0]) (rest := []) (q := q5) (w' := dw_X19 a ac s6) ⟨hx, hb, hml, hown, hts⟩ (fun sz => dm_X19_fails l hlt dC dI a ac n (y1) (0) s0 hq sz) (cwV 2 hts gi_dm_X19_drop_1 rfl rfl rfl (by decide +kernel) ⟨Nat.le_of_ble_eq_true rfl, Nat.le_of_ble_eq_true rfl⟩) hPc hDc hKc hS hA hN (va_recv hKc hPc (ci := 20) (q0 := 0) rfl rfl) rfl hl.1 rfl (Nat.le_of_ble_eq_true rfl) dX19_drop_19 (fun H locs hP1 hD1 hk1 hS => ?_)
  have hP := hP1
  have hD := hD1.weaken (fun k q _ h => hFc q.1 h)
  refine lv_if_ne (tgt := 40) hx hb dX19_drop_22 (by decide) (fun c8 => ?_) (fun c8 => ?_)
  · have h := nd_neg h c8
    exact (db_X19_drop_40 C K)  s6 _ _ _ h hP hD hS (lv_sub hl [] rfl)
  · have h := nd_pos h c8
    refine lv_aload_n hx hb dX19_drop_25 rfl (lv_at hl 0 rfl) ?_
    refine va_get (D := (dC, dI)) (ci := 20) (v := .ref (a 27)) (C := RX19) (T := TX19) (N := 36) hx hb hts hi_dm_X19_drop_X19 hown hK hP 0 rfl rfl 14 (by decide) (hts (.fieldLink RX19 67 "TimeMachineModel" "conditions" "LTimeMachineModel$Conditions;") (List.mem_of_getElem? (i := 8) rfl)) (fun _ h9 => h9) rfl dX19_drop_26 ?_
    refine lv_iload_n hx hb dX19_drop_29 rfl (lv_at hl 1 rfl) ?_
    obtain ⟨q10, s11, hq, h⟩ := nd_b2_e h
    have hPc := dp_X19_27 hP
    have hDc := dd_X19_27 hD
    have hKc := dy_X19_27 hK
    have hFc := nd_rs hDc hS hA
    have hzA : ∀ q : Nat, H.size ≤ q → A q := fun q h => hA q (Nat.le_trans hS.1 h)
    refine nd_cVi (As := [.int x1]) (rest := []) (q := q10) (w' := dw_X15 (fun k => a (k + 27)) (fun k => ac (k + 27)) s11) ⟨hx, hb, hml, hown, hts⟩ (fun sz => dm_X15_drop l hlt dC dI (fun k => a (k + 27)) (fun k => ac (k + 27)) n (x1) s6.2.2.1 hq sz) (cwV 1 hts gi_dm_X19_drop_2 rfl rfl rfl (by decide +kernel) ⟨Nat.le_of_ble_eq_true rfl, Nat.le_of_ble_eq_true rfl⟩) hPc hDc hKc hS hA hN (va_recv hKc hPc (ci := 16) (q0 := 0) rfl rfl) rfl hl.1 rfl (Nat.le_of_ble_eq_true rfl) dX19_drop_30 (fun H locs hP1 hD1 hk1 hS => ?_)
    obtain ⟨hP, hD⟩ := dn_X19_27 hP hD hzA hk1 hP1 hD1
    obtain ⟨s13, es13, h⟩ := nd_let_e h
    have hP : va_P (dC, dI) vwCl (dw_X19 a ac s13) H := by rw [es13]; exact hP
    have hD : va_D A (dw_X19 a ac s13) := by rw [es13]; exact hD
    refine lv_if_eq (tgt := 40) hx hb dX19_drop_33 (by decide) (fun c14 => ?_) (fun c14 => ?_)
    · have h := nd_pos h c14
      exact (db_X19_drop_40 C K)  s13 _ _ _ h hP hD hS (lv_sub hl [] rfl)
    · have h := nd_neg h c14
      refine lv_iconst (v := 1) hx hb dX19_drop_36 (by decide) ?_
      refine lv_goto (tgt := 41) hx hb dX19_drop_37 (by decide) ?_
      exact (db_X19_drop_41 C K) (1) s13 _ _ _ h hP hD hS (lv_sub hl [] rfl)
set_option maxHeartbeats 40000000 in
set_option maxRecDepth 100000 in
theorem db_X19_drop_0 {p : Program} {l : Launch} {e : Env} {s : State} {m : MethodId} {args : Array Value} {below : List Frame} {meth : Method} {c : Code} {Q : State → Prop} {A : Nat → Prop} {dC : Nat → ClassId} {dI : Nat → Nat → Nat} {a : Nat → Nat} {ac : Nat → ClassId} {n : Nat} {r : Int32 × (St × (St) × (St × (St × (St))) × (St) × (St))} (C : nd_C p l s m args c A (dC, dI) cX19_drop 2 RX19 ow_dm_X19_drop (dk_X19 ac)) (K : nd_Ki p l e (headSpec ow_dm_X19_drop ({ frames := 1, cells := 0, slots := 0, locals := 25 })).room s m args below meth c Q A (dC, dI) cX19_drop .boolean (St × (St) × (St × (St × (St))) × (St) × (St)) (dw_X19 a ac) r) : dj_X19_drop_0 p l e s m args below meth c Q A dC dI a ac (df_X19_drop_0 n) r := by
  obtain ⟨hlt, hx, hb, hml, hown, hts, hN, hA, hK⟩ := id C
  intro v0 s0 H locs ls h hP hD hS hl
  unfold df_X19_drop_0 at h
  refine lv_aload_n hx hb dX19_drop_0 rfl (lv_at hl 0 rfl) ?_
  refine lv_iload_n hx hb dX19_drop_1 rfl (lv_at hl 1 rfl) ?_
  refine lv_i2l hx hb dX19_drop_2 rfl ?_
  refine lv_lconst (v := 0) hx hb dX19_drop_3 (by decide) ?_
  refine lv_ldc2 hx hb hown (hts (.constantLong RX19 302 (7)) (List.mem_of_getElem? (i := 1) rfl)) dX19_drop_4 ?_
  obtain ⟨q1, s2, hq, h⟩ := nd_b2_e h
  have hPc : va_P (dC, dI) vwCl (dw_P a ac ()) H := nd_p0
  have hDc : va_D A (dw_P a ac ()) := nd_d0
  have hKc : va_K (dC, dI) vwCl (dk_P ac) s := nd_y0 hK
  have hFc : ∀ q, va_A (dw_P a ac ()) H.size q → A q := nd_r0 hS hA
  refine nd_cSi (As := [.long (v0.toInt64), .long 0, .long 7]) (rest := [.ref (a 0)]) (q := q1) (w' := dw_P a ac s2) ⟨hx, hb, hml, hown, hts⟩ (fun sz => dm_X19_in l hlt dC dI a ac n ((v0.toInt64)) (0) (7) () hq sz) (cwS 3 hts gi_dm_X19_drop_0 rfl rfl rfl (by decide +kernel) ⟨Nat.le_of_ble_eq_true rfl, Nat.le_of_ble_eq_true rfl⟩) hPc hDc hKc hS hA hN rfl hl.1 rfl (Nat.le_of_ble_eq_true rfl) dX19_drop_7 (fun H locs hP1 hD1 hk1 hS => ?_)
  have hP := nd_n0 hP hk1
  refine lv_if_ne (tgt := 17) hx hb dX19_drop_10 (by decide) (fun c4 => ?_) (fun c4 => ?_)
  · have h := nd_neg h c4
    refine lv_iconst (v := 0) hx hb dX19_drop_17 (by decide) ?_
    exact (db_X19_drop_18 C K) (v0) (0) s0 _ _ _ h hP hD hS (lv_sub hl [0, 1] rfl)
  · have h := nd_pos h c4
    refine lv_iconst (v := 1) hx hb dX19_drop_13 (by decide) ?_
    refine lv_goto (tgt := 18) hx hb dX19_drop_14 (by decide) ?_
    exact (db_X19_drop_18 C K) (v0) (1) s0 _ _ _ h hP hD hS (lv_sub hl [0, 1] rfl)
set_option maxHeartbeats 40000000 in
set_option maxRecDepth 100000 in
theorem dm_X19_drop (l : Launch) (hlt : l.stackTraces = false) (dC : Nat → ClassId) (dI : Nat → Nat → Nat) (a : Nat → Nat) (ac : Nat → ClassId) (n : Nat) (v0 : Int32) (s0 : St × (St) × (St × (St × (St))) × (St) × (St)) {r : Int32 × (St × (St) × (St × (St × (St))) × (St) × (St))} (h : df_X19_drop n v0 s0 = some r) (sz : Nat) : Met l yX19_drop ow_dm_X19_drop ({ frames := 1, cells := 0, slots := 0, locals := 25 }) (va_Pc [.ref (a 0), .int v0] (fun U => U.heap.size = sz ∧ va_P (dC, dI) vwCl (dw_X19 a ac s0) U.heap ∧ va_K (dC, dI) vwCl (dk_X19 ac) U ∧ va_D (fun _ => True) (dw_X19 a ac s0) ∧ nv_E dI (va_A (dw_X19 a ac s0) sz) U)) (va_Qi (fun x _ => x = r.1) (fun (_ : Unit) t => va_P (dC, dI) vwCl (dw_X19 a ac r.2) t.heap ∧ va_K (dC, dI) vwCl (dk_X19 ac) t ∧ va_D (va_A (dw_X19 a ac s0) sz) (dw_X19 a ac r.2)) (va_A (dw_X19 a ac s0) sz)) 0 0 (va_A (dw_X19 a ac s0) sz) := by
  refine Met.ofW (cc := cX19_drop) (maxL := 2) (ret := (some .boolean)) (by decide) rfl ?_
  intro p e s m args below meth c s₁ B hml hv
  obtain ⟨rfl, hsz, hP, hK, hD0, hN⟩ := hv
  have hx := B.exec
  have hb := B.bytes
  have hr := B.returns
  have hts := atoms_spec (ws := ow_dm_X19_drop) B.pre
  have hown : s.vm.findClass RX19 = some m.cls := findClass_of_methodNamed B.named
  have hlocks := B.notSynchronized
  subst hsz
  have hD := hD0.self (sz := s.heap.size)
  generalize hAe : va_A (dw_X19 a ac s0) s.heap.size = A at hD hN ⊢
  have hA : ∀ q : Nat, s.heap.size ≤ q → A q := fun q h => by rw [← hAe]; exact Or.inr h
  have hl := lv_entry ([.ref (a 0), .int v0]) (n := 2) (Nat.le_of_ble_eq_true rfl)
  rw [lg_entry_eq]
  generalize (lg_sl ([.ref (a 0), .int v0]) ++ List.replicate (2 - (lg_sl ([.ref (a 0), .int v0])).length) Slot.unset).toArray = ls at hl ⊢
  have hl : lv_has ls 2 [(0, .ref (a 0)), (1, .int v0)] := hl
  exact db_X19_drop_0 (dC := dC) (dI := dI) (a := a) (ac := ac) (n := n) (r := r) ⟨hlt, hx, hb, hml, hown, hts, hN, hA, hK⟩ (fun pc v τ H locs ls d z er hP hD hS => by subst er; exact W.zret (v := v) hx hb hr z (fun t ht hW => ⟨⟨v, (), rfl, rfl, by rw [ht]; exact hP, va_K.moved hW.alike hK, hD⟩, hS.F ht⟩) hS.2.2 d) v0 s0 _ _ _ h hP hD va_S.rf (lv_sub hl [0, 1] rfl)
def ow_dm_X19_value : List Cond := Cond.code yX19_value cX19_value 3 (some .long) :: ([Cond.constantLong RX19 302 (7), Cond.methodLink RX19 126 yX19_in, Cond.static yX19_in, Cond.initialized RX19, Cond.methodLink RX19 136 yX19_fails, Cond.instanceMethod yX19_fails, Cond.selects RX19 yX19_fails yX19_fails, Cond.fieldLink RX19 234 "TimeMachineModel" "now" "I", Cond.methodLink RX19 266 yX19_come, Cond.instanceMethod yX19_come, Cond.selects RX19 yX19_come yX19_come, Cond.fieldLink RX19 67 "TimeMachineModel" "conditions" "LTimeMachineModel$Conditions;", Cond.methodLink RX19 280 yX15_remember, Cond.instanceMethod yX15_remember, Cond.selects RX15 yX15_remember yX15_remember, Cond.initialized RX15, Cond.methodLink RX19 276 yX15_value, Cond.instanceMethod yX15_value, Cond.selects RX15 yX15_value yX15_value, Cond.fieldLink RX19 231 "TimeMachineModel" "booted" "Z", Cond.methodLink RX19 273 yX15_isThere, Cond.instanceMethod yX15_isThere, Cond.selects RX15 yX15_isThere yX15_isThere] ++ (u_ws RX19 TX19 36 ++ (ow_dm_X19_in ++ (ow_dm_X19_fails ++ (ow_dm_X19_come ++ (ow_dm_X15_remember ++ (ow_dm_X15_value ++ (ow_dm_X15_isThere ++ []))))))))
theorem gd_dm_X19_value : ∀ w ∈ ow_dm_X19_value, (w.onTables && w.keeps) = true ∨ ∃ ty, w = Cond.arrayClass ty := List.forall_mem_cons.mpr ⟨good_of_word rfl, List.forall_mem_append.mpr ⟨fun w h => good_of_word (List.all_eq_true.mp (by decide +kernel) w h), List.forall_mem_append.mpr ⟨gu_X19, List.forall_mem_append.mpr ⟨gd_dm_X19_in, List.forall_mem_append.mpr ⟨gd_dm_X19_fails, List.forall_mem_append.mpr ⟨gd_dm_X19_come, List.forall_mem_append.mpr ⟨gd_dm_X15_remember, List.forall_mem_append.mpr ⟨gd_dm_X15_value, List.forall_mem_append.mpr ⟨gd_dm_X15_isThere, fun _ h => nomatch h⟩⟩⟩⟩⟩⟩⟩⟩⟩
theorem hi_dm_X19_value_X19 : ∀ w ∈ u_ws RX19 TX19 36, w ∈ ow_dm_X19_value := fun w h => List.mem_cons_of_mem _ (List.mem_append_right _ (List.mem_append_left _ h))
theorem gi_dm_X19_value_0 : GoodIn ow_dm_X19_value (wsS RX19 126 yX19_in ow_dm_X19_in) := goodIn_app (goodIn_of _ (by decide +kernel)) (fun w h => ⟨List.mem_cons_of_mem _ (List.mem_append_right _ (List.mem_append_right _ (List.mem_append_left _ h))), gd_dm_X19_in w h⟩)
theorem gi_dm_X19_value_1 : GoodIn ow_dm_X19_value (wsV RX19 136 RX19 yX19_fails ow_dm_X19_fails) := goodIn_app (goodIn_of _ (by decide +kernel)) (fun w h => ⟨List.mem_cons_of_mem _ (List.mem_append_right _ (List.mem_append_right _ (List.mem_append_right _ (List.mem_append_left _ h)))), gd_dm_X19_fails w h⟩)
theorem gi_dm_X19_value_2 : GoodIn ow_dm_X19_value (wsV RX19 266 RX19 yX19_come ow_dm_X19_come) := goodIn_app (goodIn_of _ (by decide +kernel)) (fun w h => ⟨List.mem_cons_of_mem _ (List.mem_append_right _ (List.mem_append_right _ (List.mem_append_right _ (List.mem_append_right _ (List.mem_append_left _ h))))), gd_dm_X19_come w h⟩)
theorem gi_dm_X19_value_3 : GoodIn ow_dm_X19_value (wsV RX19 280 RX15 yX15_remember ow_dm_X15_remember) := goodIn_app (goodIn_of _ (by decide +kernel)) (fun w h => ⟨List.mem_cons_of_mem _ (List.mem_append_right _ (List.mem_append_right _ (List.mem_append_right _ (List.mem_append_right _ (List.mem_append_right _ (List.mem_append_left _ h)))))), gd_dm_X15_remember w h⟩)
theorem gi_dm_X19_value_4 : GoodIn ow_dm_X19_value (wsV RX19 276 RX15 yX15_value ow_dm_X15_value) := goodIn_app (goodIn_of _ (by decide +kernel)) (fun w h => ⟨List.mem_cons_of_mem _ (List.mem_append_right _ (List.mem_append_right _ (List.mem_append_right _ (List.mem_append_right _ (List.mem_append_right _ (List.mem_append_right _ (List.mem_append_left _ h))))))), gd_dm_X15_value w h⟩)
theorem gi_dm_X19_value_5 : GoodIn ow_dm_X19_value (wsV RX19 273 RX15 yX15_isThere ow_dm_X15_isThere) := goodIn_app (goodIn_of _ (by decide +kernel)) (fun w h => ⟨List.mem_cons_of_mem _ (List.mem_append_right _ (List.mem_append_right _ (List.mem_append_right _ (List.mem_append_right _ (List.mem_append_right _ (List.mem_append_right _ (List.mem_append_right _ (List.mem_append_left _ h)))))))), gd_dm_X15_isThere w h⟩)
def dj_X19_value_76 (p : Program) (l : Launch) (e : Env) (s : State) (m : MethodId) (args : Array Value) (below : List Frame) (meth : Method) (c : Code) (Q : State → Prop) (A : Nat → Prop) (dC : Nat → ClassId) (dI : Nat → Nat → Nat) (a : Nat → Nat) (ac : Nat → ClassId) (g : Int32 → Int32 → (St × (St) × (St × (St × (St))) × (St) × (St)) → Option (Int64 × (St × (St) × (St × (St × (St))) × (St) × (St)))) (r : Int64 × (St × (St) × (St × (St × (St))) × (St) × (St))) : Prop := ∀ (x1 : Int32) (y1 : Int32) (s0 : St × (St) × (St × (St × (St))) × (St) × (St)) (H : Heap) (locs : List Loc) (ls : Array Slot), g x1 y1 s0 = some r → va_P (dC, dI) vwCl (dw_X19 a ac s0) H → va_D A (dw_X19 a ac s0) → va_S A s.heap H locs → lv_has ls 3 [(0, .ref (a 0)), (1, .int x1)] → W p l e (headSpec ow_dm_X19_value ({ frames := 10, cells := 0, slots := 0, locals := 225 })).room s m args below meth c H locs 0 0 Q (F0 m 76 ls [.int y1, .ref (a 0)])
def dj_X19_value_50 (p : Program) (l : Launch) (e : Env) (s : State) (m : MethodId) (args : Array Value) (below : List Frame) (meth : Method) (c : Code) (Q : State → Prop) (A : Nat → Prop) (dC : Nat → ClassId) (dI : Nat → Nat → Nat) (a : Nat → Nat) (ac : Nat → ClassId) (g : Int32 → Int32 → Int32 → (St × (St) × (St × (St × (St))) × (St) × (St)) → Option (Int64 × (St × (St) × (St × (St × (St))) × (St) × (St)))) (r : Int64 × (St × (St) × (St × (St × (St))) × (St) × (St))) : Prop := ∀ (x1 : Int32) (y1 : Int32) (y2 : Int32) (s0 : St × (St) × (St × (St × (St))) × (St) × (St)) (H : Heap) (locs : List Loc) (ls : Array Slot), g x1 y1 y2 s0 = some r → va_P (dC, dI) vwCl (dw_X19 a ac s0) H → va_D A (dw_X19 a ac s0) → va_S A s.heap H locs → lv_has ls 3 [(0, .ref (a 0)), (1, .int x1)] → W p l e (headSpec ow_dm_X19_value ({ frames := 10, cells := 0, slots := 0, locals := 225 })).room s m args below meth c H locs 0 0 Q (F0 m 50 ls [.int y2, .int y1, .ref (a 0)])
def dj_X19_value_49 (p : Program) (l : Launch) (e : Env) (s : State) (m : MethodId) (args : Array Value) (below : List Frame) (meth : Method) (c : Code) (Q : State → Prop) (A : Nat → Prop) (dC : Nat → ClassId) (dI : Nat → Nat → Nat) (a : Nat → Nat) (ac : Nat → ClassId) (g : Int32 → Int32 → (St × (St) × (St × (St × (St))) × (St) × (St)) → Option (Int64 × (St × (St) × (St × (St × (St))) × (St) × (St)))) (r : Int64 × (St × (St) × (St × (St × (St))) × (St) × (St))) : Prop := ∀ (x1 : Int32) (y1 : Int32) (s0 : St × (St) × (St × (St × (St))) × (St) × (St)) (H : Heap) (locs : List Loc) (ls : Array Slot), g x1 y1 s0 = some r → va_P (dC, dI) vwCl (dw_X19 a ac s0) H → va_D A (dw_X19 a ac s0) → va_S A s.heap H locs → lv_has ls 3 [(0, .ref (a 0)), (1, .int x1)] → W p l e (headSpec ow_dm_X19_value ({ frames := 10, cells := 0, slots := 0, locals := 225 })).room s m args below meth c H locs 0 0 Q (F0 m 49 ls [.int y1, .ref (a 0)])
def dj_X19_value_45 (p : Program) (l : Launch) (e : Env) (s : State) (m : MethodId) (args : Array Value) (below : List Frame) (meth : Method) (c : Code) (Q : State → Prop) (A : Nat → Prop) (dC : Nat → ClassId) (dI : Nat → Nat → Nat) (a : Nat → Nat) (ac : Nat → ClassId) (g : Int32 → Int32 → (St × (St) × (St × (St × (St))) × (St) × (St)) → Option (Int64 × (St × (St) × (St × (St × (St))) × (St) × (St)))) (r : Int64 × (St × (St) × (St × (St × (St))) × (St) × (St))) : Prop := ∀ (x1 : Int32) (y1 : Int32) (s0 : St × (St) × (St × (St × (St))) × (St) × (St)) (H : Heap) (locs : List Loc) (ls : Array Slot), g x1 y1 s0 = some r → va_P (dC, dI) vwCl (dw_X19 a ac s0) H → va_D A (dw_X19 a ac s0) → va_S A s.heap H locs → lv_has ls 3 [(0, .ref (a 0)), (1, .int x1)] → W p l e (headSpec ow_dm_X19_value ({ frames := 10, cells := 0, slots := 0, locals := 225 })).room s m args below meth c H locs 0 0 Q (F0 m 45 ls [.int y1, .ref (a 0)])
def dj_X19_value_20 (p : Program) (l : Launch) (e : Env) (s : State) (m : MethodId) (args : Array Value) (below : List Frame) (meth : Method) (c : Code) (Q : State → Prop) (A : Nat → Prop) (dC : Nat → ClassId) (dI : Nat → Nat → Nat) (a : Nat → Nat) (ac : Nat → ClassId) (g : Int32 → Int32 → Int32 → (St × (St) × (St × (St × (St))) × (St) × (St)) → Option (Int64 × (St × (St) × (St × (St × (St))) × (St) × (St)))) (r : Int64 × (St × (St) × (St × (St × (St))) × (St) × (St))) : Prop := ∀ (x1 : Int32) (x2 : Int32) (y1 : Int32) (s0 : St × (St) × (St × (St × (St))) × (St) × (St)) (H : Heap) (locs : List Loc) (ls : Array Slot), g x1 x2 y1 s0 = some r → va_P (dC, dI) vwCl (dw_X19 a ac s0) H → va_D A (dw_X19 a ac s0) → va_S A s.heap H locs → lv_has ls 3 [(0, .ref (a 0)), (1, .int x1), (2, .int x2)] → W p l e (headSpec ow_dm_X19_value ({ frames := 10, cells := 0, slots := 0, locals := 225 })).room s m args below meth c H locs 0 0 Q (F0 m 20 ls [.int y1, .ref (a 0)])
def dj_X19_value_0 (p : Program) (l : Launch) (e : Env) (s : State) (m : MethodId) (args : Array Value) (below : List Frame) (meth : Method) (c : Code) (Q : State → Prop) (A : Nat → Prop) (dC : Nat → ClassId) (dI : Nat → Nat → Nat) (a : Nat → Nat) (ac : Nat → ClassId) (g : Int32 → (St × (St) × (St × (St × (St))) × (St) × (St)) → Option (Int64 × (St × (St) × (St × (St × (St))) × (St) × (St)))) (r : Int64 × (St × (St) × (St × (St × (St))) × (St) × (St))) : Prop := ∀ (v0 : Int32) (s0 : St × (St) × (St × (St × (St))) × (St) × (St)) (H : Heap) (locs : List Loc) (ls : Array Slot), g v0 s0 = some r → va_P (dC, dI) vwCl (dw_X19 a ac s0) H → va_D A (dw_X19 a ac s0) → va_S A s.heap H locs → lv_has ls 3 [(0, .ref (a 0)), (1, .int v0)] → W p l e (headSpec ow_dm_X19_value ({ frames := 10, cells := 0, slots := 0, locals := 225 })).room s m args below meth c H locs 0 0 Q (F0 m 0 ls [])
set_option maxHeartbeats 40000000 in
set_option maxRecDepth 100000 in
theorem db_X19_value_76 {p : Program} {l : Launch} {e : Env} {s : State} {m : MethodId} {args : Array Value} {below : List Frame} {meth : Method} {c : Code} {Q : State → Prop} {A : Nat → Prop} {dC : Nat → ClassId} {dI : Nat → Nat → Nat} {a : Nat → Nat} {ac : Nat → ClassId} {n : Nat} {r : Int64 × (St × (St) × (St × (St × (St))) × (St) × (St))} (C : nd_C p l s m args c A (dC, dI) cX19_value 3 RX19 ow_dm_X19_value (dk_X19 ac)) (K : nd_Kl p l e (headSpec ow_dm_X19_value ({ frames := 10, cells := 0, slots := 0, locals := 225 })).room s m args below meth c Q A (dC, dI) cX19_value (St × (St) × (St × (St × (St))) × (St) × (St)) (dw_X19 a ac) r) : dj_X19_value_76 p l e s m args below meth c Q A dC dI a ac (df_X19_value_76 n) r := by
  obtain ⟨hlt, hx, hb, hml, hown, hts, hN, hA, hK⟩ := id C
  intro x1 y1 s0 H locs ls h hP hD hS hl
  unfold df_X19_value_76 at h
  obtain ⟨s12, hq, h⟩ := nd_b1_e h
  have hPc := hP
  have hDc := hD
  have hKc := hK
  have hFc := nd_rs hD hS hA
  refine nd_cVv (As := [.int y1]) (rest := []) (w' := dw_X19 a ac s12) ⟨hx, hb, hml, hown, hts⟩ (fun sz => dm_X19_come l hlt dC dI a ac n (y1) s0 hq sz) (cwV 1 hts gi_dm_X19_value_2 rfl rfl rfl (by decide +kernel) ⟨Nat.le_of_ble_eq_true rfl, Nat.le_of_ble_eq_true rfl⟩) hPc hDc hKc hS hA hN (va_recv hKc hPc (ci := 20) (q0 := 0) rfl rfl) rfl hl.1 rfl (Nat.le_of_ble_eq_true rfl) dX19_value_76 (fun H locs hP1 hD1 hk1 hS => ?_)
  have hP := hP1
  have hD := hD1.weaken (fun k q _ h => hFc q.1 h)
  refine lv_aload_n hx hb dX19_value_79 rfl (lv_at hl 0 rfl) ?_
  refine va_get (D := (dC, dI)) (ci := 20) (v := .ref (a 27)) (C := RX19) (T := TX19) (N := 36) hx hb hts hi_dm_X19_value_X19 hown hK hP 0 rfl rfl 14 (by decide) (hts (.fieldLink RX19 67 "TimeMachineModel" "conditions" "LTimeMachineModel$Conditions;") (List.mem_of_getElem? (i := 12) rfl)) (fun _ h9 => h9) rfl dX19_value_80 ?_
  refine lv_iload_n hx hb dX19_value_83 rfl (lv_at hl 1 rfl) ?_
  obtain ⟨s15, hq, h⟩ := nd_b1_e h
  have hPc := dp_X19_27 hP
  have hDc := dd_X19_27 hD
  have hKc := dy_X19_27 hK
  have hFc := nd_rs hDc hS hA
  have hzA : ∀ q : Nat, H.size ≤ q → A q := fun q h => hA q (Nat.le_trans hS.1 h)
  refine nd_cVv (As := [.int x1]) (rest := []) (w' := dw_X15 (fun k => a (k + 27)) (fun k => ac (k + 27)) s15) ⟨hx, hb, hml, hown, hts⟩ (fun sz => dm_X15_remember l hlt dC dI (fun k => a (k + 27)) (fun k => ac (k + 27)) n (x1) s12.2.2.1 hq sz) (cwV 1 hts gi_dm_X19_value_3 rfl rfl rfl (by decide +kernel) ⟨Nat.le_of_ble_eq_true rfl, Nat.le_of_ble_eq_true rfl⟩) hPc hDc hKc hS hA hN (va_recv hKc hPc (ci := 16) (q0 := 0) rfl rfl) rfl hl.1 rfl (Nat.le_of_ble_eq_true rfl) dX19_value_84 (fun H locs hP1 hD1 hk1 hS => ?_)
  obtain ⟨hP, hD⟩ := dn_X19_27 hP hD hzA hk1 hP1 hD1
  obtain ⟨s17, es17, h⟩ := nd_let_e h
  have hP : va_P (dC, dI) vwCl (dw_X19 a ac s17) H := by rw [es17]; exact hP
  have hD : va_D A (dw_X19 a ac s17) := by rw [es17]; exact hD
  refine lv_aload_n hx hb dX19_value_87 rfl (lv_at hl 0 rfl) ?_
  refine lv_aload_n hx hb dX19_value_88 rfl (lv_at hl 0 rfl) ?_
  refine va_get (D := (dC, dI)) (ci := 20) (v := .int (sI s17.1 5)) (C := RX19) (T := TX19) (N := 36) hx hb hts hi_dm_X19_value_X19 hown hK hP 0 rfl rfl 19 (by decide) (hts (.fieldLink RX19 234 "TimeMachineModel" "now" "I") (List.mem_of_getElem? (i := 8) rfl)) (fun _ h9 => h9) rfl dX19_value_89 ?_
  obtain ⟨s19, hq, h⟩ := nd_b1_e h
  have hPc := hP
  have hDc := hD
  have hKc := hK
  have hFc := nd_rs hD hS hA
  refine nd_cVv (As := [.int (sI s17.1 5)]) (rest := []) (w' := dw_X19 a ac s19) ⟨hx, hb, hml, hown, hts⟩ (fun sz => dm_X19_come l hlt dC dI a ac n ((sI s17.1 5)) s17 hq sz) (cwV 1 hts gi_dm_X19_value_2 rfl rfl rfl (by decide +kernel) ⟨Nat.le_of_ble_eq_true rfl, Nat.le_of_ble_eq_true rfl⟩) hPc hDc hKc hS hA hN (va_recv hKc hPc (ci := 20) (q0 := 0) rfl rfl) rfl hl.1 rfl (Nat.le_of_ble_eq_true rfl) dX19_value_92 (fun H locs hP1 hD1 hk1 hS => ?_)
  have hP := hP1
  have hD := hD1.weaken (fun k q _ h => hFc q.1 h)
  refine lv_aload_n hx hb dX19_value_95 rfl (lv_at hl 0 rfl) ?_
  refine va_get (D := (dC, dI)) (ci := 20) (v := .ref (a 27)) (C := RX19) (T := TX19) (N := 36) hx hb hts hi_dm_X19_value_X19 hown hK hP 0 rfl rfl 14 (by decide) (hts (.fieldLink RX19 67 "TimeMachineModel" "conditions" "LTimeMachineModel$Conditions;") (List.mem_of_getElem? (i := 12) rfl)) (fun _ h9 => h9) rfl dX19_value_96 ?_
  refine lv_iload_n hx hb dX19_value_99 rfl (lv_at hl 1 rfl) ?_
  obtain ⟨q21, s22, hq, h⟩ := nd_b2_e h
  have hPc := dp_X19_27 hP
  have hDc := dd_X19_27 hD
  have hKc := dy_X19_27 hK
  have hFc := nd_rs hDc hS hA
  have hzA : ∀ q : Nat, H.size ≤ q → A q := fun q h => hA q (Nat.le_trans hS.1 h)
  refine nd_cVl (As := [.int x1]) (rest := []) (q := q21) (w' := dw_X15 (fun k => a (k + 27)) (fun k => ac (k + 27)) s22) ⟨hx, hb, hml, hown, hts⟩ (fun sz => dm_X15_value l hlt dC dI (fun k => a (k + 27)) (fun k => ac (k + 27)) n (x1) s19.2.2.1 hq sz) (cwV 1 hts gi_dm_X19_value_4 rfl rfl rfl (by decide +kernel) ⟨Nat.le_of_ble_eq_true rfl, Nat.le_of_ble_eq_true rfl⟩) hPc hDc hKc hS hA hN (va_recv hKc hPc (ci := 16) (q0 := 0) rfl rfl) rfl hl.1 rfl (Nat.le_of_ble_eq_true rfl) dX19_value_100 (fun H locs hP1 hD1 hk1 hS => ?_)
  obtain ⟨hP, hD⟩ := dn_X19_27 hP hD hzA hk1 hP1 hD1
  obtain ⟨s24, es24, h⟩ := nd_let_e h
  have hP : va_P (dC, dI) vwCl (dw_X19 a ac s24) H := by rw [es24]; exact hP
  have hD : va_D A (dw_X19 a ac s24) := by rw [es24]; exact hD
  exact K _ _ _ _ _ _ dX19_value_103 (Option.some.inj h).symm hP hD hS
set_option maxHeartbeats 40000000 in
set_option maxRecDepth 100000 in
theorem db_X19_value_50 {p : Program} {l : Launch} {e : Env} {s : State} {m : MethodId} {args : Array Value} {below : List Frame} {meth : Method} {c : Code} {Q : State → Prop} {A : Nat → Prop} {dC : Nat → ClassId} {dI : Nat → Nat → Nat} {a : Nat → Nat} {ac : Nat → ClassId} {n : Nat} {r : Int64 × (St × (St) × (St × (St × (St))) × (St) × (St))} (C : nd_C p l s m args c A (dC, dI) cX19_value 3 RX19 ow_dm_X19_value (dk_X19 ac)) (K : nd_Kl p l e (headSpec ow_dm_X19_value ({ frames := 10, cells := 0, slots := 0, locals := 225 })).room s m args below meth c Q A (dC, dI) cX19_value (St × (St) × (St × (St × (St))) × (St) × (St)) (dw_X19 a ac) r) : dj_X19_value_50 p l e s m args below meth c Q A dC dI a ac (df_X19_value_50 n) r := by
  obtain ⟨hlt, hx, hb, hml, hown, hts, hN, hA, hK⟩ := id C
  intro x1 y1 y2 s0 H locs ls h hP hD hS hl
  unfold df_X19_value_50 at h
  obtain ⟨q6, s7, hq, h⟩ := nd_b2_e h
  have hPc := hP
  have hDc := hD
  have hKc := hK
  have hFc := nd_rs hD hS hA
  refine nd_cVi (As := [.int y1, .int y2]) (rest := []) (q := q6) (w' := dw_X19 a ac s7) ⟨hx, hb, hml, hown, hts⟩ (fun sz => dm_X19_fails l hlt dC dI a ac n (y1) (y2) s0 hq sz) (cwV 2 hts gi_dm_X19_value_1 rfl rfl rfl (by decide +kernel) ⟨Nat.le_of_ble_eq_true rfl, Nat.le_of_ble_eq_true rfl⟩) hPc hDc hKc hS hA hN (va_recv hKc hPc (ci := 20) (q0 := 0) rfl rfl) rfl hl.1 rfl (Nat.le_of_ble_eq_true rfl) dX19_value_50 (fun H locs hP1 hD1 hk1 hS => ?_)
  have hP := hP1
  have hD := hD1.weaken (fun k q _ h => hFc q.1 h)
  refine lv_if_eq (tgt := 58) hx hb dX19_value_53 (by decide) (fun c9 => ?_) (fun c9 => ?_)
  · have h := nd_pos h c9
    refine lv_aload_n hx hb dX19_value_58 rfl (lv_at hl 0 rfl) ?_
    refine lv_aload_n hx hb dX19_value_59 rfl (lv_at hl 0 rfl) ?_
    refine va_get (D := (dC, dI)) (ci := 20) (v := .int (sI s7.1 5)) (C := RX19) (T := TX19) (N := 36) hx hb hts hi_dm_X19_value_X19 hown hK hP 0 rfl rfl 19 (by decide) (hts (.fieldLink RX19 234 "TimeMachineModel" "now" "I") (List.mem_of_getElem? (i := 8) rfl)) (fun _ h9 => h9) rfl dX19_value_60 ?_
    refine lv_if_ne (tgt := 70) hx hb dX19_value_63 (by decide) (fun c10 => ?_) (fun c10 => ?_)
    · have h := nd_neg h c10
      refine lv_aload_n hx hb dX19_value_70 rfl (lv_at hl 0 rfl) ?_
      refine va_get (D := (dC, dI)) (ci := 20) (v := .int (sI s7.1 5)) (C := RX19) (T := TX19) (N := 36) hx hb hts hi_dm_X19_value_X19 hown hK hP 0 rfl rfl 19 (by decide) (hts (.fieldLink RX19 234 "TimeMachineModel" "now" "I") (List.mem_of_getElem? (i := 8) rfl)) (fun _ h9 => h9) rfl dX19_value_71 ?_
      refine lv_iconst (v := 1) hx hb dX19_value_74 (by decide) ?_
      refine lv_isub hx hb dX19_value_75 ?_
      exact (db_X19_value_76 C K) (x1) (((sI s7.1 5) - 1)) s7 _ _ _ h hP hD hS (lv_sub hl [0, 1] rfl)
    · have h := nd_pos h c10
      refine lv_iconst (v := 0) hx hb dX19_value_66 (by decide) ?_
      refine lv_goto (tgt := 76) hx hb dX19_value_67 (by decide) ?_
      exact (db_X19_value_76 C K) (x1) (0) s7 _ _ _ h hP hD hS (lv_sub hl [0, 1] rfl)
  · have h := nd_neg h c9
    refine lv_lconst (v := 0) hx hb dX19_value_56 (by decide) ?_
    exact K _ _ _ _ _ _ dX19_value_57 (Option.some.inj h).symm hP hD hS
set_option maxHeartbeats 40000000 in
set_option maxRecDepth 100000 in
theorem db_X19_value_49 {p : Program} {l : Launch} {e : Env} {s : State} {m : MethodId} {args : Array Value} {below : List Frame} {meth : Method} {c : Code} {Q : State → Prop} {A : Nat → Prop} {dC : Nat → ClassId} {dI : Nat → Nat → Nat} {a : Nat → Nat} {ac : Nat → ClassId} {n : Nat} {r : Int64 × (St × (St) × (St × (St × (St))) × (St) × (St))} (C : nd_C p l s m args c A (dC, dI) cX19_value 3 RX19 ow_dm_X19_value (dk_X19 ac)) (K : nd_Kl p l e (headSpec ow_dm_X19_value ({ frames := 10, cells := 0, slots := 0, locals := 225 })).room s m args below meth c Q A (dC, dI) cX19_value (St × (St) × (St × (St × (St))) × (St) × (St)) (dw_X19 a ac) r) : dj_X19_value_49 p l e s m args below meth c Q A dC dI a ac (df_X19_value_49 n) r := by
  obtain ⟨hlt, hx, hb, hml, hown, hts, hN, hA, hK⟩ := id C
  intro x1 y1 s0 H locs ls h hP hD hS hl
  unfold df_X19_value_49 at h
  refine lv_iconst (v := 0) hx hb dX19_value_49 (by decide) ?_
  exact (db_X19_value_50 C K) (x1) (y1) (0) s0 _ _ _ h hP hD hS (lv_sub hl [0, 1] rfl)
set_option maxHeartbeats 40000000 in
set_option maxRecDepth 100000 in
theorem db_X19_value_45 {p : Program} {l : Launch} {e : Env} {s : State} {m : MethodId} {args : Array Value} {below : List Frame} {meth : Method} {c : Code} {Q : State → Prop} {A : Nat → Prop} {dC : Nat → ClassId} {dI : Nat → Nat → Nat} {a : Nat → Nat} {ac : Nat → ClassId} {n : Nat} {r : Int64 × (St × (St) × (St × (St × (St))) × (St) × (St))} (C : nd_C p l s m args c A (dC, dI) cX19_value 3 RX19 ow_dm_X19_value (dk_X19 ac)) (K : nd_Kl p l e (headSpec ow_dm_X19_value ({ frames := 10, cells := 0, slots := 0, locals := 225 })).room s m args below meth c Q A (dC, dI) cX19_value (St × (St) × (St × (St × (St))) × (St) × (St)) (dw_X19 a ac) r) : dj_X19_value_45 p l e s m args below meth c Q A dC dI a ac (df_X19_value_45 n) r := by
  obtain ⟨hlt, hx, hb, hml, hown, hts, hN, hA, hK⟩ := id C
  intro x1 y1 s0 H locs ls h hP hD hS hl
  unfold df_X19_value_45 at h
  refine lv_iconst (v := 1) hx hb dX19_value_45 (by decide) ?_
  refine lv_goto (tgt := 50) hx hb dX19_value_46 (by decide) ?_
  exact (db_X19_value_50 C K) (x1) (y1) (1) s0 _ _ _ h hP hD hS (lv_sub hl [0, 1] rfl)
set_option maxHeartbeats 40000000 in
set_option maxRecDepth 100000 in
theorem db_X19_value_20 {p : Program} {l : Launch} {e : Env} {s : State} {m : MethodId} {args : Array Value} {below : List Frame} {meth : Method} {c : Code} {Q : State → Prop} {A : Nat → Prop} {dC : Nat → ClassId} {dI : Nat → Nat → Nat} {a : Nat → Nat} {ac : Nat → ClassId} {n : Nat} {r : Int64 × (St × (St) × (St × (St × (St))) × (St) × (St))} (C : nd_C p l s m args c A (dC, dI) cX19_value 3 RX19 ow_dm_X19_value (dk_X19 ac)) (K : nd_Kl p l e (headSpec ow_dm_X19_value ({ frames := 10, cells := 0, slots := 0, locals := 225 })).room s m args below meth c Q A (dC, dI) cX19_value (St × (St) × (St × (St × (St))) × (St) × (St)) (dw_X19 a ac) r) : dj_X19_value_20 p l e s m args below meth c Q A dC dI a ac (df_X19_value_20 n) r := by
  obtain ⟨hlt, hx, hb, hml, hown, hts, hN, hA, hK⟩ := id C
  intro x1 x2 y1 s0 H locs ls h hP hD hS hl
  unfold df_X19_value_20 at h
  refine lv_iload_n hx hb dX19_value_20 rfl (lv_at hl 2 rfl) ?_
  refine lv_if_eq (tgt := 49) hx hb dX19_value_21 (by decide) (fun c5 => ?_) (fun c5 => ?_)
  · have h := nd_pos h c5
    exact (db_X19_value_49 C K) (x1) (y1) s0 _ _ _ h hP hD hS (lv_sub hl [0, 1] rfl)
  · have h := nd_neg h c5
    refine lv_aload_n hx hb dX19_value_24 rfl (lv_at hl 0 rfl) ?_
    refine va_get (D := (dC, dI)) (ci := 20) (v := .int (sI s0.1 3)) (C := RX19) (T := TX19) (N := 36) hx hb hts hi_dm_X19_value_X19 hown hK hP 0 rfl rfl 17 (by decide) (hts (.fieldLink RX19 231 "TimeMachineModel" "booted" "Z") (List.mem_of_getElem? (i := 20) rfl)) (fun _ h9 => h9) rfl dX19_value_25 ?_
    refine lv_if_eq (tgt := 45) hx hb dX19_value_28 (by decide) (fun c25 => ?_) (fun c25 => ?_)
    · have h := nd_pos h c25
      exact (db_X19_value_45 C K) (x1) (y1) s0 _ _ _ h hP hD hS (lv_sub hl [0, 1] rfl)
    · have h := nd_neg h c25
      refine lv_aload_n hx hb dX19_value_31 rfl (lv_at hl 0 rfl) ?_
      refine va_get (D := (dC, dI)) (ci := 20) (v := .ref (a 27)) (C := RX19) (T := TX19) (N := 36) hx hb hts hi_dm_X19_value_X19 hown hK hP 0 rfl rfl 14 (by decide) (hts (.fieldLink RX19 67 "TimeMachineModel" "conditions" "LTimeMachineModel$Conditions;") (List.mem_of_getElem? (i := 12) rfl)) (fun _ h9 => h9) rfl dX19_value_32 ?_
      refine lv_iload_n hx hb dX19_value_35 rfl (lv_at hl 1 rfl) ?_
      refine lv_bipush (v := 7) hx hb dX19_value_36 (by decide) ?_
      refine lv_iand hx hb dX19_value_38 ?_
      obtain ⟨q26, s27, hq, h⟩ := nd_b2_e h
      have hPc := dp_X19_27 hP
      have hDc := dd_X19_27 hD
      have hKc := dy_X19_27 hK
      have hFc := nd_rs hDc hS hA
      have hzA : ∀ q : Nat, H.size ≤ q → A q := fun q h => hA q (Nat.le_trans hS.1 h)
      refine nd_cVi (As := [.int (x1 &&& 7)]) (rest := [.int y1, .ref (a 0)]) (q := q26) (w' := dw_X15 (fun k => a (k + 27)) (fun k => ac (k + 27)) s27) ⟨hx, hb, hml, hown, hts⟩ (fun sz => dm_X15_isThere l hlt dC dI (fun k => a (k + 27)) (fun k => ac (k + 27)) n ((x1 &&& 7)) s0.2.2.1 hq sz) (cwV 1 hts gi_dm_X19_value_5 rfl rfl rfl (by decide +kernel) ⟨Nat.le_of_ble_eq_true rfl, Nat.le_of_ble_eq_true rfl⟩) hPc hDc hKc hS hA hN (va_recv hKc hPc (ci := 16) (q0 := 0) rfl rfl) rfl hl.1 rfl (Nat.le_of_ble_eq_true rfl) dX19_value_39 (fun H locs hP1 hD1 hk1 hS => ?_)
      obtain ⟨hP, hD⟩ := dn_X19_27 hP hD hzA hk1 hP1 hD1
      obtain ⟨s29, es29, h⟩ := nd_let_e h
      have hP : va_P (dC, dI) vwCl (dw_X19 a ac s29) H := by rw [es29]; exact hP
      have hD : va_D A (dw_X19 a ac s29) := by rw [es29]; exact hD
      refine lv_if_ne (tgt := 49) hx hb dX19_value_42 (by decide) (fun c30 => ?_) (fun c30 => ?_)
      · have h := nd_neg h c30
        exact (db_X19_value_49 C K) (x1) (y1) s29 _ _ _ h hP hD hS (lv_sub hl [0, 1] rfl)
      · have h := nd_pos h c30
        exact (db_X19_value_45 C K) (x1) (y1) s29 _ _ _ h hP hD hS (lv_sub hl [0, 1] rfl)
set_option maxHeartbeats 40000000 in
set_option maxRecDepth 100000 in
theorem db_X19_value_0 {p : Program} {l : Launch} {e : Env} {s : State} {m : MethodId} {args : Array Value} {below : List Frame} {meth : Method} {c : Code} {Q : State → Prop} {A : Nat → Prop} {dC : Nat → ClassId} {dI : Nat → Nat → Nat} {a : Nat → Nat} {ac : Nat → ClassId} {n : Nat} {r : Int64 × (St × (St) × (St × (St × (St))) × (St) × (St))} (C : nd_C p l s m args c A (dC, dI) cX19_value 3 RX19 ow_dm_X19_value (dk_X19 ac)) (K : nd_Kl p l e (headSpec ow_dm_X19_value ({ frames := 10, cells := 0, slots := 0, locals := 225 })).room s m args below meth c Q A (dC, dI) cX19_value (St × (St) × (St × (St × (St))) × (St) × (St)) (dw_X19 a ac) r) : dj_X19_value_0 p l e s m args below meth c Q A dC dI a ac (df_X19_value_0 n) r := by
  obtain ⟨hlt, hx, hb, hml, hown, hts, hN, hA, hK⟩ := id C
  intro v0 s0 H locs ls h hP hD hS hl
  unfold df_X19_value_0 at h
  refine lv_iload_n hx hb dX19_value_0 rfl (lv_at hl 1 rfl) ?_
  refine lv_i2l hx hb dX19_value_1 rfl ?_
  refine lv_lconst (v := 0) hx hb dX19_value_2 (by decide) ?_
  refine lv_ldc2 hx hb hown (hts (.constantLong RX19 302 (7)) (List.mem_of_getElem? (i := 1) rfl)) dX19_value_3 ?_
  obtain ⟨q1, s2, hq, h⟩ := nd_b2_e h
  have hPc : va_P (dC, dI) vwCl (dw_P a ac ()) H := nd_p0
  have hDc : va_D A (dw_P a ac ()) := nd_d0
  have hKc : va_K (dC, dI) vwCl (dk_P ac) s := nd_y0 hK
  have hFc : ∀ q, va_A (dw_P a ac ()) H.size q → A q := nd_r0 hS hA
  refine nd_cSi (As := [.long (v0.toInt64), .long 0, .long 7]) (rest := []) (q := q1) (w' := dw_P a ac s2) ⟨hx, hb, hml, hown, hts⟩ (fun sz => dm_X19_in l hlt dC dI a ac n ((v0.toInt64)) (0) (7) () hq sz) (cwS 3 hts gi_dm_X19_value_0 rfl rfl rfl (by decide +kernel) ⟨Nat.le_of_ble_eq_true rfl, Nat.le_of_ble_eq_true rfl⟩) hPc hDc hKc hS hA hN rfl hl.1 rfl (Nat.le_of_ble_eq_true rfl) dX19_value_6 (fun H locs hP1 hD1 hk1 hS => ?_)
  have hP := nd_n0 hP hk1
  refine lv_istore_n (lv' := [(2, .int q1), (0, .ref (a 0)), (1, .int v0)]) hx hb dX19_value_9 rfl hl (by decide) rfl (fun ls hl => ?_)
  refine lv_aload_n hx hb dX19_value_10 rfl (lv_at hl 1 rfl) ?_
  refine lv_iload_n hx hb dX19_value_11 rfl (lv_at hl 0 rfl) ?_
  refine lv_if_ne (tgt := 19) hx hb dX19_value_12 (by decide) (fun c4 => ?_) (fun c4 => ?_)
  · have h := nd_neg h c4
    refine lv_iconst (v := 0) hx hb dX19_value_19 (by decide) ?_
    exact (db_X19_value_20 C K) (v0) (q1) (0) s0 _ _ _ h hP hD hS (lv_sub hl [1, 2, 0] rfl)
  · have h := nd_pos h c4
    refine lv_iconst (v := 1) hx hb dX19_value_15 (by decide) ?_
    refine lv_goto (tgt := 20) hx hb dX19_value_16 (by decide) ?_
    exact (db_X19_value_20 C K) (v0) (q1) (1) s0 _ _ _ h hP hD hS (lv_sub hl [1, 2, 0] rfl)
set_option maxHeartbeats 40000000 in
set_option maxRecDepth 100000 in
theorem dm_X19_value (l : Launch) (hlt : l.stackTraces = false) (dC : Nat → ClassId) (dI : Nat → Nat → Nat) (a : Nat → Nat) (ac : Nat → ClassId) (n : Nat) (v0 : Int32) (s0 : St × (St) × (St × (St × (St))) × (St) × (St)) {r : Int64 × (St × (St) × (St × (St × (St))) × (St) × (St))} (h : df_X19_value n v0 s0 = some r) (sz : Nat) : Met l yX19_value ow_dm_X19_value ({ frames := 10, cells := 0, slots := 0, locals := 225 }) (va_Pc [.ref (a 0), .int v0] (fun U => U.heap.size = sz ∧ va_P (dC, dI) vwCl (dw_X19 a ac s0) U.heap ∧ va_K (dC, dI) vwCl (dk_X19 ac) U ∧ va_D (fun _ => True) (dw_X19 a ac s0) ∧ nv_E dI (va_A (dw_X19 a ac s0) sz) U)) (va_Ql (fun x _ => x = r.1) (fun (_ : Unit) t => va_P (dC, dI) vwCl (dw_X19 a ac r.2) t.heap ∧ va_K (dC, dI) vwCl (dk_X19 ac) t ∧ va_D (va_A (dw_X19 a ac s0) sz) (dw_X19 a ac r.2)) (va_A (dw_X19 a ac s0) sz)) 0 0 (va_A (dw_X19 a ac s0) sz) := by
  refine Met.ofW (cc := cX19_value) (maxL := 3) (ret := (some .long)) (by decide) rfl ?_
  intro p e s m args below meth c s₁ B hml hv
  obtain ⟨rfl, hsz, hP, hK, hD0, hN⟩ := hv
  have hx := B.exec
  have hb := B.bytes
  have hr := B.returns
  have hts := atoms_spec (ws := ow_dm_X19_value) B.pre
  have hown : s.vm.findClass RX19 = some m.cls := findClass_of_methodNamed B.named
  have hlocks := B.notSynchronized
  subst hsz
  have hD := hD0.self (sz := s.heap.size)
  generalize hAe : va_A (dw_X19 a ac s0) s.heap.size = A at hD hN ⊢
  have hA : ∀ q : Nat, s.heap.size ≤ q → A q := fun q h => by rw [← hAe]; exact Or.inr h
  have hl := lv_entry ([.ref (a 0), .int v0]) (n := 3) (Nat.le_of_ble_eq_true rfl)
  rw [lg_entry_eq]
  generalize (lg_sl ([.ref (a 0), .int v0]) ++ List.replicate (3 - (lg_sl ([.ref (a 0), .int v0])).length) Slot.unset).toArray = ls at hl ⊢
  have hl : lv_has ls 3 [(0, .ref (a 0)), (1, .int v0)] := hl
  exact db_X19_value_0 (dC := dC) (dI := dI) (a := a) (ac := ac) (n := n) (r := r) ⟨hlt, hx, hb, hml, hown, hts, hN, hA, hK⟩ (fun pc v τ H locs ls d er hP hD hS => by subst er; exact W.lret (v := v) hx hb hr (fun t ht hW => ⟨⟨v, (), rfl, rfl, by rw [ht]; exact hP, va_K.moved hW.alike hK, hD⟩, hS.F ht⟩) hS.2.2 d) v0 s0 _ _ _ h hP hD va_S.rf (lv_sub hl [0, 1] rfl)
def ow_dm_X19_backTo : List Cond := Cond.code yX19_backTo cX19_backTo 5 (some .int) :: ([Cond.constantLong RX19 302 (7), Cond.methodLink RX19 126 yX19_in, Cond.static yX19_in, Cond.initialized RX19, Cond.methodLink RX19 136 yX19_fails, Cond.instanceMethod yX19_fails, Cond.selects RX19 yX19_fails yX19_fails, Cond.methodLink RX19 206 yX19_anew, Cond.instanceMethod yX19_anew, Cond.selects RX19 yX19_anew yX19_anew, Cond.fieldLink RX19 234 "TimeMachineModel" "now" "I", Cond.fieldLink RX19 67 "TimeMachineModel" "conditions" "LTimeMachineModel$Conditions;", Cond.methodLink RX19 276 yX15_value, Cond.instanceMethod yX15_value, Cond.selects RX15 yX15_value yX15_value, Cond.initialized RX15, Cond.methodLink RX19 280 yX15_remember, Cond.instanceMethod yX15_remember, Cond.selects RX15 yX15_remember yX15_remember, Cond.methodLink RX19 209 yX19_tick, Cond.instanceMethod yX19_tick, Cond.selects RX19 yX19_tick yX19_tick, Cond.fieldLink RX19 231 "TimeMachineModel" "booted" "Z", Cond.methodLink RX19 273 yX15_isThere, Cond.instanceMethod yX15_isThere, Cond.selects RX15 yX15_isThere yX15_isThere] ++ (u_ws RX19 TX19 36 ++ (ow_dm_X19_in ++ (ow_dm_X19_fails ++ (ow_dm_X19_anew ++ (ow_dm_X15_value ++ (ow_dm_X15_remember ++ (ow_dm_X19_tick ++ (ow_dm_X15_isThere ++ [])))))))))
theorem gd_dm_X19_backTo : ∀ w ∈ ow_dm_X19_backTo, (w.onTables && w.keeps) = true ∨ ∃ ty, w = Cond.arrayClass ty := List.forall_mem_cons.mpr ⟨good_of_word rfl, List.forall_mem_append.mpr ⟨fun w h => good_of_word (List.all_eq_true.mp (by decide +kernel) w h), List.forall_mem_append.mpr ⟨gu_X19, List.forall_mem_append.mpr ⟨gd_dm_X19_in, List.forall_mem_append.mpr ⟨gd_dm_X19_fails, List.forall_mem_append.mpr ⟨gd_dm_X19_anew, List.forall_mem_append.mpr ⟨gd_dm_X15_value, List.forall_mem_append.mpr ⟨gd_dm_X15_remember, List.forall_mem_append.mpr ⟨gd_dm_X19_tick, List.forall_mem_append.mpr ⟨gd_dm_X15_isThere, fun _ h => nomatch h⟩⟩⟩⟩⟩⟩⟩⟩⟩⟩
theorem hi_dm_X19_backTo_X19 : ∀ w ∈ u_ws RX19 TX19 36, w ∈ ow_dm_X19_backTo := fun w h => List.mem_cons_of_mem _ (List.mem_append_right _ (List.mem_append_left _ h))
theorem gi_dm_X19_backTo_0 : GoodIn ow_dm_X19_backTo (wsS RX19 126 yX19_in ow_dm_X19_in) := goodIn_app (goodIn_of _ (by decide +kernel)) (fun w h => ⟨List.mem_cons_of_mem _ (List.mem_append_right _ (List.mem_append_right _ (List.mem_append_left _ h))), gd_dm_X19_in w h⟩)
theorem gi_dm_X19_backTo_1 : GoodIn ow_dm_X19_backTo (wsV RX19 136 RX19 yX19_fails ow_dm_X19_fails) := goodIn_app (goodIn_of _ (by decide +kernel)) (fun w h => ⟨List.mem_cons_of_mem _ (List.mem_append_right _ (List.mem_append_right _ (List.mem_append_right _ (List.mem_append_left _ h)))), gd_dm_X19_fails w h⟩)
theorem gi_dm_X19_backTo_2 : GoodIn ow_dm_X19_backTo (wsV RX19 206 RX19 yX19_anew ow_dm_X19_anew) := goodIn_app (goodIn_of _ (by decide +kernel)) (fun w h => ⟨List.mem_cons_of_mem _ (List.mem_append_right _ (List.mem_append_right _ (List.mem_append_right _ (List.mem_append_right _ (List.mem_append_left _ h))))), gd_dm_X19_anew w h⟩)
theorem gi_dm_X19_backTo_3 : GoodIn ow_dm_X19_backTo (wsV RX19 276 RX15 yX15_value ow_dm_X15_value) := goodIn_app (goodIn_of _ (by decide +kernel)) (fun w h => ⟨List.mem_cons_of_mem _ (List.mem_append_right _ (List.mem_append_right _ (List.mem_append_right _ (List.mem_append_right _ (List.mem_append_right _ (List.mem_append_left _ h)))))), gd_dm_X15_value w h⟩)
theorem gi_dm_X19_backTo_4 : GoodIn ow_dm_X19_backTo (wsV RX19 280 RX15 yX15_remember ow_dm_X15_remember) := goodIn_app (goodIn_of _ (by decide +kernel)) (fun w h => ⟨List.mem_cons_of_mem _ (List.mem_append_right _ (List.mem_append_right _ (List.mem_append_right _ (List.mem_append_right _ (List.mem_append_right _ (List.mem_append_right _ (List.mem_append_left _ h))))))), gd_dm_X15_remember w h⟩)
theorem gi_dm_X19_backTo_5 : GoodIn ow_dm_X19_backTo (wsV RX19 209 RX19 yX19_tick ow_dm_X19_tick) := goodIn_app (goodIn_of _ (by decide +kernel)) (fun w h => ⟨List.mem_cons_of_mem _ (List.mem_append_right _ (List.mem_append_right _ (List.mem_append_right _ (List.mem_append_right _ (List.mem_append_right _ (List.mem_append_right _ (List.mem_append_right _ (List.mem_append_left _ h)))))))), gd_dm_X19_tick w h⟩)
theorem gi_dm_X19_backTo_6 : GoodIn ow_dm_X19_backTo (wsV RX19 273 RX15 yX15_isThere ow_dm_X15_isThere) := goodIn_app (goodIn_of _ (by decide +kernel)) (fun w h => ⟨List.mem_cons_of_mem _ (List.mem_append_right _ (List.mem_append_right _ (List.mem_append_right _ (List.mem_append_right _ (List.mem_append_right _ (List.mem_append_right _ (List.mem_append_right _ (List.mem_append_right _ (List.mem_append_left _ h))))))))), gd_dm_X15_isThere w h⟩)
def dj_X19_backTo_149 (p : Program) (l : Launch) (e : Env) (s : State) (m : MethodId) (args : Array Value) (below : List Frame) (meth : Method) (c : Code) (Q : State → Prop) (A : Nat → Prop) (dC : Nat → ClassId) (dI : Nat → Nat → Nat) (a : Nat → Nat) (ac : Nat → ClassId) (g : Int32 → Int32 → (St × (St) × (St × (St × (St))) × (St) × (St)) → Option (Int32 × (St × (St) × (St × (St × (St))) × (St) × (St)))) (r : Int32 × (St × (St) × (St × (St × (St))) × (St) × (St))) : Prop := ∀ (x3 : Int32) (y1 : Int32) (s0 : St × (St) × (St × (St × (St))) × (St) × (St)) (H : Heap) (locs : List Loc) (ls : Array Slot), g x3 y1 s0 = some r → va_P (dC, dI) vwCl (dw_X19 a ac s0) H → va_D A (dw_X19 a ac s0) → va_S A s.heap H locs → lv_has ls 5 [(3, .int x3)] → W p l e (headSpec ow_dm_X19_backTo ({ frames := 9, cells := 0, slots := 0, locals := 204 })).room s m args below meth c H locs 0 0 Q (F0 m 149 ls [.int y1, .ref (a 0)])
def dj_X19_backTo_129 (p : Program) (l : Launch) (e : Env) (s : State) (m : MethodId) (args : Array Value) (below : List Frame) (meth : Method) (c : Code) (Q : State → Prop) (A : Nat → Prop) (dC : Nat → ClassId) (dI : Nat → Nat → Nat) (a : Nat → Nat) (ac : Nat → ClassId) (g : Int32 → Int32 → Int32 → (St × (St) × (St × (St × (St))) × (St) × (St)) → Option (Int32 × (St × (St) × (St × (St × (St))) × (St) × (St)))) (r : Int32 × (St × (St) × (St × (St × (St))) × (St) × (St))) : Prop := ∀ (x1 : Int32) (x3 : Int32) (x4 : Int32) (s0 : St × (St) × (St × (St × (St))) × (St) × (St)) (H : Heap) (locs : List Loc) (ls : Array Slot), g x1 x3 x4 s0 = some r → va_P (dC, dI) vwCl (dw_X19 a ac s0) H → va_D A (dw_X19 a ac s0) → va_S A s.heap H locs → lv_has ls 5 [(0, .ref (a 0)), (1, .int x1), (3, .int x3), (4, .int x4)] → W p l e (headSpec ow_dm_X19_backTo ({ frames := 9, cells := 0, slots := 0, locals := 204 })).room s m args below meth c H locs 0 0 Q (F0 m 129 ls [])
def dj_X19_backTo_105 (p : Program) (l : Launch) (e : Env) (s : State) (m : MethodId) (args : Array Value) (below : List Frame) (meth : Method) (c : Code) (Q : State → Prop) (A : Nat → Prop) (dC : Nat → ClassId) (dI : Nat → Nat → Nat) (a : Nat → Nat) (ac : Nat → ClassId) (g : Int32 → Int32 → Int32 → (St × (St) × (St × (St × (St))) × (St) × (St)) → Option (Int32 × (St × (St) × (St × (St × (St))) × (St) × (St)))) (r : Int32 × (St × (St) × (St × (St × (St))) × (St) × (St))) : Prop := ∀ (x1 : Int32) (x3 : Int32) (x4 : Int32) (s0 : St × (St) × (St × (St × (St))) × (St) × (St)) (H : Heap) (locs : List Loc) (ls : Array Slot), g x1 x3 x4 s0 = some r → va_P (dC, dI) vwCl (dw_X19 a ac s0) H → va_D A (dw_X19 a ac s0) → va_S A s.heap H locs → lv_has ls 5 [(0, .ref (a 0)), (1, .int x1), (3, .int x3), (4, .int x4)] → W p l e (headSpec ow_dm_X19_backTo ({ frames := 9, cells := 0, slots := 0, locals := 204 })).room s m args below meth c H locs 0 0 Q (F0 m 105 ls [])
def dj_X19_backTo_89 (p : Program) (l : Launch) (e : Env) (s : State) (m : MethodId) (args : Array Value) (below : List Frame) (meth : Method) (c : Code) (Q : State → Prop) (A : Nat → Prop) (dC : Nat → ClassId) (dI : Nat → Nat → Nat) (a : Nat → Nat) (ac : Nat → ClassId) (g : Int32 → Int32 → Int32 → (St × (St) × (St × (St × (St))) × (St) × (St)) → Option (Int32 × (St × (St) × (St × (St × (St))) × (St) × (St)))) (r : Int32 × (St × (St) × (St × (St × (St))) × (St) × (St))) : Prop := ∀ (x1 : Int32) (x3 : Int32) (x4 : Int32) (s0 : St × (St) × (St × (St × (St))) × (St) × (St)) (H : Heap) (locs : List Loc) (ls : Array Slot), g x1 x3 x4 s0 = some r → va_P (dC, dI) vwCl (dw_X19 a ac s0) H → va_D A (dw_X19 a ac s0) → va_S A s.heap H locs → lv_has ls 5 [(0, .ref (a 0)), (1, .int x1), (3, .int x3), (4, .int x4)] → W p l e (headSpec ow_dm_X19_backTo ({ frames := 9, cells := 0, slots := 0, locals := 204 })).room s m args below meth c H locs 0 0 Q (F0 m 89 ls [])
def dj_X19_backTo_67 (p : Program) (l : Launch) (e : Env) (s : State) (m : MethodId) (args : Array Value) (below : List Frame) (meth : Method) (c : Code) (Q : State → Prop) (A : Nat → Prop) (dC : Nat → ClassId) (dI : Nat → Nat → Nat) (a : Nat → Nat) (ac : Nat → ClassId) (g : Int32 → Int32 → Int32 → (St × (St) × (St × (St × (St))) × (St) × (St)) → Option (Int32 × (St × (St) × (St × (St × (St))) × (St) × (St)))) (r : Int32 × (St × (St) × (St × (St × (St))) × (St) × (St))) : Prop := ∀ (x1 : Int32) (x3 : Int32) (x4 : Int32) (s0 : St × (St) × (St × (St × (St))) × (St) × (St)) (H : Heap) (locs : List Loc) (ls : Array Slot), g x1 x3 x4 s0 = some r → va_P (dC, dI) vwCl (dw_X19 a ac s0) H → va_D A (dw_X19 a ac s0) → va_S A s.heap H locs → lv_has ls 5 [(0, .ref (a 0)), (1, .int x1), (3, .int x3), (4, .int x4)] → W p l e (headSpec ow_dm_X19_backTo ({ frames := 9, cells := 0, slots := 0, locals := 204 })).room s m args below meth c H locs 0 0 Q (F0 m 67 ls [])
def dj_X19_backTo_50 (p : Program) (l : Launch) (e : Env) (s : State) (m : MethodId) (args : Array Value) (below : List Frame) (meth : Method) (c : Code) (Q : State → Prop) (A : Nat → Prop) (dC : Nat → ClassId) (dI : Nat → Nat → Nat) (a : Nat → Nat) (ac : Nat → ClassId) (g : Int32 → Int32 → Int32 → (St × (St) × (St × (St × (St))) × (St) × (St)) → Option (Int32 × (St × (St) × (St × (St × (St))) × (St) × (St)))) (r : Int32 × (St × (St) × (St × (St × (St))) × (St) × (St))) : Prop := ∀ (x1 : Int32) (y1 : Int32) (y2 : Int32) (s0 : St × (St) × (St × (St × (St))) × (St) × (St)) (H : Heap) (locs : List Loc) (ls : Array Slot), g x1 y1 y2 s0 = some r → va_P (dC, dI) vwCl (dw_X19 a ac s0) H → va_D A (dw_X19 a ac s0) → va_S A s.heap H locs → lv_has ls 5 [(0, .ref (a 0)), (1, .int x1)] → W p l e (headSpec ow_dm_X19_backTo ({ frames := 9, cells := 0, slots := 0, locals := 204 })).room s m args below meth c H locs 0 0 Q (F0 m 50 ls [.int y2, .int y1, .ref (a 0)])
def dj_X19_backTo_49 (p : Program) (l : Launch) (e : Env) (s : State) (m : MethodId) (args : Array Value) (below : List Frame) (meth : Method) (c : Code) (Q : State → Prop) (A : Nat → Prop) (dC : Nat → ClassId) (dI : Nat → Nat → Nat) (a : Nat → Nat) (ac : Nat → ClassId) (g : Int32 → Int32 → (St × (St) × (St × (St × (St))) × (St) × (St)) → Option (Int32 × (St × (St) × (St × (St × (St))) × (St) × (St)))) (r : Int32 × (St × (St) × (St × (St × (St))) × (St) × (St))) : Prop := ∀ (x1 : Int32) (y1 : Int32) (s0 : St × (St) × (St × (St × (St))) × (St) × (St)) (H : Heap) (locs : List Loc) (ls : Array Slot), g x1 y1 s0 = some r → va_P (dC, dI) vwCl (dw_X19 a ac s0) H → va_D A (dw_X19 a ac s0) → va_S A s.heap H locs → lv_has ls 5 [(0, .ref (a 0)), (1, .int x1)] → W p l e (headSpec ow_dm_X19_backTo ({ frames := 9, cells := 0, slots := 0, locals := 204 })).room s m args below meth c H locs 0 0 Q (F0 m 49 ls [.int y1, .ref (a 0)])
def dj_X19_backTo_45 (p : Program) (l : Launch) (e : Env) (s : State) (m : MethodId) (args : Array Value) (below : List Frame) (meth : Method) (c : Code) (Q : State → Prop) (A : Nat → Prop) (dC : Nat → ClassId) (dI : Nat → Nat → Nat) (a : Nat → Nat) (ac : Nat → ClassId) (g : Int32 → Int32 → (St × (St) × (St × (St × (St))) × (St) × (St)) → Option (Int32 × (St × (St) × (St × (St × (St))) × (St) × (St)))) (r : Int32 × (St × (St) × (St × (St × (St))) × (St) × (St))) : Prop := ∀ (x1 : Int32) (y1 : Int32) (s0 : St × (St) × (St × (St × (St))) × (St) × (St)) (H : Heap) (locs : List Loc) (ls : Array Slot), g x1 y1 s0 = some r → va_P (dC, dI) vwCl (dw_X19 a ac s0) H → va_D A (dw_X19 a ac s0) → va_S A s.heap H locs → lv_has ls 5 [(0, .ref (a 0)), (1, .int x1)] → W p l e (headSpec ow_dm_X19_backTo ({ frames := 9, cells := 0, slots := 0, locals := 204 })).room s m args below meth c H locs 0 0 Q (F0 m 45 ls [.int y1, .ref (a 0)])
def dj_X19_backTo_20 (p : Program) (l : Launch) (e : Env) (s : State) (m : MethodId) (args : Array Value) (below : List Frame) (meth : Method) (c : Code) (Q : State → Prop) (A : Nat → Prop) (dC : Nat → ClassId) (dI : Nat → Nat → Nat) (a : Nat → Nat) (ac : Nat → ClassId) (g : Int32 → Int32 → Int32 → (St × (St) × (St × (St × (St))) × (St) × (St)) → Option (Int32 × (St × (St) × (St × (St × (St))) × (St) × (St)))) (r : Int32 × (St × (St) × (St × (St × (St))) × (St) × (St))) : Prop := ∀ (x1 : Int32) (x2 : Int32) (y1 : Int32) (s0 : St × (St) × (St × (St × (St))) × (St) × (St)) (H : Heap) (locs : List Loc) (ls : Array Slot), g x1 x2 y1 s0 = some r → va_P (dC, dI) vwCl (dw_X19 a ac s0) H → va_D A (dw_X19 a ac s0) → va_S A s.heap H locs → lv_has ls 5 [(0, .ref (a 0)), (1, .int x1), (2, .int x2)] → W p l e (headSpec ow_dm_X19_backTo ({ frames := 9, cells := 0, slots := 0, locals := 204 })).room s m args below meth c H locs 0 0 Q (F0 m 20 ls [.int y1, .ref (a 0)])
def dj_X19_backTo_0 (p : Program) (l : Launch) (e : Env) (s : State) (m : MethodId) (args : Array Value) (below : List Frame) (meth : Method) (c : Code) (Q : State → Prop) (A : Nat → Prop) (dC : Nat → ClassId) (dI : Nat → Nat → Nat) (a : Nat → Nat) (ac : Nat → ClassId) (g : Int32 → (St × (St) × (St × (St × (St))) × (St) × (St)) → Option (Int32 × (St × (St) × (St × (St × (St))) × (St) × (St)))) (r : Int32 × (St × (St) × (St × (St × (St))) × (St) × (St))) : Prop := ∀ (v0 : Int32) (s0 : St × (St) × (St × (St × (St))) × (St) × (St)) (H : Heap) (locs : List Loc) (ls : Array Slot), g v0 s0 = some r → va_P (dC, dI) vwCl (dw_X19 a ac s0) H → va_D A (dw_X19 a ac s0) → va_S A s.heap H locs → lv_has ls 5 [(0, .ref (a 0)), (1, .int v0)] → W p l e (headSpec ow_dm_X19_backTo ({ frames := 9, cells := 0, slots := 0, locals := 204 })).room s m args below meth c H locs 0 0 Q (F0 m 0 ls [])
set_option maxHeartbeats 40000000 in
set_option maxRecDepth 100000 in
theorem db_X19_backTo_149 {p : Program} {l : Launch} {e : Env} {s : State} {m : MethodId} {args : Array Value} {below : List Frame} {meth : Method} {c : Code} {Q : State → Prop} {A : Nat → Prop} {dC : Nat → ClassId} {dI : Nat → Nat → Nat} {a : Nat → Nat} {ac : Nat → ClassId} {n : Nat} {r : Int32 × (St × (St) × (St × (St × (St))) × (St) × (St))} (C : nd_C p l s m args c A (dC, dI) cX19_backTo 5 RX19 ow_dm_X19_backTo (dk_X19 ac)) (K : nd_Ki p l e (headSpec ow_dm_X19_backTo ({ frames := 9, cells := 0, slots := 0, locals := 204 })).room s m args below meth c Q A (dC, dI) cX19_backTo .int (St × (St) × (St × (St × (St))) × (St) × (St)) (dw_X19 a ac) r) : dj_X19_backTo_149 p l e s m args below meth c Q A dC dI a ac (df_X19_backTo_149 n) r := by
  obtain ⟨hlt, hx, hb, hml, hown, hts, hN, hA, hK⟩ := id C
  intro x3 y1 s0 H locs ls h hP hD hS hl
  unfold df_X19_backTo_149 at h
  refine va_put (D := (dC, dI)) (ci := 20) (v := .int y1) (ty := .int) (C := RX19) (T := TX19) (N := 36) hx hb hts hi_dm_X19_backTo_X19 tyX19 tyX19_ok nmX19 hown hK hP hD hS 0 rfl rfl 19 (by decide) (hts (.fieldLink RX19 234 "TimeMachineModel" "now" "I") (List.mem_of_getElem? (i := 11) rfl)) (fun _ h9 => h9) rfl (by decide +kernel) rfl rfl (Nat.le_of_ble_eq_true rfl) dX19_backTo_149 (fun H locs hP hD hS => ?_)
  obtain ⟨s15, es15, h⟩ := nd_let_e h
  have hP : va_P (dC, dI) vwCl (dw_X19 a ac s15) H := by rw [es15]; exact hP
  have hD : va_D A (dw_X19 a ac s15) := by rw [es15]; exact hD
  refine lv_iload_n hx hb dX19_backTo_152 rfl (lv_at hl 0 rfl) ?_
  exact K _ _ _ _ _ _ dX19_backTo_153 rfl (Option.some.inj h).symm hP hD hS
set_option maxHeartbeats 40000000 in
set_option maxRecDepth 100000 in
theorem db_X19_backTo_129 {p : Program} {l : Launch} {e : Env} {s : State} {m : MethodId} {args : Array Value} {below : List Frame} {meth : Method} {c : Code} {Q : State → Prop} {A : Nat → Prop} {dC : Nat → ClassId} {dI : Nat → Nat → Nat} {a : Nat → Nat} {ac : Nat → ClassId} {n : Nat} {r : Int32 × (St × (St) × (St × (St × (St))) × (St) × (St))} (C : nd_C p l s m args c A (dC, dI) cX19_backTo 5 RX19 ow_dm_X19_backTo (dk_X19 ac)) (K : nd_Ki p l e (headSpec ow_dm_X19_backTo ({ frames := 9, cells := 0, slots := 0, locals := 204 })).room s m args below meth c Q A (dC, dI) cX19_backTo .int (St × (St) × (St × (St × (St))) × (St) × (St)) (dw_X19 a ac) r) {g67 : Int32 → Int32 → Int32 → (St × (St) × (St × (St × (St))) × (St) × (St)) → Option (Int32 × (St × (St) × (St × (St × (St))) × (St) × (St)))} (J67 : dj_X19_backTo_67 p l e s m args below meth c Q A dC dI a ac g67 r) : dj_X19_backTo_129 p l e s m args below meth c Q A dC dI a ac (df_X19_backTo_129 n g67) r := by
  obtain ⟨hlt, hx, hb, hml, hown, hts, hN, hA, hK⟩ := id C
  intro x1 x3 x4 s0 H locs ls h hP hD hS hl
  unfold df_X19_backTo_129 at h
  obtain ⟨z27, ez27, h⟩ := nd_let_e h
  refine lv_iinc (v := z27) (lv' := [(4, .int z27), (0, .ref (a 0)), (1, .int x1), (3, .int x3)]) hx hb dX19_backTo_129 hl (k := 3) rfl (by rw [ez27]) (by decide) rfl (fun ls hl => ?_)
  refine lv_goto (tgt := 67) hx hb dX19_backTo_132 (by decide) ?_
  exact (J67) (x1) (x3) (z27) s0 _ _ _ h hP hD hS (lv_sub hl [1, 2, 3, 0] rfl)
set_option maxHeartbeats 40000000 in
set_option maxRecDepth 100000 in
theorem db_X19_backTo_105 {p : Program} {l : Launch} {e : Env} {s : State} {m : MethodId} {args : Array Value} {below : List Frame} {meth : Method} {c : Code} {Q : State → Prop} {A : Nat → Prop} {dC : Nat → ClassId} {dI : Nat → Nat → Nat} {a : Nat → Nat} {ac : Nat → ClassId} {n : Nat} {r : Int32 × (St × (St) × (St × (St × (St))) × (St) × (St))} (C : nd_C p l s m args c A (dC, dI) cX19_backTo 5 RX19 ow_dm_X19_backTo (dk_X19 ac)) (K : nd_Ki p l e (headSpec ow_dm_X19_backTo ({ frames := 9, cells := 0, slots := 0, locals := 204 })).room s m args below meth c Q A (dC, dI) cX19_backTo .int (St × (St) × (St × (St × (St))) × (St) × (St)) (dw_X19 a ac) r) {g67 : Int32 → Int32 → Int32 → (St × (St) × (St × (St × (St))) × (St) × (St)) → Option (Int32 × (St × (St) × (St × (St × (St))) × (St) × (St)))} (J67 : dj_X19_backTo_67 p l e s m args below meth c Q A dC dI a ac g67 r) : dj_X19_backTo_105 p l e s m args below meth c Q A dC dI a ac (df_X19_backTo_105 n g67) r := by
  obtain ⟨hlt, hx, hb, hml, hown, hts, hN, hA, hK⟩ := id C
  intro x1 x3 x4 s0 H locs ls h hP hD hS hl
  unfold df_X19_backTo_105 at h
  refine lv_aload_n hx hb dX19_backTo_105 rfl (lv_at hl 0 rfl) ?_
  refine va_get (D := (dC, dI)) (ci := 20) (v := .ref (a 27)) (C := RX19) (T := TX19) (N := 36) hx hb hts hi_dm_X19_backTo_X19 hown hK hP 0 rfl rfl 14 (by decide) (hts (.fieldLink RX19 67 "TimeMachineModel" "conditions" "LTimeMachineModel$Conditions;") (List.mem_of_getElem? (i := 12) rfl)) (fun _ h9 => h9) rfl dX19_backTo_106 ?_
  refine lv_iload_n hx hb dX19_backTo_109 rfl (lv_at hl 1 rfl) ?_
  obtain ⟨s23, hq, h⟩ := nd_b1_e h
  have hPc := dp_X19_27 hP
  have hDc := dd_X19_27 hD
  have hKc := dy_X19_27 hK
  have hFc := nd_rs hDc hS hA
  have hzA : ∀ q : Nat, H.size ≤ q → A q := fun q h => hA q (Nat.le_trans hS.1 h)
  refine nd_cVv (As := [.int x1]) (rest := []) (w' := dw_X15 (fun k => a (k + 27)) (fun k => ac (k + 27)) s23) ⟨hx, hb, hml, hown, hts⟩ (fun sz => dm_X15_remember l hlt dC dI (fun k => a (k + 27)) (fun k => ac (k + 27)) n (x1) s0.2.2.1 hq sz) (cwV 1 hts gi_dm_X19_backTo_4 rfl rfl rfl (by decide +kernel) ⟨Nat.le_of_ble_eq_true rfl, Nat.le_of_ble_eq_true rfl⟩) hPc hDc hKc hS hA hN (va_recv hKc hPc (ci := 16) (q0 := 0) rfl rfl) rfl hl.1 rfl (Nat.le_of_ble_eq_true rfl) dX19_backTo_110 (fun H locs hP1 hD1 hk1 hS => ?_)
  obtain ⟨hP, hD⟩ := dn_X19_27 hP hD hzA hk1 hP1 hD1
  obtain ⟨s25, es25, h⟩ := nd_let_e h
  have hP : va_P (dC, dI) vwCl (dw_X19 a ac s25) H := by rw [es25]; exact hP
  have hD : va_D A (dw_X19 a ac s25) := by rw [es25]; exact hD
  refine lv_iload hx hb dX19_backTo_113 (lv_at hl 3 rfl) ?_
  refine lv_iconst (v := 1) hx hb dX19_backTo_115 (by decide) ?_
  refine lv_iadd hx hb dX19_backTo_116 ?_
  refine lv_aload_n hx hb dX19_backTo_117 rfl (lv_at hl 0 rfl) ?_
  refine va_get (D := (dC, dI)) (ci := 20) (v := .int (sI s25.1 5)) (C := RX19) (T := TX19) (N := 36) hx hb hts hi_dm_X19_backTo_X19 hown hK hP 0 rfl rfl 19 (by decide) (hts (.fieldLink RX19 234 "TimeMachineModel" "now" "I") (List.mem_of_getElem? (i := 11) rfl)) (fun _ h9 => h9) rfl dX19_backTo_118 ?_
  refine lv_icmp_ge (tgt := 129) hx hb dX19_backTo_121 (by decide) (fun c26 => ?_) (fun c26 => ?_)
  · have h := nd_pos h c26
    exact (db_X19_backTo_129 C K J67) (x1) (x3) (x4) s25 _ _ _ h hP hD hS (lv_sub hl [0, 1, 2, 3] rfl)
  · have h := nd_neg h c26
    refine lv_aload_n hx hb dX19_backTo_124 rfl (lv_at hl 0 rfl) ?_
    obtain ⟨q28, s29, hq, h⟩ := nd_b2_e h
    have hPc := hP
    have hDc := hD
    have hKc := hK
    have hFc := nd_rs hD hS hA
    refine nd_cVi (As := []) (rest := []) (q := q28) (w' := dw_X19 a ac s29) ⟨hx, hb, hml, hown, hts⟩ (fun sz => dm_X19_tick l hlt dC dI a ac n  s25 hq sz) (cwV 0 hts gi_dm_X19_backTo_5 rfl rfl rfl (by decide +kernel) ⟨Nat.le_of_ble_eq_true rfl, Nat.le_of_ble_eq_true rfl⟩) hPc hDc hKc hS hA hN (va_recv hKc hPc (ci := 20) (q0 := 0) rfl rfl) rfl hl.1 rfl (Nat.le_of_ble_eq_true rfl) dX19_backTo_125 (fun H locs hP1 hD1 hk1 hS => ?_)
    have hP := hP1
    have hD := hD1.weaken (fun k q _ h => hFc q.1 h)
    refine lv_pop hx hb dX19_backTo_128 rfl ?_
    exact (db_X19_backTo_129 C K J67) (x1) (x3) (x4) s29 _ _ _ h hP hD hS (lv_sub hl [0, 1, 2, 3] rfl)
set_option maxHeartbeats 40000000 in
set_option maxRecDepth 100000 in
theorem db_X19_backTo_89 {p : Program} {l : Launch} {e : Env} {s : State} {m : MethodId} {args : Array Value} {below : List Frame} {meth : Method} {c : Code} {Q : State → Prop} {A : Nat → Prop} {dC : Nat → ClassId} {dI : Nat → Nat → Nat} {a : Nat → Nat} {ac : Nat → ClassId} {n : Nat} {r : Int32 × (St × (St) × (St × (St × (St))) × (St) × (St))} (C : nd_C p l s m args c A (dC, dI) cX19_backTo 5 RX19 ow_dm_X19_backTo (dk_X19 ac)) (K : nd_Ki p l e (headSpec ow_dm_X19_backTo ({ frames := 9, cells := 0, slots := 0, locals := 204 })).room s m args below meth c Q A (dC, dI) cX19_backTo .int (St × (St) × (St × (St × (St))) × (St) × (St)) (dw_X19 a ac) r) {g67 : Int32 → Int32 → Int32 → (St × (St) × (St × (St × (St))) × (St) × (St)) → Option (Int32 × (St × (St) × (St × (St × (St))) × (St) × (St)))} (J67 : dj_X19_backTo_67 p l e s m args below meth c Q A dC dI a ac g67 r) : dj_X19_backTo_89 p l e s m args below meth c Q A dC dI a ac (df_X19_backTo_89 n g67) r := by
  obtain ⟨hlt, hx, hb, hml, hown, hts, hN, hA, hK⟩ := id C
  intro x1 x3 x4 s0 H locs ls h hP hD hS hl
  unfold df_X19_backTo_89 at h
  refine lv_aload_n hx hb dX19_backTo_89 rfl (lv_at hl 0 rfl) ?_
  refine va_get (D := (dC, dI)) (ci := 20) (v := .ref (a 27)) (C := RX19) (T := TX19) (N := 36) hx hb hts hi_dm_X19_backTo_X19 hown hK hP 0 rfl rfl 14 (by decide) (hts (.fieldLink RX19 67 "TimeMachineModel" "conditions" "LTimeMachineModel$Conditions;") (List.mem_of_getElem? (i := 12) rfl)) (fun _ h9 => h9) rfl dX19_backTo_90 ?_
  refine lv_iload_n hx hb dX19_backTo_93 rfl (lv_at hl 1 rfl) ?_
  obtain ⟨q17, s18, hq, h⟩ := nd_b2_e h
  have hPc := dp_X19_27 hP
  have hDc := dd_X19_27 hD
  have hKc := dy_X19_27 hK
  have hFc := nd_rs hDc hS hA
  have hzA : ∀ q : Nat, H.size ≤ q → A q := fun q h => hA q (Nat.le_trans hS.1 h)
  refine nd_cVl (As := [.int x1]) (rest := []) (q := q17) (w' := dw_X15 (fun k => a (k + 27)) (fun k => ac (k + 27)) s18) ⟨hx, hb, hml, hown, hts⟩ (fun sz => dm_X15_value l hlt dC dI (fun k => a (k + 27)) (fun k => ac (k + 27)) n (x1) s0.2.2.1 hq sz) (cwV 1 hts gi_dm_X19_backTo_3 rfl rfl rfl (by decide +kernel) ⟨Nat.le_of_ble_eq_true rfl, Nat.le_of_ble_eq_true rfl⟩) hPc hDc hKc hS hA hN (va_recv hKc hPc (ci := 16) (q0 := 0) rfl rfl) rfl hl.1 rfl (Nat.le_of_ble_eq_true rfl) dX19_backTo_94 (fun H locs hP1 hD1 hk1 hS => ?_)
  obtain ⟨hP, hD⟩ := dn_X19_27 hP hD hzA hk1 hP1 hD1
  obtain ⟨s20, es20, h⟩ := nd_let_e h
  have hP : va_P (dC, dI) vwCl (dw_X19 a ac s20) H := by rw [es20]; exact hP
  have hD : va_D A (dw_X19 a ac s20) := by rw [es20]; exact hD
  refine lv_lconst (v := 0) hx hb dX19_backTo_97 (by decide) ?_
  refine W.lcmp hx hb dX19_backTo_98 ?_
  refine lv_if_eq (tgt := 105) hx hb dX19_backTo_99 (by decide) (fun c21 => ?_) (fun c21 => ?_)
  · have h := nd_pos h c21
    exact (db_X19_backTo_105 C K J67) (x1) (x3) (x4) s20 _ _ _ h hP hD hS (lv_sub hl [0, 1, 2, 3] rfl)
  · have h := nd_neg h c21
    refine lv_iload hx hb dX19_backTo_102 (lv_at hl 3 rfl) ?_
    refine lv_istore_n (lv' := [(3, .int x4), (0, .ref (a 0)), (1, .int x1), (4, .int x4)]) hx hb dX19_backTo_104 rfl hl (by decide) rfl (fun ls hl => ?_)
    exact (db_X19_backTo_105 C K J67) (x1) (x4) (x4) s20 _ _ _ h hP hD hS (lv_sub hl [1, 2, 0, 3] rfl)
set_option maxHeartbeats 40000000 in
set_option maxRecDepth 100000 in
theorem dB_X19_backTo_67 {p : Program} {l : Launch} {e : Env} {s : State} {m : MethodId} {args : Array Value} {below : List Frame} {meth : Method} {c : Code} {Q : State → Prop} {A : Nat → Prop} {dC : Nat → ClassId} {dI : Nat → Nat → Nat} {a : Nat → Nat} {ac : Nat → ClassId} {n : Nat} {r : Int32 × (St × (St) × (St × (St × (St))) × (St) × (St))} (C : nd_C p l s m args c A (dC, dI) cX19_backTo 5 RX19 ow_dm_X19_backTo (dk_X19 ac)) (K : nd_Ki p l e (headSpec ow_dm_X19_backTo ({ frames := 9, cells := 0, slots := 0, locals := 204 })).room s m args below meth c Q A (dC, dI) cX19_backTo .int (St × (St) × (St × (St × (St))) × (St) × (St)) (dw_X19 a ac) r) {g67 : Int32 → Int32 → Int32 → (St × (St) × (St × (St × (St))) × (St) × (St)) → Option (Int32 × (St × (St) × (St × (St × (St))) × (St) × (St)))} (J67 : dj_X19_backTo_67 p l e s m args below meth c Q A dC dI a ac g67 r) : dj_X19_backTo_67 p l e s m args below meth c Q A dC dI a ac (dF_X19_backTo_67 n g67) r := by
  obtain ⟨hlt, hx, hb, hml, hown, hts, hN, hA, hK⟩ := id C
  intro x1 x3 x4 s0 H locs ls h hP hD hS hl
  unfold dF_X19_backTo_67 at h
  refine lv_iload hx hb dX19_backTo_67 (lv_at hl 3 rfl) ?_
  refine lv_aload_n hx hb dX19_backTo_69 rfl (lv_at hl 0 rfl) ?_
  refine va_get (D := (dC, dI)) (ci := 20) (v := .int (sI s0.1 5)) (C := RX19) (T := TX19) (N := 36) hx hb hts hi_dm_X19_backTo_X19 hown hK hP 0 rfl rfl 19 (by decide) (hts (.fieldLink RX19 234 "TimeMachineModel" "now" "I") (List.mem_of_getElem? (i := 11) rfl)) (fun _ h9 => h9) rfl dX19_backTo_70 ?_
  refine lv_icmp_ge (tgt := 135) hx hb dX19_backTo_73 (by decide) (fun c13 => ?_) (fun c13 => ?_)
  · have h := nd_pos h c13
    refine lv_aload_n hx hb dX19_backTo_135 rfl (lv_at hl 0 rfl) ?_
    refine lv_iload_n hx hb dX19_backTo_136 rfl (lv_at hl 2 rfl) ?_
    refine lv_iconst (v := (-1)) hx hb dX19_backTo_137 (by decide) ?_
    refine lv_icmp_ne (tgt := 148) hx hb dX19_backTo_138 (by decide) (fun c14 => ?_) (fun c14 => ?_)
    · have h := nd_neg h c14
      refine lv_iload_n hx hb dX19_backTo_148 rfl (lv_at hl 2 rfl) ?_
      exact (db_X19_backTo_149 C K) (x3) (x3) s0 _ _ _ h hP hD hS (lv_sub hl [2] rfl)
    · have h := nd_pos h c14
      refine lv_aload_n hx hb dX19_backTo_141 rfl (lv_at hl 0 rfl) ?_
      refine va_get (D := (dC, dI)) (ci := 20) (v := .int (sI s0.1 5)) (C := RX19) (T := TX19) (N := 36) hx hb hts hi_dm_X19_backTo_X19 hown hK hP 0 rfl rfl 19 (by decide) (hts (.fieldLink RX19 234 "TimeMachineModel" "now" "I") (List.mem_of_getElem? (i := 11) rfl)) (fun _ h9 => h9) rfl dX19_backTo_142 ?_
      refine lv_goto (tgt := 149) hx hb dX19_backTo_145 (by decide) ?_
      exact (db_X19_backTo_149 C K) (x3) ((sI s0.1 5)) s0 _ _ _ h hP hD hS (lv_sub hl [2] rfl)
  · have h := nd_neg h c13
    refine lv_iload hx hb dX19_backTo_76 (lv_at hl 3 rfl) ?_
    refine lv_if_ne (tgt := 89) hx hb dX19_backTo_78 (by decide) (fun c16 => ?_) (fun c16 => ?_)
    · have h := nd_neg h c16
      exact (db_X19_backTo_89 C K J67) (x1) (x3) (x4) s0 _ _ _ h hP hD hS (lv_sub hl [0, 1, 2, 3] rfl)
    · have h := nd_pos h c16
      refine lv_aload_n hx hb dX19_backTo_81 rfl (lv_at hl 0 rfl) ?_
      refine va_get (D := (dC, dI)) (ci := 20) (v := .ref (a 27)) (C := RX19) (T := TX19) (N := 36) hx hb hts hi_dm_X19_backTo_X19 hown hK hP 0 rfl rfl 14 (by decide) (hts (.fieldLink RX19 67 "TimeMachineModel" "conditions" "LTimeMachineModel$Conditions;") (List.mem_of_getElem? (i := 12) rfl)) (fun _ h9 => h9) rfl dX19_backTo_82 ?_
      refine lv_iload_n hx hb dX19_backTo_85 rfl (lv_at hl 1 rfl) ?_
      obtain ⟨s32, hq, h⟩ := nd_b1_e h
      have hPc := dp_X19_27 hP
      have hDc := dd_X19_27 hD
      have hKc := dy_X19_27 hK
      have hFc := nd_rs hDc hS hA
      have hzA : ∀ q : Nat, H.size ≤ q → A q := fun q h => hA q (Nat.le_trans hS.1 h)
      refine nd_cVv (As := [.int x1]) (rest := []) (w' := dw_X15 (fun k => a (k + 27)) (fun k => ac (k + 27)) s32) ⟨hx, hb, hml, hown, hts⟩ (fun sz => dm_X15_remember l hlt dC dI (fun k => a (k + 27)) (fun k => ac (k + 27)) n (x1) s0.2.2.1 hq sz) (cwV 1 hts gi_dm_X19_backTo_4 rfl rfl rfl (by decide +kernel) ⟨Nat.le_of_ble_eq_true rfl, Nat.le_of_ble_eq_true rfl⟩) hPc hDc hKc hS hA hN (va_recv hKc hPc (ci := 16) (q0 := 0) rfl rfl) rfl hl.1 rfl (Nat.le_of_ble_eq_true rfl) dX19_backTo_86 (fun H locs hP1 hD1 hk1 hS => ?_)
      obtain ⟨hP, hD⟩ := dn_X19_27 hP hD hzA hk1 hP1 hD1
      obtain ⟨s34, es34, h⟩ := nd_let_e h
      have hP : va_P (dC, dI) vwCl (dw_X19 a ac s34) H := by rw [es34]; exact hP
      have hD : va_D A (dw_X19 a ac s34) := by rw [es34]; exact hD
      exact (db_X19_backTo_89 C K J67) (x1) (x3) (x4) s34 _ _ _ h hP hD hS (lv_sub hl [0, 1, 2, 3] rfl)
set_option maxHeartbeats 40000000 in
set_option maxRecDepth 100000 in
theorem db_X19_backTo_67 {p : Program} {l : Launch} {e : Env} {s : State} {m : MethodId} {args : Array Value} {below : List Frame} {meth : Method} {c : Code} {Q : State → Prop} {A : Nat → Prop} {dC : Nat → ClassId} {dI : Nat → Nat → Nat} {a : Nat → Nat} {ac : Nat → ClassId} {n : Nat} {r : Int32 × (St × (St) × (St × (St × (St))) × (St) × (St))} (C : nd_C p l s m args c A (dC, dI) cX19_backTo 5 RX19 ow_dm_X19_backTo (dk_X19 ac)) (K : nd_Ki p l e (headSpec ow_dm_X19_backTo ({ frames := 9, cells := 0, slots := 0, locals := 204 })).room s m args below meth c Q A (dC, dI) cX19_backTo .int (St × (St) × (St × (St × (St))) × (St) × (St)) (dw_X19 a ac) r) (k : Nat) : dj_X19_backTo_67 p l e s m args below meth c Q A dC dI a ac (df_X19_backTo_67 n k) r := by
  induction k with
  | zero => intro x1 x3 x4 s0 H locs ls h; exact nomatch (show (none : Option (Int32 × (St × (St) × (St × (St × (St))) × (St) × (St)))) = some r from h)
  | succ k ih => exact dB_X19_backTo_67 C K ih
set_option maxHeartbeats 40000000 in
set_option maxRecDepth 100000 in
theorem db_X19_backTo_50 {p : Program} {l : Launch} {e : Env} {s : State} {m : MethodId} {args : Array Value} {below : List Frame} {meth : Method} {c : Code} {Q : State → Prop} {A : Nat → Prop} {dC : Nat → ClassId} {dI : Nat → Nat → Nat} {a : Nat → Nat} {ac : Nat → ClassId} {n : Nat} {r : Int32 × (St × (St) × (St × (St × (St))) × (St) × (St))} (C : nd_C p l s m args c A (dC, dI) cX19_backTo 5 RX19 ow_dm_X19_backTo (dk_X19 ac)) (K : nd_Ki p l e (headSpec ow_dm_X19_backTo ({ frames := 9, cells := 0, slots := 0, locals := 204 })).room s m args below meth c Q A (dC, dI) cX19_backTo .int (St × (St) × (St × (St × (St))) × (St) × (St)) (dw_X19 a ac) r) : dj_X19_backTo_50 p l e s m args below meth c Q A dC dI a ac (df_X19_backTo_50 n) r := by
  obtain ⟨hlt, hx, hb, hml, hown, hts, hN, hA, hK⟩ := id C
  intro x1 y1 y2 s0 H locs ls h hP hD hS hl
  unfold df_X19_backTo_50 at h
  obtain ⟨q6, s7, hq, h⟩ := nd_b2_e h
  have hPc := hP
  have hDc := hD
  have hKc := hK
  have hFc := nd_rs hD hS hA
  refine nd_cVi (As := [.int y1, .int y2]) (rest := []) (q := q6) (w' := dw_X19 a ac s7) ⟨hx, hb, hml, hown, hts⟩ (fun sz => dm_X19_fails l hlt dC dI a ac n (y1) (y2) s0 hq sz) (cwV 2 hts gi_dm_X19_backTo_1 rfl rfl rfl (by decide +kernel) ⟨Nat.le_of_ble_eq_true rfl, Nat.le_of_ble_eq_true rfl⟩) hPc hDc hKc hS hA hN (va_recv hKc hPc (ci := 20) (q0 := 0) rfl rfl) rfl hl.1 rfl (Nat.le_of_ble_eq_true rfl) dX19_backTo_50 (fun H locs hP1 hD1 hk1 hS => ?_)
  have hP := hP1
  have hD := hD1.weaken (fun k q _ h => hFc q.1 h)
  refine lv_if_eq (tgt := 58) hx hb dX19_backTo_53 (by decide) (fun c9 => ?_) (fun c9 => ?_)
  · have h := nd_pos h c9
    refine lv_iconst (v := (-1)) hx hb dX19_backTo_58 (by decide) ?_
    refine lv_istore_n (lv' := [(3, .int (-1)), (0, .ref (a 0)), (1, .int x1)]) hx hb dX19_backTo_59 rfl hl (by decide) rfl (fun ls hl => ?_)
    refine lv_aload_n hx hb dX19_backTo_60 rfl (lv_at hl 1 rfl) ?_
    obtain ⟨s11, hq, h⟩ := nd_b1_e h
    have hPc := hP
    have hDc := hD
    have hKc := hK
    have hFc := nd_rs hD hS hA
    refine nd_cVv (As := []) (rest := []) (w' := dw_X19 a ac s11) ⟨hx, hb, hml, hown, hts⟩ (fun sz => dm_X19_anew l hlt dC dI a ac n  s7 hq sz) (cwV 0 hts gi_dm_X19_backTo_2 rfl rfl rfl (by decide +kernel) ⟨Nat.le_of_ble_eq_true rfl, Nat.le_of_ble_eq_true rfl⟩) hPc hDc hKc hS hA hN (va_recv hKc hPc (ci := 20) (q0 := 0) rfl rfl) rfl hl.1 rfl (Nat.le_of_ble_eq_true rfl) dX19_backTo_61 (fun H locs hP1 hD1 hk1 hS => ?_)
    have hP := hP1
    have hD := hD1.weaken (fun k q _ h => hFc q.1 h)
    refine lv_iconst (v := 0) hx hb dX19_backTo_64 (by decide) ?_
    refine lv_istore (lv' := [(4, .int 0), (3, .int (-1)), (0, .ref (a 0)), (1, .int x1)]) hx hb dX19_backTo_65 hl (by decide) rfl (fun ls hl => ?_)
    exact (db_X19_backTo_67 C K n) (x1) ((-1)) (0) s11 _ _ _ h hP hD hS (lv_sub hl [2, 3, 1, 0] rfl)
  · have h := nd_neg h c9
    refine lv_iconst (v := 0) hx hb dX19_backTo_56 (by decide) ?_
    exact K _ _ _ _ _ _ dX19_backTo_57 rfl (Option.some.inj h).symm hP hD hS
set_option maxHeartbeats 40000000 in
set_option maxRecDepth 100000 in
theorem db_X19_backTo_49 {p : Program} {l : Launch} {e : Env} {s : State} {m : MethodId} {args : Array Value} {below : List Frame} {meth : Method} {c : Code} {Q : State → Prop} {A : Nat → Prop} {dC : Nat → ClassId} {dI : Nat → Nat → Nat} {a : Nat → Nat} {ac : Nat → ClassId} {n : Nat} {r : Int32 × (St × (St) × (St × (St × (St))) × (St) × (St))} (C : nd_C p l s m args c A (dC, dI) cX19_backTo 5 RX19 ow_dm_X19_backTo (dk_X19 ac)) (K : nd_Ki p l e (headSpec ow_dm_X19_backTo ({ frames := 9, cells := 0, slots := 0, locals := 204 })).room s m args below meth c Q A (dC, dI) cX19_backTo .int (St × (St) × (St × (St × (St))) × (St) × (St)) (dw_X19 a ac) r) : dj_X19_backTo_49 p l e s m args below meth c Q A dC dI a ac (df_X19_backTo_49 n) r := by
  obtain ⟨hlt, hx, hb, hml, hown, hts, hN, hA, hK⟩ := id C
  intro x1 y1 s0 H locs ls h hP hD hS hl
  unfold df_X19_backTo_49 at h
  refine lv_iconst (v := 0) hx hb dX19_backTo_49 (by decide) ?_
  exact (db_X19_backTo_50 C K) (x1) (y1) (0) s0 _ _ _ h hP hD hS (lv_sub hl [0, 1] rfl)
set_option maxHeartbeats 40000000 in
set_option maxRecDepth 100000 in
theorem db_X19_backTo_45 {p : Program} {l : Launch} {e : Env} {s : State} {m : MethodId} {args : Array Value} {below : List Frame} {meth : Method} {c : Code} {Q : State → Prop} {A : Nat → Prop} {dC : Nat → ClassId} {dI : Nat → Nat → Nat} {a : Nat → Nat} {ac : Nat → ClassId} {n : Nat} {r : Int32 × (St × (St) × (St × (St × (St))) × (St) × (St))} (C : nd_C p l s m args c A (dC, dI) cX19_backTo 5 RX19 ow_dm_X19_backTo (dk_X19 ac)) (K : nd_Ki p l e (headSpec ow_dm_X19_backTo ({ frames := 9, cells := 0, slots := 0, locals := 204 })).room s m args below meth c Q A (dC, dI) cX19_backTo .int (St × (St) × (St × (St × (St))) × (St) × (St)) (dw_X19 a ac) r) : dj_X19_backTo_45 p l e s m args below meth c Q A dC dI a ac (df_X19_backTo_45 n) r := by
  obtain ⟨hlt, hx, hb, hml, hown, hts, hN, hA, hK⟩ := id C
  intro x1 y1 s0 H locs ls h hP hD hS hl
  unfold df_X19_backTo_45 at h
  refine lv_iconst (v := 1) hx hb dX19_backTo_45 (by decide) ?_
  refine lv_goto (tgt := 50) hx hb dX19_backTo_46 (by decide) ?_
  exact (db_X19_backTo_50 C K) (x1) (y1) (1) s0 _ _ _ h hP hD hS (lv_sub hl [0, 1] rfl)
set_option maxHeartbeats 40000000 in
set_option maxRecDepth 100000 in
theorem db_X19_backTo_20 {p : Program} {l : Launch} {e : Env} {s : State} {m : MethodId} {args : Array Value} {below : List Frame} {meth : Method} {c : Code} {Q : State → Prop} {A : Nat → Prop} {dC : Nat → ClassId} {dI : Nat → Nat → Nat} {a : Nat → Nat} {ac : Nat → ClassId} {n : Nat} {r : Int32 × (St × (St) × (St × (St × (St))) × (St) × (St))} (C : nd_C p l s m args c A (dC, dI) cX19_backTo 5 RX19 ow_dm_X19_backTo (dk_X19 ac)) (K : nd_Ki p l e (headSpec ow_dm_X19_backTo ({ frames := 9, cells := 0, slots := 0, locals := 204 })).room s m args below meth c Q A (dC, dI) cX19_backTo .int (St × (St) × (St × (St × (St))) × (St) × (St)) (dw_X19 a ac) r) : dj_X19_backTo_20 p l e s m args below meth c Q A dC dI a ac (df_X19_backTo_20 n) r := by
  obtain ⟨hlt, hx, hb, hml, hown, hts, hN, hA, hK⟩ := id C
  intro x1 x2 y1 s0 H locs ls h hP hD hS hl
  unfold df_X19_backTo_20 at h
  refine lv_iload_n hx hb dX19_backTo_20 rfl (lv_at hl 2 rfl) ?_
  refine lv_if_eq (tgt := 49) hx hb dX19_backTo_21 (by decide) (fun c5 => ?_) (fun c5 => ?_)
  · have h := nd_pos h c5
    exact (db_X19_backTo_49 C K) (x1) (y1) s0 _ _ _ h hP hD hS (lv_sub hl [0, 1] rfl)
  · have h := nd_neg h c5
    refine lv_aload_n hx hb dX19_backTo_24 rfl (lv_at hl 0 rfl) ?_
    refine va_get (D := (dC, dI)) (ci := 20) (v := .int (sI s0.1 3)) (C := RX19) (T := TX19) (N := 36) hx hb hts hi_dm_X19_backTo_X19 hown hK hP 0 rfl rfl 17 (by decide) (hts (.fieldLink RX19 231 "TimeMachineModel" "booted" "Z") (List.mem_of_getElem? (i := 23) rfl)) (fun _ h9 => h9) rfl dX19_backTo_25 ?_
    refine lv_if_eq (tgt := 45) hx hb dX19_backTo_28 (by decide) (fun c35 => ?_) (fun c35 => ?_)
    · have h := nd_pos h c35
      exact (db_X19_backTo_45 C K) (x1) (y1) s0 _ _ _ h hP hD hS (lv_sub hl [0, 1] rfl)
    · have h := nd_neg h c35
      refine lv_aload_n hx hb dX19_backTo_31 rfl (lv_at hl 0 rfl) ?_
      refine va_get (D := (dC, dI)) (ci := 20) (v := .ref (a 27)) (C := RX19) (T := TX19) (N := 36) hx hb hts hi_dm_X19_backTo_X19 hown hK hP 0 rfl rfl 14 (by decide) (hts (.fieldLink RX19 67 "TimeMachineModel" "conditions" "LTimeMachineModel$Conditions;") (List.mem_of_getElem? (i := 12) rfl)) (fun _ h9 => h9) rfl dX19_backTo_32 ?_
      refine lv_iload_n hx hb dX19_backTo_35 rfl (lv_at hl 1 rfl) ?_
      refine lv_bipush (v := 7) hx hb dX19_backTo_36 (by decide) ?_
      refine lv_iand hx hb dX19_backTo_38 ?_
      obtain ⟨q36, s37, hq, h⟩ := nd_b2_e h
      have hPc := dp_X19_27 hP
      have hDc := dd_X19_27 hD
      have hKc := dy_X19_27 hK
      have hFc := nd_rs hDc hS hA
      have hzA : ∀ q : Nat, H.size ≤ q → A q := fun q h => hA q (Nat.le_trans hS.1 h)
      refine nd_cVi (As := [.int (x1 &&& 7)]) (rest := [.int y1, .ref (a 0)]) (q := q36) (w' := dw_X15 (fun k => a (k + 27)) (fun k => ac (k + 27)) s37) ⟨hx, hb, hml, hown, hts⟩ (fun sz => dm_X15_isThere l hlt dC dI (fun k => a (k + 27)) (fun k => ac (k + 27)) n ((x1 &&& 7)) s0.2.2.1 hq sz) (cwV 1 hts gi_dm_X19_backTo_6 rfl rfl rfl (by decide +kernel) ⟨Nat.le_of_ble_eq_true rfl, Nat.le_of_ble_eq_true rfl⟩) hPc hDc hKc hS hA hN (va_recv hKc hPc (ci := 16) (q0 := 0) rfl rfl) rfl hl.1 rfl (Nat.le_of_ble_eq_true rfl) dX19_backTo_39 (fun H locs hP1 hD1 hk1 hS => ?_)
      obtain ⟨hP, hD⟩ := dn_X19_27 hP hD hzA hk1 hP1 hD1
      obtain ⟨s39, es39, h⟩ := nd_let_e h
      have hP : va_P (dC, dI) vwCl (dw_X19 a ac s39) H := by rw [es39]; exact hP
      have hD : va_D A (dw_X19 a ac s39) := by rw [es39]; exact hD
      refine lv_if_ne (tgt := 49) hx hb dX19_backTo_42 (by decide) (fun c40 => ?_) (fun c40 => ?_)
      · have h := nd_neg h c40
        exact (db_X19_backTo_49 C K) (x1) (y1) s39 _ _ _ h hP hD hS (lv_sub hl [0, 1] rfl)
      · have h := nd_pos h c40
        exact (db_X19_backTo_45 C K) (x1) (y1) s39 _ _ _ h hP hD hS (lv_sub hl [0, 1] rfl)
set_option maxHeartbeats 40000000 in
set_option maxRecDepth 100000 in
theorem db_X19_backTo_0 {p : Program} {l : Launch} {e : Env} {s : State} {m : MethodId} {args : Array Value} {below : List Frame} {meth : Method} {c : Code} {Q : State → Prop} {A : Nat → Prop} {dC : Nat → ClassId} {dI : Nat → Nat → Nat} {a : Nat → Nat} {ac : Nat → ClassId} {n : Nat} {r : Int32 × (St × (St) × (St × (St × (St))) × (St) × (St))} (C : nd_C p l s m args c A (dC, dI) cX19_backTo 5 RX19 ow_dm_X19_backTo (dk_X19 ac)) (K : nd_Ki p l e (headSpec ow_dm_X19_backTo ({ frames := 9, cells := 0, slots := 0, locals := 204 })).room s m args below meth c Q A (dC, dI) cX19_backTo .int (St × (St) × (St × (St × (St))) × (St) × (St)) (dw_X19 a ac) r) : dj_X19_backTo_0 p l e s m args below meth c Q A dC dI a ac (df_X19_backTo_0 n) r := by
  obtain ⟨hlt, hx, hb, hml, hown, hts, hN, hA, hK⟩ := id C
  intro v0 s0 H locs ls h hP hD hS hl
  unfold df_X19_backTo_0 at h
  refine lv_iload_n hx hb dX19_backTo_0 rfl (lv_at hl 1 rfl) ?_
  refine lv_i2l hx hb dX19_backTo_1 rfl ?_
  refine lv_lconst (v := 0) hx hb dX19_backTo_2 (by decide) ?_
  refine lv_ldc2 hx hb hown (hts (.constantLong RX19 302 (7)) (List.mem_of_getElem? (i := 1) rfl)) dX19_backTo_3 ?_
  obtain ⟨q1, s2, hq, h⟩ := nd_b2_e h
  have hPc : va_P (dC, dI) vwCl (dw_P a ac ()) H := nd_p0
  have hDc : va_D A (dw_P a ac ()) := nd_d0
  have hKc : va_K (dC, dI) vwCl (dk_P ac) s := nd_y0 hK
  have hFc : ∀ q, va_A (dw_P a ac ()) H.size q → A q := nd_r0 hS hA
  refine nd_cSi (As := [.long (v0.toInt64), .long 0, .long 7]) (rest := []) (q := q1) (w' := dw_P a ac s2) ⟨hx, hb, hml, hown, hts⟩ (fun sz => dm_X19_in l hlt dC dI a ac n ((v0.toInt64)) (0) (7) () hq sz) (cwS 3 hts gi_dm_X19_backTo_0 rfl rfl rfl (by decide +kernel) ⟨Nat.le_of_ble_eq_true rfl, Nat.le_of_ble_eq_true rfl⟩) hPc hDc hKc hS hA hN rfl hl.1 rfl (Nat.le_of_ble_eq_true rfl) dX19_backTo_6 (fun H locs hP1 hD1 hk1 hS => ?_)
  have hP := nd_n0 hP hk1
  refine lv_istore_n (lv' := [(2, .int q1), (0, .ref (a 0)), (1, .int v0)]) hx hb dX19_backTo_9 rfl hl (by decide) rfl (fun ls hl => ?_)
  refine lv_aload_n hx hb dX19_backTo_10 rfl (lv_at hl 1 rfl) ?_
  refine lv_iload_n hx hb dX19_backTo_11 rfl (lv_at hl 0 rfl) ?_
  refine lv_if_ne (tgt := 19) hx hb dX19_backTo_12 (by decide) (fun c4 => ?_) (fun c4 => ?_)
  · have h := nd_neg h c4
    refine lv_iconst (v := 0) hx hb dX19_backTo_19 (by decide) ?_
    exact (db_X19_backTo_20 C K) (v0) (q1) (0) s0 _ _ _ h hP hD hS (lv_sub hl [1, 2, 0] rfl)
  · have h := nd_pos h c4
    refine lv_iconst (v := 1) hx hb dX19_backTo_15 (by decide) ?_
    refine lv_goto (tgt := 20) hx hb dX19_backTo_16 (by decide) ?_
    exact (db_X19_backTo_20 C K) (v0) (q1) (1) s0 _ _ _ h hP hD hS (lv_sub hl [1, 2, 0] rfl)
set_option maxHeartbeats 40000000 in
set_option maxRecDepth 100000 in
theorem dm_X19_backTo (l : Launch) (hlt : l.stackTraces = false) (dC : Nat → ClassId) (dI : Nat → Nat → Nat) (a : Nat → Nat) (ac : Nat → ClassId) (n : Nat) (v0 : Int32) (s0 : St × (St) × (St × (St × (St))) × (St) × (St)) {r : Int32 × (St × (St) × (St × (St × (St))) × (St) × (St))} (h : df_X19_backTo n v0 s0 = some r) (sz : Nat) : Met l yX19_backTo ow_dm_X19_backTo ({ frames := 9, cells := 0, slots := 0, locals := 204 }) (va_Pc [.ref (a 0), .int v0] (fun U => U.heap.size = sz ∧ va_P (dC, dI) vwCl (dw_X19 a ac s0) U.heap ∧ va_K (dC, dI) vwCl (dk_X19 ac) U ∧ va_D (fun _ => True) (dw_X19 a ac s0) ∧ nv_E dI (va_A (dw_X19 a ac s0) sz) U)) (va_Qi (fun x _ => x = r.1) (fun (_ : Unit) t => va_P (dC, dI) vwCl (dw_X19 a ac r.2) t.heap ∧ va_K (dC, dI) vwCl (dk_X19 ac) t ∧ va_D (va_A (dw_X19 a ac s0) sz) (dw_X19 a ac r.2)) (va_A (dw_X19 a ac s0) sz)) 0 0 (va_A (dw_X19 a ac s0) sz) := by
  refine Met.ofW (cc := cX19_backTo) (maxL := 5) (ret := (some .int)) (by decide) rfl ?_
  intro p e s m args below meth c s₁ B hml hv
  obtain ⟨rfl, hsz, hP, hK, hD0, hN⟩ := hv
  have hx := B.exec
  have hb := B.bytes
  have hr := B.returns
  have hts := atoms_spec (ws := ow_dm_X19_backTo) B.pre
  have hown : s.vm.findClass RX19 = some m.cls := findClass_of_methodNamed B.named
  have hlocks := B.notSynchronized
  subst hsz
  have hD := hD0.self (sz := s.heap.size)
  generalize hAe : va_A (dw_X19 a ac s0) s.heap.size = A at hD hN ⊢
  have hA : ∀ q : Nat, s.heap.size ≤ q → A q := fun q h => by rw [← hAe]; exact Or.inr h
  have hl := lv_entry ([.ref (a 0), .int v0]) (n := 5) (Nat.le_of_ble_eq_true rfl)
  rw [lg_entry_eq]
  generalize (lg_sl ([.ref (a 0), .int v0]) ++ List.replicate (5 - (lg_sl ([.ref (a 0), .int v0])).length) Slot.unset).toArray = ls at hl ⊢
  have hl : lv_has ls 5 [(0, .ref (a 0)), (1, .int v0)] := hl
  exact db_X19_backTo_0 (dC := dC) (dI := dI) (a := a) (ac := ac) (n := n) (r := r) ⟨hlt, hx, hb, hml, hown, hts, hN, hA, hK⟩ (fun pc v τ H locs ls d z er hP hD hS => by subst er; exact W.zret (v := v) hx hb hr z (fun t ht hW => ⟨⟨v, (), rfl, rfl, by rw [ht]; exact hP, va_K.moved hW.alike hK, hD⟩, hS.F ht⟩) hS.2.2 d) v0 s0 _ _ _ h hP hD va_S.rf (lv_sub hl [0, 1] rfl)
def ow_dm_X19_wrote : List Cond := Cond.code yX19_wrote cX19_wrote 5 (some .int) :: ([Cond.fieldLink RX19 113 "TimeMachineModel" "code" "I", Cond.fieldLink RX19 231 "TimeMachineModel" "booted" "Z", Cond.constantLong RX19 255 (15), Cond.methodLink RX19 126 yX19_in, Cond.static yX19_in, Cond.initialized RX19, Cond.methodLink RX19 206 yX19_anew, Cond.instanceMethod yX19_anew, Cond.selects RX19 yX19_anew yX19_anew, Cond.fieldLink RX19 58 "TimeMachineModel" "m" "LTimeMachineModel$Machine;", Cond.methodLink RX19 311 yX16_watch, Cond.instanceMethod yX16_watch, Cond.selects RX16 yX16_watch yX16_watch, Cond.initialized RX16, Cond.fieldLink RX19 234 "TimeMachineModel" "now" "I", Cond.methodLink RX19 209 yX19_tick, Cond.instanceMethod yX19_tick, Cond.selects RX19 yX19_tick yX19_tick] ++ (u_ws RX19 TX19 36 ++ (ow_dm_X19_in ++ (ow_dm_X19_anew ++ (ow_dm_X16_watch ++ (ow_dm_X19_tick ++ []))))))
theorem gd_dm_X19_wrote : ∀ w ∈ ow_dm_X19_wrote, (w.onTables && w.keeps) = true ∨ ∃ ty, w = Cond.arrayClass ty := List.forall_mem_cons.mpr ⟨good_of_word rfl, List.forall_mem_append.mpr ⟨fun w h => good_of_word (List.all_eq_true.mp (by decide +kernel) w h), List.forall_mem_append.mpr ⟨gu_X19, List.forall_mem_append.mpr ⟨gd_dm_X19_in, List.forall_mem_append.mpr ⟨gd_dm_X19_anew, List.forall_mem_append.mpr ⟨gd_dm_X16_watch, List.forall_mem_append.mpr ⟨gd_dm_X19_tick, fun _ h => nomatch h⟩⟩⟩⟩⟩⟩⟩
theorem hi_dm_X19_wrote_X19 : ∀ w ∈ u_ws RX19 TX19 36, w ∈ ow_dm_X19_wrote := fun w h => List.mem_cons_of_mem _ (List.mem_append_right _ (List.mem_append_left _ h))
theorem gi_dm_X19_wrote_0 : GoodIn ow_dm_X19_wrote (wsS RX19 126 yX19_in ow_dm_X19_in) := goodIn_app (goodIn_of _ (by decide +kernel)) (fun w h => ⟨List.mem_cons_of_mem _ (List.mem_append_right _ (List.mem_append_right _ (List.mem_append_left _ h))), gd_dm_X19_in w h⟩)
theorem gi_dm_X19_wrote_1 : GoodIn ow_dm_X19_wrote (wsV RX19 206 RX19 yX19_anew ow_dm_X19_anew) := goodIn_app (goodIn_of _ (by decide +kernel)) (fun w h => ⟨List.mem_cons_of_mem _ (List.mem_append_right _ (List.mem_append_right _ (List.mem_append_right _ (List.mem_append_left _ h)))), gd_dm_X19_anew w h⟩)
theorem gi_dm_X19_wrote_2 : GoodIn ow_dm_X19_wrote (wsV RX19 311 RX16 yX16_watch ow_dm_X16_watch) := goodIn_app (goodIn_of _ (by decide +kernel)) (fun w h => ⟨List.mem_cons_of_mem _ (List.mem_append_right _ (List.mem_append_right _ (List.mem_append_right _ (List.mem_append_right _ (List.mem_append_left _ h))))), gd_dm_X16_watch w h⟩)
theorem gi_dm_X19_wrote_3 : GoodIn ow_dm_X19_wrote (wsV RX19 209 RX19 yX19_tick ow_dm_X19_tick) := goodIn_app (goodIn_of _ (by decide +kernel)) (fun w h => ⟨List.mem_cons_of_mem _ (List.mem_append_right _ (List.mem_append_right _ (List.mem_append_right _ (List.mem_append_right _ (List.mem_append_right _ (List.mem_append_left _ h)))))), gd_dm_X19_tick w h⟩)
def dj_X19_wrote_24 (p : Program) (l : Launch) (e : Env) (s : State) (m : MethodId) (args : Array Value) (below : List Frame) (meth : Method) (c : Code) (Q : State → Prop) (A : Nat → Prop) (dC : Nat → ClassId) (dI : Nat → Nat → Nat) (a : Nat → Nat) (ac : Nat → ClassId) (g : (St × (St) × (St × (St × (St))) × (St) × (St)) → Option (Int32 × (St × (St) × (St × (St × (St))) × (St) × (St)))) (r : Int32 × (St × (St) × (St × (St × (St))) × (St) × (St))) : Prop := ∀ (s0 : St × (St) × (St × (St × (St))) × (St) × (St)) (H : Heap) (locs : List Loc) (ls : Array Slot), g s0 = some r → va_P (dC, dI) vwCl (dw_X19 a ac s0) H → va_D A (dw_X19 a ac s0) → va_S A s.heap H locs → lv_has ls 5 [] → W p l e (headSpec ow_dm_X19_wrote ({ frames := 9, cells := 0, slots := 0, locals := 204 })).room s m args below meth c H locs 0 0 Q (F0 m 24 ls [])
def dj_X19_wrote_66 (p : Program) (l : Launch) (e : Env) (s : State) (m : MethodId) (args : Array Value) (below : List Frame) (meth : Method) (c : Code) (Q : State → Prop) (A : Nat → Prop) (dC : Nat → ClassId) (dI : Nat → Nat → Nat) (a : Nat → Nat) (ac : Nat → ClassId) (g : Int32 → Int32 → (St × (St) × (St × (St × (St))) × (St) × (St)) → Option (Int32 × (St × (St) × (St × (St × (St))) × (St) × (St)))) (r : Int32 × (St × (St) × (St × (St × (St))) × (St) × (St))) : Prop := ∀ (x4 : Int32) (y0 : Int32) (s0 : St × (St) × (St × (St × (St))) × (St) × (St)) (H : Heap) (locs : List Loc) (ls : Array Slot), g x4 y0 s0 = some r → va_P (dC, dI) vwCl (dw_X19 a ac s0) H → va_D A (dw_X19 a ac s0) → va_S A s.heap H locs → lv_has ls 5 [(0, .ref (a 0)), (4, .int x4)] → W p l e (headSpec ow_dm_X19_wrote ({ frames := 9, cells := 0, slots := 0, locals := 204 })).room s m args below meth c H locs 0 0 Q (F0 m 66 ls [.int y0])
def dj_X19_wrote_44 (p : Program) (l : Launch) (e : Env) (s : State) (m : MethodId) (args : Array Value) (below : List Frame) (meth : Method) (c : Code) (Q : State → Prop) (A : Nat → Prop) (dC : Nat → ClassId) (dI : Nat → Nat → Nat) (a : Nat → Nat) (ac : Nat → ClassId) (g : Int32 → Int32 → (St × (St) × (St × (St × (St))) × (St) × (St)) → Option (Int32 × (St × (St) × (St × (St × (St))) × (St) × (St)))) (r : Int32 × (St × (St) × (St × (St × (St))) × (St) × (St))) : Prop := ∀ (x3 : Int32) (x4 : Int32) (s0 : St × (St) × (St × (St × (St))) × (St) × (St)) (H : Heap) (locs : List Loc) (ls : Array Slot), g x3 x4 s0 = some r → va_P (dC, dI) vwCl (dw_X19 a ac s0) H → va_D A (dw_X19 a ac s0) → va_S A s.heap H locs → lv_has ls 5 [(0, .ref (a 0)), (3, .int x3), (4, .int x4)] → W p l e (headSpec ow_dm_X19_wrote ({ frames := 9, cells := 0, slots := 0, locals := 204 })).room s m args below meth c H locs 0 0 Q (F0 m 44 ls [])
def dj_X19_wrote_0 (p : Program) (l : Launch) (e : Env) (s : State) (m : MethodId) (args : Array Value) (below : List Frame) (meth : Method) (c : Code) (Q : State → Prop) (A : Nat → Prop) (dC : Nat → ClassId) (dI : Nat → Nat → Nat) (a : Nat → Nat) (ac : Nat → ClassId) (g : Int32 → Int32 → (St × (St) × (St × (St × (St))) × (St) × (St)) → Option (Int32 × (St × (St) × (St × (St × (St))) × (St) × (St)))) (r : Int32 × (St × (St) × (St × (St × (St))) × (St) × (St))) : Prop := ∀ (v0 : Int32) (v1 : Int32) (s0 : St × (St) × (St × (St × (St))) × (St) × (St)) (H : Heap) (locs : List Loc) (ls : Array Slot), g v0 v1 s0 = some r → va_P (dC, dI) vwCl (dw_X19 a ac s0) H → va_D A (dw_X19 a ac s0) → va_S A s.heap H locs → lv_has ls 5 [(0, .ref (a 0)), (1, .int v0), (2, .int v1)] → W p l e (headSpec ow_dm_X19_wrote ({ frames := 9, cells := 0, slots := 0, locals := 204 })).room s m args below meth c H locs 0 0 Q (F0 m 0 ls [])
set_option maxHeartbeats 40000000 in
set_option maxRecDepth 100000 in
theorem db_X19_wrote_24 {p : Program} {l : Launch} {e : Env} {s : State} {m : MethodId} {args : Array Value} {below : List Frame} {meth : Method} {c : Code} {Q : State → Prop} {A : Nat → Prop} {dC : Nat → ClassId} {dI : Nat → Nat → Nat} {a : Nat → Nat} {ac : Nat → ClassId} {n : Nat} {r : Int32 × (St × (St) × (St × (St × (St))) × (St) × (St))} (C : nd_C p l s m args c A (dC, dI) cX19_wrote 5 RX19 ow_dm_X19_wrote (dk_X19 ac)) (K : nd_Ki p l e (headSpec ow_dm_X19_wrote ({ frames := 9, cells := 0, slots := 0, locals := 204 })).room s m args below meth c Q A (dC, dI) cX19_wrote .int (St × (St) × (St × (St × (St))) × (St) × (St)) (dw_X19 a ac) r) : dj_X19_wrote_24 p l e s m args below meth c Q A dC dI a ac (df_X19_wrote_24 n) r := by
  obtain ⟨hlt, hx, hb, hml, hown, hts, hN, hA, hK⟩ := id C
  intro s0 H locs ls h hP hD hS hl
  unfold df_X19_wrote_24 at h
  refine lv_iconst (v := (-1)) hx hb dX19_wrote_24 (by decide) ?_
  exact K _ _ _ _ _ _ dX19_wrote_25 rfl (Option.some.inj h).symm hP hD hS
set_option maxHeartbeats 40000000 in
set_option maxRecDepth 100000 in
theorem db_X19_wrote_66 {p : Program} {l : Launch} {e : Env} {s : State} {m : MethodId} {args : Array Value} {below : List Frame} {meth : Method} {c : Code} {Q : State → Prop} {A : Nat → Prop} {dC : Nat → ClassId} {dI : Nat → Nat → Nat} {a : Nat → Nat} {ac : Nat → ClassId} {n : Nat} {r : Int32 × (St × (St) × (St × (St × (St))) × (St) × (St))} (C : nd_C p l s m args c A (dC, dI) cX19_wrote 5 RX19 ow_dm_X19_wrote (dk_X19 ac)) (K : nd_Ki p l e (headSpec ow_dm_X19_wrote ({ frames := 9, cells := 0, slots := 0, locals := 204 })).room s m args below meth c Q A (dC, dI) cX19_wrote .int (St × (St) × (St × (St × (St))) × (St) × (St)) (dw_X19 a ac) r) {g44 : Int32 → Int32 → (St × (St) × (St × (St × (St))) × (St) × (St)) → Option (Int32 × (St × (St) × (St × (St × (St))) × (St) × (St)))} (J44 : dj_X19_wrote_44 p l e s m args below meth c Q A dC dI a ac g44 r) : dj_X19_wrote_66 p l e s m args below meth c Q A dC dI a ac (df_X19_wrote_66 n g44) r := by
  obtain ⟨hlt, hx, hb, hml, hown, hts, hN, hA, hK⟩ := id C
  intro x4 y0 s0 H locs ls h hP hD hS hl
  unfold df_X19_wrote_66 at h
  refine lv_istore_n (lv' := [(3, .int y0), (0, .ref (a 0)), (4, .int x4)]) hx hb dX19_wrote_66 rfl hl (by decide) rfl (fun ls hl => ?_)
  obtain ⟨z23, ez23, h⟩ := nd_let_e h
  refine lv_iinc (v := z23) (lv' := [(4, .int z23), (3, .int y0), (0, .ref (a 0))]) hx hb dX19_wrote_67 hl (k := 2) rfl (by rw [ez23]) (by decide) rfl (fun ls hl => ?_)
  refine lv_goto (tgt := 44) hx hb dX19_wrote_70 (by decide) ?_
  exact (J44) (y0) (z23) s0 _ _ _ h hP hD hS (lv_sub hl [2, 1, 0] rfl)
set_option maxHeartbeats 40000000 in
set_option maxRecDepth 100000 in
theorem dB_X19_wrote_44 {p : Program} {l : Launch} {e : Env} {s : State} {m : MethodId} {args : Array Value} {below : List Frame} {meth : Method} {c : Code} {Q : State → Prop} {A : Nat → Prop} {dC : Nat → ClassId} {dI : Nat → Nat → Nat} {a : Nat → Nat} {ac : Nat → ClassId} {n : Nat} {r : Int32 × (St × (St) × (St × (St × (St))) × (St) × (St))} (C : nd_C p l s m args c A (dC, dI) cX19_wrote 5 RX19 ow_dm_X19_wrote (dk_X19 ac)) (K : nd_Ki p l e (headSpec ow_dm_X19_wrote ({ frames := 9, cells := 0, slots := 0, locals := 204 })).room s m args below meth c Q A (dC, dI) cX19_wrote .int (St × (St) × (St × (St × (St))) × (St) × (St)) (dw_X19 a ac) r) {g44 : Int32 → Int32 → (St × (St) × (St × (St × (St))) × (St) × (St)) → Option (Int32 × (St × (St) × (St × (St × (St))) × (St) × (St)))} (J44 : dj_X19_wrote_44 p l e s m args below meth c Q A dC dI a ac g44 r) : dj_X19_wrote_44 p l e s m args below meth c Q A dC dI a ac (dF_X19_wrote_44 n g44) r := by
  obtain ⟨hlt, hx, hb, hml, hown, hts, hN, hA, hK⟩ := id C
  intro x3 x4 s0 H locs ls h hP hD hS hl
  unfold dF_X19_wrote_44 at h
  refine lv_iload hx hb dX19_wrote_44 (lv_at hl 2 rfl) ?_
  refine lv_aload_n hx hb dX19_wrote_46 rfl (lv_at hl 0 rfl) ?_
  refine va_get (D := (dC, dI)) (ci := 20) (v := .int (sI s0.1 5)) (C := RX19) (T := TX19) (N := 36) hx hb hts hi_dm_X19_wrote_X19 hown hK hP 0 rfl rfl 19 (by decide) (hts (.fieldLink RX19 234 "TimeMachineModel" "now" "I") (List.mem_of_getElem? (i := 15) rfl)) (fun _ h9 => h9) rfl dX19_wrote_47 ?_
  refine lv_icmp_ge (tgt := 73) hx hb dX19_wrote_50 (by decide) (fun c14 => ?_) (fun c14 => ?_)
  · have h := nd_pos h c14
    refine lv_aload_n hx hb dX19_wrote_73 rfl (lv_at hl 0 rfl) ?_
    refine va_get (D := (dC, dI)) (ci := 20) (v := .ref (a 44)) (C := RX19) (T := TX19) (N := 36) hx hb hts hi_dm_X19_wrote_X19 hown hK hP 0 rfl rfl 13 (by decide) (hts (.fieldLink RX19 58 "TimeMachineModel" "m" "LTimeMachineModel$Machine;") (List.mem_of_getElem? (i := 10) rfl)) (fun _ h9 => h9) rfl dX19_wrote_74 ?_
    refine lv_iconst (v := (-1)) hx hb dX19_wrote_77 (by decide) ?_
    refine lv_iconst (v := 0) hx hb dX19_wrote_78 (by decide) ?_
    obtain ⟨s16, hq, h⟩ := nd_b1_e h
    have hPc := dp_X19_44 hP
    have hDc := dd_X19_44 hD
    have hKc := dy_X19_44 hK
    have hFc := nd_rs hDc hS hA
    have hzA : ∀ q : Nat, H.size ≤ q → A q := fun q h => hA q (Nat.le_trans hS.1 h)
    refine nd_cVv (As := [.int (-1), .int 0]) (rest := []) (w' := dw_X16 (fun k => a (k + 44)) (fun k => ac (k + 44)) s16) ⟨hx, hb, hml, hown, hts⟩ (fun sz => dm_X16_watch l hlt dC dI (fun k => a (k + 44)) (fun k => ac (k + 44)) n ((-1)) (0) s0.2.2.1.2 hq sz) (cwV 2 hts gi_dm_X19_wrote_2 rfl rfl rfl (by decide +kernel) ⟨Nat.le_of_ble_eq_true rfl, Nat.le_of_ble_eq_true rfl⟩) hPc hDc hKc hS hA hN (va_recv hKc hPc (ci := 17) (q0 := 0) rfl rfl) rfl hl.1 rfl (Nat.le_of_ble_eq_true rfl) dX19_wrote_79 (fun H locs hP1 hD1 hk1 hS => ?_)
    obtain ⟨hP, hD⟩ := dn_X19_44 hP hD hzA hk1 hP1 hD1
    obtain ⟨s18, es18, h⟩ := nd_let_e h
    have hP : va_P (dC, dI) vwCl (dw_X19 a ac s18) H := by rw [es18]; exact hP
    have hD : va_D A (dw_X19 a ac s18) := by rw [es18]; exact hD
    refine lv_iload_n hx hb dX19_wrote_82 rfl (lv_at hl 1 rfl) ?_
    exact K _ _ _ _ _ _ dX19_wrote_83 rfl (Option.some.inj h).symm hP hD hS
  · have h := nd_neg h c14
    refine lv_aload_n hx hb dX19_wrote_53 rfl (lv_at hl 0 rfl) ?_
    obtain ⟨q19, s20, hq, h⟩ := nd_b2_e h
    have hPc := hP
    have hDc := hD
    have hKc := hK
    have hFc := nd_rs hD hS hA
    refine nd_cVi (As := []) (rest := []) (q := q19) (w' := dw_X19 a ac s20) ⟨hx, hb, hml, hown, hts⟩ (fun sz => dm_X19_tick l hlt dC dI a ac n  s0 hq sz) (cwV 0 hts gi_dm_X19_wrote_3 rfl rfl rfl (by decide +kernel) ⟨Nat.le_of_ble_eq_true rfl, Nat.le_of_ble_eq_true rfl⟩) hPc hDc hKc hS hA hN (va_recv hKc hPc (ci := 20) (q0 := 0) rfl rfl) rfl hl.1 rfl (Nat.le_of_ble_eq_true rfl) dX19_wrote_54 (fun H locs hP1 hD1 hk1 hS => ?_)
    have hP := hP1
    have hD := hD1.weaken (fun k q _ h => hFc q.1 h)
    refine lv_if_eq (tgt := 65) hx hb dX19_wrote_57 (by decide) (fun c22 => ?_) (fun c22 => ?_)
    · have h := nd_pos h c22
      refine lv_iload_n hx hb dX19_wrote_65 rfl (lv_at hl 1 rfl) ?_
      exact (db_X19_wrote_66 C K J44) (x4) (x3) s20 _ _ _ h hP hD hS (lv_sub hl [0, 2] rfl)
    · have h := nd_neg h c22
      refine lv_iload hx hb dX19_wrote_60 (lv_at hl 2 rfl) ?_
      refine lv_goto (tgt := 66) hx hb dX19_wrote_62 (by decide) ?_
      exact (db_X19_wrote_66 C K J44) (x4) (x4) s20 _ _ _ h hP hD hS (lv_sub hl [0, 2] rfl)
set_option maxHeartbeats 40000000 in
set_option maxRecDepth 100000 in
theorem db_X19_wrote_44 {p : Program} {l : Launch} {e : Env} {s : State} {m : MethodId} {args : Array Value} {below : List Frame} {meth : Method} {c : Code} {Q : State → Prop} {A : Nat → Prop} {dC : Nat → ClassId} {dI : Nat → Nat → Nat} {a : Nat → Nat} {ac : Nat → ClassId} {n : Nat} {r : Int32 × (St × (St) × (St × (St × (St))) × (St) × (St))} (C : nd_C p l s m args c A (dC, dI) cX19_wrote 5 RX19 ow_dm_X19_wrote (dk_X19 ac)) (K : nd_Ki p l e (headSpec ow_dm_X19_wrote ({ frames := 9, cells := 0, slots := 0, locals := 204 })).room s m args below meth c Q A (dC, dI) cX19_wrote .int (St × (St) × (St × (St × (St))) × (St) × (St)) (dw_X19 a ac) r) (k : Nat) : dj_X19_wrote_44 p l e s m args below meth c Q A dC dI a ac (df_X19_wrote_44 n k) r := by
  induction k with
  | zero => intro x3 x4 s0 H locs ls h; exact nomatch (show (none : Option (Int32 × (St × (St) × (St × (St × (St))) × (St) × (St)))) = some r from h)
  | succ k ih => exact dB_X19_wrote_44 C K ih
set_option maxHeartbeats 40000000 in
set_option maxRecDepth 100000 in
theorem db_X19_wrote_0 {p : Program} {l : Launch} {e : Env} {s : State} {m : MethodId} {args : Array Value} {below : List Frame} {meth : Method} {c : Code} {Q : State → Prop} {A : Nat → Prop} {dC : Nat → ClassId} {dI : Nat → Nat → Nat} {a : Nat → Nat} {ac : Nat → ClassId} {n : Nat} {r : Int32 × (St × (St) × (St × (St × (St))) × (St) × (St))} (C : nd_C p l s m args c A (dC, dI) cX19_wrote 5 RX19 ow_dm_X19_wrote (dk_X19 ac)) (K : nd_Ki p l e (headSpec ow_dm_X19_wrote ({ frames := 9, cells := 0, slots := 0, locals := 204 })).room s m args below meth c Q A (dC, dI) cX19_wrote .int (St × (St) × (St × (St × (St))) × (St) × (St)) (dw_X19 a ac) r) : dj_X19_wrote_0 p l e s m args below meth c Q A dC dI a ac (df_X19_wrote_0 n) r := by
  obtain ⟨hlt, hx, hb, hml, hown, hts, hN, hA, hK⟩ := id C
  intro v0 v1 s0 H locs ls h hP hD hS hl
  unfold df_X19_wrote_0 at h
  refine lv_aload_n hx hb dX19_wrote_0 rfl (lv_at hl 0 rfl) ?_
  refine lv_iconst (v := 0) hx hb dX19_wrote_1 (by decide) ?_
  refine va_put (D := (dC, dI)) (ci := 20) (v := .int 0) (ty := .int) (C := RX19) (T := TX19) (N := 36) hx hb hts hi_dm_X19_wrote_X19 tyX19 tyX19_ok nmX19 hown hK hP hD hS 0 rfl rfl 0 (by decide) (hts (.fieldLink RX19 113 "TimeMachineModel" "code" "I") (List.mem_of_getElem? (i := 1) rfl)) (fun _ h9 => h9) rfl (by decide +kernel) rfl rfl (Nat.le_of_ble_eq_true rfl) dX19_wrote_2 (fun H locs hP hD hS => ?_)
  obtain ⟨s1, es1, h⟩ := nd_let_e h
  have hP : va_P (dC, dI) vwCl (dw_X19 a ac s1) H := by rw [es1]; exact hP
  have hD : va_D A (dw_X19 a ac s1) := by rw [es1]; exact hD
  refine lv_aload_n hx hb dX19_wrote_5 rfl (lv_at hl 0 rfl) ?_
  refine va_get (D := (dC, dI)) (ci := 20) (v := .int (sI s1.1 3)) (C := RX19) (T := TX19) (N := 36) hx hb hts hi_dm_X19_wrote_X19 hown hK hP 0 rfl rfl 17 (by decide) (hts (.fieldLink RX19 231 "TimeMachineModel" "booted" "Z") (List.mem_of_getElem? (i := 2) rfl)) (fun _ h9 => h9) rfl dX19_wrote_6 ?_
  refine lv_if_eq (tgt := 24) hx hb dX19_wrote_9 (by decide) (fun c2 => ?_) (fun c2 => ?_)
  · have h := nd_pos h c2
    exact (db_X19_wrote_24 C K)  s1 _ _ _ h hP hD hS (lv_sub hl [] rfl)
  · have h := nd_neg h c2
    refine lv_iload_n hx hb dX19_wrote_12 rfl (lv_at hl 1 rfl) ?_
    refine lv_i2l hx hb dX19_wrote_13 rfl ?_
    refine lv_lconst (v := 0) hx hb dX19_wrote_14 (by decide) ?_
    refine lv_ldc2 hx hb hown (hts (.constantLong RX19 255 (15)) (List.mem_of_getElem? (i := 3) rfl)) dX19_wrote_15 ?_
    obtain ⟨q3, s4, hq, h⟩ := nd_b2_e h
    have hPc : va_P (dC, dI) vwCl (dw_P a ac ()) H := nd_p0
    have hDc : va_D A (dw_P a ac ()) := nd_d0
    have hKc : va_K (dC, dI) vwCl (dk_P ac) s := nd_y0 hK
    have hFc : ∀ q, va_A (dw_P a ac ()) H.size q → A q := nd_r0 hS hA
    refine nd_cSi (As := [.long (v0.toInt64), .long 0, .long 15]) (rest := []) (q := q3) (w' := dw_P a ac s4) ⟨hx, hb, hml, hown, hts⟩ (fun sz => dm_X19_in l hlt dC dI a ac n ((v0.toInt64)) (0) (15) () hq sz) (cwS 3 hts gi_dm_X19_wrote_0 rfl rfl rfl (by decide +kernel) ⟨Nat.le_of_ble_eq_true rfl, Nat.le_of_ble_eq_true rfl⟩) hPc hDc hKc hS hA hN rfl hl.1 rfl (Nat.le_of_ble_eq_true rfl) dX19_wrote_18 (fun H locs hP1 hD1 hk1 hS => ?_)
    have hP := nd_n0 hP hk1
    refine lv_if_ne (tgt := 26) hx hb dX19_wrote_21 (by decide) (fun c6 => ?_) (fun c6 => ?_)
    · have h := nd_neg h c6
      refine lv_iconst (v := (-1)) hx hb dX19_wrote_26 (by decide) ?_
      refine lv_istore_n (lv' := [(3, .int (-1)), (0, .ref (a 0)), (1, .int v0), (2, .int v1)]) hx hb dX19_wrote_27 rfl hl (by decide) rfl (fun ls hl => ?_)
      refine lv_aload_n hx hb dX19_wrote_28 rfl (lv_at hl 1 rfl) ?_
      obtain ⟨s8, hq, h⟩ := nd_b1_e h
      have hPc := hP
      have hDc := hD
      have hKc := hK
      have hFc := nd_rs hD hS hA
      refine nd_cVv (As := []) (rest := []) (w' := dw_X19 a ac s8) ⟨hx, hb, hml, hown, hts⟩ (fun sz => dm_X19_anew l hlt dC dI a ac n  s1 hq sz) (cwV 0 hts gi_dm_X19_wrote_1 rfl rfl rfl (by decide +kernel) ⟨Nat.le_of_ble_eq_true rfl, Nat.le_of_ble_eq_true rfl⟩) hPc hDc hKc hS hA hN (va_recv hKc hPc (ci := 20) (q0 := 0) rfl rfl) rfl hl.1 rfl (Nat.le_of_ble_eq_true rfl) dX19_wrote_29 (fun H locs hP1 hD1 hk1 hS => ?_)
      have hP := hP1
      have hD := hD1.weaken (fun k q _ h => hFc q.1 h)
      refine lv_aload_n hx hb dX19_wrote_32 rfl (lv_at hl 1 rfl) ?_
      refine va_get (D := (dC, dI)) (ci := 20) (v := .ref (a 44)) (C := RX19) (T := TX19) (N := 36) hx hb hts hi_dm_X19_wrote_X19 hown hK hP 0 rfl rfl 13 (by decide) (hts (.fieldLink RX19 58 "TimeMachineModel" "m" "LTimeMachineModel$Machine;") (List.mem_of_getElem? (i := 10) rfl)) (fun _ h9 => h9) rfl dX19_wrote_33 ?_
      refine lv_iload_n hx hb dX19_wrote_36 rfl (lv_at hl 2 rfl) ?_
      refine lv_iload_n hx hb dX19_wrote_37 rfl (lv_at hl 3 rfl) ?_
      obtain ⟨s11, hq, h⟩ := nd_b1_e h
      have hPc := dp_X19_44 hP
      have hDc := dd_X19_44 hD
      have hKc := dy_X19_44 hK
      have hFc := nd_rs hDc hS hA
      have hzA : ∀ q : Nat, H.size ≤ q → A q := fun q h => hA q (Nat.le_trans hS.1 h)
      refine nd_cVv (As := [.int v0, .int v1]) (rest := []) (w' := dw_X16 (fun k => a (k + 44)) (fun k => ac (k + 44)) s11) ⟨hx, hb, hml, hown, hts⟩ (fun sz => dm_X16_watch l hlt dC dI (fun k => a (k + 44)) (fun k => ac (k + 44)) n (v0) (v1) s8.2.2.1.2 hq sz) (cwV 2 hts gi_dm_X19_wrote_2 rfl rfl rfl (by decide +kernel) ⟨Nat.le_of_ble_eq_true rfl, Nat.le_of_ble_eq_true rfl⟩) hPc hDc hKc hS hA hN (va_recv hKc hPc (ci := 17) (q0 := 0) rfl rfl) rfl hl.1 rfl (Nat.le_of_ble_eq_true rfl) dX19_wrote_38 (fun H locs hP1 hD1 hk1 hS => ?_)
      obtain ⟨hP, hD⟩ := dn_X19_44 hP hD hzA hk1 hP1 hD1
      obtain ⟨s13, es13, h⟩ := nd_let_e h
      have hP : va_P (dC, dI) vwCl (dw_X19 a ac s13) H := by rw [es13]; exact hP
      have hD : va_D A (dw_X19 a ac s13) := by rw [es13]; exact hD
      refine lv_iconst (v := 0) hx hb dX19_wrote_41 (by decide) ?_
      refine lv_istore (lv' := [(4, .int 0), (3, .int (-1)), (0, .ref (a 0)), (1, .int v0), (2, .int v1)]) hx hb dX19_wrote_42 hl (by decide) rfl (fun ls hl => ?_)
      exact (db_X19_wrote_44 C K n) ((-1)) (0) s13 _ _ _ h hP hD hS (lv_sub hl [2, 1, 0] rfl)
    · have h := nd_pos h c6
      exact (db_X19_wrote_24 C K)  s1 _ _ _ h hP hD hS (lv_sub hl [] rfl)
set_option maxHeartbeats 40000000 in
set_option maxRecDepth 100000 in
theorem dm_X19_wrote (l : Launch) (hlt : l.stackTraces = false) (dC : Nat → ClassId) (dI : Nat → Nat → Nat) (a : Nat → Nat) (ac : Nat → ClassId) (n : Nat) (v0 : Int32) (v1 : Int32) (s0 : St × (St) × (St × (St × (St))) × (St) × (St)) {r : Int32 × (St × (St) × (St × (St × (St))) × (St) × (St))} (h : df_X19_wrote n v0 v1 s0 = some r) (sz : Nat) : Met l yX19_wrote ow_dm_X19_wrote ({ frames := 9, cells := 0, slots := 0, locals := 204 }) (va_Pc [.ref (a 0), .int v0, .int v1] (fun U => U.heap.size = sz ∧ va_P (dC, dI) vwCl (dw_X19 a ac s0) U.heap ∧ va_K (dC, dI) vwCl (dk_X19 ac) U ∧ va_D (fun _ => True) (dw_X19 a ac s0) ∧ nv_E dI (va_A (dw_X19 a ac s0) sz) U)) (va_Qi (fun x _ => x = r.1) (fun (_ : Unit) t => va_P (dC, dI) vwCl (dw_X19 a ac r.2) t.heap ∧ va_K (dC, dI) vwCl (dk_X19 ac) t ∧ va_D (va_A (dw_X19 a ac s0) sz) (dw_X19 a ac r.2)) (va_A (dw_X19 a ac s0) sz)) 0 0 (va_A (dw_X19 a ac s0) sz) := by
  refine Met.ofW (cc := cX19_wrote) (maxL := 5) (ret := (some .int)) (by decide) rfl ?_
  intro p e s m args below meth c s₁ B hml hv
  obtain ⟨rfl, hsz, hP, hK, hD0, hN⟩ := hv
  have hx := B.exec
  have hb := B.bytes
  have hr := B.returns
  have hts := atoms_spec (ws := ow_dm_X19_wrote) B.pre
  have hown : s.vm.findClass RX19 = some m.cls := findClass_of_methodNamed B.named
  have hlocks := B.notSynchronized
  subst hsz
  have hD := hD0.self (sz := s.heap.size)
  generalize hAe : va_A (dw_X19 a ac s0) s.heap.size = A at hD hN ⊢
  have hA : ∀ q : Nat, s.heap.size ≤ q → A q := fun q h => by rw [← hAe]; exact Or.inr h
  have hl := lv_entry ([.ref (a 0), .int v0, .int v1]) (n := 5) (Nat.le_of_ble_eq_true rfl)
  rw [lg_entry_eq]
  generalize (lg_sl ([.ref (a 0), .int v0, .int v1]) ++ List.replicate (5 - (lg_sl ([.ref (a 0), .int v0, .int v1])).length) Slot.unset).toArray = ls at hl ⊢
  have hl : lv_has ls 5 [(0, .ref (a 0)), (1, .int v0), (2, .int v1)] := hl
  exact db_X19_wrote_0 (dC := dC) (dI := dI) (a := a) (ac := ac) (n := n) (r := r) ⟨hlt, hx, hb, hml, hown, hts, hN, hA, hK⟩ (fun pc v τ H locs ls d z er hP hD hS => by subst er; exact W.zret (v := v) hx hb hr z (fun t ht hW => ⟨⟨v, (), rfl, rfl, by rw [ht]; exact hP, va_K.moved hW.alike hK, hD⟩, hS.F ht⟩) hS.2.2 d) v0 v1 s0 _ _ _ h hP hD va_S.rf (lv_sub hl [0, 1, 2] rfl)
def ow_dm_X19_shows : List Cond := Cond.code yX19_shows cX19_shows 1 (some .boolean) :: ([Cond.fieldLink RX19 113 "TimeMachineModel" "code" "I", Cond.fieldLink RX19 231 "TimeMachineModel" "booted" "Z", Cond.fieldLink RX19 234 "TimeMachineModel" "now" "I", Cond.methodLink RX19 266 yX19_come, Cond.instanceMethod yX19_come, Cond.selects RX19 yX19_come yX19_come, Cond.initialized RX19] ++ (u_ws RX19 TX19 36 ++ (ow_dm_X19_come ++ [])))
theorem gd_dm_X19_shows : ∀ w ∈ ow_dm_X19_shows, (w.onTables && w.keeps) = true ∨ ∃ ty, w = Cond.arrayClass ty := List.forall_mem_cons.mpr ⟨good_of_word rfl, List.forall_mem_append.mpr ⟨fun w h => good_of_word (List.all_eq_true.mp (by decide +kernel) w h), List.forall_mem_append.mpr ⟨gu_X19, List.forall_mem_append.mpr ⟨gd_dm_X19_come, fun _ h => nomatch h⟩⟩⟩⟩
theorem hi_dm_X19_shows_X19 : ∀ w ∈ u_ws RX19 TX19 36, w ∈ ow_dm_X19_shows := fun w h => List.mem_cons_of_mem _ (List.mem_append_right _ (List.mem_append_left _ h))
theorem gi_dm_X19_shows_0 : GoodIn ow_dm_X19_shows (wsV RX19 266 RX19 yX19_come ow_dm_X19_come) := goodIn_app (goodIn_of _ (by decide +kernel)) (fun w h => ⟨List.mem_cons_of_mem _ (List.mem_append_right _ (List.mem_append_right _ (List.mem_append_left _ h))), gd_dm_X19_come w h⟩)
def dj_X19_shows_20 (p : Program) (l : Launch) (e : Env) (s : State) (m : MethodId) (args : Array Value) (below : List Frame) (meth : Method) (c : Code) (Q : State → Prop) (A : Nat → Prop) (dC : Nat → ClassId) (dI : Nat → Nat → Nat) (a : Nat → Nat) (ac : Nat → ClassId) (g : (St × (St) × (St × (St × (St))) × (St) × (St)) → Option (Int32 × (St × (St) × (St × (St × (St))) × (St) × (St)))) (r : Int32 × (St × (St) × (St × (St × (St))) × (St) × (St))) : Prop := ∀ (s0 : St × (St) × (St × (St × (St))) × (St) × (St)) (H : Heap) (locs : List Loc) (ls : Array Slot), g s0 = some r → va_P (dC, dI) vwCl (dw_X19 a ac s0) H → va_D A (dw_X19 a ac s0) → va_S A s.heap H locs → lv_has ls 1 [(0, .ref (a 0))] → W p l e (headSpec ow_dm_X19_shows ({ frames := 10, cells := 0, slots := 0, locals := 225 })).room s m args below meth c H locs 0 0 Q (F0 m 20 ls [])
def dj_X19_shows_0 (p : Program) (l : Launch) (e : Env) (s : State) (m : MethodId) (args : Array Value) (below : List Frame) (meth : Method) (c : Code) (Q : State → Prop) (A : Nat → Prop) (dC : Nat → ClassId) (dI : Nat → Nat → Nat) (a : Nat → Nat) (ac : Nat → ClassId) (g : (St × (St) × (St × (St × (St))) × (St) × (St)) → Option (Int32 × (St × (St) × (St × (St × (St))) × (St) × (St)))) (r : Int32 × (St × (St) × (St × (St × (St))) × (St) × (St))) : Prop := ∀ (s0 : St × (St) × (St × (St × (St))) × (St) × (St)) (H : Heap) (locs : List Loc) (ls : Array Slot), g s0 = some r → va_P (dC, dI) vwCl (dw_X19 a ac s0) H → va_D A (dw_X19 a ac s0) → va_S A s.heap H locs → lv_has ls 1 [(0, .ref (a 0))] → W p l e (headSpec ow_dm_X19_shows ({ frames := 10, cells := 0, slots := 0, locals := 225 })).room s m args below meth c H locs 0 0 Q (F0 m 0 ls [])
set_option maxHeartbeats 40000000 in
set_option maxRecDepth 100000 in
theorem db_X19_shows_20 {p : Program} {l : Launch} {e : Env} {s : State} {m : MethodId} {args : Array Value} {below : List Frame} {meth : Method} {c : Code} {Q : State → Prop} {A : Nat → Prop} {dC : Nat → ClassId} {dI : Nat → Nat → Nat} {a : Nat → Nat} {ac : Nat → ClassId} {n : Nat} {r : Int32 × (St × (St) × (St × (St × (St))) × (St) × (St))} (C : nd_C p l s m args c A (dC, dI) cX19_shows 1 RX19 ow_dm_X19_shows (dk_X19 ac)) (K : nd_Ki p l e (headSpec ow_dm_X19_shows ({ frames := 10, cells := 0, slots := 0, locals := 225 })).room s m args below meth c Q A (dC, dI) cX19_shows .boolean (St × (St) × (St × (St × (St))) × (St) × (St)) (dw_X19 a ac) r) : dj_X19_shows_20 p l e s m args below meth c Q A dC dI a ac (df_X19_shows_20 n) r := by
  obtain ⟨hlt, hx, hb, hml, hown, hts, hN, hA, hK⟩ := id C
  intro s0 H locs ls h hP hD hS hl
  unfold df_X19_shows_20 at h
  refine lv_aload_n hx hb dX19_shows_20 rfl (lv_at hl 0 rfl) ?_
  refine va_get (D := (dC, dI)) (ci := 20) (v := .int (sI s0.1 3)) (C := RX19) (T := TX19) (N := 36) hx hb hts hi_dm_X19_shows_X19 hown hK hP 0 rfl rfl 17 (by decide) (hts (.fieldLink RX19 231 "TimeMachineModel" "booted" "Z") (List.mem_of_getElem? (i := 2) rfl)) (fun _ h9 => h9) rfl dX19_shows_21 ?_
  obtain ⟨n3, h⟩ := nd_z_e ⟨_, rfl⟩ h
  exact K _ _ _ _ _ _ dX19_shows_24 n3 (Option.some.inj h).symm hP hD hS
set_option maxHeartbeats 40000000 in
set_option maxRecDepth 100000 in
theorem db_X19_shows_0 {p : Program} {l : Launch} {e : Env} {s : State} {m : MethodId} {args : Array Value} {below : List Frame} {meth : Method} {c : Code} {Q : State → Prop} {A : Nat → Prop} {dC : Nat → ClassId} {dI : Nat → Nat → Nat} {a : Nat → Nat} {ac : Nat → ClassId} {n : Nat} {r : Int32 × (St × (St) × (St × (St × (St))) × (St) × (St))} (C : nd_C p l s m args c A (dC, dI) cX19_shows 1 RX19 ow_dm_X19_shows (dk_X19 ac)) (K : nd_Ki p l e (headSpec ow_dm_X19_shows ({ frames := 10, cells := 0, slots := 0, locals := 225 })).room s m args below meth c Q A (dC, dI) cX19_shows .boolean (St × (St) × (St × (St × (St))) × (St) × (St)) (dw_X19 a ac) r) : dj_X19_shows_0 p l e s m args below meth c Q A dC dI a ac (df_X19_shows_0 n) r := by
  obtain ⟨hlt, hx, hb, hml, hown, hts, hN, hA, hK⟩ := id C
  intro s0 H locs ls h hP hD hS hl
  unfold df_X19_shows_0 at h
  refine lv_aload_n hx hb dX19_shows_0 rfl (lv_at hl 0 rfl) ?_
  refine lv_iconst (v := 0) hx hb dX19_shows_1 (by decide) ?_
  refine va_put (D := (dC, dI)) (ci := 20) (v := .int 0) (ty := .int) (C := RX19) (T := TX19) (N := 36) hx hb hts hi_dm_X19_shows_X19 tyX19 tyX19_ok nmX19 hown hK hP hD hS 0 rfl rfl 0 (by decide) (hts (.fieldLink RX19 113 "TimeMachineModel" "code" "I") (List.mem_of_getElem? (i := 1) rfl)) (fun _ h9 => h9) rfl (by decide +kernel) rfl rfl (Nat.le_of_ble_eq_true rfl) dX19_shows_2 (fun H locs hP hD hS => ?_)
  obtain ⟨s1, es1, h⟩ := nd_let_e h
  have hP : va_P (dC, dI) vwCl (dw_X19 a ac s1) H := by rw [es1]; exact hP
  have hD : va_D A (dw_X19 a ac s1) := by rw [es1]; exact hD
  refine lv_aload_n hx hb dX19_shows_5 rfl (lv_at hl 0 rfl) ?_
  refine va_get (D := (dC, dI)) (ci := 20) (v := .int (sI s1.1 3)) (C := RX19) (T := TX19) (N := 36) hx hb hts hi_dm_X19_shows_X19 hown hK hP 0 rfl rfl 17 (by decide) (hts (.fieldLink RX19 231 "TimeMachineModel" "booted" "Z") (List.mem_of_getElem? (i := 2) rfl)) (fun _ h9 => h9) rfl dX19_shows_6 ?_
  refine lv_if_eq (tgt := 20) hx hb dX19_shows_9 (by decide) (fun c2 => ?_) (fun c2 => ?_)
  · have h := nd_pos h c2
    exact (db_X19_shows_20 C K)  s1 _ _ _ h hP hD hS (lv_sub hl [0] rfl)
  · have h := nd_neg h c2
    refine lv_aload_n hx hb dX19_shows_12 rfl (lv_at hl 0 rfl) ?_
    refine lv_aload_n hx hb dX19_shows_13 rfl (lv_at hl 0 rfl) ?_
    refine va_get (D := (dC, dI)) (ci := 20) (v := .int (sI s1.1 5)) (C := RX19) (T := TX19) (N := 36) hx hb hts hi_dm_X19_shows_X19 hown hK hP 0 rfl rfl 19 (by decide) (hts (.fieldLink RX19 234 "TimeMachineModel" "now" "I") (List.mem_of_getElem? (i := 3) rfl)) (fun _ h9 => h9) rfl dX19_shows_14 ?_
    obtain ⟨s5, hq, h⟩ := nd_b1_e h
    have hPc := hP
    have hDc := hD
    have hKc := hK
    have hFc := nd_rs hD hS hA
    refine nd_cVv (As := [.int (sI s1.1 5)]) (rest := []) (w' := dw_X19 a ac s5) ⟨hx, hb, hml, hown, hts⟩ (fun sz => dm_X19_come l hlt dC dI a ac n ((sI s1.1 5)) s1 hq sz) (cwV 1 hts gi_dm_X19_shows_0 rfl rfl rfl (by decide +kernel) ⟨Nat.le_of_ble_eq_true rfl, Nat.le_of_ble_eq_true rfl⟩) hPc hDc hKc hS hA hN (va_recv hKc hPc (ci := 20) (q0 := 0) rfl rfl) rfl hl.1 rfl (Nat.le_of_ble_eq_true rfl) dX19_shows_17 (fun H locs hP1 hD1 hk1 hS => ?_)
    have hP := hP1
    have hD := hD1.weaken (fun k q _ h => hFc q.1 h)
    exact (db_X19_shows_20 C K)  s5 _ _ _ h hP hD hS (lv_sub hl [0] rfl)
set_option maxHeartbeats 40000000 in
set_option maxRecDepth 100000 in
theorem dm_X19_shows (l : Launch) (hlt : l.stackTraces = false) (dC : Nat → ClassId) (dI : Nat → Nat → Nat) (a : Nat → Nat) (ac : Nat → ClassId) (n : Nat) (s0 : St × (St) × (St × (St × (St))) × (St) × (St)) {r : Int32 × (St × (St) × (St × (St × (St))) × (St) × (St))} (h : df_X19_shows n s0 = some r) (sz : Nat) : Met l yX19_shows ow_dm_X19_shows ({ frames := 10, cells := 0, slots := 0, locals := 225 }) (va_Pc [.ref (a 0)] (fun U => U.heap.size = sz ∧ va_P (dC, dI) vwCl (dw_X19 a ac s0) U.heap ∧ va_K (dC, dI) vwCl (dk_X19 ac) U ∧ va_D (fun _ => True) (dw_X19 a ac s0) ∧ nv_E dI (va_A (dw_X19 a ac s0) sz) U)) (va_Qi (fun x _ => x = r.1) (fun (_ : Unit) t => va_P (dC, dI) vwCl (dw_X19 a ac r.2) t.heap ∧ va_K (dC, dI) vwCl (dk_X19 ac) t ∧ va_D (va_A (dw_X19 a ac s0) sz) (dw_X19 a ac r.2)) (va_A (dw_X19 a ac s0) sz)) 0 0 (va_A (dw_X19 a ac s0) sz) := by
  refine Met.ofW (cc := cX19_shows) (maxL := 1) (ret := (some .boolean)) (by decide) rfl ?_
  intro p e s m args below meth c s₁ B hml hv
  obtain ⟨rfl, hsz, hP, hK, hD0, hN⟩ := hv
  have hx := B.exec
  have hb := B.bytes
  have hr := B.returns
  have hts := atoms_spec (ws := ow_dm_X19_shows) B.pre
  have hown : s.vm.findClass RX19 = some m.cls := findClass_of_methodNamed B.named
  have hlocks := B.notSynchronized
  subst hsz
  have hD := hD0.self (sz := s.heap.size)
  generalize hAe : va_A (dw_X19 a ac s0) s.heap.size = A at hD hN ⊢
  have hA : ∀ q : Nat, s.heap.size ≤ q → A q := fun q h => by rw [← hAe]; exact Or.inr h
  have hl := lv_entry ([.ref (a 0)]) (n := 1) (Nat.le_of_ble_eq_true rfl)
  rw [lg_entry_eq]
  generalize (lg_sl ([.ref (a 0)]) ++ List.replicate (1 - (lg_sl ([.ref (a 0)])).length) Slot.unset).toArray = ls at hl ⊢
  have hl : lv_has ls 1 [(0, .ref (a 0))] := hl
  exact db_X19_shows_0 (dC := dC) (dI := dI) (a := a) (ac := ac) (n := n) (r := r) ⟨hlt, hx, hb, hml, hown, hts, hN, hA, hK⟩ (fun pc v τ H locs ls d z er hP hD hS => by subst er; exact W.zret (v := v) hx hb hr z (fun t ht hW => ⟨⟨v, (), rfl, rfl, by rw [ht]; exact hP, va_K.moved hW.alike hK, hD⟩, hS.F ht⟩) hS.2.2 d) s0 _ _ _ h hP hD va_S.rf (lv_sub hl [0] rfl)
def ow_dm_X19_register : List Cond := Cond.code yX19_register cX19_register 3 (some .int) :: ([Cond.methodLink RX19 315 yX19_shows, Cond.instanceMethod yX19_shows, Cond.selects RX19 yX19_shows yX19_shows, Cond.initialized RX19, Cond.fieldLink RX19 58 "TimeMachineModel" "m" "LTimeMachineModel$Machine;", Cond.methodLink RX19 318 yX16_register, Cond.instanceMethod yX16_register, Cond.selects RX16 yX16_register yX16_register, Cond.initialized RX16] ++ (u_ws RX19 TX19 36 ++ (ow_dm_X19_shows ++ (ow_dm_X16_register ++ []))))
theorem gd_dm_X19_register : ∀ w ∈ ow_dm_X19_register, (w.onTables && w.keeps) = true ∨ ∃ ty, w = Cond.arrayClass ty := List.forall_mem_cons.mpr ⟨good_of_word rfl, List.forall_mem_append.mpr ⟨fun w h => good_of_word (List.all_eq_true.mp (by decide +kernel) w h), List.forall_mem_append.mpr ⟨gu_X19, List.forall_mem_append.mpr ⟨gd_dm_X19_shows, List.forall_mem_append.mpr ⟨gd_dm_X16_register, fun _ h => nomatch h⟩⟩⟩⟩⟩
theorem hi_dm_X19_register_X19 : ∀ w ∈ u_ws RX19 TX19 36, w ∈ ow_dm_X19_register := fun w h => List.mem_cons_of_mem _ (List.mem_append_right _ (List.mem_append_left _ h))
theorem gi_dm_X19_register_0 : GoodIn ow_dm_X19_register (wsV RX19 315 RX19 yX19_shows ow_dm_X19_shows) := goodIn_app (goodIn_of _ (by decide +kernel)) (fun w h => ⟨List.mem_cons_of_mem _ (List.mem_append_right _ (List.mem_append_right _ (List.mem_append_left _ h))), gd_dm_X19_shows w h⟩)
theorem gi_dm_X19_register_1 : GoodIn ow_dm_X19_register (wsV RX19 318 RX16 yX16_register ow_dm_X16_register) := goodIn_app (goodIn_of _ (by decide +kernel)) (fun w h => ⟨List.mem_cons_of_mem _ (List.mem_append_right _ (List.mem_append_right _ (List.mem_append_right _ (List.mem_append_left _ h)))), gd_dm_X16_register w h⟩)
def dj_X19_register_20 (p : Program) (l : Launch) (e : Env) (s : State) (m : MethodId) (args : Array Value) (below : List Frame) (meth : Method) (c : Code) (Q : State → Prop) (A : Nat → Prop) (dC : Nat → ClassId) (dI : Nat → Nat → Nat) (a : Nat → Nat) (ac : Nat → ClassId) (g : Int32 → (St × (St) × (St × (St × (St))) × (St) × (St)) → Option (Int32 × (St × (St) × (St × (St × (St))) × (St) × (St)))) (r : Int32 × (St × (St) × (St × (St × (St))) × (St) × (St))) : Prop := ∀ (y0 : Int32) (s0 : St × (St) × (St × (St × (St))) × (St) × (St)) (H : Heap) (locs : List Loc) (ls : Array Slot), g y0 s0 = some r → va_P (dC, dI) vwCl (dw_X19 a ac s0) H → va_D A (dw_X19 a ac s0) → va_S A s.heap H locs → lv_has ls 3 [] → W p l e (headSpec ow_dm_X19_register ({ frames := 11, cells := 0, slots := 0, locals := 245 })).room s m args below meth c H locs 0 0 Q (F0 m 20 ls [.int y0])
def dj_X19_register_0 (p : Program) (l : Launch) (e : Env) (s : State) (m : MethodId) (args : Array Value) (below : List Frame) (meth : Method) (c : Code) (Q : State → Prop) (A : Nat → Prop) (dC : Nat → ClassId) (dI : Nat → Nat → Nat) (a : Nat → Nat) (ac : Nat → ClassId) (g : Int32 → Int32 → (St × (St) × (St × (St × (St))) × (St) × (St)) → Option (Int32 × (St × (St) × (St × (St × (St))) × (St) × (St)))) (r : Int32 × (St × (St) × (St × (St × (St))) × (St) × (St))) : Prop := ∀ (v0 : Int32) (v1 : Int32) (s0 : St × (St) × (St × (St × (St))) × (St) × (St)) (H : Heap) (locs : List Loc) (ls : Array Slot), g v0 v1 s0 = some r → va_P (dC, dI) vwCl (dw_X19 a ac s0) H → va_D A (dw_X19 a ac s0) → va_S A s.heap H locs → lv_has ls 3 [(0, .ref (a 0)), (1, .int v0), (2, .int v1)] → W p l e (headSpec ow_dm_X19_register ({ frames := 11, cells := 0, slots := 0, locals := 245 })).room s m args below meth c H locs 0 0 Q (F0 m 0 ls [])
set_option maxHeartbeats 40000000 in
set_option maxRecDepth 100000 in
theorem db_X19_register_20 {p : Program} {l : Launch} {e : Env} {s : State} {m : MethodId} {args : Array Value} {below : List Frame} {meth : Method} {c : Code} {Q : State → Prop} {A : Nat → Prop} {dC : Nat → ClassId} {dI : Nat → Nat → Nat} {a : Nat → Nat} {ac : Nat → ClassId} {n : Nat} {r : Int32 × (St × (St) × (St × (St × (St))) × (St) × (St))} (C : nd_C p l s m args c A (dC, dI) cX19_register 3 RX19 ow_dm_X19_register (dk_X19 ac)) (K : nd_Ki p l e (headSpec ow_dm_X19_register ({ frames := 11, cells := 0, slots := 0, locals := 245 })).room s m args below meth c Q A (dC, dI) cX19_register .int (St × (St) × (St × (St × (St))) × (St) × (St)) (dw_X19 a ac) r) : dj_X19_register_20 p l e s m args below meth c Q A dC dI a ac (df_X19_register_20 n) r := by
  obtain ⟨hlt, hx, hb, hml, hown, hts, hN, hA, hK⟩ := id C
  intro y0 s0 H locs ls h hP hD hS hl
  unfold df_X19_register_20 at h
  exact K _ _ _ _ _ _ dX19_register_20 rfl (Option.some.inj h).symm hP hD hS
set_option maxHeartbeats 40000000 in
set_option maxRecDepth 100000 in
theorem db_X19_register_0 {p : Program} {l : Launch} {e : Env} {s : State} {m : MethodId} {args : Array Value} {below : List Frame} {meth : Method} {c : Code} {Q : State → Prop} {A : Nat → Prop} {dC : Nat → ClassId} {dI : Nat → Nat → Nat} {a : Nat → Nat} {ac : Nat → ClassId} {n : Nat} {r : Int32 × (St × (St) × (St × (St × (St))) × (St) × (St))} (C : nd_C p l s m args c A (dC, dI) cX19_register 3 RX19 ow_dm_X19_register (dk_X19 ac)) (K : nd_Ki p l e (headSpec ow_dm_X19_register ({ frames := 11, cells := 0, slots := 0, locals := 245 })).room s m args below meth c Q A (dC, dI) cX19_register .int (St × (St) × (St × (St × (St))) × (St) × (St)) (dw_X19 a ac) r) : dj_X19_register_0 p l e s m args below meth c Q A dC dI a ac (df_X19_register_0 n) r := by
  obtain ⟨hlt, hx, hb, hml, hown, hts, hN, hA, hK⟩ := id C
  intro v0 v1 s0 H locs ls h hP hD hS hl
  unfold df_X19_register_0 at h
  refine lv_aload_n hx hb dX19_register_0 rfl (lv_at hl 0 rfl) ?_
  obtain ⟨q1, s2, hq, h⟩ := nd_b2_e h
  have hPc := hP
  have hDc := hD
  have hKc := hK
  have hFc := nd_rs hD hS hA
  refine nd_cVi (As := []) (rest := []) (q := q1) (w' := dw_X19 a ac s2) ⟨hx, hb, hml, hown, hts⟩ (fun sz => dm_X19_shows l hlt dC dI a ac n  s0 hq sz) (cwV 0 hts gi_dm_X19_register_0 rfl rfl rfl (by decide +kernel) ⟨Nat.le_of_ble_eq_true rfl, Nat.le_of_ble_eq_true rfl⟩) hPc hDc hKc hS hA hN (va_recv hKc hPc (ci := 20) (q0 := 0) rfl rfl) rfl hl.1 rfl (Nat.le_of_ble_eq_true rfl) dX19_register_1 (fun H locs hP1 hD1 hk1 hS => ?_)
  have hP := hP1
  have hD := hD1.weaken (fun k q _ h => hFc q.1 h)
  refine lv_if_eq (tgt := 19) hx hb dX19_register_4 (by decide) (fun c4 => ?_) (fun c4 => ?_)
  · have h := nd_pos h c4
    refine lv_iconst (v := 0) hx hb dX19_register_19 (by decide) ?_
    exact (db_X19_register_20 C K) (0) s2 _ _ _ h hP hD hS (lv_sub hl [] rfl)
  · have h := nd_neg h c4
    refine lv_aload_n hx hb dX19_register_7 rfl (lv_at hl 0 rfl) ?_
    refine va_get (D := (dC, dI)) (ci := 20) (v := .ref (a 44)) (C := RX19) (T := TX19) (N := 36) hx hb hts hi_dm_X19_register_X19 hown hK hP 0 rfl rfl 13 (by decide) (hts (.fieldLink RX19 58 "TimeMachineModel" "m" "LTimeMachineModel$Machine;") (List.mem_of_getElem? (i := 5) rfl)) (fun _ h9 => h9) rfl dX19_register_8 ?_
    refine lv_iload_n hx hb dX19_register_11 rfl (lv_at hl 1 rfl) ?_
    refine lv_iload_n hx hb dX19_register_12 rfl (lv_at hl 2 rfl) ?_
    obtain ⟨q5, s6, hq, h⟩ := nd_b2_e h
    have hPc := dp_X19_44 hP
    have hDc := dd_X19_44 hD
    have hKc := dy_X19_44 hK
    have hFc := nd_rs hDc hS hA
    have hzA : ∀ q : Nat, H.size ≤ q → A q := fun q h => hA q (Nat.le_trans hS.1 h)
    refine nd_cVi (As := [.int v0, .int v1]) (rest := []) (q := q5) (w' := dw_X16 (fun k => a (k + 44)) (fun k => ac (k + 44)) s6) ⟨hx, hb, hml, hown, hts⟩ (fun sz => dm_X16_register l hlt dC dI (fun k => a (k + 44)) (fun k => ac (k + 44)) n (v0) (v1) s2.2.2.1.2 hq sz) (cwV 2 hts gi_dm_X19_register_1 rfl rfl rfl (by decide +kernel) ⟨Nat.le_of_ble_eq_true rfl, Nat.le_of_ble_eq_true rfl⟩) hPc hDc hKc hS hA hN (va_recv hKc hPc (ci := 17) (q0 := 0) rfl rfl) rfl hl.1 rfl (Nat.le_of_ble_eq_true rfl) dX19_register_13 (fun H locs hP1 hD1 hk1 hS => ?_)
    obtain ⟨hP, hD⟩ := dn_X19_44 hP hD hzA hk1 hP1 hD1
    obtain ⟨s8, es8, h⟩ := nd_let_e h
    have hP : va_P (dC, dI) vwCl (dw_X19 a ac s8) H := by rw [es8]; exact hP
    have hD : va_D A (dw_X19 a ac s8) := by rw [es8]; exact hD
    refine lv_goto (tgt := 20) hx hb dX19_register_16 (by decide) ?_
    exact (db_X19_register_20 C K) (q5) s8 _ _ _ h hP hD hS (lv_sub hl [] rfl)
set_option maxHeartbeats 40000000 in
set_option maxRecDepth 100000 in
theorem dm_X19_register (l : Launch) (hlt : l.stackTraces = false) (dC : Nat → ClassId) (dI : Nat → Nat → Nat) (a : Nat → Nat) (ac : Nat → ClassId) (n : Nat) (v0 : Int32) (v1 : Int32) (s0 : St × (St) × (St × (St × (St))) × (St) × (St)) {r : Int32 × (St × (St) × (St × (St × (St))) × (St) × (St))} (h : df_X19_register n v0 v1 s0 = some r) (sz : Nat) : Met l yX19_register ow_dm_X19_register ({ frames := 11, cells := 0, slots := 0, locals := 245 }) (va_Pc [.ref (a 0), .int v0, .int v1] (fun U => U.heap.size = sz ∧ va_P (dC, dI) vwCl (dw_X19 a ac s0) U.heap ∧ va_K (dC, dI) vwCl (dk_X19 ac) U ∧ va_D (fun _ => True) (dw_X19 a ac s0) ∧ nv_E dI (va_A (dw_X19 a ac s0) sz) U)) (va_Qi (fun x _ => x = r.1) (fun (_ : Unit) t => va_P (dC, dI) vwCl (dw_X19 a ac r.2) t.heap ∧ va_K (dC, dI) vwCl (dk_X19 ac) t ∧ va_D (va_A (dw_X19 a ac s0) sz) (dw_X19 a ac r.2)) (va_A (dw_X19 a ac s0) sz)) 0 0 (va_A (dw_X19 a ac s0) sz) := by
  refine Met.ofW (cc := cX19_register) (maxL := 3) (ret := (some .int)) (by decide) rfl ?_
  intro p e s m args below meth c s₁ B hml hv
  obtain ⟨rfl, hsz, hP, hK, hD0, hN⟩ := hv
  have hx := B.exec
  have hb := B.bytes
  have hr := B.returns
  have hts := atoms_spec (ws := ow_dm_X19_register) B.pre
  have hown : s.vm.findClass RX19 = some m.cls := findClass_of_methodNamed B.named
  have hlocks := B.notSynchronized
  subst hsz
  have hD := hD0.self (sz := s.heap.size)
  generalize hAe : va_A (dw_X19 a ac s0) s.heap.size = A at hD hN ⊢
  have hA : ∀ q : Nat, s.heap.size ≤ q → A q := fun q h => by rw [← hAe]; exact Or.inr h
  have hl := lv_entry ([.ref (a 0), .int v0, .int v1]) (n := 3) (Nat.le_of_ble_eq_true rfl)
  rw [lg_entry_eq]
  generalize (lg_sl ([.ref (a 0), .int v0, .int v1]) ++ List.replicate (3 - (lg_sl ([.ref (a 0), .int v0, .int v1])).length) Slot.unset).toArray = ls at hl ⊢
  have hl : lv_has ls 3 [(0, .ref (a 0)), (1, .int v0), (2, .int v1)] := hl
  exact db_X19_register_0 (dC := dC) (dI := dI) (a := a) (ac := ac) (n := n) (r := r) ⟨hlt, hx, hb, hml, hown, hts, hN, hA, hK⟩ (fun pc v τ H locs ls d z er hP hD hS => by subst er; exact W.zret (v := v) hx hb hr z (fun t ht hW => ⟨⟨v, (), rfl, rfl, by rw [ht]; exact hP, va_K.moved hW.alike hK, hD⟩, hS.F ht⟩) hS.2.2 d) v0 v1 s0 _ _ _ h hP hD va_S.rf (lv_sub hl [0, 1, 2] rfl)
def ow_dm_X19_process : List Cond := Cond.code yX19_process cX19_process 3 (some .int) :: ([Cond.methodLink RX19 315 yX19_shows, Cond.instanceMethod yX19_shows, Cond.selects RX19 yX19_shows yX19_shows, Cond.initialized RX19, Cond.constantLong RX19 325 (6), Cond.methodLink RX19 126 yX19_in, Cond.static yX19_in, Cond.constantLong RX19 255 (15), Cond.fieldLink RX19 58 "TimeMachineModel" "m" "LTimeMachineModel$Machine;", Cond.methodLink RX19 322 yX16_process, Cond.instanceMethod yX16_process, Cond.selects RX16 yX16_process yX16_process, Cond.initialized RX16] ++ (u_ws RX19 TX19 36 ++ (ow_dm_X19_shows ++ (ow_dm_X19_in ++ (ow_dm_X16_process ++ [])))))
theorem gd_dm_X19_process : ∀ w ∈ ow_dm_X19_process, (w.onTables && w.keeps) = true ∨ ∃ ty, w = Cond.arrayClass ty := List.forall_mem_cons.mpr ⟨good_of_word rfl, List.forall_mem_append.mpr ⟨fun w h => good_of_word (List.all_eq_true.mp (by decide +kernel) w h), List.forall_mem_append.mpr ⟨gu_X19, List.forall_mem_append.mpr ⟨gd_dm_X19_shows, List.forall_mem_append.mpr ⟨gd_dm_X19_in, List.forall_mem_append.mpr ⟨gd_dm_X16_process, fun _ h => nomatch h⟩⟩⟩⟩⟩⟩
theorem hi_dm_X19_process_X19 : ∀ w ∈ u_ws RX19 TX19 36, w ∈ ow_dm_X19_process := fun w h => List.mem_cons_of_mem _ (List.mem_append_right _ (List.mem_append_left _ h))
theorem gi_dm_X19_process_0 : GoodIn ow_dm_X19_process (wsV RX19 315 RX19 yX19_shows ow_dm_X19_shows) := goodIn_app (goodIn_of _ (by decide +kernel)) (fun w h => ⟨List.mem_cons_of_mem _ (List.mem_append_right _ (List.mem_append_right _ (List.mem_append_left _ h))), gd_dm_X19_shows w h⟩)
theorem gi_dm_X19_process_1 : GoodIn ow_dm_X19_process (wsS RX19 126 yX19_in ow_dm_X19_in) := goodIn_app (goodIn_of _ (by decide +kernel)) (fun w h => ⟨List.mem_cons_of_mem _ (List.mem_append_right _ (List.mem_append_right _ (List.mem_append_right _ (List.mem_append_left _ h)))), gd_dm_X19_in w h⟩)
theorem gi_dm_X19_process_2 : GoodIn ow_dm_X19_process (wsV RX19 322 RX16 yX16_process ow_dm_X16_process) := goodIn_app (goodIn_of _ (by decide +kernel)) (fun w h => ⟨List.mem_cons_of_mem _ (List.mem_append_right _ (List.mem_append_right _ (List.mem_append_right _ (List.mem_append_right _ (List.mem_append_left _ h))))), gd_dm_X16_process w h⟩)
def dj_X19_process_53 (p : Program) (l : Launch) (e : Env) (s : State) (m : MethodId) (args : Array Value) (below : List Frame) (meth : Method) (c : Code) (Q : State → Prop) (A : Nat → Prop) (dC : Nat → ClassId) (dI : Nat → Nat → Nat) (a : Nat → Nat) (ac : Nat → ClassId) (g : Int32 → (St × (St) × (St × (St × (St))) × (St) × (St)) → Option (Int32 × (St × (St) × (St × (St × (St))) × (St) × (St)))) (r : Int32 × (St × (St) × (St × (St × (St))) × (St) × (St))) : Prop := ∀ (y0 : Int32) (s0 : St × (St) × (St × (St × (St))) × (St) × (St)) (H : Heap) (locs : List Loc) (ls : Array Slot), g y0 s0 = some r → va_P (dC, dI) vwCl (dw_X19 a ac s0) H → va_D A (dw_X19 a ac s0) → va_S A s.heap H locs → lv_has ls 3 [] → W p l e (headSpec ow_dm_X19_process ({ frames := 11, cells := 0, slots := 0, locals := 245 })).room s m args below meth c H locs 0 0 Q (F0 m 53 ls [.int y0])
def dj_X19_process_48 (p : Program) (l : Launch) (e : Env) (s : State) (m : MethodId) (args : Array Value) (below : List Frame) (meth : Method) (c : Code) (Q : State → Prop) (A : Nat → Prop) (dC : Nat → ClassId) (dI : Nat → Nat → Nat) (a : Nat → Nat) (ac : Nat → ClassId) (g : (St × (St) × (St × (St × (St))) × (St) × (St)) → Option (Int32 × (St × (St) × (St × (St × (St))) × (St) × (St)))) (r : Int32 × (St × (St) × (St × (St × (St))) × (St) × (St))) : Prop := ∀ (s0 : St × (St) × (St × (St × (St))) × (St) × (St)) (H : Heap) (locs : List Loc) (ls : Array Slot), g s0 = some r → va_P (dC, dI) vwCl (dw_X19 a ac s0) H → va_D A (dw_X19 a ac s0) → va_S A s.heap H locs → lv_has ls 3 [] → W p l e (headSpec ow_dm_X19_process ({ frames := 11, cells := 0, slots := 0, locals := 245 })).room s m args below meth c H locs 0 0 Q (F0 m 48 ls [])
def dj_X19_process_31 (p : Program) (l : Launch) (e : Env) (s : State) (m : MethodId) (args : Array Value) (below : List Frame) (meth : Method) (c : Code) (Q : State → Prop) (A : Nat → Prop) (dC : Nat → ClassId) (dI : Nat → Nat → Nat) (a : Nat → Nat) (ac : Nat → ClassId) (g : Int32 → (St × (St) × (St × (St × (St))) × (St) × (St)) → Option (Int32 × (St × (St) × (St × (St × (St))) × (St) × (St)))) (r : Int32 × (St × (St) × (St × (St × (St))) × (St) × (St))) : Prop := ∀ (x2 : Int32) (s0 : St × (St) × (St × (St × (St))) × (St) × (St)) (H : Heap) (locs : List Loc) (ls : Array Slot), g x2 s0 = some r → va_P (dC, dI) vwCl (dw_X19 a ac s0) H → va_D A (dw_X19 a ac s0) → va_S A s.heap H locs → lv_has ls 3 [(2, .int x2)] → W p l e (headSpec ow_dm_X19_process ({ frames := 11, cells := 0, slots := 0, locals := 245 })).room s m args below meth c H locs 0 0 Q (F0 m 31 ls [])
def dj_X19_process_0 (p : Program) (l : Launch) (e : Env) (s : State) (m : MethodId) (args : Array Value) (below : List Frame) (meth : Method) (c : Code) (Q : State → Prop) (A : Nat → Prop) (dC : Nat → ClassId) (dI : Nat → Nat → Nat) (a : Nat → Nat) (ac : Nat → ClassId) (g : Int32 → Int32 → (St × (St) × (St × (St × (St))) × (St) × (St)) → Option (Int32 × (St × (St) × (St × (St × (St))) × (St) × (St)))) (r : Int32 × (St × (St) × (St × (St × (St))) × (St) × (St))) : Prop := ∀ (v0 : Int32) (v1 : Int32) (s0 : St × (St) × (St × (St × (St))) × (St) × (St)) (H : Heap) (locs : List Loc) (ls : Array Slot), g v0 v1 s0 = some r → va_P (dC, dI) vwCl (dw_X19 a ac s0) H → va_D A (dw_X19 a ac s0) → va_S A s.heap H locs → lv_has ls 3 [(0, .ref (a 0)), (1, .int v0), (2, .int v1)] → W p l e (headSpec ow_dm_X19_process ({ frames := 11, cells := 0, slots := 0, locals := 245 })).room s m args below meth c H locs 0 0 Q (F0 m 0 ls [])
set_option maxHeartbeats 40000000 in
set_option maxRecDepth 100000 in
theorem db_X19_process_53 {p : Program} {l : Launch} {e : Env} {s : State} {m : MethodId} {args : Array Value} {below : List Frame} {meth : Method} {c : Code} {Q : State → Prop} {A : Nat → Prop} {dC : Nat → ClassId} {dI : Nat → Nat → Nat} {a : Nat → Nat} {ac : Nat → ClassId} {n : Nat} {r : Int32 × (St × (St) × (St × (St × (St))) × (St) × (St))} (C : nd_C p l s m args c A (dC, dI) cX19_process 3 RX19 ow_dm_X19_process (dk_X19 ac)) (K : nd_Ki p l e (headSpec ow_dm_X19_process ({ frames := 11, cells := 0, slots := 0, locals := 245 })).room s m args below meth c Q A (dC, dI) cX19_process .int (St × (St) × (St × (St × (St))) × (St) × (St)) (dw_X19 a ac) r) : dj_X19_process_53 p l e s m args below meth c Q A dC dI a ac (df_X19_process_53 n) r := by
  obtain ⟨hlt, hx, hb, hml, hown, hts, hN, hA, hK⟩ := id C
  intro y0 s0 H locs ls h hP hD hS hl
  unfold df_X19_process_53 at h
  exact K _ _ _ _ _ _ dX19_process_53 rfl (Option.some.inj h).symm hP hD hS
set_option maxHeartbeats 40000000 in
set_option maxRecDepth 100000 in
theorem db_X19_process_48 {p : Program} {l : Launch} {e : Env} {s : State} {m : MethodId} {args : Array Value} {below : List Frame} {meth : Method} {c : Code} {Q : State → Prop} {A : Nat → Prop} {dC : Nat → ClassId} {dI : Nat → Nat → Nat} {a : Nat → Nat} {ac : Nat → ClassId} {n : Nat} {r : Int32 × (St × (St) × (St × (St × (St))) × (St) × (St))} (C : nd_C p l s m args c A (dC, dI) cX19_process 3 RX19 ow_dm_X19_process (dk_X19 ac)) (K : nd_Ki p l e (headSpec ow_dm_X19_process ({ frames := 11, cells := 0, slots := 0, locals := 245 })).room s m args below meth c Q A (dC, dI) cX19_process .int (St × (St) × (St × (St × (St))) × (St) × (St)) (dw_X19 a ac) r) : dj_X19_process_48 p l e s m args below meth c Q A dC dI a ac (df_X19_process_48 n) r := by
  obtain ⟨hlt, hx, hb, hml, hown, hts, hN, hA, hK⟩ := id C
  intro s0 H locs ls h hP hD hS hl
  unfold df_X19_process_48 at h
  refine lv_iconst (v := (-1)) hx hb dX19_process_48 (by decide) ?_
  refine lv_goto (tgt := 53) hx hb dX19_process_49 (by decide) ?_
  exact (db_X19_process_53 C K) ((-1)) s0 _ _ _ h hP hD hS (lv_sub hl [] rfl)
set_option maxHeartbeats 40000000 in
set_option maxRecDepth 100000 in
theorem db_X19_process_31 {p : Program} {l : Launch} {e : Env} {s : State} {m : MethodId} {args : Array Value} {below : List Frame} {meth : Method} {c : Code} {Q : State → Prop} {A : Nat → Prop} {dC : Nat → ClassId} {dI : Nat → Nat → Nat} {a : Nat → Nat} {ac : Nat → ClassId} {n : Nat} {r : Int32 × (St × (St) × (St × (St × (St))) × (St) × (St))} (C : nd_C p l s m args c A (dC, dI) cX19_process 3 RX19 ow_dm_X19_process (dk_X19 ac)) (K : nd_Ki p l e (headSpec ow_dm_X19_process ({ frames := 11, cells := 0, slots := 0, locals := 245 })).room s m args below meth c Q A (dC, dI) cX19_process .int (St × (St) × (St × (St × (St))) × (St) × (St)) (dw_X19 a ac) r) : dj_X19_process_31 p l e s m args below meth c Q A dC dI a ac (df_X19_process_31 n) r := by
  obtain ⟨hlt, hx, hb, hml, hown, hts, hN, hA, hK⟩ := id C
  intro x2 s0 H locs ls h hP hD hS hl
  unfold df_X19_process_31 at h
  refine lv_iload_n hx hb dX19_process_31 rfl (lv_at hl 0 rfl) ?_
  refine lv_iconst (v := 1) hx hb dX19_process_32 (by decide) ?_
  refine lv_icmp_eq (tgt := 48) hx hb dX19_process_33 (by decide) (fun c5 => ?_) (fun c5 => ?_)
  · have h := nd_pos h c5
    exact (db_X19_process_48 C K)  s0 _ _ _ h hP hD hS (lv_sub hl [] rfl)
  · have h := nd_neg h c5
    refine lv_iload_n hx hb dX19_process_36 rfl (lv_at hl 0 rfl) ?_
    refine lv_i2l hx hb dX19_process_37 rfl ?_
    refine lv_lconst (v := 0) hx hb dX19_process_38 (by decide) ?_
    refine lv_ldc2 hx hb hown (hts (.constantLong RX19 325 (6)) (List.mem_of_getElem? (i := 5) rfl)) dX19_process_39 ?_
    obtain ⟨q6, s7, hq, h⟩ := nd_b2_e h
    have hPc : va_P (dC, dI) vwCl (dw_P a ac ()) H := nd_p0
    have hDc : va_D A (dw_P a ac ()) := nd_d0
    have hKc : va_K (dC, dI) vwCl (dk_P ac) s := nd_y0 hK
    have hFc : ∀ q, va_A (dw_P a ac ()) H.size q → A q := nd_r0 hS hA
    refine nd_cSi (As := [.long (x2.toInt64), .long 0, .long 6]) (rest := []) (q := q6) (w' := dw_P a ac s7) ⟨hx, hb, hml, hown, hts⟩ (fun sz => dm_X19_in l hlt dC dI a ac n ((x2.toInt64)) (0) (6) () hq sz) (cwS 3 hts gi_dm_X19_process_1 rfl rfl rfl (by decide +kernel) ⟨Nat.le_of_ble_eq_true rfl, Nat.le_of_ble_eq_true rfl⟩) hPc hDc hKc hS hA hN rfl hl.1 rfl (Nat.le_of_ble_eq_true rfl) dX19_process_42 (fun H locs hP1 hD1 hk1 hS => ?_)
    have hP := nd_n0 hP hk1
    refine lv_if_ne (tgt := 52) hx hb dX19_process_45 (by decide) (fun c9 => ?_) (fun c9 => ?_)
    · have h := nd_neg h c9
      refine lv_iconst (v := 0) hx hb dX19_process_52 (by decide) ?_
      exact (db_X19_process_53 C K) (0) s0 _ _ _ h hP hD hS (lv_sub hl [] rfl)
    · have h := nd_pos h c9
      exact (db_X19_process_48 C K)  s0 _ _ _ h hP hD hS (lv_sub hl [] rfl)
set_option maxHeartbeats 40000000 in
set_option maxRecDepth 100000 in
theorem db_X19_process_0 {p : Program} {l : Launch} {e : Env} {s : State} {m : MethodId} {args : Array Value} {below : List Frame} {meth : Method} {c : Code} {Q : State → Prop} {A : Nat → Prop} {dC : Nat → ClassId} {dI : Nat → Nat → Nat} {a : Nat → Nat} {ac : Nat → ClassId} {n : Nat} {r : Int32 × (St × (St) × (St × (St × (St))) × (St) × (St))} (C : nd_C p l s m args c A (dC, dI) cX19_process 3 RX19 ow_dm_X19_process (dk_X19 ac)) (K : nd_Ki p l e (headSpec ow_dm_X19_process ({ frames := 11, cells := 0, slots := 0, locals := 245 })).room s m args below meth c Q A (dC, dI) cX19_process .int (St × (St) × (St × (St × (St))) × (St) × (St)) (dw_X19 a ac) r) : dj_X19_process_0 p l e s m args below meth c Q A dC dI a ac (df_X19_process_0 n) r := by
  obtain ⟨hlt, hx, hb, hml, hown, hts, hN, hA, hK⟩ := id C
  intro v0 v1 s0 H locs ls h hP hD hS hl
  unfold df_X19_process_0 at h
  refine lv_aload_n hx hb dX19_process_0 rfl (lv_at hl 0 rfl) ?_
  obtain ⟨q1, s2, hq, h⟩ := nd_b2_e h
  have hPc := hP
  have hDc := hD
  have hKc := hK
  have hFc := nd_rs hD hS hA
  refine nd_cVi (As := []) (rest := []) (q := q1) (w' := dw_X19 a ac s2) ⟨hx, hb, hml, hown, hts⟩ (fun sz => dm_X19_shows l hlt dC dI a ac n  s0 hq sz) (cwV 0 hts gi_dm_X19_process_0 rfl rfl rfl (by decide +kernel) ⟨Nat.le_of_ble_eq_true rfl, Nat.le_of_ble_eq_true rfl⟩) hPc hDc hKc hS hA hN (va_recv hKc hPc (ci := 20) (q0 := 0) rfl rfl) rfl hl.1 rfl (Nat.le_of_ble_eq_true rfl) dX19_process_1 (fun H locs hP1 hD1 hk1 hS => ?_)
  have hP := hP1
  have hD := hD1.weaken (fun k q _ h => hFc q.1 h)
  refine lv_if_eq (tgt := 31) hx hb dX19_process_4 (by decide) (fun c4 => ?_) (fun c4 => ?_)
  · have h := nd_pos h c4
    exact (db_X19_process_31 C K) (v1) s2 _ _ _ h hP hD hS (lv_sub hl [2] rfl)
  · have h := nd_neg h c4
    refine lv_iload_n hx hb dX19_process_7 rfl (lv_at hl 1 rfl) ?_
    refine lv_i2l hx hb dX19_process_8 rfl ?_
    refine lv_lconst (v := 0) hx hb dX19_process_9 (by decide) ?_
    refine lv_ldc2 hx hb hown (hts (.constantLong RX19 255 (15)) (List.mem_of_getElem? (i := 8) rfl)) dX19_process_10 ?_
    obtain ⟨q10, s11, hq, h⟩ := nd_b2_e h
    have hPc : va_P (dC, dI) vwCl (dw_P a ac ()) H := nd_p0
    have hDc : va_D A (dw_P a ac ()) := nd_d0
    have hKc : va_K (dC, dI) vwCl (dk_P ac) s := nd_y0 hK
    have hFc : ∀ q, va_A (dw_P a ac ()) H.size q → A q := nd_r0 hS hA
    refine nd_cSi (As := [.long (v0.toInt64), .long 0, .long 15]) (rest := []) (q := q10) (w' := dw_P a ac s11) ⟨hx, hb, hml, hown, hts⟩ (fun sz => dm_X19_in l hlt dC dI a ac n ((v0.toInt64)) (0) (15) () hq sz) (cwS 3 hts gi_dm_X19_process_1 rfl rfl rfl (by decide +kernel) ⟨Nat.le_of_ble_eq_true rfl, Nat.le_of_ble_eq_true rfl⟩) hPc hDc hKc hS hA hN rfl hl.1 rfl (Nat.le_of_ble_eq_true rfl) dX19_process_13 (fun H locs hP1 hD1 hk1 hS => ?_)
    have hP := nd_n0 hP hk1
    refine lv_if_eq (tgt := 31) hx hb dX19_process_16 (by decide) (fun c13 => ?_) (fun c13 => ?_)
    · have h := nd_pos h c13
      exact (db_X19_process_31 C K) (v1) s2 _ _ _ h hP hD hS (lv_sub hl [2] rfl)
    · have h := nd_neg h c13
      refine lv_aload_n hx hb dX19_process_19 rfl (lv_at hl 0 rfl) ?_
      refine va_get (D := (dC, dI)) (ci := 20) (v := .ref (a 44)) (C := RX19) (T := TX19) (N := 36) hx hb hts hi_dm_X19_process_X19 hown hK hP 0 rfl rfl 13 (by decide) (hts (.fieldLink RX19 58 "TimeMachineModel" "m" "LTimeMachineModel$Machine;") (List.mem_of_getElem? (i := 9) rfl)) (fun _ h9 => h9) rfl dX19_process_20 ?_
      refine lv_iload_n hx hb dX19_process_23 rfl (lv_at hl 1 rfl) ?_
      refine lv_iload_n hx hb dX19_process_24 rfl (lv_at hl 2 rfl) ?_
      obtain ⟨q14, s15, hq, h⟩ := nd_b2_e h
      have hPc := dp_X19_44 hP
      have hDc := dd_X19_44 hD
      have hKc := dy_X19_44 hK
      have hFc := nd_rs hDc hS hA
      have hzA : ∀ q : Nat, H.size ≤ q → A q := fun q h => hA q (Nat.le_trans hS.1 h)
      refine nd_cVi (As := [.int v0, .int v1]) (rest := []) (q := q14) (w' := dw_X16 (fun k => a (k + 44)) (fun k => ac (k + 44)) s15) ⟨hx, hb, hml, hown, hts⟩ (fun sz => dm_X16_process l hlt dC dI (fun k => a (k + 44)) (fun k => ac (k + 44)) n (v0) (v1) s2.2.2.1.2 hq sz) (cwV 2 hts gi_dm_X19_process_2 rfl rfl rfl (by decide +kernel) ⟨Nat.le_of_ble_eq_true rfl, Nat.le_of_ble_eq_true rfl⟩) hPc hDc hKc hS hA hN (va_recv hKc hPc (ci := 17) (q0 := 0) rfl rfl) rfl hl.1 rfl (Nat.le_of_ble_eq_true rfl) dX19_process_25 (fun H locs hP1 hD1 hk1 hS => ?_)
      obtain ⟨hP, hD⟩ := dn_X19_44 hP hD hzA hk1 hP1 hD1
      obtain ⟨s17, es17, h⟩ := nd_let_e h
      have hP : va_P (dC, dI) vwCl (dw_X19 a ac s17) H := by rw [es17]; exact hP
      have hD : va_D A (dw_X19 a ac s17) := by rw [es17]; exact hD
      refine lv_goto (tgt := 53) hx hb dX19_process_28 (by decide) ?_
      exact (db_X19_process_53 C K) (q14) s17 _ _ _ h hP hD hS (lv_sub hl [] rfl)
set_option maxHeartbeats 40000000 in
set_option maxRecDepth 100000 in
theorem dm_X19_process (l : Launch) (hlt : l.stackTraces = false) (dC : Nat → ClassId) (dI : Nat → Nat → Nat) (a : Nat → Nat) (ac : Nat → ClassId) (n : Nat) (v0 : Int32) (v1 : Int32) (s0 : St × (St) × (St × (St × (St))) × (St) × (St)) {r : Int32 × (St × (St) × (St × (St × (St))) × (St) × (St))} (h : df_X19_process n v0 v1 s0 = some r) (sz : Nat) : Met l yX19_process ow_dm_X19_process ({ frames := 11, cells := 0, slots := 0, locals := 245 }) (va_Pc [.ref (a 0), .int v0, .int v1] (fun U => U.heap.size = sz ∧ va_P (dC, dI) vwCl (dw_X19 a ac s0) U.heap ∧ va_K (dC, dI) vwCl (dk_X19 ac) U ∧ va_D (fun _ => True) (dw_X19 a ac s0) ∧ nv_E dI (va_A (dw_X19 a ac s0) sz) U)) (va_Qi (fun x _ => x = r.1) (fun (_ : Unit) t => va_P (dC, dI) vwCl (dw_X19 a ac r.2) t.heap ∧ va_K (dC, dI) vwCl (dk_X19 ac) t ∧ va_D (va_A (dw_X19 a ac s0) sz) (dw_X19 a ac r.2)) (va_A (dw_X19 a ac s0) sz)) 0 0 (va_A (dw_X19 a ac s0) sz) := by
  refine Met.ofW (cc := cX19_process) (maxL := 3) (ret := (some .int)) (by decide) rfl ?_
  intro p e s m args below meth c s₁ B hml hv
  obtain ⟨rfl, hsz, hP, hK, hD0, hN⟩ := hv
  have hx := B.exec
  have hb := B.bytes
  have hr := B.returns
  have hts := atoms_spec (ws := ow_dm_X19_process) B.pre
  have hown : s.vm.findClass RX19 = some m.cls := findClass_of_methodNamed B.named
  have hlocks := B.notSynchronized
  subst hsz
  have hD := hD0.self (sz := s.heap.size)
  generalize hAe : va_A (dw_X19 a ac s0) s.heap.size = A at hD hN ⊢
  have hA : ∀ q : Nat, s.heap.size ≤ q → A q := fun q h => by rw [← hAe]; exact Or.inr h
  have hl := lv_entry ([.ref (a 0), .int v0, .int v1]) (n := 3) (Nat.le_of_ble_eq_true rfl)
  rw [lg_entry_eq]
  generalize (lg_sl ([.ref (a 0), .int v0, .int v1]) ++ List.replicate (3 - (lg_sl ([.ref (a 0), .int v0, .int v1])).length) Slot.unset).toArray = ls at hl ⊢
  have hl : lv_has ls 3 [(0, .ref (a 0)), (1, .int v0), (2, .int v1)] := hl
  exact db_X19_process_0 (dC := dC) (dI := dI) (a := a) (ac := ac) (n := n) (r := r) ⟨hlt, hx, hb, hml, hown, hts, hN, hA, hK⟩ (fun pc v τ H locs ls d z er hP hD hS => by subst er; exact W.zret (v := v) hx hb hr z (fun t ht hW => ⟨⟨v, (), rfl, rfl, by rw [ht]; exact hP, va_K.moved hW.alike hK, hD⟩, hS.F ht⟩) hS.2.2 d) v0 v1 s0 _ _ _ h hP hD va_S.rf (lv_sub hl [0, 1, 2] rfl)
def ow_dm_X19_peek : List Cond := Cond.code yX19_peek cX19_peek 3 (some .int) :: ([Cond.methodLink RX19 315 yX19_shows, Cond.instanceMethod yX19_shows, Cond.selects RX19 yX19_shows yX19_shows, Cond.initialized RX19, Cond.constantLong RX19 255 (15), Cond.methodLink RX19 126 yX19_in, Cond.static yX19_in, Cond.fieldLink RX19 58 "TimeMachineModel" "m" "LTimeMachineModel$Machine;", Cond.methodLink RX19 327 yX16_peek, Cond.instanceMethod yX16_peek, Cond.selects RX16 yX16_peek yX16_peek, Cond.initialized RX16] ++ (u_ws RX19 TX19 36 ++ (ow_dm_X19_shows ++ (ow_dm_X19_in ++ (ow_dm_X16_peek ++ [])))))
theorem gd_dm_X19_peek : ∀ w ∈ ow_dm_X19_peek, (w.onTables && w.keeps) = true ∨ ∃ ty, w = Cond.arrayClass ty := List.forall_mem_cons.mpr ⟨good_of_word rfl, List.forall_mem_append.mpr ⟨fun w h => good_of_word (List.all_eq_true.mp (by decide +kernel) w h), List.forall_mem_append.mpr ⟨gu_X19, List.forall_mem_append.mpr ⟨gd_dm_X19_shows, List.forall_mem_append.mpr ⟨gd_dm_X19_in, List.forall_mem_append.mpr ⟨gd_dm_X16_peek, fun _ h => nomatch h⟩⟩⟩⟩⟩⟩
theorem hi_dm_X19_peek_X19 : ∀ w ∈ u_ws RX19 TX19 36, w ∈ ow_dm_X19_peek := fun w h => List.mem_cons_of_mem _ (List.mem_append_right _ (List.mem_append_left _ h))
theorem gi_dm_X19_peek_0 : GoodIn ow_dm_X19_peek (wsV RX19 315 RX19 yX19_shows ow_dm_X19_shows) := goodIn_app (goodIn_of _ (by decide +kernel)) (fun w h => ⟨List.mem_cons_of_mem _ (List.mem_append_right _ (List.mem_append_right _ (List.mem_append_left _ h))), gd_dm_X19_shows w h⟩)
theorem gi_dm_X19_peek_1 : GoodIn ow_dm_X19_peek (wsS RX19 126 yX19_in ow_dm_X19_in) := goodIn_app (goodIn_of _ (by decide +kernel)) (fun w h => ⟨List.mem_cons_of_mem _ (List.mem_append_right _ (List.mem_append_right _ (List.mem_append_right _ (List.mem_append_left _ h)))), gd_dm_X19_in w h⟩)
theorem gi_dm_X19_peek_2 : GoodIn ow_dm_X19_peek (wsV RX19 327 RX16 yX16_peek ow_dm_X16_peek) := goodIn_app (goodIn_of _ (by decide +kernel)) (fun w h => ⟨List.mem_cons_of_mem _ (List.mem_append_right _ (List.mem_append_right _ (List.mem_append_right _ (List.mem_append_right _ (List.mem_append_left _ h))))), gd_dm_X16_peek w h⟩)
def dj_X19_peek_32 (p : Program) (l : Launch) (e : Env) (s : State) (m : MethodId) (args : Array Value) (below : List Frame) (meth : Method) (c : Code) (Q : State → Prop) (A : Nat → Prop) (dC : Nat → ClassId) (dI : Nat → Nat → Nat) (a : Nat → Nat) (ac : Nat → ClassId) (g : Int32 → (St × (St) × (St × (St × (St))) × (St) × (St)) → Option (Int32 × (St × (St) × (St × (St × (St))) × (St) × (St)))) (r : Int32 × (St × (St) × (St × (St × (St))) × (St) × (St))) : Prop := ∀ (y0 : Int32) (s0 : St × (St) × (St × (St × (St))) × (St) × (St)) (H : Heap) (locs : List Loc) (ls : Array Slot), g y0 s0 = some r → va_P (dC, dI) vwCl (dw_X19 a ac s0) H → va_D A (dw_X19 a ac s0) → va_S A s.heap H locs → lv_has ls 3 [] → W p l e (headSpec ow_dm_X19_peek ({ frames := 11, cells := 0, slots := 0, locals := 245 })).room s m args below meth c H locs 0 0 Q (F0 m 32 ls [.int y0])
def dj_X19_peek_31 (p : Program) (l : Launch) (e : Env) (s : State) (m : MethodId) (args : Array Value) (below : List Frame) (meth : Method) (c : Code) (Q : State → Prop) (A : Nat → Prop) (dC : Nat → ClassId) (dI : Nat → Nat → Nat) (a : Nat → Nat) (ac : Nat → ClassId) (g : (St × (St) × (St × (St × (St))) × (St) × (St)) → Option (Int32 × (St × (St) × (St × (St × (St))) × (St) × (St)))) (r : Int32 × (St × (St) × (St × (St × (St))) × (St) × (St))) : Prop := ∀ (s0 : St × (St) × (St × (St × (St))) × (St) × (St)) (H : Heap) (locs : List Loc) (ls : Array Slot), g s0 = some r → va_P (dC, dI) vwCl (dw_X19 a ac s0) H → va_D A (dw_X19 a ac s0) → va_S A s.heap H locs → lv_has ls 3 [] → W p l e (headSpec ow_dm_X19_peek ({ frames := 11, cells := 0, slots := 0, locals := 245 })).room s m args below meth c H locs 0 0 Q (F0 m 31 ls [])
def dj_X19_peek_0 (p : Program) (l : Launch) (e : Env) (s : State) (m : MethodId) (args : Array Value) (below : List Frame) (meth : Method) (c : Code) (Q : State → Prop) (A : Nat → Prop) (dC : Nat → ClassId) (dI : Nat → Nat → Nat) (a : Nat → Nat) (ac : Nat → ClassId) (g : Int32 → Int32 → (St × (St) × (St × (St × (St))) × (St) × (St)) → Option (Int32 × (St × (St) × (St × (St × (St))) × (St) × (St)))) (r : Int32 × (St × (St) × (St × (St × (St))) × (St) × (St))) : Prop := ∀ (v0 : Int32) (v1 : Int32) (s0 : St × (St) × (St × (St × (St))) × (St) × (St)) (H : Heap) (locs : List Loc) (ls : Array Slot), g v0 v1 s0 = some r → va_P (dC, dI) vwCl (dw_X19 a ac s0) H → va_D A (dw_X19 a ac s0) → va_S A s.heap H locs → lv_has ls 3 [(0, .ref (a 0)), (1, .int v0), (2, .int v1)] → W p l e (headSpec ow_dm_X19_peek ({ frames := 11, cells := 0, slots := 0, locals := 245 })).room s m args below meth c H locs 0 0 Q (F0 m 0 ls [])
set_option maxHeartbeats 40000000 in
set_option maxRecDepth 100000 in
theorem db_X19_peek_32 {p : Program} {l : Launch} {e : Env} {s : State} {m : MethodId} {args : Array Value} {below : List Frame} {meth : Method} {c : Code} {Q : State → Prop} {A : Nat → Prop} {dC : Nat → ClassId} {dI : Nat → Nat → Nat} {a : Nat → Nat} {ac : Nat → ClassId} {n : Nat} {r : Int32 × (St × (St) × (St × (St × (St))) × (St) × (St))} (C : nd_C p l s m args c A (dC, dI) cX19_peek 3 RX19 ow_dm_X19_peek (dk_X19 ac)) (K : nd_Ki p l e (headSpec ow_dm_X19_peek ({ frames := 11, cells := 0, slots := 0, locals := 245 })).room s m args below meth c Q A (dC, dI) cX19_peek .int (St × (St) × (St × (St × (St))) × (St) × (St)) (dw_X19 a ac) r) : dj_X19_peek_32 p l e s m args below meth c Q A dC dI a ac (df_X19_peek_32 n) r := by
  obtain ⟨hlt, hx, hb, hml, hown, hts, hN, hA, hK⟩ := id C
  intro y0 s0 H locs ls h hP hD hS hl
  unfold df_X19_peek_32 at h
  exact K _ _ _ _ _ _ dX19_peek_32 rfl (Option.some.inj h).symm hP hD hS
set_option maxHeartbeats 40000000 in
set_option maxRecDepth 100000 in
theorem db_X19_peek_31 {p : Program} {l : Launch} {e : Env} {s : State} {m : MethodId} {args : Array Value} {below : List Frame} {meth : Method} {c : Code} {Q : State → Prop} {A : Nat → Prop} {dC : Nat → ClassId} {dI : Nat → Nat → Nat} {a : Nat → Nat} {ac : Nat → ClassId} {n : Nat} {r : Int32 × (St × (St) × (St × (St × (St))) × (St) × (St))} (C : nd_C p l s m args c A (dC, dI) cX19_peek 3 RX19 ow_dm_X19_peek (dk_X19 ac)) (K : nd_Ki p l e (headSpec ow_dm_X19_peek ({ frames := 11, cells := 0, slots := 0, locals := 245 })).room s m args below meth c Q A (dC, dI) cX19_peek .int (St × (St) × (St × (St × (St))) × (St) × (St)) (dw_X19 a ac) r) : dj_X19_peek_31 p l e s m args below meth c Q A dC dI a ac (df_X19_peek_31 n) r := by
  obtain ⟨hlt, hx, hb, hml, hown, hts, hN, hA, hK⟩ := id C
  intro s0 H locs ls h hP hD hS hl
  unfold df_X19_peek_31 at h
  refine lv_iconst (v := (-1)) hx hb dX19_peek_31 (by decide) ?_
  exact (db_X19_peek_32 C K) ((-1)) s0 _ _ _ h hP hD hS (lv_sub hl [] rfl)
set_option maxHeartbeats 40000000 in
set_option maxRecDepth 100000 in
theorem db_X19_peek_0 {p : Program} {l : Launch} {e : Env} {s : State} {m : MethodId} {args : Array Value} {below : List Frame} {meth : Method} {c : Code} {Q : State → Prop} {A : Nat → Prop} {dC : Nat → ClassId} {dI : Nat → Nat → Nat} {a : Nat → Nat} {ac : Nat → ClassId} {n : Nat} {r : Int32 × (St × (St) × (St × (St × (St))) × (St) × (St))} (C : nd_C p l s m args c A (dC, dI) cX19_peek 3 RX19 ow_dm_X19_peek (dk_X19 ac)) (K : nd_Ki p l e (headSpec ow_dm_X19_peek ({ frames := 11, cells := 0, slots := 0, locals := 245 })).room s m args below meth c Q A (dC, dI) cX19_peek .int (St × (St) × (St × (St × (St))) × (St) × (St)) (dw_X19 a ac) r) : dj_X19_peek_0 p l e s m args below meth c Q A dC dI a ac (df_X19_peek_0 n) r := by
  obtain ⟨hlt, hx, hb, hml, hown, hts, hN, hA, hK⟩ := id C
  intro v0 v1 s0 H locs ls h hP hD hS hl
  unfold df_X19_peek_0 at h
  refine lv_aload_n hx hb dX19_peek_0 rfl (lv_at hl 0 rfl) ?_
  obtain ⟨q1, s2, hq, h⟩ := nd_b2_e h
  have hPc := hP
  have hDc := hD
  have hKc := hK
  have hFc := nd_rs hD hS hA
  refine nd_cVi (As := []) (rest := []) (q := q1) (w' := dw_X19 a ac s2) ⟨hx, hb, hml, hown, hts⟩ (fun sz => dm_X19_shows l hlt dC dI a ac n  s0 hq sz) (cwV 0 hts gi_dm_X19_peek_0 rfl rfl rfl (by decide +kernel) ⟨Nat.le_of_ble_eq_true rfl, Nat.le_of_ble_eq_true rfl⟩) hPc hDc hKc hS hA hN (va_recv hKc hPc (ci := 20) (q0 := 0) rfl rfl) rfl hl.1 rfl (Nat.le_of_ble_eq_true rfl) dX19_peek_1 (fun H locs hP1 hD1 hk1 hS => ?_)
  have hP := hP1
  have hD := hD1.weaken (fun k q _ h => hFc q.1 h)
  refine lv_if_eq (tgt := 31) hx hb dX19_peek_4 (by decide) (fun c4 => ?_) (fun c4 => ?_)
  · have h := nd_pos h c4
    exact (db_X19_peek_31 C K)  s2 _ _ _ h hP hD hS (lv_sub hl [] rfl)
  · have h := nd_neg h c4
    refine lv_iload_n hx hb dX19_peek_7 rfl (lv_at hl 1 rfl) ?_
    refine lv_i2l hx hb dX19_peek_8 rfl ?_
    refine lv_lconst (v := 0) hx hb dX19_peek_9 (by decide) ?_
    refine lv_ldc2 hx hb hown (hts (.constantLong RX19 255 (15)) (List.mem_of_getElem? (i := 5) rfl)) dX19_peek_10 ?_
    obtain ⟨q5, s6, hq, h⟩ := nd_b2_e h
    have hPc : va_P (dC, dI) vwCl (dw_P a ac ()) H := nd_p0
    have hDc : va_D A (dw_P a ac ()) := nd_d0
    have hKc : va_K (dC, dI) vwCl (dk_P ac) s := nd_y0 hK
    have hFc : ∀ q, va_A (dw_P a ac ()) H.size q → A q := nd_r0 hS hA
    refine nd_cSi (As := [.long (v0.toInt64), .long 0, .long 15]) (rest := []) (q := q5) (w' := dw_P a ac s6) ⟨hx, hb, hml, hown, hts⟩ (fun sz => dm_X19_in l hlt dC dI a ac n ((v0.toInt64)) (0) (15) () hq sz) (cwS 3 hts gi_dm_X19_peek_1 rfl rfl rfl (by decide +kernel) ⟨Nat.le_of_ble_eq_true rfl, Nat.le_of_ble_eq_true rfl⟩) hPc hDc hKc hS hA hN rfl hl.1 rfl (Nat.le_of_ble_eq_true rfl) dX19_peek_13 (fun H locs hP1 hD1 hk1 hS => ?_)
    have hP := nd_n0 hP hk1
    refine lv_if_eq (tgt := 31) hx hb dX19_peek_16 (by decide) (fun c8 => ?_) (fun c8 => ?_)
    · have h := nd_pos h c8
      exact (db_X19_peek_31 C K)  s2 _ _ _ h hP hD hS (lv_sub hl [] rfl)
    · have h := nd_neg h c8
      refine lv_aload_n hx hb dX19_peek_19 rfl (lv_at hl 0 rfl) ?_
      refine va_get (D := (dC, dI)) (ci := 20) (v := .ref (a 44)) (C := RX19) (T := TX19) (N := 36) hx hb hts hi_dm_X19_peek_X19 hown hK hP 0 rfl rfl 13 (by decide) (hts (.fieldLink RX19 58 "TimeMachineModel" "m" "LTimeMachineModel$Machine;") (List.mem_of_getElem? (i := 8) rfl)) (fun _ h9 => h9) rfl dX19_peek_20 ?_
      refine lv_iload_n hx hb dX19_peek_23 rfl (lv_at hl 1 rfl) ?_
      refine lv_iload_n hx hb dX19_peek_24 rfl (lv_at hl 2 rfl) ?_
      obtain ⟨q9, s10, hq, h⟩ := nd_b2_e h
      have hPc := dp_X19_44 hP
      have hDc := dd_X19_44 hD
      have hKc := dy_X19_44 hK
      have hFc := nd_rs hDc hS hA
      have hzA : ∀ q : Nat, H.size ≤ q → A q := fun q h => hA q (Nat.le_trans hS.1 h)
      refine nd_cVi (As := [.int v0, .int v1]) (rest := []) (q := q9) (w' := dw_X16 (fun k => a (k + 44)) (fun k => ac (k + 44)) s10) ⟨hx, hb, hml, hown, hts⟩ (fun sz => dm_X16_peek l hlt dC dI (fun k => a (k + 44)) (fun k => ac (k + 44)) n (v0) (v1) s2.2.2.1.2 hq sz) (cwV 2 hts gi_dm_X19_peek_2 rfl rfl rfl (by decide +kernel) ⟨Nat.le_of_ble_eq_true rfl, Nat.le_of_ble_eq_true rfl⟩) hPc hDc hKc hS hA hN (va_recv hKc hPc (ci := 17) (q0 := 0) rfl rfl) rfl hl.1 rfl (Nat.le_of_ble_eq_true rfl) dX19_peek_25 (fun H locs hP1 hD1 hk1 hS => ?_)
      obtain ⟨hP, hD⟩ := dn_X19_44 hP hD hzA hk1 hP1 hD1
      obtain ⟨s12, es12, h⟩ := nd_let_e h
      have hP : va_P (dC, dI) vwCl (dw_X19 a ac s12) H := by rw [es12]; exact hP
      have hD : va_D A (dw_X19 a ac s12) := by rw [es12]; exact hD
      refine lv_goto (tgt := 32) hx hb dX19_peek_28 (by decide) ?_
      exact (db_X19_peek_32 C K) (q9) s12 _ _ _ h hP hD hS (lv_sub hl [] rfl)
set_option maxHeartbeats 40000000 in
set_option maxRecDepth 100000 in
theorem dm_X19_peek (l : Launch) (hlt : l.stackTraces = false) (dC : Nat → ClassId) (dI : Nat → Nat → Nat) (a : Nat → Nat) (ac : Nat → ClassId) (n : Nat) (v0 : Int32) (v1 : Int32) (s0 : St × (St) × (St × (St × (St))) × (St) × (St)) {r : Int32 × (St × (St) × (St × (St × (St))) × (St) × (St))} (h : df_X19_peek n v0 v1 s0 = some r) (sz : Nat) : Met l yX19_peek ow_dm_X19_peek ({ frames := 11, cells := 0, slots := 0, locals := 245 }) (va_Pc [.ref (a 0), .int v0, .int v1] (fun U => U.heap.size = sz ∧ va_P (dC, dI) vwCl (dw_X19 a ac s0) U.heap ∧ va_K (dC, dI) vwCl (dk_X19 ac) U ∧ va_D (fun _ => True) (dw_X19 a ac s0) ∧ nv_E dI (va_A (dw_X19 a ac s0) sz) U)) (va_Qi (fun x _ => x = r.1) (fun (_ : Unit) t => va_P (dC, dI) vwCl (dw_X19 a ac r.2) t.heap ∧ va_K (dC, dI) vwCl (dk_X19 ac) t ∧ va_D (va_A (dw_X19 a ac s0) sz) (dw_X19 a ac r.2)) (va_A (dw_X19 a ac s0) sz)) 0 0 (va_A (dw_X19 a ac s0) sz) := by
  refine Met.ofW (cc := cX19_peek) (maxL := 3) (ret := (some .int)) (by decide) rfl ?_
  intro p e s m args below meth c s₁ B hml hv
  obtain ⟨rfl, hsz, hP, hK, hD0, hN⟩ := hv
  have hx := B.exec
  have hb := B.bytes
  have hr := B.returns
  have hts := atoms_spec (ws := ow_dm_X19_peek) B.pre
  have hown : s.vm.findClass RX19 = some m.cls := findClass_of_methodNamed B.named
  have hlocks := B.notSynchronized
  subst hsz
  have hD := hD0.self (sz := s.heap.size)
  generalize hAe : va_A (dw_X19 a ac s0) s.heap.size = A at hD hN ⊢
  have hA : ∀ q : Nat, s.heap.size ≤ q → A q := fun q h => by rw [← hAe]; exact Or.inr h
  have hl := lv_entry ([.ref (a 0), .int v0, .int v1]) (n := 3) (Nat.le_of_ble_eq_true rfl)
  rw [lg_entry_eq]
  generalize (lg_sl ([.ref (a 0), .int v0, .int v1]) ++ List.replicate (3 - (lg_sl ([.ref (a 0), .int v0, .int v1])).length) Slot.unset).toArray = ls at hl ⊢
  have hl : lv_has ls 3 [(0, .ref (a 0)), (1, .int v0), (2, .int v1)] := hl
  exact db_X19_peek_0 (dC := dC) (dI := dI) (a := a) (ac := ac) (n := n) (r := r) ⟨hlt, hx, hb, hml, hown, hts, hN, hA, hK⟩ (fun pc v τ H locs ls d z er hP hD hS => by subst er; exact W.zret (v := v) hx hb hr z (fun t ht hW => ⟨⟨v, (), rfl, rfl, by rw [ht]; exact hP, va_K.moved hW.alike hK, hD⟩, hS.F ht⟩) hS.2.2 d) v0 v1 s0 _ _ _ h hP hD va_S.rf (lv_sub hl [0, 1, 2] rfl)
def ow_dm_X19_text : List Cond := Cond.code yX19_text cX19_text 7 (some .int) :: ([Cond.methodLink RX19 315 yX19_shows, Cond.instanceMethod yX19_shows, Cond.selects RX19 yX19_shows yX19_shows, Cond.initialized RX19, Cond.constantLong RX19 255 (15), Cond.methodLink RX19 126 yX19_in, Cond.static yX19_in, Cond.fieldLink RX19 58 "TimeMachineModel" "m" "LTimeMachineModel$Machine;", Cond.methodLink RX19 330 yX16_instruction, Cond.instanceMethod yX16_instruction, Cond.selects RX16 yX16_instruction yX16_instruction, Cond.initialized RX16, Cond.fieldLink RX19 81 "TimeMachineModel" "reader" "LTimeMachineModel$Reader;", Cond.methodLink RX19 334 yX18_read, Cond.instanceMethod yX18_read, Cond.selects RX18 yX18_read yX18_read, Cond.initialized RX18, Cond.methodLink RX19 337 yX18_letter, Cond.instanceMethod yX18_letter, Cond.selects RX18 yX18_letter yX18_letter] ++ (u_ws RX19 TX19 36 ++ (ow_dm_X19_shows ++ (ow_dm_X19_in ++ (ow_dm_X16_instruction ++ (ow_dm_X18_read ++ (ow_dm_X18_letter ++ [])))))))
theorem gd_dm_X19_text : ∀ w ∈ ow_dm_X19_text, (w.onTables && w.keeps) = true ∨ ∃ ty, w = Cond.arrayClass ty := List.forall_mem_cons.mpr ⟨good_of_word rfl, List.forall_mem_append.mpr ⟨fun w h => good_of_word (List.all_eq_true.mp (by decide +kernel) w h), List.forall_mem_append.mpr ⟨gu_X19, List.forall_mem_append.mpr ⟨gd_dm_X19_shows, List.forall_mem_append.mpr ⟨gd_dm_X19_in, List.forall_mem_append.mpr ⟨gd_dm_X16_instruction, List.forall_mem_append.mpr ⟨gd_dm_X18_read, List.forall_mem_append.mpr ⟨gd_dm_X18_letter, fun _ h => nomatch h⟩⟩⟩⟩⟩⟩⟩⟩
theorem hi_dm_X19_text_X19 : ∀ w ∈ u_ws RX19 TX19 36, w ∈ ow_dm_X19_text := fun w h => List.mem_cons_of_mem _ (List.mem_append_right _ (List.mem_append_left _ h))
theorem gi_dm_X19_text_0 : GoodIn ow_dm_X19_text (wsV RX19 315 RX19 yX19_shows ow_dm_X19_shows) := goodIn_app (goodIn_of _ (by decide +kernel)) (fun w h => ⟨List.mem_cons_of_mem _ (List.mem_append_right _ (List.mem_append_right _ (List.mem_append_left _ h))), gd_dm_X19_shows w h⟩)
theorem gi_dm_X19_text_1 : GoodIn ow_dm_X19_text (wsS RX19 126 yX19_in ow_dm_X19_in) := goodIn_app (goodIn_of _ (by decide +kernel)) (fun w h => ⟨List.mem_cons_of_mem _ (List.mem_append_right _ (List.mem_append_right _ (List.mem_append_right _ (List.mem_append_left _ h)))), gd_dm_X19_in w h⟩)
theorem gi_dm_X19_text_2 : GoodIn ow_dm_X19_text (wsV RX19 330 RX16 yX16_instruction ow_dm_X16_instruction) := goodIn_app (goodIn_of _ (by decide +kernel)) (fun w h => ⟨List.mem_cons_of_mem _ (List.mem_append_right _ (List.mem_append_right _ (List.mem_append_right _ (List.mem_append_right _ (List.mem_append_left _ h))))), gd_dm_X16_instruction w h⟩)
theorem gi_dm_X19_text_3 : GoodIn ow_dm_X19_text (wsV RX19 334 RX18 yX18_read ow_dm_X18_read) := goodIn_app (goodIn_of _ (by decide +kernel)) (fun w h => ⟨List.mem_cons_of_mem _ (List.mem_append_right _ (List.mem_append_right _ (List.mem_append_right _ (List.mem_append_right _ (List.mem_append_right _ (List.mem_append_left _ h)))))), gd_dm_X18_read w h⟩)
theorem gi_dm_X19_text_4 : GoodIn ow_dm_X19_text (wsV RX19 337 RX18 yX18_letter ow_dm_X18_letter) := goodIn_app (goodIn_of _ (by decide +kernel)) (fun w h => ⟨List.mem_cons_of_mem _ (List.mem_append_right _ (List.mem_append_right _ (List.mem_append_right _ (List.mem_append_right _ (List.mem_append_right _ (List.mem_append_right _ (List.mem_append_left _ h))))))), gd_dm_X18_letter w h⟩)
def dj_X19_text_26 (p : Program) (l : Launch) (e : Env) (s : State) (m : MethodId) (args : Array Value) (below : List Frame) (meth : Method) (c : Code) (Q : State → Prop) (A : Nat → Prop) (dC : Nat → ClassId) (dI : Nat → Nat → Nat) (a : Nat → Nat) (ac : Nat → ClassId) (g : (St × (St) × (St × (St × (St))) × (St) × (St)) → Option (Int32 × (St × (St) × (St × (St × (St))) × (St) × (St)))) (r : Int32 × (St × (St) × (St × (St × (St))) × (St) × (St))) : Prop := ∀ (s0 : St × (St) × (St × (St × (St))) × (St) × (St)) (H : Heap) (locs : List Loc) (ls : Array Slot), g s0 = some r → va_P (dC, dI) vwCl (dw_X19 a ac s0) H → va_D A (dw_X19 a ac s0) → va_S A s.heap H locs → lv_has ls 7 [] → W p l e (headSpec ow_dm_X19_text ({ frames := 11, cells := 0, slots := 0, locals := 245 })).room s m args below meth c H locs 0 0 Q (F0 m 26 ls [])
def dj_X19_text_82 (p : Program) (l : Launch) (e : Env) (s : State) (m : MethodId) (args : Array Value) (below : List Frame) (meth : Method) (c : Code) (Q : State → Prop) (A : Nat → Prop) (dC : Nat → ClassId) (dI : Nat → Nat → Nat) (a : Nat → Nat) (ac : Nat → ClassId) (g : Int32 → (St × (St) × (St × (St × (St))) × (St) × (St)) → Option (Int32 × (St × (St) × (St × (St × (St))) × (St) × (St)))) (r : Int32 × (St × (St) × (St × (St × (St))) × (St) × (St))) : Prop := ∀ (y0 : Int32) (s0 : St × (St) × (St × (St × (St))) × (St) × (St)) (H : Heap) (locs : List Loc) (ls : Array Slot), g y0 s0 = some r → va_P (dC, dI) vwCl (dw_X19 a ac s0) H → va_D A (dw_X19 a ac s0) → va_S A s.heap H locs → lv_has ls 7 [] → W p l e (headSpec ow_dm_X19_text ({ frames := 11, cells := 0, slots := 0, locals := 245 })).room s m args below meth c H locs 0 0 Q (F0 m 82 ls [.int y0])
def dj_X19_text_70 (p : Program) (l : Launch) (e : Env) (s : State) (m : MethodId) (args : Array Value) (below : List Frame) (meth : Method) (c : Code) (Q : State → Prop) (A : Nat → Prop) (dC : Nat → ClassId) (dI : Nat → Nat → Nat) (a : Nat → Nat) (ac : Nat → ClassId) (g : (St × (St) × (St × (St × (St))) × (St) × (St)) → Option (Int32 × (St × (St) × (St × (St × (St))) × (St) × (St)))) (r : Int32 × (St × (St) × (St × (St × (St))) × (St) × (St))) : Prop := ∀ (s0 : St × (St) × (St × (St × (St))) × (St) × (St)) (H : Heap) (locs : List Loc) (ls : Array Slot), g s0 = some r → va_P (dC, dI) vwCl (dw_X19 a ac s0) H → va_D A (dw_X19 a ac s0) → va_S A s.heap H locs → lv_has ls 7 [] → W p l e (headSpec ow_dm_X19_text ({ frames := 11, cells := 0, slots := 0, locals := 245 })).room s m args below meth c H locs 0 0 Q (F0 m 70 ls [])
def dj_X19_text_0 (p : Program) (l : Launch) (e : Env) (s : State) (m : MethodId) (args : Array Value) (below : List Frame) (meth : Method) (c : Code) (Q : State → Prop) (A : Nat → Prop) (dC : Nat → ClassId) (dI : Nat → Nat → Nat) (a : Nat → Nat) (ac : Nat → ClassId) (g : Int32 → Int32 → Int32 → (St × (St) × (St × (St × (St))) × (St) × (St)) → Option (Int32 × (St × (St) × (St × (St × (St))) × (St) × (St)))) (r : Int32 × (St × (St) × (St × (St × (St))) × (St) × (St))) : Prop := ∀ (v0 : Int32) (v1 : Int32) (v2 : Int32) (s0 : St × (St) × (St × (St × (St))) × (St) × (St)) (H : Heap) (locs : List Loc) (ls : Array Slot), g v0 v1 v2 s0 = some r → va_P (dC, dI) vwCl (dw_X19 a ac s0) H → va_D A (dw_X19 a ac s0) → va_S A s.heap H locs → lv_has ls 7 [(0, .ref (a 0)), (1, .int v0), (2, .int v1), (3, .int v2)] → W p l e (headSpec ow_dm_X19_text ({ frames := 11, cells := 0, slots := 0, locals := 245 })).room s m args below meth c H locs 0 0 Q (F0 m 0 ls [])
set_option maxHeartbeats 40000000 in
set_option maxRecDepth 100000 in
theorem db_X19_text_26 {p : Program} {l : Launch} {e : Env} {s : State} {m : MethodId} {args : Array Value} {below : List Frame} {meth : Method} {c : Code} {Q : State → Prop} {A : Nat → Prop} {dC : Nat → ClassId} {dI : Nat → Nat → Nat} {a : Nat → Nat} {ac : Nat → ClassId} {n : Nat} {r : Int32 × (St × (St) × (St × (St × (St))) × (St) × (St))} (C : nd_C p l s m args c A (dC, dI) cX19_text 7 RX19 ow_dm_X19_text (dk_X19 ac)) (K : nd_Ki p l e (headSpec ow_dm_X19_text ({ frames := 11, cells := 0, slots := 0, locals := 245 })).room s m args below meth c Q A (dC, dI) cX19_text .int (St × (St) × (St × (St × (St))) × (St) × (St)) (dw_X19 a ac) r) : dj_X19_text_26 p l e s m args below meth c Q A dC dI a ac (df_X19_text_26 n) r := by
  obtain ⟨hlt, hx, hb, hml, hown, hts, hN, hA, hK⟩ := id C
  intro s0 H locs ls h hP hD hS hl
  unfold df_X19_text_26 at h
  refine lv_iconst (v := (-1)) hx hb dX19_text_26 (by decide) ?_
  exact K _ _ _ _ _ _ dX19_text_27 rfl (Option.some.inj h).symm hP hD hS
set_option maxHeartbeats 40000000 in
set_option maxRecDepth 100000 in
theorem db_X19_text_82 {p : Program} {l : Launch} {e : Env} {s : State} {m : MethodId} {args : Array Value} {below : List Frame} {meth : Method} {c : Code} {Q : State → Prop} {A : Nat → Prop} {dC : Nat → ClassId} {dI : Nat → Nat → Nat} {a : Nat → Nat} {ac : Nat → ClassId} {n : Nat} {r : Int32 × (St × (St) × (St × (St × (St))) × (St) × (St))} (C : nd_C p l s m args c A (dC, dI) cX19_text 7 RX19 ow_dm_X19_text (dk_X19 ac)) (K : nd_Ki p l e (headSpec ow_dm_X19_text ({ frames := 11, cells := 0, slots := 0, locals := 245 })).room s m args below meth c Q A (dC, dI) cX19_text .int (St × (St) × (St × (St × (St))) × (St) × (St)) (dw_X19 a ac) r) : dj_X19_text_82 p l e s m args below meth c Q A dC dI a ac (df_X19_text_82 n) r := by
  obtain ⟨hlt, hx, hb, hml, hown, hts, hN, hA, hK⟩ := id C
  intro y0 s0 H locs ls h hP hD hS hl
  unfold df_X19_text_82 at h
  exact K _ _ _ _ _ _ dX19_text_82 rfl (Option.some.inj h).symm hP hD hS
set_option maxHeartbeats 40000000 in
set_option maxRecDepth 100000 in
theorem db_X19_text_70 {p : Program} {l : Launch} {e : Env} {s : State} {m : MethodId} {args : Array Value} {below : List Frame} {meth : Method} {c : Code} {Q : State → Prop} {A : Nat → Prop} {dC : Nat → ClassId} {dI : Nat → Nat → Nat} {a : Nat → Nat} {ac : Nat → ClassId} {n : Nat} {r : Int32 × (St × (St) × (St × (St × (St))) × (St) × (St))} (C : nd_C p l s m args c A (dC, dI) cX19_text 7 RX19 ow_dm_X19_text (dk_X19 ac)) (K : nd_Ki p l e (headSpec ow_dm_X19_text ({ frames := 11, cells := 0, slots := 0, locals := 245 })).room s m args below meth c Q A (dC, dI) cX19_text .int (St × (St) × (St × (St × (St))) × (St) × (St)) (dw_X19 a ac) r) : dj_X19_text_70 p l e s m args below meth c Q A dC dI a ac (df_X19_text_70 n) r := by
  obtain ⟨hlt, hx, hb, hml, hown, hts, hN, hA, hK⟩ := id C
  intro s0 H locs ls h hP hD hS hl
  unfold df_X19_text_70 at h
  refine lv_iconst (v := (-1)) hx hb dX19_text_70 (by decide) ?_
  refine lv_goto (tgt := 82) hx hb dX19_text_71 (by decide) ?_
  exact (db_X19_text_82 C K) ((-1)) s0 _ _ _ h hP hD hS (lv_sub hl [] rfl)
set_option maxHeartbeats 40000000 in
set_option maxRecDepth 100000 in
theorem db_X19_text_0 {p : Program} {l : Launch} {e : Env} {s : State} {m : MethodId} {args : Array Value} {below : List Frame} {meth : Method} {c : Code} {Q : State → Prop} {A : Nat → Prop} {dC : Nat → ClassId} {dI : Nat → Nat → Nat} {a : Nat → Nat} {ac : Nat → ClassId} {n : Nat} {r : Int32 × (St × (St) × (St × (St × (St))) × (St) × (St))} (C : nd_C p l s m args c A (dC, dI) cX19_text 7 RX19 ow_dm_X19_text (dk_X19 ac)) (K : nd_Ki p l e (headSpec ow_dm_X19_text ({ frames := 11, cells := 0, slots := 0, locals := 245 })).room s m args below meth c Q A (dC, dI) cX19_text .int (St × (St) × (St × (St × (St))) × (St) × (St)) (dw_X19 a ac) r) : dj_X19_text_0 p l e s m args below meth c Q A dC dI a ac (df_X19_text_0 n) r := by
  obtain ⟨hlt, hx, hb, hml, hown, hts, hN, hA, hK⟩ := id C
  intro v0 v1 v2 s0 H locs ls h hP hD hS hl
  unfold df_X19_text_0 at h
  refine lv_aload_n hx hb dX19_text_0 rfl (lv_at hl 0 rfl) ?_
  obtain ⟨q1, s2, hq, h⟩ := nd_b2_e h
  have hPc := hP
  have hDc := hD
  have hKc := hK
  have hFc := nd_rs hD hS hA
  refine nd_cVi (As := []) (rest := []) (q := q1) (w' := dw_X19 a ac s2) ⟨hx, hb, hml, hown, hts⟩ (fun sz => dm_X19_shows l hlt dC dI a ac n  s0 hq sz) (cwV 0 hts gi_dm_X19_text_0 rfl rfl rfl (by decide +kernel) ⟨Nat.le_of_ble_eq_true rfl, Nat.le_of_ble_eq_true rfl⟩) hPc hDc hKc hS hA hN (va_recv hKc hPc (ci := 20) (q0 := 0) rfl rfl) rfl hl.1 rfl (Nat.le_of_ble_eq_true rfl) dX19_text_1 (fun H locs hP1 hD1 hk1 hS => ?_)
  have hP := hP1
  have hD := hD1.weaken (fun k q _ h => hFc q.1 h)
  refine lv_if_eq (tgt := 26) hx hb dX19_text_4 (by decide) (fun c4 => ?_) (fun c4 => ?_)
  · have h := nd_pos h c4
    exact (db_X19_text_26 C K)  s2 _ _ _ h hP hD hS (lv_sub hl [] rfl)
  · have h := nd_neg h c4
    refine lv_iload_n hx hb dX19_text_7 rfl (lv_at hl 1 rfl) ?_
    refine lv_i2l hx hb dX19_text_8 rfl ?_
    refine lv_lconst (v := 0) hx hb dX19_text_9 (by decide) ?_
    refine lv_ldc2 hx hb hown (hts (.constantLong RX19 255 (15)) (List.mem_of_getElem? (i := 5) rfl)) dX19_text_10 ?_
    obtain ⟨q5, s6, hq, h⟩ := nd_b2_e h
    have hPc : va_P (dC, dI) vwCl (dw_P a ac ()) H := nd_p0
    have hDc : va_D A (dw_P a ac ()) := nd_d0
    have hKc : va_K (dC, dI) vwCl (dk_P ac) s := nd_y0 hK
    have hFc : ∀ q, va_A (dw_P a ac ()) H.size q → A q := nd_r0 hS hA
    refine nd_cSi (As := [.long (v0.toInt64), .long 0, .long 15]) (rest := []) (q := q5) (w' := dw_P a ac s6) ⟨hx, hb, hml, hown, hts⟩ (fun sz => dm_X19_in l hlt dC dI a ac n ((v0.toInt64)) (0) (15) () hq sz) (cwS 3 hts gi_dm_X19_text_1 rfl rfl rfl (by decide +kernel) ⟨Nat.le_of_ble_eq_true rfl, Nat.le_of_ble_eq_true rfl⟩) hPc hDc hKc hS hA hN rfl hl.1 rfl (Nat.le_of_ble_eq_true rfl) dX19_text_13 (fun H locs hP1 hD1 hk1 hS => ?_)
    have hP := nd_n0 hP hk1
    refine lv_if_eq (tgt := 26) hx hb dX19_text_16 (by decide) (fun c8 => ?_) (fun c8 => ?_)
    · have h := nd_pos h c8
      exact (db_X19_text_26 C K)  s2 _ _ _ h hP hD hS (lv_sub hl [] rfl)
    · have h := nd_neg h c8
      refine lv_iload_n hx hb dX19_text_19 rfl (lv_at hl 2 rfl) ?_
      refine lv_iconst (v := 1) hx hb dX19_text_20 (by decide) ?_
      refine lv_iand hx hb dX19_text_21 ?_
      refine lv_iconst (v := 1) hx hb dX19_text_22 (by decide) ?_
      refine lv_icmp_ne (tgt := 28) hx hb dX19_text_23 (by decide) (fun c9 => ?_) (fun c9 => ?_)
      · have h := nd_neg h c9
        refine lv_aload_n hx hb dX19_text_28 rfl (lv_at hl 0 rfl) ?_
        refine va_get (D := (dC, dI)) (ci := 20) (v := .ref (a 44)) (C := RX19) (T := TX19) (N := 36) hx hb hts hi_dm_X19_text_X19 hown hK hP 0 rfl rfl 13 (by decide) (hts (.fieldLink RX19 58 "TimeMachineModel" "m" "LTimeMachineModel$Machine;") (List.mem_of_getElem? (i := 8) rfl)) (fun _ h9 => h9) rfl dX19_text_29 ?_
        refine lv_iload_n hx hb dX19_text_32 rfl (lv_at hl 1 rfl) ?_
        refine lv_iload_n hx hb dX19_text_33 rfl (lv_at hl 2 rfl) ?_
        obtain ⟨q10, s11, hq, h⟩ := nd_b2_e h
        have hPc := dp_X19_44 hP
        have hDc := dd_X19_44 hD
        have hKc := dy_X19_44 hK
        have hFc := nd_rs hDc hS hA
        have hzA : ∀ q : Nat, H.size ≤ q → A q := fun q h => hA q (Nat.le_trans hS.1 h)
        refine nd_cVl (As := [.int v0, .int v1]) (rest := []) (q := q10) (w' := dw_X16 (fun k => a (k + 44)) (fun k => ac (k + 44)) s11) ⟨hx, hb, hml, hown, hts⟩ (fun sz => dm_X16_instruction l hlt dC dI (fun k => a (k + 44)) (fun k => ac (k + 44)) n (v0) (v1) s2.2.2.1.2 hq sz) (cwV 2 hts gi_dm_X19_text_2 rfl rfl rfl (by decide +kernel) ⟨Nat.le_of_ble_eq_true rfl, Nat.le_of_ble_eq_true rfl⟩) hPc hDc hKc hS hA hN (va_recv hKc hPc (ci := 17) (q0 := 0) rfl rfl) rfl hl.1 rfl (Nat.le_of_ble_eq_true rfl) dX19_text_34 (fun H locs hP1 hD1 hk1 hS => ?_)
        obtain ⟨hP, hD⟩ := dn_X19_44 hP hD hzA hk1 hP1 hD1
        obtain ⟨s13, es13, h⟩ := nd_let_e h
        have hP : va_P (dC, dI) vwCl (dw_X19 a ac s13) H := by rw [es13]; exact hP
        have hD : va_D A (dw_X19 a ac s13) := by rw [es13]; exact hD
        refine lv_lstore (lv' := [(4, .long q10), (0, .ref (a 0)), (1, .int v0), (2, .int v1), (3, .int v2)]) hx hb dX19_text_37 hl (by decide) rfl (fun ls hl => ?_)
        refine lv_lload hx hb dX19_text_39 (lv_at hl 0 rfl) ?_
        refine lv_lconst (v := 0) hx hb dX19_text_41 (by decide) ?_
        refine W.lcmp hx hb dX19_text_42 ?_
        refine lv_if_ge (tgt := 48) hx hb dX19_text_43 (by decide) (fun c14 => ?_) (fun c14 => ?_)
        · have h := nd_pos h c14
          refine lv_aload_n hx hb dX19_text_48 rfl (lv_at hl 1 rfl) ?_
          refine va_get (D := (dC, dI)) (ci := 20) (v := .ref (a 93)) (C := RX19) (T := TX19) (N := 36) hx hb hts hi_dm_X19_text_X19 hown hK hP 0 rfl rfl 16 (by decide) (hts (.fieldLink RX19 81 "TimeMachineModel" "reader" "LTimeMachineModel$Reader;") (List.mem_of_getElem? (i := 13) rfl)) (fun _ h9 => h9) rfl dX19_text_49 ?_
          refine lv_lload hx hb dX19_text_52 (lv_at hl 0 rfl) ?_
          refine lv_l2i hx hb dX19_text_54 rfl ?_
          obtain ⟨q15, s16, hq, h⟩ := nd_b2_e h
          have hPc := dp_X19_93 hP
          have hDc := dd_X19_93 hD
          have hKc := dy_X19_93 hK
          have hFc := nd_rs hDc hS hA
          have hzA : ∀ q : Nat, H.size ≤ q → A q := fun q h => hA q (Nat.le_trans hS.1 h)
          refine nd_cVi (As := [.int (q10.toInt32)]) (rest := []) (q := q15) (w' := dw_X18 (fun k => a (k + 93)) (fun k => ac (k + 93)) s16) ⟨hx, hb, hml, hown, hts⟩ (fun sz => dm_X18_read l hlt dC dI (fun k => a (k + 93)) (fun k => ac (k + 93)) n ((q10.toInt32)) s13.2.2.2.2 hq sz) (cwV 1 hts gi_dm_X19_text_3 rfl rfl rfl (by decide +kernel) ⟨Nat.le_of_ble_eq_true rfl, Nat.le_of_ble_eq_true rfl⟩) hPc hDc hKc hS hA hN (va_recv hKc hPc (ci := 19) (q0 := 0) rfl rfl) rfl hl.1 rfl (Nat.le_of_ble_eq_true rfl) dX19_text_55 (fun H locs hP1 hD1 hk1 hS => ?_)
          obtain ⟨hP, hD⟩ := dn_X19_93 hP hD hzA hk1 hP1 hD1
          obtain ⟨s18, es18, h⟩ := nd_let_e h
          have hP : va_P (dC, dI) vwCl (dw_X19 a ac s18) H := by rw [es18]; exact hP
          have hD : va_D A (dw_X19 a ac s18) := by rw [es18]; exact hD
          refine lv_istore (lv' := [(6, .int q15), (4, .long q10), (0, .ref (a 0)), (1, .int v0), (2, .int v1), (3, .int v2)]) hx hb dX19_text_58 hl (by decide) rfl (fun ls hl => ?_)
          refine lv_iload_n hx hb dX19_text_60 rfl (lv_at hl 5 rfl) ?_
          refine lv_if_lt (tgt := 70) hx hb dX19_text_61 (by decide) (fun c19 => ?_) (fun c19 => ?_)
          · have h := nd_pos h c19
            exact (db_X19_text_70 C K)  s18 _ _ _ h hP hD hS (lv_sub hl [] rfl)
          · have h := nd_neg h c19
            refine lv_iload_n hx hb dX19_text_64 rfl (lv_at hl 5 rfl) ?_
            refine lv_iload hx hb dX19_text_65 (lv_at hl 0 rfl) ?_
            refine lv_icmp_lt (tgt := 74) hx hb dX19_text_67 (by decide) (fun c20 => ?_) (fun c20 => ?_)
            · have h := nd_pos h c20
              refine lv_aload_n hx hb dX19_text_74 rfl (lv_at hl 2 rfl) ?_
              refine va_get (D := (dC, dI)) (ci := 20) (v := .ref (a 93)) (C := RX19) (T := TX19) (N := 36) hx hb hts hi_dm_X19_text_X19 hown hK hP 0 rfl rfl 16 (by decide) (hts (.fieldLink RX19 81 "TimeMachineModel" "reader" "LTimeMachineModel$Reader;") (List.mem_of_getElem? (i := 13) rfl)) (fun _ h9 => h9) rfl dX19_text_75 ?_
              refine lv_iload_n hx hb dX19_text_78 rfl (lv_at hl 5 rfl) ?_
              obtain ⟨q21, s22, hq, h⟩ := nd_b2_e h
              have hPc := dp_X19_93 hP
              have hDc := dd_X19_93 hD
              have hKc := dy_X19_93 hK
              have hFc := nd_rs hDc hS hA
              have hzA : ∀ q : Nat, H.size ≤ q → A q := fun q h => hA q (Nat.le_trans hS.1 h)
              refine nd_cVi (As := [.int v2]) (rest := []) (q := q21) (w' := dw_X18 (fun k => a (k + 93)) (fun k => ac (k + 93)) s22) ⟨hx, hb, hml, hown, hts⟩ (fun sz => dm_X18_letter l hlt dC dI (fun k => a (k + 93)) (fun k => ac (k + 93)) n (v2) s18.2.2.2.2 hq sz) (cwV 1 hts gi_dm_X19_text_4 rfl rfl rfl (by decide +kernel) ⟨Nat.le_of_ble_eq_true rfl, Nat.le_of_ble_eq_true rfl⟩) hPc hDc hKc hS hA hN (va_recv hKc hPc (ci := 19) (q0 := 0) rfl rfl) rfl hl.1 rfl (Nat.le_of_ble_eq_true rfl) dX19_text_79 (fun H locs hP1 hD1 hk1 hS => ?_)
              obtain ⟨hP, hD⟩ := dn_X19_93 hP hD hzA hk1 hP1 hD1
              obtain ⟨s24, es24, h⟩ := nd_let_e h
              have hP : va_P (dC, dI) vwCl (dw_X19 a ac s24) H := by rw [es24]; exact hP
              have hD : va_D A (dw_X19 a ac s24) := by rw [es24]; exact hD
              exact (db_X19_text_82 C K) (q21) s24 _ _ _ h hP hD hS (lv_sub hl [] rfl)
            · have h := nd_neg h c20
              exact (db_X19_text_70 C K)  s18 _ _ _ h hP hD hS (lv_sub hl [] rfl)
        · have h := nd_neg h c14
          refine lv_iconst (v := (-1)) hx hb dX19_text_46 (by decide) ?_
          exact K _ _ _ _ _ _ dX19_text_47 rfl (Option.some.inj h).symm hP hD hS
      · have h := nd_pos h c9
        exact (db_X19_text_26 C K)  s2 _ _ _ h hP hD hS (lv_sub hl [] rfl)
set_option maxHeartbeats 40000000 in
set_option maxRecDepth 100000 in
theorem dm_X19_text (l : Launch) (hlt : l.stackTraces = false) (dC : Nat → ClassId) (dI : Nat → Nat → Nat) (a : Nat → Nat) (ac : Nat → ClassId) (n : Nat) (v0 : Int32) (v1 : Int32) (v2 : Int32) (s0 : St × (St) × (St × (St × (St))) × (St) × (St)) {r : Int32 × (St × (St) × (St × (St × (St))) × (St) × (St))} (h : df_X19_text n v0 v1 v2 s0 = some r) (sz : Nat) : Met l yX19_text ow_dm_X19_text ({ frames := 11, cells := 0, slots := 0, locals := 245 }) (va_Pc [.ref (a 0), .int v0, .int v1, .int v2] (fun U => U.heap.size = sz ∧ va_P (dC, dI) vwCl (dw_X19 a ac s0) U.heap ∧ va_K (dC, dI) vwCl (dk_X19 ac) U ∧ va_D (fun _ => True) (dw_X19 a ac s0) ∧ nv_E dI (va_A (dw_X19 a ac s0) sz) U)) (va_Qi (fun x _ => x = r.1) (fun (_ : Unit) t => va_P (dC, dI) vwCl (dw_X19 a ac r.2) t.heap ∧ va_K (dC, dI) vwCl (dk_X19 ac) t ∧ va_D (va_A (dw_X19 a ac s0) sz) (dw_X19 a ac r.2)) (va_A (dw_X19 a ac s0) sz)) 0 0 (va_A (dw_X19 a ac s0) sz) := by
  refine Met.ofW (cc := cX19_text) (maxL := 7) (ret := (some .int)) (by decide) rfl ?_
  intro p e s m args below meth c s₁ B hml hv
  obtain ⟨rfl, hsz, hP, hK, hD0, hN⟩ := hv
  have hx := B.exec
  have hb := B.bytes
  have hr := B.returns
  have hts := atoms_spec (ws := ow_dm_X19_text) B.pre
  have hown : s.vm.findClass RX19 = some m.cls := findClass_of_methodNamed B.named
  have hlocks := B.notSynchronized
  subst hsz
  have hD := hD0.self (sz := s.heap.size)
  generalize hAe : va_A (dw_X19 a ac s0) s.heap.size = A at hD hN ⊢
  have hA : ∀ q : Nat, s.heap.size ≤ q → A q := fun q h => by rw [← hAe]; exact Or.inr h
  have hl := lv_entry ([.ref (a 0), .int v0, .int v1, .int v2]) (n := 7) (Nat.le_of_ble_eq_true rfl)
  rw [lg_entry_eq]
  generalize (lg_sl ([.ref (a 0), .int v0, .int v1, .int v2]) ++ List.replicate (7 - (lg_sl ([.ref (a 0), .int v0, .int v1, .int v2])).length) Slot.unset).toArray = ls at hl ⊢
  have hl : lv_has ls 7 [(0, .ref (a 0)), (1, .int v0), (2, .int v1), (3, .int v2)] := hl
  exact db_X19_text_0 (dC := dC) (dI := dI) (a := a) (ac := ac) (n := n) (r := r) ⟨hlt, hx, hb, hml, hown, hts, hN, hA, hK⟩ (fun pc v τ H locs ls d z er hP hD hS => by subst er; exact W.zret (v := v) hx hb hr z (fun t ht hW => ⟨⟨v, (), rfl, rfl, by rw [ht]; exact hP, va_K.moved hW.alike hK, hD⟩, hS.F ht⟩) hS.2.2 d) v0 v1 v2 s0 _ _ _ h hP hD va_S.rf (lv_sub hl [0, 1, 2, 3] rfl)
def ow_dm_X19_descriptor : List Cond := Cond.code yX19_descriptor cX19_descriptor 4 (some .int) :: ([Cond.methodLink RX19 315 yX19_shows, Cond.instanceMethod yX19_shows, Cond.selects RX19 yX19_shows yX19_shows, Cond.initialized RX19, Cond.constantLong RX19 255 (15), Cond.methodLink RX19 126 yX19_in, Cond.static yX19_in, Cond.fieldLink RX19 58 "TimeMachineModel" "m" "LTimeMachineModel$Machine;", Cond.methodLink RX19 340 yX16_descriptor, Cond.instanceMethod yX16_descriptor, Cond.selects RX16 yX16_descriptor yX16_descriptor, Cond.initialized RX16] ++ (u_ws RX19 TX19 36 ++ (ow_dm_X19_shows ++ (ow_dm_X19_in ++ (ow_dm_X16_descriptor ++ [])))))
theorem gd_dm_X19_descriptor : ∀ w ∈ ow_dm_X19_descriptor, (w.onTables && w.keeps) = true ∨ ∃ ty, w = Cond.arrayClass ty := List.forall_mem_cons.mpr ⟨good_of_word rfl, List.forall_mem_append.mpr ⟨fun w h => good_of_word (List.all_eq_true.mp (by decide +kernel) w h), List.forall_mem_append.mpr ⟨gu_X19, List.forall_mem_append.mpr ⟨gd_dm_X19_shows, List.forall_mem_append.mpr ⟨gd_dm_X19_in, List.forall_mem_append.mpr ⟨gd_dm_X16_descriptor, fun _ h => nomatch h⟩⟩⟩⟩⟩⟩
theorem hi_dm_X19_descriptor_X19 : ∀ w ∈ u_ws RX19 TX19 36, w ∈ ow_dm_X19_descriptor := fun w h => List.mem_cons_of_mem _ (List.mem_append_right _ (List.mem_append_left _ h))
theorem gi_dm_X19_descriptor_0 : GoodIn ow_dm_X19_descriptor (wsV RX19 315 RX19 yX19_shows ow_dm_X19_shows) := goodIn_app (goodIn_of _ (by decide +kernel)) (fun w h => ⟨List.mem_cons_of_mem _ (List.mem_append_right _ (List.mem_append_right _ (List.mem_append_left _ h))), gd_dm_X19_shows w h⟩)
theorem gi_dm_X19_descriptor_1 : GoodIn ow_dm_X19_descriptor (wsS RX19 126 yX19_in ow_dm_X19_in) := goodIn_app (goodIn_of _ (by decide +kernel)) (fun w h => ⟨List.mem_cons_of_mem _ (List.mem_append_right _ (List.mem_append_right _ (List.mem_append_right _ (List.mem_append_left _ h)))), gd_dm_X19_in w h⟩)
theorem gi_dm_X19_descriptor_2 : GoodIn ow_dm_X19_descriptor (wsV RX19 340 RX16 yX16_descriptor ow_dm_X16_descriptor) := goodIn_app (goodIn_of _ (by decide +kernel)) (fun w h => ⟨List.mem_cons_of_mem _ (List.mem_append_right _ (List.mem_append_right _ (List.mem_append_right _ (List.mem_append_right _ (List.mem_append_left _ h))))), gd_dm_X16_descriptor w h⟩)
def dj_X19_descriptor_53 (p : Program) (l : Launch) (e : Env) (s : State) (m : MethodId) (args : Array Value) (below : List Frame) (meth : Method) (c : Code) (Q : State → Prop) (A : Nat → Prop) (dC : Nat → ClassId) (dI : Nat → Nat → Nat) (a : Nat → Nat) (ac : Nat → ClassId) (g : Int32 → (St × (St) × (St × (St × (St))) × (St) × (St)) → Option (Int32 × (St × (St) × (St × (St × (St))) × (St) × (St)))) (r : Int32 × (St × (St) × (St × (St × (St))) × (St) × (St))) : Prop := ∀ (y0 : Int32) (s0 : St × (St) × (St × (St × (St))) × (St) × (St)) (H : Heap) (locs : List Loc) (ls : Array Slot), g y0 s0 = some r → va_P (dC, dI) vwCl (dw_X19 a ac s0) H → va_D A (dw_X19 a ac s0) → va_S A s.heap H locs → lv_has ls 4 [] → W p l e (headSpec ow_dm_X19_descriptor ({ frames := 11, cells := 0, slots := 0, locals := 245 })).room s m args below meth c H locs 0 0 Q (F0 m 53 ls [.int y0])
def dj_X19_descriptor_52 (p : Program) (l : Launch) (e : Env) (s : State) (m : MethodId) (args : Array Value) (below : List Frame) (meth : Method) (c : Code) (Q : State → Prop) (A : Nat → Prop) (dC : Nat → ClassId) (dI : Nat → Nat → Nat) (a : Nat → Nat) (ac : Nat → ClassId) (g : (St × (St) × (St × (St × (St))) × (St) × (St)) → Option (Int32 × (St × (St) × (St × (St × (St))) × (St) × (St)))) (r : Int32 × (St × (St) × (St × (St × (St))) × (St) × (St))) : Prop := ∀ (s0 : St × (St) × (St × (St × (St))) × (St) × (St)) (H : Heap) (locs : List Loc) (ls : Array Slot), g s0 = some r → va_P (dC, dI) vwCl (dw_X19 a ac s0) H → va_D A (dw_X19 a ac s0) → va_S A s.heap H locs → lv_has ls 4 [] → W p l e (headSpec ow_dm_X19_descriptor ({ frames := 11, cells := 0, slots := 0, locals := 245 })).room s m args below meth c H locs 0 0 Q (F0 m 52 ls [])
def dj_X19_descriptor_32 (p : Program) (l : Launch) (e : Env) (s : State) (m : MethodId) (args : Array Value) (below : List Frame) (meth : Method) (c : Code) (Q : State → Prop) (A : Nat → Prop) (dC : Nat → ClassId) (dI : Nat → Nat → Nat) (a : Nat → Nat) (ac : Nat → ClassId) (g : Int32 → Int32 → (St × (St) × (St × (St × (St))) × (St) × (St)) → Option (Int32 × (St × (St) × (St × (St × (St))) × (St) × (St)))) (r : Int32 × (St × (St) × (St × (St × (St))) × (St) × (St))) : Prop := ∀ (x2 : Int32) (x3 : Int32) (s0 : St × (St) × (St × (St × (St))) × (St) × (St)) (H : Heap) (locs : List Loc) (ls : Array Slot), g x2 x3 s0 = some r → va_P (dC, dI) vwCl (dw_X19 a ac s0) H → va_D A (dw_X19 a ac s0) → va_S A s.heap H locs → lv_has ls 4 [(2, .int x2), (3, .int x3)] → W p l e (headSpec ow_dm_X19_descriptor ({ frames := 11, cells := 0, slots := 0, locals := 245 })).room s m args below meth c H locs 0 0 Q (F0 m 32 ls [])
def dj_X19_descriptor_0 (p : Program) (l : Launch) (e : Env) (s : State) (m : MethodId) (args : Array Value) (below : List Frame) (meth : Method) (c : Code) (Q : State → Prop) (A : Nat → Prop) (dC : Nat → ClassId) (dI : Nat → Nat → Nat) (a : Nat → Nat) (ac : Nat → ClassId) (g : Int32 → Int32 → Int32 → (St × (St) × (St × (St × (St))) × (St) × (St)) → Option (Int32 × (St × (St) × (St × (St × (St))) × (St) × (St)))) (r : Int32 × (St × (St) × (St × (St × (St))) × (St) × (St))) : Prop := ∀ (v0 : Int32) (v1 : Int32) (v2 : Int32) (s0 : St × (St) × (St × (St × (St))) × (St) × (St)) (H : Heap) (locs : List Loc) (ls : Array Slot), g v0 v1 v2 s0 = some r → va_P (dC, dI) vwCl (dw_X19 a ac s0) H → va_D A (dw_X19 a ac s0) → va_S A s.heap H locs → lv_has ls 4 [(0, .ref (a 0)), (1, .int v0), (2, .int v1), (3, .int v2)] → W p l e (headSpec ow_dm_X19_descriptor ({ frames := 11, cells := 0, slots := 0, locals := 245 })).room s m args below meth c H locs 0 0 Q (F0 m 0 ls [])
set_option maxHeartbeats 40000000 in
set_option maxRecDepth 100000 in
theorem db_X19_descriptor_53 {p : Program} {l : Launch} {e : Env} {s : State} {m : MethodId} {args : Array Value} {below : List Frame} {meth : Method} {c : Code} {Q : State → Prop} {A : Nat → Prop} {dC : Nat → ClassId} {dI : Nat → Nat → Nat} {a : Nat → Nat} {ac : Nat → ClassId} {n : Nat} {r : Int32 × (St × (St) × (St × (St × (St))) × (St) × (St))} (C : nd_C p l s m args c A (dC, dI) cX19_descriptor 4 RX19 ow_dm_X19_descriptor (dk_X19 ac)) (K : nd_Ki p l e (headSpec ow_dm_X19_descriptor ({ frames := 11, cells := 0, slots := 0, locals := 245 })).room s m args below meth c Q A (dC, dI) cX19_descriptor .int (St × (St) × (St × (St × (St))) × (St) × (St)) (dw_X19 a ac) r) : dj_X19_descriptor_53 p l e s m args below meth c Q A dC dI a ac (df_X19_descriptor_53 n) r := by
  obtain ⟨hlt, hx, hb, hml, hown, hts, hN, hA, hK⟩ := id C
  intro y0 s0 H locs ls h hP hD hS hl
  unfold df_X19_descriptor_53 at h
  exact K _ _ _ _ _ _ dX19_descriptor_53 rfl (Option.some.inj h).symm hP hD hS
set_option maxHeartbeats 40000000 in
set_option maxRecDepth 100000 in
theorem db_X19_descriptor_52 {p : Program} {l : Launch} {e : Env} {s : State} {m : MethodId} {args : Array Value} {below : List Frame} {meth : Method} {c : Code} {Q : State → Prop} {A : Nat → Prop} {dC : Nat → ClassId} {dI : Nat → Nat → Nat} {a : Nat → Nat} {ac : Nat → ClassId} {n : Nat} {r : Int32 × (St × (St) × (St × (St × (St))) × (St) × (St))} (C : nd_C p l s m args c A (dC, dI) cX19_descriptor 4 RX19 ow_dm_X19_descriptor (dk_X19 ac)) (K : nd_Ki p l e (headSpec ow_dm_X19_descriptor ({ frames := 11, cells := 0, slots := 0, locals := 245 })).room s m args below meth c Q A (dC, dI) cX19_descriptor .int (St × (St) × (St × (St × (St))) × (St) × (St)) (dw_X19 a ac) r) : dj_X19_descriptor_52 p l e s m args below meth c Q A dC dI a ac (df_X19_descriptor_52 n) r := by
  obtain ⟨hlt, hx, hb, hml, hown, hts, hN, hA, hK⟩ := id C
  intro s0 H locs ls h hP hD hS hl
  unfold df_X19_descriptor_52 at h
  refine lv_iconst (v := (-1)) hx hb dX19_descriptor_52 (by decide) ?_
  exact (db_X19_descriptor_53 C K) ((-1)) s0 _ _ _ h hP hD hS (lv_sub hl [] rfl)
set_option maxHeartbeats 40000000 in
set_option maxRecDepth 100000 in
theorem db_X19_descriptor_32 {p : Program} {l : Launch} {e : Env} {s : State} {m : MethodId} {args : Array Value} {below : List Frame} {meth : Method} {c : Code} {Q : State → Prop} {A : Nat → Prop} {dC : Nat → ClassId} {dI : Nat → Nat → Nat} {a : Nat → Nat} {ac : Nat → ClassId} {n : Nat} {r : Int32 × (St × (St) × (St × (St × (St))) × (St) × (St))} (C : nd_C p l s m args c A (dC, dI) cX19_descriptor 4 RX19 ow_dm_X19_descriptor (dk_X19 ac)) (K : nd_Ki p l e (headSpec ow_dm_X19_descriptor ({ frames := 11, cells := 0, slots := 0, locals := 245 })).room s m args below meth c Q A (dC, dI) cX19_descriptor .int (St × (St) × (St × (St × (St))) × (St) × (St)) (dw_X19 a ac) r) : dj_X19_descriptor_32 p l e s m args below meth c Q A dC dI a ac (df_X19_descriptor_32 n) r := by
  obtain ⟨hlt, hx, hb, hml, hown, hts, hN, hA, hK⟩ := id C
  intro x2 x3 s0 H locs ls h hP hD hS hl
  unfold df_X19_descriptor_32 at h
  refine lv_iload_n hx hb dX19_descriptor_32 rfl (lv_at hl 1 rfl) ?_
  refine lv_if_ne (tgt := 52) hx hb dX19_descriptor_33 (by decide) (fun c5 => ?_) (fun c5 => ?_)
  · have h := nd_neg h c5
    exact (db_X19_descriptor_52 C K)  s0 _ _ _ h hP hD hS (lv_sub hl [] rfl)
  · have h := nd_pos h c5
    refine lv_iload_n hx hb dX19_descriptor_36 rfl (lv_at hl 0 rfl) ?_
    refine lv_i2l hx hb dX19_descriptor_37 rfl ?_
    refine lv_lconst (v := 0) hx hb dX19_descriptor_38 (by decide) ?_
    refine lv_ldc2 hx hb hown (hts (.constantLong RX19 255 (15)) (List.mem_of_getElem? (i := 5) rfl)) dX19_descriptor_39 ?_
    obtain ⟨q6, s7, hq, h⟩ := nd_b2_e h
    have hPc : va_P (dC, dI) vwCl (dw_P a ac ()) H := nd_p0
    have hDc : va_D A (dw_P a ac ()) := nd_d0
    have hKc : va_K (dC, dI) vwCl (dk_P ac) s := nd_y0 hK
    have hFc : ∀ q, va_A (dw_P a ac ()) H.size q → A q := nd_r0 hS hA
    refine nd_cSi (As := [.long (x2.toInt64), .long 0, .long 15]) (rest := []) (q := q6) (w' := dw_P a ac s7) ⟨hx, hb, hml, hown, hts⟩ (fun sz => dm_X19_in l hlt dC dI a ac n ((x2.toInt64)) (0) (15) () hq sz) (cwS 3 hts gi_dm_X19_descriptor_1 rfl rfl rfl (by decide +kernel) ⟨Nat.le_of_ble_eq_true rfl, Nat.le_of_ble_eq_true rfl⟩) hPc hDc hKc hS hA hN rfl hl.1 rfl (Nat.le_of_ble_eq_true rfl) dX19_descriptor_42 (fun H locs hP1 hD1 hk1 hS => ?_)
    have hP := nd_n0 hP hk1
    refine lv_if_eq (tgt := 52) hx hb dX19_descriptor_45 (by decide) (fun c9 => ?_) (fun c9 => ?_)
    · have h := nd_pos h c9
      exact (db_X19_descriptor_52 C K)  s0 _ _ _ h hP hD hS (lv_sub hl [] rfl)
    · have h := nd_neg h c9
      refine lv_iconst (v := 0) hx hb dX19_descriptor_48 (by decide) ?_
      refine lv_goto (tgt := 53) hx hb dX19_descriptor_49 (by decide) ?_
      exact (db_X19_descriptor_53 C K) (0) s0 _ _ _ h hP hD hS (lv_sub hl [] rfl)
set_option maxHeartbeats 40000000 in
set_option maxRecDepth 100000 in
theorem db_X19_descriptor_0 {p : Program} {l : Launch} {e : Env} {s : State} {m : MethodId} {args : Array Value} {below : List Frame} {meth : Method} {c : Code} {Q : State → Prop} {A : Nat → Prop} {dC : Nat → ClassId} {dI : Nat → Nat → Nat} {a : Nat → Nat} {ac : Nat → ClassId} {n : Nat} {r : Int32 × (St × (St) × (St × (St × (St))) × (St) × (St))} (C : nd_C p l s m args c A (dC, dI) cX19_descriptor 4 RX19 ow_dm_X19_descriptor (dk_X19 ac)) (K : nd_Ki p l e (headSpec ow_dm_X19_descriptor ({ frames := 11, cells := 0, slots := 0, locals := 245 })).room s m args below meth c Q A (dC, dI) cX19_descriptor .int (St × (St) × (St × (St × (St))) × (St) × (St)) (dw_X19 a ac) r) : dj_X19_descriptor_0 p l e s m args below meth c Q A dC dI a ac (df_X19_descriptor_0 n) r := by
  obtain ⟨hlt, hx, hb, hml, hown, hts, hN, hA, hK⟩ := id C
  intro v0 v1 v2 s0 H locs ls h hP hD hS hl
  unfold df_X19_descriptor_0 at h
  refine lv_aload_n hx hb dX19_descriptor_0 rfl (lv_at hl 0 rfl) ?_
  obtain ⟨q1, s2, hq, h⟩ := nd_b2_e h
  have hPc := hP
  have hDc := hD
  have hKc := hK
  have hFc := nd_rs hD hS hA
  refine nd_cVi (As := []) (rest := []) (q := q1) (w' := dw_X19 a ac s2) ⟨hx, hb, hml, hown, hts⟩ (fun sz => dm_X19_shows l hlt dC dI a ac n  s0 hq sz) (cwV 0 hts gi_dm_X19_descriptor_0 rfl rfl rfl (by decide +kernel) ⟨Nat.le_of_ble_eq_true rfl, Nat.le_of_ble_eq_true rfl⟩) hPc hDc hKc hS hA hN (va_recv hKc hPc (ci := 20) (q0 := 0) rfl rfl) rfl hl.1 rfl (Nat.le_of_ble_eq_true rfl) dX19_descriptor_1 (fun H locs hP1 hD1 hk1 hS => ?_)
  have hP := hP1
  have hD := hD1.weaken (fun k q _ h => hFc q.1 h)
  refine lv_if_eq (tgt := 32) hx hb dX19_descriptor_4 (by decide) (fun c4 => ?_) (fun c4 => ?_)
  · have h := nd_pos h c4
    exact (db_X19_descriptor_32 C K) (v1) (v2) s2 _ _ _ h hP hD hS (lv_sub hl [2, 3] rfl)
  · have h := nd_neg h c4
    refine lv_iload_n hx hb dX19_descriptor_7 rfl (lv_at hl 1 rfl) ?_
    refine lv_i2l hx hb dX19_descriptor_8 rfl ?_
    refine lv_lconst (v := 0) hx hb dX19_descriptor_9 (by decide) ?_
    refine lv_ldc2 hx hb hown (hts (.constantLong RX19 255 (15)) (List.mem_of_getElem? (i := 5) rfl)) dX19_descriptor_10 ?_
    obtain ⟨q10, s11, hq, h⟩ := nd_b2_e h
    have hPc : va_P (dC, dI) vwCl (dw_P a ac ()) H := nd_p0
    have hDc : va_D A (dw_P a ac ()) := nd_d0
    have hKc : va_K (dC, dI) vwCl (dk_P ac) s := nd_y0 hK
    have hFc : ∀ q, va_A (dw_P a ac ()) H.size q → A q := nd_r0 hS hA
    refine nd_cSi (As := [.long (v0.toInt64), .long 0, .long 15]) (rest := []) (q := q10) (w' := dw_P a ac s11) ⟨hx, hb, hml, hown, hts⟩ (fun sz => dm_X19_in l hlt dC dI a ac n ((v0.toInt64)) (0) (15) () hq sz) (cwS 3 hts gi_dm_X19_descriptor_1 rfl rfl rfl (by decide +kernel) ⟨Nat.le_of_ble_eq_true rfl, Nat.le_of_ble_eq_true rfl⟩) hPc hDc hKc hS hA hN rfl hl.1 rfl (Nat.le_of_ble_eq_true rfl) dX19_descriptor_13 (fun H locs hP1 hD1 hk1 hS => ?_)
    have hP := nd_n0 hP hk1
    refine lv_if_eq (tgt := 32) hx hb dX19_descriptor_16 (by decide) (fun c13 => ?_) (fun c13 => ?_)
    · have h := nd_pos h c13
      exact (db_X19_descriptor_32 C K) (v1) (v2) s2 _ _ _ h hP hD hS (lv_sub hl [2, 3] rfl)
    · have h := nd_neg h c13
      refine lv_aload_n hx hb dX19_descriptor_19 rfl (lv_at hl 0 rfl) ?_
      refine va_get (D := (dC, dI)) (ci := 20) (v := .ref (a 44)) (C := RX19) (T := TX19) (N := 36) hx hb hts hi_dm_X19_descriptor_X19 hown hK hP 0 rfl rfl 13 (by decide) (hts (.fieldLink RX19 58 "TimeMachineModel" "m" "LTimeMachineModel$Machine;") (List.mem_of_getElem? (i := 8) rfl)) (fun _ h9 => h9) rfl dX19_descriptor_20 ?_
      refine lv_iload_n hx hb dX19_descriptor_23 rfl (lv_at hl 1 rfl) ?_
      refine lv_iload_n hx hb dX19_descriptor_24 rfl (lv_at hl 2 rfl) ?_
      refine lv_iload_n hx hb dX19_descriptor_25 rfl (lv_at hl 3 rfl) ?_
      obtain ⟨q14, s15, hq, h⟩ := nd_b2_e h
      have hPc := dp_X19_44 hP
      have hDc := dd_X19_44 hD
      have hKc := dy_X19_44 hK
      have hFc := nd_rs hDc hS hA
      have hzA : ∀ q : Nat, H.size ≤ q → A q := fun q h => hA q (Nat.le_trans hS.1 h)
      refine nd_cVi (As := [.int v0, .int v1, .int v2]) (rest := []) (q := q14) (w' := dw_X16 (fun k => a (k + 44)) (fun k => ac (k + 44)) s15) ⟨hx, hb, hml, hown, hts⟩ (fun sz => dm_X16_descriptor l hlt dC dI (fun k => a (k + 44)) (fun k => ac (k + 44)) n (v0) (v1) (v2) s2.2.2.1.2 hq sz) (cwV 3 hts gi_dm_X19_descriptor_2 rfl rfl rfl (by decide +kernel) ⟨Nat.le_of_ble_eq_true rfl, Nat.le_of_ble_eq_true rfl⟩) hPc hDc hKc hS hA hN (va_recv hKc hPc (ci := 17) (q0 := 0) rfl rfl) rfl hl.1 rfl (Nat.le_of_ble_eq_true rfl) dX19_descriptor_26 (fun H locs hP1 hD1 hk1 hS => ?_)
      obtain ⟨hP, hD⟩ := dn_X19_44 hP hD hzA hk1 hP1 hD1
      obtain ⟨s17, es17, h⟩ := nd_let_e h
      have hP : va_P (dC, dI) vwCl (dw_X19 a ac s17) H := by rw [es17]; exact hP
      have hD : va_D A (dw_X19 a ac s17) := by rw [es17]; exact hD
      refine lv_goto (tgt := 53) hx hb dX19_descriptor_29 (by decide) ?_
      exact (db_X19_descriptor_53 C K) (q14) s17 _ _ _ h hP hD hS (lv_sub hl [] rfl)
set_option maxHeartbeats 40000000 in
set_option maxRecDepth 100000 in
theorem dm_X19_descriptor (l : Launch) (hlt : l.stackTraces = false) (dC : Nat → ClassId) (dI : Nat → Nat → Nat) (a : Nat → Nat) (ac : Nat → ClassId) (n : Nat) (v0 : Int32) (v1 : Int32) (v2 : Int32) (s0 : St × (St) × (St × (St × (St))) × (St) × (St)) {r : Int32 × (St × (St) × (St × (St × (St))) × (St) × (St))} (h : df_X19_descriptor n v0 v1 v2 s0 = some r) (sz : Nat) : Met l yX19_descriptor ow_dm_X19_descriptor ({ frames := 11, cells := 0, slots := 0, locals := 245 }) (va_Pc [.ref (a 0), .int v0, .int v1, .int v2] (fun U => U.heap.size = sz ∧ va_P (dC, dI) vwCl (dw_X19 a ac s0) U.heap ∧ va_K (dC, dI) vwCl (dk_X19 ac) U ∧ va_D (fun _ => True) (dw_X19 a ac s0) ∧ nv_E dI (va_A (dw_X19 a ac s0) sz) U)) (va_Qi (fun x _ => x = r.1) (fun (_ : Unit) t => va_P (dC, dI) vwCl (dw_X19 a ac r.2) t.heap ∧ va_K (dC, dI) vwCl (dk_X19 ac) t ∧ va_D (va_A (dw_X19 a ac s0) sz) (dw_X19 a ac r.2)) (va_A (dw_X19 a ac s0) sz)) 0 0 (va_A (dw_X19 a ac s0) sz) := by
  refine Met.ofW (cc := cX19_descriptor) (maxL := 4) (ret := (some .int)) (by decide) rfl ?_
  intro p e s m args below meth c s₁ B hml hv
  obtain ⟨rfl, hsz, hP, hK, hD0, hN⟩ := hv
  have hx := B.exec
  have hb := B.bytes
  have hr := B.returns
  have hts := atoms_spec (ws := ow_dm_X19_descriptor) B.pre
  have hown : s.vm.findClass RX19 = some m.cls := findClass_of_methodNamed B.named
  have hlocks := B.notSynchronized
  subst hsz
  have hD := hD0.self (sz := s.heap.size)
  generalize hAe : va_A (dw_X19 a ac s0) s.heap.size = A at hD hN ⊢
  have hA : ∀ q : Nat, s.heap.size ≤ q → A q := fun q h => by rw [← hAe]; exact Or.inr h
  have hl := lv_entry ([.ref (a 0), .int v0, .int v1, .int v2]) (n := 4) (Nat.le_of_ble_eq_true rfl)
  rw [lg_entry_eq]
  generalize (lg_sl ([.ref (a 0), .int v0, .int v1, .int v2]) ++ List.replicate (4 - (lg_sl ([.ref (a 0), .int v0, .int v1, .int v2])).length) Slot.unset).toArray = ls at hl ⊢
  have hl : lv_has ls 4 [(0, .ref (a 0)), (1, .int v0), (2, .int v1), (3, .int v2)] := hl
  exact db_X19_descriptor_0 (dC := dC) (dI := dI) (a := a) (ac := ac) (n := n) (r := r) ⟨hlt, hx, hb, hml, hown, hts, hN, hA, hK⟩ (fun pc v τ H locs ls d z er hP hD hS => by subst er; exact W.zret (v := v) hx hb hr z (fun t ht hW => ⟨⟨v, (), rfl, rfl, by rw [ht]; exact hP, va_K.moved hW.alike hK, hD⟩, hS.F ht⟩) hS.2.2 d) v0 v1 v2 s0 _ _ _ h hP hD va_S.rf (lv_sub hl [0, 1, 2, 3] rfl)
def ow_dm_X19_held : List Cond := Cond.code yX19_held cX19_held 4 (some .int) :: ([Cond.methodLink RX19 315 yX19_shows, Cond.instanceMethod yX19_shows, Cond.selects RX19 yX19_shows yX19_shows, Cond.initialized RX19, Cond.constantLong RX19 255 (15), Cond.methodLink RX19 126 yX19_in, Cond.static yX19_in, Cond.fieldLink RX19 58 "TimeMachineModel" "m" "LTimeMachineModel$Machine;", Cond.methodLink RX19 344 yX16_heldByte, Cond.instanceMethod yX16_heldByte, Cond.selects RX16 yX16_heldByte yX16_heldByte, Cond.initialized RX16] ++ (u_ws RX19 TX19 36 ++ (ow_dm_X19_shows ++ (ow_dm_X19_in ++ (ow_dm_X16_heldByte ++ [])))))
theorem gd_dm_X19_held : ∀ w ∈ ow_dm_X19_held, (w.onTables && w.keeps) = true ∨ ∃ ty, w = Cond.arrayClass ty := List.forall_mem_cons.mpr ⟨good_of_word rfl, List.forall_mem_append.mpr ⟨fun w h => good_of_word (List.all_eq_true.mp (by decide +kernel) w h), List.forall_mem_append.mpr ⟨gu_X19, List.forall_mem_append.mpr ⟨gd_dm_X19_shows, List.forall_mem_append.mpr ⟨gd_dm_X19_in, List.forall_mem_append.mpr ⟨gd_dm_X16_heldByte, fun _ h => nomatch h⟩⟩⟩⟩⟩⟩
theorem hi_dm_X19_held_X19 : ∀ w ∈ u_ws RX19 TX19 36, w ∈ ow_dm_X19_held := fun w h => List.mem_cons_of_mem _ (List.mem_append_right _ (List.mem_append_left _ h))
theorem gi_dm_X19_held_0 : GoodIn ow_dm_X19_held (wsV RX19 315 RX19 yX19_shows ow_dm_X19_shows) := goodIn_app (goodIn_of _ (by decide +kernel)) (fun w h => ⟨List.mem_cons_of_mem _ (List.mem_append_right _ (List.mem_append_right _ (List.mem_append_left _ h))), gd_dm_X19_shows w h⟩)
theorem gi_dm_X19_held_1 : GoodIn ow_dm_X19_held (wsS RX19 126 yX19_in ow_dm_X19_in) := goodIn_app (goodIn_of _ (by decide +kernel)) (fun w h => ⟨List.mem_cons_of_mem _ (List.mem_append_right _ (List.mem_append_right _ (List.mem_append_right _ (List.mem_append_left _ h)))), gd_dm_X19_in w h⟩)
theorem gi_dm_X19_held_2 : GoodIn ow_dm_X19_held (wsV RX19 344 RX16 yX16_heldByte ow_dm_X16_heldByte) := goodIn_app (goodIn_of _ (by decide +kernel)) (fun w h => ⟨List.mem_cons_of_mem _ (List.mem_append_right _ (List.mem_append_right _ (List.mem_append_right _ (List.mem_append_right _ (List.mem_append_left _ h))))), gd_dm_X16_heldByte w h⟩)
def dj_X19_held_33 (p : Program) (l : Launch) (e : Env) (s : State) (m : MethodId) (args : Array Value) (below : List Frame) (meth : Method) (c : Code) (Q : State → Prop) (A : Nat → Prop) (dC : Nat → ClassId) (dI : Nat → Nat → Nat) (a : Nat → Nat) (ac : Nat → ClassId) (g : Int32 → (St × (St) × (St × (St × (St))) × (St) × (St)) → Option (Int32 × (St × (St) × (St × (St × (St))) × (St) × (St)))) (r : Int32 × (St × (St) × (St × (St × (St))) × (St) × (St))) : Prop := ∀ (y0 : Int32) (s0 : St × (St) × (St × (St × (St))) × (St) × (St)) (H : Heap) (locs : List Loc) (ls : Array Slot), g y0 s0 = some r → va_P (dC, dI) vwCl (dw_X19 a ac s0) H → va_D A (dw_X19 a ac s0) → va_S A s.heap H locs → lv_has ls 4 [] → W p l e (headSpec ow_dm_X19_held ({ frames := 11, cells := 0, slots := 0, locals := 245 })).room s m args below meth c H locs 0 0 Q (F0 m 33 ls [.int y0])
def dj_X19_held_32 (p : Program) (l : Launch) (e : Env) (s : State) (m : MethodId) (args : Array Value) (below : List Frame) (meth : Method) (c : Code) (Q : State → Prop) (A : Nat → Prop) (dC : Nat → ClassId) (dI : Nat → Nat → Nat) (a : Nat → Nat) (ac : Nat → ClassId) (g : (St × (St) × (St × (St × (St))) × (St) × (St)) → Option (Int32 × (St × (St) × (St × (St × (St))) × (St) × (St)))) (r : Int32 × (St × (St) × (St × (St × (St))) × (St) × (St))) : Prop := ∀ (s0 : St × (St) × (St × (St × (St))) × (St) × (St)) (H : Heap) (locs : List Loc) (ls : Array Slot), g s0 = some r → va_P (dC, dI) vwCl (dw_X19 a ac s0) H → va_D A (dw_X19 a ac s0) → va_S A s.heap H locs → lv_has ls 4 [] → W p l e (headSpec ow_dm_X19_held ({ frames := 11, cells := 0, slots := 0, locals := 245 })).room s m args below meth c H locs 0 0 Q (F0 m 32 ls [])
def dj_X19_held_0 (p : Program) (l : Launch) (e : Env) (s : State) (m : MethodId) (args : Array Value) (below : List Frame) (meth : Method) (c : Code) (Q : State → Prop) (A : Nat → Prop) (dC : Nat → ClassId) (dI : Nat → Nat → Nat) (a : Nat → Nat) (ac : Nat → ClassId) (g : Int32 → Int32 → Int32 → (St × (St) × (St × (St × (St))) × (St) × (St)) → Option (Int32 × (St × (St) × (St × (St × (St))) × (St) × (St)))) (r : Int32 × (St × (St) × (St × (St × (St))) × (St) × (St))) : Prop := ∀ (v0 : Int32) (v1 : Int32) (v2 : Int32) (s0 : St × (St) × (St × (St × (St))) × (St) × (St)) (H : Heap) (locs : List Loc) (ls : Array Slot), g v0 v1 v2 s0 = some r → va_P (dC, dI) vwCl (dw_X19 a ac s0) H → va_D A (dw_X19 a ac s0) → va_S A s.heap H locs → lv_has ls 4 [(0, .ref (a 0)), (1, .int v0), (2, .int v1), (3, .int v2)] → W p l e (headSpec ow_dm_X19_held ({ frames := 11, cells := 0, slots := 0, locals := 245 })).room s m args below meth c H locs 0 0 Q (F0 m 0 ls [])
set_option maxHeartbeats 40000000 in
set_option maxRecDepth 100000 in
theorem db_X19_held_33 {p : Program} {l : Launch} {e : Env} {s : State} {m : MethodId} {args : Array Value} {below : List Frame} {meth : Method} {c : Code} {Q : State → Prop} {A : Nat → Prop} {dC : Nat → ClassId} {dI : Nat → Nat → Nat} {a : Nat → Nat} {ac : Nat → ClassId} {n : Nat} {r : Int32 × (St × (St) × (St × (St × (St))) × (St) × (St))} (C : nd_C p l s m args c A (dC, dI) cX19_held 4 RX19 ow_dm_X19_held (dk_X19 ac)) (K : nd_Ki p l e (headSpec ow_dm_X19_held ({ frames := 11, cells := 0, slots := 0, locals := 245 })).room s m args below meth c Q A (dC, dI) cX19_held .int (St × (St) × (St × (St × (St))) × (St) × (St)) (dw_X19 a ac) r) : dj_X19_held_33 p l e s m args below meth c Q A dC dI a ac (df_X19_held_33 n) r := by
  obtain ⟨hlt, hx, hb, hml, hown, hts, hN, hA, hK⟩ := id C
  intro y0 s0 H locs ls h hP hD hS hl
  unfold df_X19_held_33 at h
  exact K _ _ _ _ _ _ dX19_held_33 rfl (Option.some.inj h).symm hP hD hS
set_option maxHeartbeats 40000000 in
set_option maxRecDepth 100000 in
theorem db_X19_held_32 {p : Program} {l : Launch} {e : Env} {s : State} {m : MethodId} {args : Array Value} {below : List Frame} {meth : Method} {c : Code} {Q : State → Prop} {A : Nat → Prop} {dC : Nat → ClassId} {dI : Nat → Nat → Nat} {a : Nat → Nat} {ac : Nat → ClassId} {n : Nat} {r : Int32 × (St × (St) × (St × (St × (St))) × (St) × (St))} (C : nd_C p l s m args c A (dC, dI) cX19_held 4 RX19 ow_dm_X19_held (dk_X19 ac)) (K : nd_Ki p l e (headSpec ow_dm_X19_held ({ frames := 11, cells := 0, slots := 0, locals := 245 })).room s m args below meth c Q A (dC, dI) cX19_held .int (St × (St) × (St × (St × (St))) × (St) × (St)) (dw_X19 a ac) r) : dj_X19_held_32 p l e s m args below meth c Q A dC dI a ac (df_X19_held_32 n) r := by
  obtain ⟨hlt, hx, hb, hml, hown, hts, hN, hA, hK⟩ := id C
  intro s0 H locs ls h hP hD hS hl
  unfold df_X19_held_32 at h
  refine lv_iconst (v := (-1)) hx hb dX19_held_32 (by decide) ?_
  exact (db_X19_held_33 C K) ((-1)) s0 _ _ _ h hP hD hS (lv_sub hl [] rfl)
set_option maxHeartbeats 40000000 in
set_option maxRecDepth 100000 in
theorem db_X19_held_0 {p : Program} {l : Launch} {e : Env} {s : State} {m : MethodId} {args : Array Value} {below : List Frame} {meth : Method} {c : Code} {Q : State → Prop} {A : Nat → Prop} {dC : Nat → ClassId} {dI : Nat → Nat → Nat} {a : Nat → Nat} {ac : Nat → ClassId} {n : Nat} {r : Int32 × (St × (St) × (St × (St × (St))) × (St) × (St))} (C : nd_C p l s m args c A (dC, dI) cX19_held 4 RX19 ow_dm_X19_held (dk_X19 ac)) (K : nd_Ki p l e (headSpec ow_dm_X19_held ({ frames := 11, cells := 0, slots := 0, locals := 245 })).room s m args below meth c Q A (dC, dI) cX19_held .int (St × (St) × (St × (St × (St))) × (St) × (St)) (dw_X19 a ac) r) : dj_X19_held_0 p l e s m args below meth c Q A dC dI a ac (df_X19_held_0 n) r := by
  obtain ⟨hlt, hx, hb, hml, hown, hts, hN, hA, hK⟩ := id C
  intro v0 v1 v2 s0 H locs ls h hP hD hS hl
  unfold df_X19_held_0 at h
  refine lv_aload_n hx hb dX19_held_0 rfl (lv_at hl 0 rfl) ?_
  obtain ⟨q1, s2, hq, h⟩ := nd_b2_e h
  have hPc := hP
  have hDc := hD
  have hKc := hK
  have hFc := nd_rs hD hS hA
  refine nd_cVi (As := []) (rest := []) (q := q1) (w' := dw_X19 a ac s2) ⟨hx, hb, hml, hown, hts⟩ (fun sz => dm_X19_shows l hlt dC dI a ac n  s0 hq sz) (cwV 0 hts gi_dm_X19_held_0 rfl rfl rfl (by decide +kernel) ⟨Nat.le_of_ble_eq_true rfl, Nat.le_of_ble_eq_true rfl⟩) hPc hDc hKc hS hA hN (va_recv hKc hPc (ci := 20) (q0 := 0) rfl rfl) rfl hl.1 rfl (Nat.le_of_ble_eq_true rfl) dX19_held_1 (fun H locs hP1 hD1 hk1 hS => ?_)
  have hP := hP1
  have hD := hD1.weaken (fun k q _ h => hFc q.1 h)
  refine lv_if_eq (tgt := 32) hx hb dX19_held_4 (by decide) (fun c4 => ?_) (fun c4 => ?_)
  · have h := nd_pos h c4
    exact (db_X19_held_32 C K)  s2 _ _ _ h hP hD hS (lv_sub hl [] rfl)
  · have h := nd_neg h c4
    refine lv_iload_n hx hb dX19_held_7 rfl (lv_at hl 1 rfl) ?_
    refine lv_i2l hx hb dX19_held_8 rfl ?_
    refine lv_lconst (v := 0) hx hb dX19_held_9 (by decide) ?_
    refine lv_ldc2 hx hb hown (hts (.constantLong RX19 255 (15)) (List.mem_of_getElem? (i := 5) rfl)) dX19_held_10 ?_
    obtain ⟨q5, s6, hq, h⟩ := nd_b2_e h
    have hPc : va_P (dC, dI) vwCl (dw_P a ac ()) H := nd_p0
    have hDc : va_D A (dw_P a ac ()) := nd_d0
    have hKc : va_K (dC, dI) vwCl (dk_P ac) s := nd_y0 hK
    have hFc : ∀ q, va_A (dw_P a ac ()) H.size q → A q := nd_r0 hS hA
    refine nd_cSi (As := [.long (v0.toInt64), .long 0, .long 15]) (rest := []) (q := q5) (w' := dw_P a ac s6) ⟨hx, hb, hml, hown, hts⟩ (fun sz => dm_X19_in l hlt dC dI a ac n ((v0.toInt64)) (0) (15) () hq sz) (cwS 3 hts gi_dm_X19_held_1 rfl rfl rfl (by decide +kernel) ⟨Nat.le_of_ble_eq_true rfl, Nat.le_of_ble_eq_true rfl⟩) hPc hDc hKc hS hA hN rfl hl.1 rfl (Nat.le_of_ble_eq_true rfl) dX19_held_13 (fun H locs hP1 hD1 hk1 hS => ?_)
    have hP := nd_n0 hP hk1
    refine lv_if_eq (tgt := 32) hx hb dX19_held_16 (by decide) (fun c8 => ?_) (fun c8 => ?_)
    · have h := nd_pos h c8
      exact (db_X19_held_32 C K)  s2 _ _ _ h hP hD hS (lv_sub hl [] rfl)
    · have h := nd_neg h c8
      refine lv_aload_n hx hb dX19_held_19 rfl (lv_at hl 0 rfl) ?_
      refine va_get (D := (dC, dI)) (ci := 20) (v := .ref (a 44)) (C := RX19) (T := TX19) (N := 36) hx hb hts hi_dm_X19_held_X19 hown hK hP 0 rfl rfl 13 (by decide) (hts (.fieldLink RX19 58 "TimeMachineModel" "m" "LTimeMachineModel$Machine;") (List.mem_of_getElem? (i := 8) rfl)) (fun _ h9 => h9) rfl dX19_held_20 ?_
      refine lv_iload_n hx hb dX19_held_23 rfl (lv_at hl 1 rfl) ?_
      refine lv_iload_n hx hb dX19_held_24 rfl (lv_at hl 2 rfl) ?_
      refine lv_iload_n hx hb dX19_held_25 rfl (lv_at hl 3 rfl) ?_
      obtain ⟨q9, s10, hq, h⟩ := nd_b2_e h
      have hPc := dp_X19_44 hP
      have hDc := dd_X19_44 hD
      have hKc := dy_X19_44 hK
      have hFc := nd_rs hDc hS hA
      have hzA : ∀ q : Nat, H.size ≤ q → A q := fun q h => hA q (Nat.le_trans hS.1 h)
      refine nd_cVi (As := [.int v0, .int v1, .int v2]) (rest := []) (q := q9) (w' := dw_X16 (fun k => a (k + 44)) (fun k => ac (k + 44)) s10) ⟨hx, hb, hml, hown, hts⟩ (fun sz => dm_X16_heldByte l hlt dC dI (fun k => a (k + 44)) (fun k => ac (k + 44)) n (v0) (v1) (v2) s2.2.2.1.2 hq sz) (cwV 3 hts gi_dm_X19_held_2 rfl rfl rfl (by decide +kernel) ⟨Nat.le_of_ble_eq_true rfl, Nat.le_of_ble_eq_true rfl⟩) hPc hDc hKc hS hA hN (va_recv hKc hPc (ci := 17) (q0 := 0) rfl rfl) rfl hl.1 rfl (Nat.le_of_ble_eq_true rfl) dX19_held_26 (fun H locs hP1 hD1 hk1 hS => ?_)
      obtain ⟨hP, hD⟩ := dn_X19_44 hP hD hzA hk1 hP1 hD1
      obtain ⟨s12, es12, h⟩ := nd_let_e h
      have hP : va_P (dC, dI) vwCl (dw_X19 a ac s12) H := by rw [es12]; exact hP
      have hD : va_D A (dw_X19 a ac s12) := by rw [es12]; exact hD
      refine lv_goto (tgt := 33) hx hb dX19_held_29 (by decide) ?_
      exact (db_X19_held_33 C K) (q9) s12 _ _ _ h hP hD hS (lv_sub hl [] rfl)
set_option maxHeartbeats 40000000 in
set_option maxRecDepth 100000 in
theorem dm_X19_held (l : Launch) (hlt : l.stackTraces = false) (dC : Nat → ClassId) (dI : Nat → Nat → Nat) (a : Nat → Nat) (ac : Nat → ClassId) (n : Nat) (v0 : Int32) (v1 : Int32) (v2 : Int32) (s0 : St × (St) × (St × (St × (St))) × (St) × (St)) {r : Int32 × (St × (St) × (St × (St × (St))) × (St) × (St))} (h : df_X19_held n v0 v1 v2 s0 = some r) (sz : Nat) : Met l yX19_held ow_dm_X19_held ({ frames := 11, cells := 0, slots := 0, locals := 245 }) (va_Pc [.ref (a 0), .int v0, .int v1, .int v2] (fun U => U.heap.size = sz ∧ va_P (dC, dI) vwCl (dw_X19 a ac s0) U.heap ∧ va_K (dC, dI) vwCl (dk_X19 ac) U ∧ va_D (fun _ => True) (dw_X19 a ac s0) ∧ nv_E dI (va_A (dw_X19 a ac s0) sz) U)) (va_Qi (fun x _ => x = r.1) (fun (_ : Unit) t => va_P (dC, dI) vwCl (dw_X19 a ac r.2) t.heap ∧ va_K (dC, dI) vwCl (dk_X19 ac) t ∧ va_D (va_A (dw_X19 a ac s0) sz) (dw_X19 a ac r.2)) (va_A (dw_X19 a ac s0) sz)) 0 0 (va_A (dw_X19 a ac s0) sz) := by
  refine Met.ofW (cc := cX19_held) (maxL := 4) (ret := (some .int)) (by decide) rfl ?_
  intro p e s m args below meth c s₁ B hml hv
  obtain ⟨rfl, hsz, hP, hK, hD0, hN⟩ := hv
  have hx := B.exec
  have hb := B.bytes
  have hr := B.returns
  have hts := atoms_spec (ws := ow_dm_X19_held) B.pre
  have hown : s.vm.findClass RX19 = some m.cls := findClass_of_methodNamed B.named
  have hlocks := B.notSynchronized
  subst hsz
  have hD := hD0.self (sz := s.heap.size)
  generalize hAe : va_A (dw_X19 a ac s0) s.heap.size = A at hD hN ⊢
  have hA : ∀ q : Nat, s.heap.size ≤ q → A q := fun q h => by rw [← hAe]; exact Or.inr h
  have hl := lv_entry ([.ref (a 0), .int v0, .int v1, .int v2]) (n := 4) (Nat.le_of_ble_eq_true rfl)
  rw [lg_entry_eq]
  generalize (lg_sl ([.ref (a 0), .int v0, .int v1, .int v2]) ++ List.replicate (4 - (lg_sl ([.ref (a 0), .int v0, .int v1, .int v2])).length) Slot.unset).toArray = ls at hl ⊢
  have hl : lv_has ls 4 [(0, .ref (a 0)), (1, .int v0), (2, .int v1), (3, .int v2)] := hl
  exact db_X19_held_0 (dC := dC) (dI := dI) (a := a) (ac := ac) (n := n) (r := r) ⟨hlt, hx, hb, hml, hown, hts, hN, hA, hK⟩ (fun pc v τ H locs ls d z er hP hD hS => by subst er; exact W.zret (v := v) hx hb hr z (fun t ht hW => ⟨⟨v, (), rfl, rfl, by rw [ht]; exact hP, va_K.moved hW.alike hK, hD⟩, hS.F ht⟩) hS.2.2 d) v0 v1 v2 s0 _ _ _ h hP hD va_S.rf (lv_sub hl [0, 1, 2, 3] rfl)
def ow_dm_X19_shown : List Cond := Cond.code yX19_shown cX19_shown 2 (some .int) :: ([Cond.methodLink RX19 315 yX19_shows, Cond.instanceMethod yX19_shows, Cond.selects RX19 yX19_shows yX19_shows, Cond.initialized RX19, Cond.fieldLink RX19 58 "TimeMachineModel" "m" "LTimeMachineModel$Machine;", Cond.methodLink RX19 347 yX16_shownByte, Cond.instanceMethod yX16_shownByte, Cond.selects RX16 yX16_shownByte yX16_shownByte, Cond.initialized RX16] ++ (u_ws RX19 TX19 36 ++ (ow_dm_X19_shows ++ (ow_dm_X16_shownByte ++ []))))
theorem gd_dm_X19_shown : ∀ w ∈ ow_dm_X19_shown, (w.onTables && w.keeps) = true ∨ ∃ ty, w = Cond.arrayClass ty := List.forall_mem_cons.mpr ⟨good_of_word rfl, List.forall_mem_append.mpr ⟨fun w h => good_of_word (List.all_eq_true.mp (by decide +kernel) w h), List.forall_mem_append.mpr ⟨gu_X19, List.forall_mem_append.mpr ⟨gd_dm_X19_shows, List.forall_mem_append.mpr ⟨gd_dm_X16_shownByte, fun _ h => nomatch h⟩⟩⟩⟩⟩
theorem hi_dm_X19_shown_X19 : ∀ w ∈ u_ws RX19 TX19 36, w ∈ ow_dm_X19_shown := fun w h => List.mem_cons_of_mem _ (List.mem_append_right _ (List.mem_append_left _ h))
theorem gi_dm_X19_shown_0 : GoodIn ow_dm_X19_shown (wsV RX19 315 RX19 yX19_shows ow_dm_X19_shows) := goodIn_app (goodIn_of _ (by decide +kernel)) (fun w h => ⟨List.mem_cons_of_mem _ (List.mem_append_right _ (List.mem_append_right _ (List.mem_append_left _ h))), gd_dm_X19_shows w h⟩)
theorem gi_dm_X19_shown_1 : GoodIn ow_dm_X19_shown (wsV RX19 347 RX16 yX16_shownByte ow_dm_X16_shownByte) := goodIn_app (goodIn_of _ (by decide +kernel)) (fun w h => ⟨List.mem_cons_of_mem _ (List.mem_append_right _ (List.mem_append_right _ (List.mem_append_right _ (List.mem_append_left _ h)))), gd_dm_X16_shownByte w h⟩)
def dj_X19_shown_19 (p : Program) (l : Launch) (e : Env) (s : State) (m : MethodId) (args : Array Value) (below : List Frame) (meth : Method) (c : Code) (Q : State → Prop) (A : Nat → Prop) (dC : Nat → ClassId) (dI : Nat → Nat → Nat) (a : Nat → Nat) (ac : Nat → ClassId) (g : Int32 → (St × (St) × (St × (St × (St))) × (St) × (St)) → Option (Int32 × (St × (St) × (St × (St × (St))) × (St) × (St)))) (r : Int32 × (St × (St) × (St × (St × (St))) × (St) × (St))) : Prop := ∀ (y0 : Int32) (s0 : St × (St) × (St × (St × (St))) × (St) × (St)) (H : Heap) (locs : List Loc) (ls : Array Slot), g y0 s0 = some r → va_P (dC, dI) vwCl (dw_X19 a ac s0) H → va_D A (dw_X19 a ac s0) → va_S A s.heap H locs → lv_has ls 2 [] → W p l e (headSpec ow_dm_X19_shown ({ frames := 11, cells := 0, slots := 0, locals := 245 })).room s m args below meth c H locs 0 0 Q (F0 m 19 ls [.int y0])
def dj_X19_shown_0 (p : Program) (l : Launch) (e : Env) (s : State) (m : MethodId) (args : Array Value) (below : List Frame) (meth : Method) (c : Code) (Q : State → Prop) (A : Nat → Prop) (dC : Nat → ClassId) (dI : Nat → Nat → Nat) (a : Nat → Nat) (ac : Nat → ClassId) (g : Int32 → (St × (St) × (St × (St × (St))) × (St) × (St)) → Option (Int32 × (St × (St) × (St × (St × (St))) × (St) × (St)))) (r : Int32 × (St × (St) × (St × (St × (St))) × (St) × (St))) : Prop := ∀ (v0 : Int32) (s0 : St × (St) × (St × (St × (St))) × (St) × (St)) (H : Heap) (locs : List Loc) (ls : Array Slot), g v0 s0 = some r → va_P (dC, dI) vwCl (dw_X19 a ac s0) H → va_D A (dw_X19 a ac s0) → va_S A s.heap H locs → lv_has ls 2 [(0, .ref (a 0)), (1, .int v0)] → W p l e (headSpec ow_dm_X19_shown ({ frames := 11, cells := 0, slots := 0, locals := 245 })).room s m args below meth c H locs 0 0 Q (F0 m 0 ls [])
set_option maxHeartbeats 40000000 in
set_option maxRecDepth 100000 in
theorem db_X19_shown_19 {p : Program} {l : Launch} {e : Env} {s : State} {m : MethodId} {args : Array Value} {below : List Frame} {meth : Method} {c : Code} {Q : State → Prop} {A : Nat → Prop} {dC : Nat → ClassId} {dI : Nat → Nat → Nat} {a : Nat → Nat} {ac : Nat → ClassId} {n : Nat} {r : Int32 × (St × (St) × (St × (St × (St))) × (St) × (St))} (C : nd_C p l s m args c A (dC, dI) cX19_shown 2 RX19 ow_dm_X19_shown (dk_X19 ac)) (K : nd_Ki p l e (headSpec ow_dm_X19_shown ({ frames := 11, cells := 0, slots := 0, locals := 245 })).room s m args below meth c Q A (dC, dI) cX19_shown .int (St × (St) × (St × (St × (St))) × (St) × (St)) (dw_X19 a ac) r) : dj_X19_shown_19 p l e s m args below meth c Q A dC dI a ac (df_X19_shown_19 n) r := by
  obtain ⟨hlt, hx, hb, hml, hown, hts, hN, hA, hK⟩ := id C
  intro y0 s0 H locs ls h hP hD hS hl
  unfold df_X19_shown_19 at h
  exact K _ _ _ _ _ _ dX19_shown_19 rfl (Option.some.inj h).symm hP hD hS
set_option maxHeartbeats 40000000 in
set_option maxRecDepth 100000 in
theorem db_X19_shown_0 {p : Program} {l : Launch} {e : Env} {s : State} {m : MethodId} {args : Array Value} {below : List Frame} {meth : Method} {c : Code} {Q : State → Prop} {A : Nat → Prop} {dC : Nat → ClassId} {dI : Nat → Nat → Nat} {a : Nat → Nat} {ac : Nat → ClassId} {n : Nat} {r : Int32 × (St × (St) × (St × (St × (St))) × (St) × (St))} (C : nd_C p l s m args c A (dC, dI) cX19_shown 2 RX19 ow_dm_X19_shown (dk_X19 ac)) (K : nd_Ki p l e (headSpec ow_dm_X19_shown ({ frames := 11, cells := 0, slots := 0, locals := 245 })).room s m args below meth c Q A (dC, dI) cX19_shown .int (St × (St) × (St × (St × (St))) × (St) × (St)) (dw_X19 a ac) r) : dj_X19_shown_0 p l e s m args below meth c Q A dC dI a ac (df_X19_shown_0 n) r := by
  obtain ⟨hlt, hx, hb, hml, hown, hts, hN, hA, hK⟩ := id C
  intro v0 s0 H locs ls h hP hD hS hl
  unfold df_X19_shown_0 at h
  refine lv_aload_n hx hb dX19_shown_0 rfl (lv_at hl 0 rfl) ?_
  obtain ⟨q1, s2, hq, h⟩ := nd_b2_e h
  have hPc := hP
  have hDc := hD
  have hKc := hK
  have hFc := nd_rs hD hS hA
  refine nd_cVi (As := []) (rest := []) (q := q1) (w' := dw_X19 a ac s2) ⟨hx, hb, hml, hown, hts⟩ (fun sz => dm_X19_shows l hlt dC dI a ac n  s0 hq sz) (cwV 0 hts gi_dm_X19_shown_0 rfl rfl rfl (by decide +kernel) ⟨Nat.le_of_ble_eq_true rfl, Nat.le_of_ble_eq_true rfl⟩) hPc hDc hKc hS hA hN (va_recv hKc hPc (ci := 20) (q0 := 0) rfl rfl) rfl hl.1 rfl (Nat.le_of_ble_eq_true rfl) dX19_shown_1 (fun H locs hP1 hD1 hk1 hS => ?_)
  have hP := hP1
  have hD := hD1.weaken (fun k q _ h => hFc q.1 h)
  refine lv_if_eq (tgt := 18) hx hb dX19_shown_4 (by decide) (fun c4 => ?_) (fun c4 => ?_)
  · have h := nd_pos h c4
    refine lv_iconst (v := (-1)) hx hb dX19_shown_18 (by decide) ?_
    exact (db_X19_shown_19 C K) ((-1)) s2 _ _ _ h hP hD hS (lv_sub hl [] rfl)
  · have h := nd_neg h c4
    refine lv_aload_n hx hb dX19_shown_7 rfl (lv_at hl 0 rfl) ?_
    refine va_get (D := (dC, dI)) (ci := 20) (v := .ref (a 44)) (C := RX19) (T := TX19) (N := 36) hx hb hts hi_dm_X19_shown_X19 hown hK hP 0 rfl rfl 13 (by decide) (hts (.fieldLink RX19 58 "TimeMachineModel" "m" "LTimeMachineModel$Machine;") (List.mem_of_getElem? (i := 5) rfl)) (fun _ h9 => h9) rfl dX19_shown_8 ?_
    refine lv_iload_n hx hb dX19_shown_11 rfl (lv_at hl 1 rfl) ?_
    obtain ⟨q5, s6, hq, h⟩ := nd_b2_e h
    have hPc := dp_X19_44 hP
    have hDc := dd_X19_44 hD
    have hKc := dy_X19_44 hK
    have hFc := nd_rs hDc hS hA
    have hzA : ∀ q : Nat, H.size ≤ q → A q := fun q h => hA q (Nat.le_trans hS.1 h)
    refine nd_cVi (As := [.int v0]) (rest := []) (q := q5) (w' := dw_X16 (fun k => a (k + 44)) (fun k => ac (k + 44)) s6) ⟨hx, hb, hml, hown, hts⟩ (fun sz => dm_X16_shownByte l hlt dC dI (fun k => a (k + 44)) (fun k => ac (k + 44)) n (v0) s2.2.2.1.2 hq sz) (cwV 1 hts gi_dm_X19_shown_1 rfl rfl rfl (by decide +kernel) ⟨Nat.le_of_ble_eq_true rfl, Nat.le_of_ble_eq_true rfl⟩) hPc hDc hKc hS hA hN (va_recv hKc hPc (ci := 17) (q0 := 0) rfl rfl) rfl hl.1 rfl (Nat.le_of_ble_eq_true rfl) dX19_shown_12 (fun H locs hP1 hD1 hk1 hS => ?_)
    obtain ⟨hP, hD⟩ := dn_X19_44 hP hD hzA hk1 hP1 hD1
    obtain ⟨s8, es8, h⟩ := nd_let_e h
    have hP : va_P (dC, dI) vwCl (dw_X19 a ac s8) H := by rw [es8]; exact hP
    have hD : va_D A (dw_X19 a ac s8) := by rw [es8]; exact hD
    refine lv_goto (tgt := 19) hx hb dX19_shown_15 (by decide) ?_
    exact (db_X19_shown_19 C K) (q5) s8 _ _ _ h hP hD hS (lv_sub hl [] rfl)
set_option maxHeartbeats 40000000 in
set_option maxRecDepth 100000 in
theorem dm_X19_shown (l : Launch) (hlt : l.stackTraces = false) (dC : Nat → ClassId) (dI : Nat → Nat → Nat) (a : Nat → Nat) (ac : Nat → ClassId) (n : Nat) (v0 : Int32) (s0 : St × (St) × (St × (St × (St))) × (St) × (St)) {r : Int32 × (St × (St) × (St × (St × (St))) × (St) × (St))} (h : df_X19_shown n v0 s0 = some r) (sz : Nat) : Met l yX19_shown ow_dm_X19_shown ({ frames := 11, cells := 0, slots := 0, locals := 245 }) (va_Pc [.ref (a 0), .int v0] (fun U => U.heap.size = sz ∧ va_P (dC, dI) vwCl (dw_X19 a ac s0) U.heap ∧ va_K (dC, dI) vwCl (dk_X19 ac) U ∧ va_D (fun _ => True) (dw_X19 a ac s0) ∧ nv_E dI (va_A (dw_X19 a ac s0) sz) U)) (va_Qi (fun x _ => x = r.1) (fun (_ : Unit) t => va_P (dC, dI) vwCl (dw_X19 a ac r.2) t.heap ∧ va_K (dC, dI) vwCl (dk_X19 ac) t ∧ va_D (va_A (dw_X19 a ac s0) sz) (dw_X19 a ac r.2)) (va_A (dw_X19 a ac s0) sz)) 0 0 (va_A (dw_X19 a ac s0) sz) := by
  refine Met.ofW (cc := cX19_shown) (maxL := 2) (ret := (some .int)) (by decide) rfl ?_
  intro p e s m args below meth c s₁ B hml hv
  obtain ⟨rfl, hsz, hP, hK, hD0, hN⟩ := hv
  have hx := B.exec
  have hb := B.bytes
  have hr := B.returns
  have hts := atoms_spec (ws := ow_dm_X19_shown) B.pre
  have hown : s.vm.findClass RX19 = some m.cls := findClass_of_methodNamed B.named
  have hlocks := B.notSynchronized
  subst hsz
  have hD := hD0.self (sz := s.heap.size)
  generalize hAe : va_A (dw_X19 a ac s0) s.heap.size = A at hD hN ⊢
  have hA : ∀ q : Nat, s.heap.size ≤ q → A q := fun q h => by rw [← hAe]; exact Or.inr h
  have hl := lv_entry ([.ref (a 0), .int v0]) (n := 2) (Nat.le_of_ble_eq_true rfl)
  rw [lg_entry_eq]
  generalize (lg_sl ([.ref (a 0), .int v0]) ++ List.replicate (2 - (lg_sl ([.ref (a 0), .int v0])).length) Slot.unset).toArray = ls at hl ⊢
  have hl : lv_has ls 2 [(0, .ref (a 0)), (1, .int v0)] := hl
  exact db_X19_shown_0 (dC := dC) (dI := dI) (a := a) (ac := ac) (n := n) (r := r) ⟨hlt, hx, hb, hml, hown, hts, hN, hA, hK⟩ (fun pc v τ H locs ls d z er hP hD hS => by subst er; exact W.zret (v := v) hx hb hr z (fun t ht hW => ⟨⟨v, (), rfl, rfl, by rw [ht]; exact hP, va_K.moved hW.alike hK, hD⟩, hS.F ht⟩) hS.2.2 d) v0 s0 _ _ _ h hP hD va_S.rf (lv_sub hl [0, 1] rfl)
def ow_dm_X19_count : List Cond := Cond.code yX19_count cX19_count 3 (some .long) :: ([Cond.fieldLink RX19 113 "TimeMachineModel" "code" "I", Cond.fieldLink RX19 67 "TimeMachineModel" "conditions" "LTimeMachineModel$Conditions;", Cond.methodLink RX19 350 yX15_size, Cond.instanceMethod yX15_size, Cond.selects RX15 yX15_size yX15_size, Cond.initialized RX15, Cond.fieldLink RX19 117 "TimeMachineModel" "taped" "I", Cond.methodLink RX19 315 yX19_shows, Cond.instanceMethod yX19_shows, Cond.selects RX19 yX19_shows yX19_shows, Cond.initialized RX19, Cond.fieldLink RX19 234 "TimeMachineModel" "now" "I", Cond.fieldLink RX19 210 "TimeMachineModel" "end" "I", Cond.constantLong RX19 354 (2), Cond.constantLong RX19 352 (14), Cond.methodLink RX19 126 yX19_in, Cond.static yX19_in, Cond.constantLong RX19 292 (-1), Cond.fieldLink RX19 58 "TimeMachineModel" "m" "LTimeMachineModel$Machine;", Cond.methodLink RX19 289 yX16_count, Cond.instanceMethod yX16_count, Cond.selects RX16 yX16_count yX16_count, Cond.initialized RX16, Cond.fieldLink RX19 192 "TimeMachineModel" "events" "I", Cond.fieldLink RX19 91 "TimeMachineModel" "when" "[I", Cond.fieldLink RX19 212 "TimeMachineModel" "scheduled" "I"] ++ (u_ws RX19 TX19 36 ++ (ow_dm_X15_size ++ (ow_dm_X19_shows ++ (ow_dm_X19_in ++ (ow_dm_X16_count ++ []))))))
theorem gd_dm_X19_count : ∀ w ∈ ow_dm_X19_count, (w.onTables && w.keeps) = true ∨ ∃ ty, w = Cond.arrayClass ty := List.forall_mem_cons.mpr ⟨good_of_word rfl, List.forall_mem_append.mpr ⟨fun w h => good_of_word (List.all_eq_true.mp (by decide +kernel) w h), List.forall_mem_append.mpr ⟨gu_X19, List.forall_mem_append.mpr ⟨gd_dm_X15_size, List.forall_mem_append.mpr ⟨gd_dm_X19_shows, List.forall_mem_append.mpr ⟨gd_dm_X19_in, List.forall_mem_append.mpr ⟨gd_dm_X16_count, fun _ h => nomatch h⟩⟩⟩⟩⟩⟩⟩
theorem hi_dm_X19_count_X19 : ∀ w ∈ u_ws RX19 TX19 36, w ∈ ow_dm_X19_count := fun w h => List.mem_cons_of_mem _ (List.mem_append_right _ (List.mem_append_left _ h))
theorem gi_dm_X19_count_0 : GoodIn ow_dm_X19_count (wsV RX19 350 RX15 yX15_size ow_dm_X15_size) := goodIn_app (goodIn_of _ (by decide +kernel)) (fun w h => ⟨List.mem_cons_of_mem _ (List.mem_append_right _ (List.mem_append_right _ (List.mem_append_left _ h))), gd_dm_X15_size w h⟩)
theorem gi_dm_X19_count_1 : GoodIn ow_dm_X19_count (wsV RX19 315 RX19 yX19_shows ow_dm_X19_shows) := goodIn_app (goodIn_of _ (by decide +kernel)) (fun w h => ⟨List.mem_cons_of_mem _ (List.mem_append_right _ (List.mem_append_right _ (List.mem_append_right _ (List.mem_append_left _ h)))), gd_dm_X19_shows w h⟩)
theorem gi_dm_X19_count_2 : GoodIn ow_dm_X19_count (wsS RX19 126 yX19_in ow_dm_X19_in) := goodIn_app (goodIn_of _ (by decide +kernel)) (fun w h => ⟨List.mem_cons_of_mem _ (List.mem_append_right _ (List.mem_append_right _ (List.mem_append_right _ (List.mem_append_right _ (List.mem_append_left _ h))))), gd_dm_X19_in w h⟩)
theorem gi_dm_X19_count_3 : GoodIn ow_dm_X19_count (wsV RX19 289 RX16 yX16_count ow_dm_X16_count) := goodIn_app (goodIn_of _ (by decide +kernel)) (fun w h => ⟨List.mem_cons_of_mem _ (List.mem_append_right _ (List.mem_append_right _ (List.mem_append_right _ (List.mem_append_right _ (List.mem_append_right _ (List.mem_append_left _ h)))))), gd_dm_X16_count w h⟩)
def dj_X19_count_39 (p : Program) (l : Launch) (e : Env) (s : State) (m : MethodId) (args : Array Value) (below : List Frame) (meth : Method) (c : Code) (Q : State → Prop) (A : Nat → Prop) (dC : Nat → ClassId) (dI : Nat → Nat → Nat) (a : Nat → Nat) (ac : Nat → ClassId) (g : Int64 → (St × (St) × (St × (St × (St))) × (St) × (St)) → Option (Int64 × (St × (St) × (St × (St × (St))) × (St) × (St)))) (r : Int64 × (St × (St) × (St × (St × (St))) × (St) × (St))) : Prop := ∀ (y0 : Int64) (s0 : St × (St) × (St × (St × (St))) × (St) × (St)) (H : Heap) (locs : List Loc) (ls : Array Slot), g y0 s0 = some r → va_P (dC, dI) vwCl (dw_X19 a ac s0) H → va_D A (dw_X19 a ac s0) → va_S A s.heap H locs → lv_has ls 3 [] → W p l e (headSpec ow_dm_X19_count ({ frames := 11, cells := 0, slots := 0, locals := 245 })).room s m args below meth c H locs 0 0 Q (F0 m 39 ls [.long y0])
def dj_X19_count_12 (p : Program) (l : Launch) (e : Env) (s : State) (m : MethodId) (args : Array Value) (below : List Frame) (meth : Method) (c : Code) (Q : State → Prop) (A : Nat → Prop) (dC : Nat → ClassId) (dI : Nat → Nat → Nat) (a : Nat → Nat) (ac : Nat → ClassId) (g : Int32 → (St × (St) × (St × (St × (St))) × (St) × (St)) → Option (Int64 × (St × (St) × (St × (St × (St))) × (St) × (St)))) (r : Int64 × (St × (St) × (St × (St × (St))) × (St) × (St))) : Prop := ∀ (x1 : Int32) (s0 : St × (St) × (St × (St × (St))) × (St) × (St)) (H : Heap) (locs : List Loc) (ls : Array Slot), g x1 s0 = some r → va_P (dC, dI) vwCl (dw_X19 a ac s0) H → va_D A (dw_X19 a ac s0) → va_S A s.heap H locs → lv_has ls 3 [(0, .ref (a 0)), (1, .int x1)] → W p l e (headSpec ow_dm_X19_count ({ frames := 11, cells := 0, slots := 0, locals := 245 })).room s m args below meth c H locs 0 0 Q (F0 m 12 ls [])
def dj_X19_count_196 (p : Program) (l : Launch) (e : Env) (s : State) (m : MethodId) (args : Array Value) (below : List Frame) (meth : Method) (c : Code) (Q : State → Prop) (A : Nat → Prop) (dC : Nat → ClassId) (dI : Nat → Nat → Nat) (a : Nat → Nat) (ac : Nat → ClassId) (g : Int64 → (St × (St) × (St × (St × (St))) × (St) × (St)) → Option (Int64 × (St × (St) × (St × (St × (St))) × (St) × (St)))) (r : Int64 × (St × (St) × (St × (St × (St))) × (St) × (St))) : Prop := ∀ (y0 : Int64) (s0 : St × (St) × (St × (St × (St))) × (St) × (St)) (H : Heap) (locs : List Loc) (ls : Array Slot), g y0 s0 = some r → va_P (dC, dI) vwCl (dw_X19 a ac s0) H → va_D A (dw_X19 a ac s0) → va_S A s.heap H locs → lv_has ls 3 [] → W p l e (headSpec ow_dm_X19_count ({ frames := 11, cells := 0, slots := 0, locals := 245 })).room s m args below meth c H locs 0 0 Q (F0 m 196 ls [.long y0])
def dj_X19_count_168 (p : Program) (l : Launch) (e : Env) (s : State) (m : MethodId) (args : Array Value) (below : List Frame) (meth : Method) (c : Code) (Q : State → Prop) (A : Nat → Prop) (dC : Nat → ClassId) (dI : Nat → Nat → Nat) (a : Nat → Nat) (ac : Nat → ClassId) (g : Int32 → (St × (St) × (St × (St × (St))) × (St) × (St)) → Option (Int64 × (St × (St) × (St × (St × (St))) × (St) × (St)))) (r : Int64 × (St × (St) × (St × (St × (St))) × (St) × (St))) : Prop := ∀ (x1 : Int32) (s0 : St × (St) × (St × (St × (St))) × (St) × (St)) (H : Heap) (locs : List Loc) (ls : Array Slot), g x1 s0 = some r → va_P (dC, dI) vwCl (dw_X19 a ac s0) H → va_D A (dw_X19 a ac s0) → va_S A s.heap H locs → lv_has ls 3 [(0, .ref (a 0)), (1, .int x1)] → W p l e (headSpec ow_dm_X19_count ({ frames := 11, cells := 0, slots := 0, locals := 245 })).room s m args below meth c H locs 0 0 Q (F0 m 168 ls [])
def dj_X19_count_159 (p : Program) (l : Launch) (e : Env) (s : State) (m : MethodId) (args : Array Value) (below : List Frame) (meth : Method) (c : Code) (Q : State → Prop) (A : Nat → Prop) (dC : Nat → ClassId) (dI : Nat → Nat → Nat) (a : Nat → Nat) (ac : Nat → ClassId) (g : Int32 → (St × (St) × (St × (St × (St))) × (St) × (St)) → Option (Int64 × (St × (St) × (St × (St × (St))) × (St) × (St)))) (r : Int64 × (St × (St) × (St × (St × (St))) × (St) × (St))) : Prop := ∀ (x2 : Int32) (s0 : St × (St) × (St × (St × (St))) × (St) × (St)) (H : Heap) (locs : List Loc) (ls : Array Slot), g x2 s0 = some r → va_P (dC, dI) vwCl (dw_X19 a ac s0) H → va_D A (dw_X19 a ac s0) → va_S A s.heap H locs → lv_has ls 3 [(2, .int x2)] → W p l e (headSpec ow_dm_X19_count ({ frames := 11, cells := 0, slots := 0, locals := 245 })).room s m args below meth c H locs 0 0 Q (F0 m 159 ls [])
def dj_X19_count_132 (p : Program) (l : Launch) (e : Env) (s : State) (m : MethodId) (args : Array Value) (below : List Frame) (meth : Method) (c : Code) (Q : State → Prop) (A : Nat → Prop) (dC : Nat → ClassId) (dI : Nat → Nat → Nat) (a : Nat → Nat) (ac : Nat → ClassId) (g : Int32 → (St × (St) × (St × (St × (St))) × (St) × (St)) → Option (Int64 × (St × (St) × (St × (St × (St))) × (St) × (St)))) (r : Int64 × (St × (St) × (St × (St × (St))) × (St) × (St))) : Prop := ∀ (x2 : Int32) (s0 : St × (St) × (St × (St × (St))) × (St) × (St)) (H : Heap) (locs : List Loc) (ls : Array Slot), g x2 s0 = some r → va_P (dC, dI) vwCl (dw_X19 a ac s0) H → va_D A (dw_X19 a ac s0) → va_S A s.heap H locs → lv_has ls 3 [(0, .ref (a 0)), (2, .int x2)] → W p l e (headSpec ow_dm_X19_count ({ frames := 11, cells := 0, slots := 0, locals := 245 })).room s m args below meth c H locs 0 0 Q (F0 m 132 ls [])
def dj_X19_count_71 (p : Program) (l : Launch) (e : Env) (s : State) (m : MethodId) (args : Array Value) (below : List Frame) (meth : Method) (c : Code) (Q : State → Prop) (A : Nat → Prop) (dC : Nat → ClassId) (dI : Nat → Nat → Nat) (a : Nat → Nat) (ac : Nat → ClassId) (g : Int64 → (St × (St) × (St × (St × (St))) × (St) × (St)) → Option (Int64 × (St × (St) × (St × (St × (St))) × (St) × (St)))) (r : Int64 × (St × (St) × (St × (St × (St))) × (St) × (St))) : Prop := ∀ (y0 : Int64) (s0 : St × (St) × (St × (St × (St))) × (St) × (St)) (H : Heap) (locs : List Loc) (ls : Array Slot), g y0 s0 = some r → va_P (dC, dI) vwCl (dw_X19 a ac s0) H → va_D A (dw_X19 a ac s0) → va_S A s.heap H locs → lv_has ls 3 [] → W p l e (headSpec ow_dm_X19_count ({ frames := 11, cells := 0, slots := 0, locals := 245 })).room s m args below meth c H locs 0 0 Q (F0 m 71 ls [.long y0])
def dj_X19_count_64 (p : Program) (l : Launch) (e : Env) (s : State) (m : MethodId) (args : Array Value) (below : List Frame) (meth : Method) (c : Code) (Q : State → Prop) (A : Nat → Prop) (dC : Nat → ClassId) (dI : Nat → Nat → Nat) (a : Nat → Nat) (ac : Nat → ClassId) (g : (St × (St) × (St × (St × (St))) × (St) × (St)) → Option (Int64 × (St × (St) × (St × (St × (St))) × (St) × (St)))) (r : Int64 × (St × (St) × (St × (St × (St))) × (St) × (St))) : Prop := ∀ (s0 : St × (St) × (St × (St × (St))) × (St) × (St)) (H : Heap) (locs : List Loc) (ls : Array Slot), g s0 = some r → va_P (dC, dI) vwCl (dw_X19 a ac s0) H → va_D A (dw_X19 a ac s0) → va_S A s.heap H locs → lv_has ls 3 [] → W p l e (headSpec ow_dm_X19_count ({ frames := 11, cells := 0, slots := 0, locals := 245 })).room s m args below meth c H locs 0 0 Q (F0 m 64 ls [])
def dj_X19_count_0 (p : Program) (l : Launch) (e : Env) (s : State) (m : MethodId) (args : Array Value) (below : List Frame) (meth : Method) (c : Code) (Q : State → Prop) (A : Nat → Prop) (dC : Nat → ClassId) (dI : Nat → Nat → Nat) (a : Nat → Nat) (ac : Nat → ClassId) (g : Int32 → (St × (St) × (St × (St × (St))) × (St) × (St)) → Option (Int64 × (St × (St) × (St × (St × (St))) × (St) × (St)))) (r : Int64 × (St × (St) × (St × (St × (St))) × (St) × (St))) : Prop := ∀ (v0 : Int32) (s0 : St × (St) × (St × (St × (St))) × (St) × (St)) (H : Heap) (locs : List Loc) (ls : Array Slot), g v0 s0 = some r → va_P (dC, dI) vwCl (dw_X19 a ac s0) H → va_D A (dw_X19 a ac s0) → va_S A s.heap H locs → lv_has ls 3 [(0, .ref (a 0)), (1, .int v0)] → W p l e (headSpec ow_dm_X19_count ({ frames := 11, cells := 0, slots := 0, locals := 245 })).room s m args below meth c H locs 0 0 Q (F0 m 0 ls [])
set_option maxHeartbeats 40000000 in
set_option maxRecDepth 100000 in
theorem db_X19_count_39 {p : Program} {l : Launch} {e : Env} {s : State} {m : MethodId} {args : Array Value} {below : List Frame} {meth : Method} {c : Code} {Q : State → Prop} {A : Nat → Prop} {dC : Nat → ClassId} {dI : Nat → Nat → Nat} {a : Nat → Nat} {ac : Nat → ClassId} {n : Nat} {r : Int64 × (St × (St) × (St × (St × (St))) × (St) × (St))} (C : nd_C p l s m args c A (dC, dI) cX19_count 3 RX19 ow_dm_X19_count (dk_X19 ac)) (K : nd_Kl p l e (headSpec ow_dm_X19_count ({ frames := 11, cells := 0, slots := 0, locals := 245 })).room s m args below meth c Q A (dC, dI) cX19_count (St × (St) × (St × (St × (St))) × (St) × (St)) (dw_X19 a ac) r) : dj_X19_count_39 p l e s m args below meth c Q A dC dI a ac (df_X19_count_39 n) r := by
  obtain ⟨hlt, hx, hb, hml, hown, hts, hN, hA, hK⟩ := id C
  intro y0 s0 H locs ls h hP hD hS hl
  unfold df_X19_count_39 at h
  exact K _ _ _ _ _ _ dX19_count_39 (Option.some.inj h).symm hP hD hS
set_option maxHeartbeats 40000000 in
set_option maxRecDepth 100000 in
theorem db_X19_count_12 {p : Program} {l : Launch} {e : Env} {s : State} {m : MethodId} {args : Array Value} {below : List Frame} {meth : Method} {c : Code} {Q : State → Prop} {A : Nat → Prop} {dC : Nat → ClassId} {dI : Nat → Nat → Nat} {a : Nat → Nat} {ac : Nat → ClassId} {n : Nat} {r : Int64 × (St × (St) × (St × (St × (St))) × (St) × (St))} (C : nd_C p l s m args c A (dC, dI) cX19_count 3 RX19 ow_dm_X19_count (dk_X19 ac)) (K : nd_Kl p l e (headSpec ow_dm_X19_count ({ frames := 11, cells := 0, slots := 0, locals := 245 })).room s m args below meth c Q A (dC, dI) cX19_count (St × (St) × (St × (St × (St))) × (St) × (St)) (dw_X19 a ac) r) : dj_X19_count_12 p l e s m args below meth c Q A dC dI a ac (df_X19_count_12 n) r := by
  obtain ⟨hlt, hx, hb, hml, hown, hts, hN, hA, hK⟩ := id C
  intro x1 s0 H locs ls h hP hD hS hl
  unfold df_X19_count_12 at h
  refine lv_aload_n hx hb dX19_count_12 rfl (lv_at hl 0 rfl) ?_
  refine lv_iconst (v := 0) hx hb dX19_count_13 (by decide) ?_
  refine va_put (D := (dC, dI)) (ci := 20) (v := .int 0) (ty := .int) (C := RX19) (T := TX19) (N := 36) hx hb hts hi_dm_X19_count_X19 tyX19 tyX19_ok nmX19 hown hK hP hD hS 0 rfl rfl 0 (by decide) (hts (.fieldLink RX19 113 "TimeMachineModel" "code" "I") (List.mem_of_getElem? (i := 1) rfl)) (fun _ h9 => h9) rfl (by decide +kernel) rfl rfl (Nat.le_of_ble_eq_true rfl) dX19_count_14 (fun H locs hP hD hS => ?_)
  obtain ⟨s2, es2, h⟩ := nd_let_e h
  have hP : va_P (dC, dI) vwCl (dw_X19 a ac s2) H := by rw [es2]; exact hP
  have hD : va_D A (dw_X19 a ac s2) := by rw [es2]; exact hD
  refine lv_iload_n hx hb dX19_count_17 rfl (lv_at hl 1 rfl) ?_
  refine lv_bipush (v := 15) hx hb dX19_count_18 (by decide) ?_
  refine lv_icmp_ne (tgt := 31) hx hb dX19_count_20 (by decide) (fun c3 => ?_) (fun c3 => ?_)
  · have h := nd_neg h c3
    refine lv_aload_n hx hb dX19_count_31 rfl (lv_at hl 0 rfl) ?_
    refine va_get (D := (dC, dI)) (ci := 20) (v := .ref (a 27)) (C := RX19) (T := TX19) (N := 36) hx hb hts hi_dm_X19_count_X19 hown hK hP 0 rfl rfl 14 (by decide) (hts (.fieldLink RX19 67 "TimeMachineModel" "conditions" "LTimeMachineModel$Conditions;") (List.mem_of_getElem? (i := 2) rfl)) (fun _ h9 => h9) rfl dX19_count_32 ?_
    obtain ⟨q4, s5, hq, h⟩ := nd_b2_e h
    have hPc := dp_X19_27 hP
    have hDc := dd_X19_27 hD
    have hKc := dy_X19_27 hK
    have hFc := nd_rs hDc hS hA
    have hzA : ∀ q : Nat, H.size ≤ q → A q := fun q h => hA q (Nat.le_trans hS.1 h)
    refine nd_cVi (As := []) (rest := []) (q := q4) (w' := dw_X15 (fun k => a (k + 27)) (fun k => ac (k + 27)) s5) ⟨hx, hb, hml, hown, hts⟩ (fun sz => dm_X15_size l hlt dC dI (fun k => a (k + 27)) (fun k => ac (k + 27)) n  s2.2.2.1 hq sz) (cwV 0 hts gi_dm_X19_count_0 rfl rfl rfl (by decide +kernel) ⟨Nat.le_of_ble_eq_true rfl, Nat.le_of_ble_eq_true rfl⟩) hPc hDc hKc hS hA hN (va_recv hKc hPc (ci := 16) (q0 := 0) rfl rfl) rfl hl.1 rfl (Nat.le_of_ble_eq_true rfl) dX19_count_35 (fun H locs hP1 hD1 hk1 hS => ?_)
    obtain ⟨hP, hD⟩ := dn_X19_27 hP hD hzA hk1 hP1 hD1
    obtain ⟨s7, es7, h⟩ := nd_let_e h
    have hP : va_P (dC, dI) vwCl (dw_X19 a ac s7) H := by rw [es7]; exact hP
    have hD : va_D A (dw_X19 a ac s7) := by rw [es7]; exact hD
    refine lv_i2l hx hb dX19_count_38 rfl ?_
    exact (db_X19_count_39 C K) ((q4.toInt64)) s7 _ _ _ h hP hD hS (lv_sub hl [] rfl)
  · have h := nd_pos h c3
    refine lv_aload_n hx hb dX19_count_23 rfl (lv_at hl 0 rfl) ?_
    refine va_get (D := (dC, dI)) (ci := 20) (v := .int (sI s2.1 1)) (C := RX19) (T := TX19) (N := 36) hx hb hts hi_dm_X19_count_X19 hown hK hP 0 rfl rfl 2 (by decide) (hts (.fieldLink RX19 117 "TimeMachineModel" "taped" "I") (List.mem_of_getElem? (i := 7) rfl)) (fun _ h9 => h9) rfl dX19_count_24 ?_
    refine lv_i2l hx hb dX19_count_27 rfl ?_
    refine lv_goto (tgt := 39) hx hb dX19_count_28 (by decide) ?_
    exact (db_X19_count_39 C K) ((((sI s2.1 1) : Int32).toInt64)) s2 _ _ _ h hP hD hS (lv_sub hl [] rfl)
set_option maxHeartbeats 40000000 in
set_option maxRecDepth 100000 in
theorem db_X19_count_196 {p : Program} {l : Launch} {e : Env} {s : State} {m : MethodId} {args : Array Value} {below : List Frame} {meth : Method} {c : Code} {Q : State → Prop} {A : Nat → Prop} {dC : Nat → ClassId} {dI : Nat → Nat → Nat} {a : Nat → Nat} {ac : Nat → ClassId} {n : Nat} {r : Int64 × (St × (St) × (St × (St × (St))) × (St) × (St))} (C : nd_C p l s m args c A (dC, dI) cX19_count 3 RX19 ow_dm_X19_count (dk_X19 ac)) (K : nd_Kl p l e (headSpec ow_dm_X19_count ({ frames := 11, cells := 0, slots := 0, locals := 245 })).room s m args below meth c Q A (dC, dI) cX19_count (St × (St) × (St × (St × (St))) × (St) × (St)) (dw_X19 a ac) r) : dj_X19_count_196 p l e s m args below meth c Q A dC dI a ac (df_X19_count_196 n) r := by
  obtain ⟨hlt, hx, hb, hml, hown, hts, hN, hA, hK⟩ := id C
  intro y0 s0 H locs ls h hP hD hS hl
  unfold df_X19_count_196 at h
  exact K _ _ _ _ _ _ dX19_count_196 (Option.some.inj h).symm hP hD hS
set_option maxHeartbeats 40000000 in
set_option maxRecDepth 100000 in
theorem db_X19_count_168 {p : Program} {l : Launch} {e : Env} {s : State} {m : MethodId} {args : Array Value} {below : List Frame} {meth : Method} {c : Code} {Q : State → Prop} {A : Nat → Prop} {dC : Nat → ClassId} {dI : Nat → Nat → Nat} {a : Nat → Nat} {ac : Nat → ClassId} {n : Nat} {r : Int64 × (St × (St) × (St × (St × (St))) × (St) × (St))} (C : nd_C p l s m args c A (dC, dI) cX19_count 3 RX19 ow_dm_X19_count (dk_X19 ac)) (K : nd_Kl p l e (headSpec ow_dm_X19_count ({ frames := 11, cells := 0, slots := 0, locals := 245 })).room s m args below meth c Q A (dC, dI) cX19_count (St × (St) × (St × (St × (St))) × (St) × (St)) (dw_X19 a ac) r) : dj_X19_count_168 p l e s m args below meth c Q A dC dI a ac (df_X19_count_168 n) r := by
  obtain ⟨hlt, hx, hb, hml, hown, hts, hN, hA, hK⟩ := id C
  intro x1 s0 H locs ls h hP hD hS hl
  unfold df_X19_count_168 at h
  refine lv_iload_n hx hb dX19_count_168 rfl (lv_at hl 1 rfl) ?_
  refine lv_i2l hx hb dX19_count_169 rfl ?_
  refine lv_ldc2 hx hb hown (hts (.constantLong RX19 354 (2)) (List.mem_of_getElem? (i := 14) rfl)) dX19_count_170 ?_
  refine lv_ldc2 hx hb hown (hts (.constantLong RX19 352 (14)) (List.mem_of_getElem? (i := 15) rfl)) dX19_count_173 ?_
  obtain ⟨q16, s17, hq, h⟩ := nd_b2_e h
  have hPc : va_P (dC, dI) vwCl (dw_P a ac ()) H := nd_p0
  have hDc : va_D A (dw_P a ac ()) := nd_d0
  have hKc : va_K (dC, dI) vwCl (dk_P ac) s := nd_y0 hK
  have hFc : ∀ q, va_A (dw_P a ac ()) H.size q → A q := nd_r0 hS hA
  refine nd_cSi (As := [.long (x1.toInt64), .long 2, .long 14]) (rest := []) (q := q16) (w' := dw_P a ac s17) ⟨hx, hb, hml, hown, hts⟩ (fun sz => dm_X19_in l hlt dC dI a ac n ((x1.toInt64)) (2) (14) () hq sz) (cwS 3 hts gi_dm_X19_count_2 rfl rfl rfl (by decide +kernel) ⟨Nat.le_of_ble_eq_true rfl, Nat.le_of_ble_eq_true rfl⟩) hPc hDc hKc hS hA hN rfl hl.1 rfl (Nat.le_of_ble_eq_true rfl) dX19_count_176 (fun H locs hP1 hD1 hk1 hS => ?_)
  have hP := nd_n0 hP hk1
  refine lv_if_eq (tgt := 193) hx hb dX19_count_179 (by decide) (fun c19 => ?_) (fun c19 => ?_)
  · have h := nd_pos h c19
    refine lv_ldc2 hx hb hown (hts (.constantLong RX19 292 (-1)) (List.mem_of_getElem? (i := 18) rfl)) dX19_count_193 ?_
    exact (db_X19_count_196 C K) ((-1)) s0 _ _ _ h hP hD hS (lv_sub hl [] rfl)
  · have h := nd_neg h c19
    refine lv_aload_n hx hb dX19_count_182 rfl (lv_at hl 0 rfl) ?_
    refine va_get (D := (dC, dI)) (ci := 20) (v := .ref (a 44)) (C := RX19) (T := TX19) (N := 36) hx hb hts hi_dm_X19_count_X19 hown hK hP 0 rfl rfl 13 (by decide) (hts (.fieldLink RX19 58 "TimeMachineModel" "m" "LTimeMachineModel$Machine;") (List.mem_of_getElem? (i := 19) rfl)) (fun _ h9 => h9) rfl dX19_count_183 ?_
    refine lv_iload_n hx hb dX19_count_186 rfl (lv_at hl 1 rfl) ?_
    obtain ⟨q20, s21, hq, h⟩ := nd_b2_e h
    have hPc := dp_X19_44 hP
    have hDc := dd_X19_44 hD
    have hKc := dy_X19_44 hK
    have hFc := nd_rs hDc hS hA
    have hzA : ∀ q : Nat, H.size ≤ q → A q := fun q h => hA q (Nat.le_trans hS.1 h)
    refine nd_cVl (As := [.int x1]) (rest := []) (q := q20) (w' := dw_X16 (fun k => a (k + 44)) (fun k => ac (k + 44)) s21) ⟨hx, hb, hml, hown, hts⟩ (fun sz => dm_X16_count l hlt dC dI (fun k => a (k + 44)) (fun k => ac (k + 44)) n (x1) s0.2.2.1.2 hq sz) (cwV 1 hts gi_dm_X19_count_3 rfl rfl rfl (by decide +kernel) ⟨Nat.le_of_ble_eq_true rfl, Nat.le_of_ble_eq_true rfl⟩) hPc hDc hKc hS hA hN (va_recv hKc hPc (ci := 17) (q0 := 0) rfl rfl) rfl hl.1 rfl (Nat.le_of_ble_eq_true rfl) dX19_count_187 (fun H locs hP1 hD1 hk1 hS => ?_)
    obtain ⟨hP, hD⟩ := dn_X19_44 hP hD hzA hk1 hP1 hD1
    obtain ⟨s23, es23, h⟩ := nd_let_e h
    have hP : va_P (dC, dI) vwCl (dw_X19 a ac s23) H := by rw [es23]; exact hP
    have hD : va_D A (dw_X19 a ac s23) := by rw [es23]; exact hD
    refine lv_goto (tgt := 196) hx hb dX19_count_190 (by decide) ?_
    exact (db_X19_count_196 C K) (q20) s23 _ _ _ h hP hD hS (lv_sub hl [] rfl)
set_option maxHeartbeats 40000000 in
set_option maxRecDepth 100000 in
theorem db_X19_count_159 {p : Program} {l : Launch} {e : Env} {s : State} {m : MethodId} {args : Array Value} {below : List Frame} {meth : Method} {c : Code} {Q : State → Prop} {A : Nat → Prop} {dC : Nat → ClassId} {dI : Nat → Nat → Nat} {a : Nat → Nat} {ac : Nat → ClassId} {n : Nat} {r : Int64 × (St × (St) × (St × (St × (St))) × (St) × (St))} (C : nd_C p l s m args c A (dC, dI) cX19_count 3 RX19 ow_dm_X19_count (dk_X19 ac)) (K : nd_Kl p l e (headSpec ow_dm_X19_count ({ frames := 11, cells := 0, slots := 0, locals := 245 })).room s m args below meth c Q A (dC, dI) cX19_count (St × (St) × (St × (St × (St))) × (St) × (St)) (dw_X19 a ac) r) : dj_X19_count_159 p l e s m args below meth c Q A dC dI a ac (df_X19_count_159 n) r := by
  obtain ⟨hlt, hx, hb, hml, hown, hts, hN, hA, hK⟩ := id C
  intro x2 s0 H locs ls h hP hD hS hl
  unfold df_X19_count_159 at h
  refine lv_iload_n hx hb dX19_count_159 rfl (lv_at hl 0 rfl) ?_
  refine lv_i2l hx hb dX19_count_160 rfl ?_
  exact K _ _ _ _ _ _ dX19_count_161 (Option.some.inj h).symm hP hD hS
set_option maxHeartbeats 40000000 in
set_option maxRecDepth 100000 in
theorem dB_X19_count_132 {p : Program} {l : Launch} {e : Env} {s : State} {m : MethodId} {args : Array Value} {below : List Frame} {meth : Method} {c : Code} {Q : State → Prop} {A : Nat → Prop} {dC : Nat → ClassId} {dI : Nat → Nat → Nat} {a : Nat → Nat} {ac : Nat → ClassId} {n : Nat} {r : Int64 × (St × (St) × (St × (St × (St))) × (St) × (St))} (C : nd_C p l s m args c A (dC, dI) cX19_count 3 RX19 ow_dm_X19_count (dk_X19 ac)) (K : nd_Kl p l e (headSpec ow_dm_X19_count ({ frames := 11, cells := 0, slots := 0, locals := 245 })).room s m args below meth c Q A (dC, dI) cX19_count (St × (St) × (St × (St × (St))) × (St) × (St)) (dw_X19 a ac) r) {g132 : Int32 → (St × (St) × (St × (St × (St))) × (St) × (St)) → Option (Int64 × (St × (St) × (St × (St × (St))) × (St) × (St)))} (J132 : dj_X19_count_132 p l e s m args below meth c Q A dC dI a ac g132 r) : dj_X19_count_132 p l e s m args below meth c Q A dC dI a ac (dF_X19_count_132 n g132) r := by
  obtain ⟨hlt, hx, hb, hml, hown, hts, hN, hA, hK⟩ := id C
  intro x2 s0 H locs ls h hP hD hS hl
  unfold dF_X19_count_132 at h
  refine lv_iload_n hx hb dX19_count_132 rfl (lv_at hl 1 rfl) ?_
  refine lv_aload_n hx hb dX19_count_133 rfl (lv_at hl 0 rfl) ?_
  refine va_get (D := (dC, dI)) (ci := 20) (v := .int (sI s0.1 8)) (C := RX19) (T := TX19) (N := 36) hx hb hts hi_dm_X19_count_X19 hown hK hP 0 rfl rfl 22 (by decide) (hts (.fieldLink RX19 192 "TimeMachineModel" "events" "I") (List.mem_of_getElem? (i := 24) rfl)) (fun _ h9 => h9) rfl dX19_count_134 ?_
  refine lv_icmp_ge (tgt := 159) hx hb dX19_count_137 (by decide) (fun c26 => ?_) (fun c26 => ?_)
  · have h := nd_pos h c26
    exact (db_X19_count_159 C K) (x2) s0 _ _ _ h hP hD hS (lv_sub hl [1] rfl)
  · have h := nd_neg h c26
    refine lv_aload_n hx hb dX19_count_140 rfl (lv_at hl 0 rfl) ?_
    refine va_get (D := (dC, dI)) (ci := 20) (v := .ref (a 8)) (C := RX19) (T := TX19) (N := 36) hx hb hts hi_dm_X19_count_X19 hown hK hP 0 rfl rfl 28 (by decide) (hts (.fieldLink RX19 91 "TimeMachineModel" "when" "[I") (List.mem_of_getElem? (i := 25) rfl)) (fun _ h9 => h9) rfl dX19_count_141 ?_
    refine lv_iload_n hx hb dX19_count_144 rfl (lv_at hl 1 rfl) ?_
    obtain ⟨i27, h⟩ := nd_ck_e h
    refine va_iald (i := x2) hx hb hK hP 8 7 rfl rfl i27 dX19_count_145 ?_
    refine lv_aload_n hx hb dX19_count_146 rfl (lv_at hl 0 rfl) ?_
    refine va_get (D := (dC, dI)) (ci := 20) (v := .int (sI s0.1 5)) (C := RX19) (T := TX19) (N := 36) hx hb hts hi_dm_X19_count_X19 hown hK hP 0 rfl rfl 19 (by decide) (hts (.fieldLink RX19 234 "TimeMachineModel" "now" "I") (List.mem_of_getElem? (i := 12) rfl)) (fun _ h9 => h9) rfl dX19_count_147 ?_
    refine lv_icmp_gt (tgt := 159) hx hb dX19_count_150 (by decide) (fun c28 => ?_) (fun c28 => ?_)
    · have h := nd_pos h c28
      exact (db_X19_count_159 C K) (x2) s0 _ _ _ h hP hD hS (lv_sub hl [1] rfl)
    · have h := nd_neg h c28
      obtain ⟨z29, ez29, h⟩ := nd_let_e h
      refine lv_iinc (v := z29) (lv' := [(2, .int z29), (0, .ref (a 0))]) hx hb dX19_count_153 hl (k := 1) rfl (by rw [ez29]) (by decide) rfl (fun ls hl => ?_)
      refine lv_goto (tgt := 132) hx hb dX19_count_156 (by decide) ?_
      exact (J132) (z29) s0 _ _ _ h hP hD hS (lv_sub hl [1, 0] rfl)
set_option maxHeartbeats 40000000 in
set_option maxRecDepth 100000 in
theorem db_X19_count_132 {p : Program} {l : Launch} {e : Env} {s : State} {m : MethodId} {args : Array Value} {below : List Frame} {meth : Method} {c : Code} {Q : State → Prop} {A : Nat → Prop} {dC : Nat → ClassId} {dI : Nat → Nat → Nat} {a : Nat → Nat} {ac : Nat → ClassId} {n : Nat} {r : Int64 × (St × (St) × (St × (St × (St))) × (St) × (St))} (C : nd_C p l s m args c A (dC, dI) cX19_count 3 RX19 ow_dm_X19_count (dk_X19 ac)) (K : nd_Kl p l e (headSpec ow_dm_X19_count ({ frames := 11, cells := 0, slots := 0, locals := 245 })).room s m args below meth c Q A (dC, dI) cX19_count (St × (St) × (St × (St × (St))) × (St) × (St)) (dw_X19 a ac) r) (k : Nat) : dj_X19_count_132 p l e s m args below meth c Q A dC dI a ac (df_X19_count_132 n k) r := by
  induction k with
  | zero => intro x2 s0 H locs ls h; exact nomatch (show (none : Option (Int64 × (St × (St) × (St × (St × (St))) × (St) × (St)))) = some r from h)
  | succ k ih => exact dB_X19_count_132 C K ih
set_option maxHeartbeats 40000000 in
set_option maxRecDepth 100000 in
theorem db_X19_count_71 {p : Program} {l : Launch} {e : Env} {s : State} {m : MethodId} {args : Array Value} {below : List Frame} {meth : Method} {c : Code} {Q : State → Prop} {A : Nat → Prop} {dC : Nat → ClassId} {dI : Nat → Nat → Nat} {a : Nat → Nat} {ac : Nat → ClassId} {n : Nat} {r : Int64 × (St × (St) × (St × (St × (St))) × (St) × (St))} (C : nd_C p l s m args c A (dC, dI) cX19_count 3 RX19 ow_dm_X19_count (dk_X19 ac)) (K : nd_Kl p l e (headSpec ow_dm_X19_count ({ frames := 11, cells := 0, slots := 0, locals := 245 })).room s m args below meth c Q A (dC, dI) cX19_count (St × (St) × (St × (St × (St))) × (St) × (St)) (dw_X19 a ac) r) : dj_X19_count_71 p l e s m args below meth c Q A dC dI a ac (df_X19_count_71 n) r := by
  obtain ⟨hlt, hx, hb, hml, hown, hts, hN, hA, hK⟩ := id C
  intro y0 s0 H locs ls h hP hD hS hl
  unfold df_X19_count_71 at h
  exact K _ _ _ _ _ _ dX19_count_71 (Option.some.inj h).symm hP hD hS
set_option maxHeartbeats 40000000 in
set_option maxRecDepth 100000 in
theorem db_X19_count_64 {p : Program} {l : Launch} {e : Env} {s : State} {m : MethodId} {args : Array Value} {below : List Frame} {meth : Method} {c : Code} {Q : State → Prop} {A : Nat → Prop} {dC : Nat → ClassId} {dI : Nat → Nat → Nat} {a : Nat → Nat} {ac : Nat → ClassId} {n : Nat} {r : Int64 × (St × (St) × (St × (St × (St))) × (St) × (St))} (C : nd_C p l s m args c A (dC, dI) cX19_count 3 RX19 ow_dm_X19_count (dk_X19 ac)) (K : nd_Kl p l e (headSpec ow_dm_X19_count ({ frames := 11, cells := 0, slots := 0, locals := 245 })).room s m args below meth c Q A (dC, dI) cX19_count (St × (St) × (St × (St × (St))) × (St) × (St)) (dw_X19 a ac) r) : dj_X19_count_64 p l e s m args below meth c Q A dC dI a ac (df_X19_count_64 n) r := by
  obtain ⟨hlt, hx, hb, hml, hown, hts, hN, hA, hK⟩ := id C
  intro s0 H locs ls h hP hD hS hl
  unfold df_X19_count_64 at h
  refine lv_ldc2 hx hb hown (hts (.constantLong RX19 292 (-1)) (List.mem_of_getElem? (i := 18) rfl)) dX19_count_64 ?_
  refine lv_goto (tgt := 71) hx hb dX19_count_67 (by decide) ?_
  exact (db_X19_count_71 C K) ((-1)) s0 _ _ _ h hP hD hS (lv_sub hl [] rfl)
set_option maxHeartbeats 40000000 in
set_option maxRecDepth 100000 in
theorem db_X19_count_0 {p : Program} {l : Launch} {e : Env} {s : State} {m : MethodId} {args : Array Value} {below : List Frame} {meth : Method} {c : Code} {Q : State → Prop} {A : Nat → Prop} {dC : Nat → ClassId} {dI : Nat → Nat → Nat} {a : Nat → Nat} {ac : Nat → ClassId} {n : Nat} {r : Int64 × (St × (St) × (St × (St × (St))) × (St) × (St))} (C : nd_C p l s m args c A (dC, dI) cX19_count 3 RX19 ow_dm_X19_count (dk_X19 ac)) (K : nd_Kl p l e (headSpec ow_dm_X19_count ({ frames := 11, cells := 0, slots := 0, locals := 245 })).room s m args below meth c Q A (dC, dI) cX19_count (St × (St) × (St × (St × (St))) × (St) × (St)) (dw_X19 a ac) r) : dj_X19_count_0 p l e s m args below meth c Q A dC dI a ac (df_X19_count_0 n) r := by
  obtain ⟨hlt, hx, hb, hml, hown, hts, hN, hA, hK⟩ := id C
  intro v0 s0 H locs ls h hP hD hS hl
  unfold df_X19_count_0 at h
  refine lv_iload_n hx hb dX19_count_0 rfl (lv_at hl 1 rfl) ?_
  refine lv_bipush (v := 15) hx hb dX19_count_1 (by decide) ?_
  refine lv_icmp_eq (tgt := 12) hx hb dX19_count_3 (by decide) (fun c1 => ?_) (fun c1 => ?_)
  · have h := nd_pos h c1
    exact (db_X19_count_12 C K) (v0) s0 _ _ _ h hP hD hS (lv_sub hl [0, 1] rfl)
  · have h := nd_neg h c1
    refine lv_iload_n hx hb dX19_count_6 rfl (lv_at hl 1 rfl) ?_
    refine lv_bipush (v := 16) hx hb dX19_count_7 (by decide) ?_
    refine lv_icmp_ne (tgt := 40) hx hb dX19_count_9 (by decide) (fun c8 => ?_) (fun c8 => ?_)
    · have h := nd_neg h c8
      refine lv_aload_n hx hb dX19_count_40 rfl (lv_at hl 0 rfl) ?_
      obtain ⟨q9, s10, hq, h⟩ := nd_b2_e h
      have hPc := hP
      have hDc := hD
      have hKc := hK
      have hFc := nd_rs hD hS hA
      refine nd_cVi (As := []) (rest := []) (q := q9) (w' := dw_X19 a ac s10) ⟨hx, hb, hml, hown, hts⟩ (fun sz => dm_X19_shows l hlt dC dI a ac n  s0 hq sz) (cwV 0 hts gi_dm_X19_count_1 rfl rfl rfl (by decide +kernel) ⟨Nat.le_of_ble_eq_true rfl, Nat.le_of_ble_eq_true rfl⟩) hPc hDc hKc hS hA hN (va_recv hKc hPc (ci := 20) (q0 := 0) rfl rfl) rfl hl.1 rfl (Nat.le_of_ble_eq_true rfl) dX19_count_41 (fun H locs hP1 hD1 hk1 hS => ?_)
      have hP := hP1
      have hD := hD1.weaken (fun k q _ h => hFc q.1 h)
      refine lv_if_ne (tgt := 72) hx hb dX19_count_44 (by decide) (fun c12 => ?_) (fun c12 => ?_)
      · have h := nd_neg h c12
        refine lv_iload_n hx hb dX19_count_72 rfl (lv_at hl 1 rfl) ?_
        by_cases c13 : v0 = 0
        · have h := nd_pos h c13
          refine lv_tableIn (off := 39) (tgt := 112) hx hb dX19_count_73 (by rw [c13]; decide) (by rw [c13]; decide) (by rw [c13]; decide) (by decide) ?_
          refine lv_aload_n hx hb dX19_count_112 rfl (lv_at hl 0 rfl) ?_
          refine va_get (D := (dC, dI)) (ci := 20) (v := .int (sI s10.1 5)) (C := RX19) (T := TX19) (N := 36) hx hb hts hi_dm_X19_count_X19 hown hK hP 0 rfl rfl 19 (by decide) (hts (.fieldLink RX19 234 "TimeMachineModel" "now" "I") (List.mem_of_getElem? (i := 12) rfl)) (fun _ h9 => h9) rfl dX19_count_113 ?_
          refine lv_i2l hx hb dX19_count_116 rfl ?_
          exact K _ _ _ _ _ _ dX19_count_117 (Option.some.inj h).symm hP hD hS
        have h := nd_neg h c13
        by_cases c14 : v0 = 1
        · have h := nd_pos h c14
          refine lv_tableIn (off := 45) (tgt := 118) hx hb dX19_count_73 (by rw [c14]; decide) (by rw [c14]; decide) (by rw [c14]; decide) (by decide) ?_
          refine lv_aload_n hx hb dX19_count_118 rfl (lv_at hl 0 rfl) ?_
          refine va_get (D := (dC, dI)) (ci := 20) (v := .int (sI s10.1 6)) (C := RX19) (T := TX19) (N := 36) hx hb hts hi_dm_X19_count_X19 hown hK hP 0 rfl rfl 20 (by decide) (hts (.fieldLink RX19 210 "TimeMachineModel" "end" "I") (List.mem_of_getElem? (i := 13) rfl)) (fun _ h9 => h9) rfl dX19_count_119 ?_
          refine lv_i2l hx hb dX19_count_122 rfl ?_
          exact K _ _ _ _ _ _ dX19_count_123 (Option.some.inj h).symm hP hD hS
        have h := nd_neg h c14
        by_cases c15 : v0 = 2
        · have h := nd_pos h c15
          refine lv_tableIn (off := 95) (tgt := 168) hx hb dX19_count_73 (by rw [c15]; decide) (by rw [c15]; decide) (by rw [c15]; decide) (by decide) ?_
          exact (db_X19_count_168 C K) (v0) s10 _ _ _ h hP hD hS (lv_sub hl [0, 1] rfl)
        have h := nd_neg h c15
        by_cases c24 : v0 = 3
        · have h := nd_pos h c24
          refine lv_tableIn (off := 51) (tgt := 124) hx hb dX19_count_73 (by rw [c24]; decide) (by rw [c24]; decide) (by rw [c24]; decide) (by decide) ?_
          refine lv_aload_n hx hb dX19_count_124 rfl (lv_at hl 0 rfl) ?_
          refine va_get (D := (dC, dI)) (ci := 20) (v := .int (sI s10.1 8)) (C := RX19) (T := TX19) (N := 36) hx hb hts hi_dm_X19_count_X19 hown hK hP 0 rfl rfl 22 (by decide) (hts (.fieldLink RX19 192 "TimeMachineModel" "events" "I") (List.mem_of_getElem? (i := 24) rfl)) (fun _ h9 => h9) rfl dX19_count_125 ?_
          refine lv_i2l hx hb dX19_count_128 rfl ?_
          exact K _ _ _ _ _ _ dX19_count_129 (Option.some.inj h).symm hP hD hS
        have h := nd_neg h c24
        by_cases c25 : v0 = 4
        · have h := nd_pos h c25
          refine lv_tableIn (off := 57) (tgt := 130) hx hb dX19_count_73 (by rw [c25]; decide) (by rw [c25]; decide) (by rw [c25]; decide) (by decide) ?_
          refine lv_iconst (v := 0) hx hb dX19_count_130 (by decide) ?_
          refine lv_istore_n (lv' := [(2, .int 0), (0, .ref (a 0)), (1, .int v0)]) hx hb dX19_count_131 rfl hl (by decide) rfl (fun ls hl => ?_)
          exact (db_X19_count_132 C K n) (0) s10 _ _ _ h hP hD hS (lv_sub hl [1, 0] rfl)
        have h := nd_neg h c25
        by_cases c30 : v0 = 5
        · have h := nd_pos h c30
          refine lv_tableIn (off := 89) (tgt := 162) hx hb dX19_count_73 (by rw [c30]; decide) (by rw [c30]; decide) (by rw [c30]; decide) (by decide) ?_
          refine lv_aload_n hx hb dX19_count_162 rfl (lv_at hl 0 rfl) ?_
          refine va_get (D := (dC, dI)) (ci := 20) (v := .int (sI s10.1 9)) (C := RX19) (T := TX19) (N := 36) hx hb hts hi_dm_X19_count_X19 hown hK hP 0 rfl rfl 23 (by decide) (hts (.fieldLink RX19 212 "TimeMachineModel" "scheduled" "I") (List.mem_of_getElem? (i := 26) rfl)) (fun _ h9 => h9) rfl dX19_count_163 ?_
          refine lv_i2l hx hb dX19_count_166 rfl ?_
          exact K _ _ _ _ _ _ dX19_count_167 (Option.some.inj h).symm hP hD hS
        have h := nd_neg h c30
        refine lv_tableOut (tgt := 168) hx hb dX19_count_73 (by have g0 := nv_nei c13 (k := 0) (by decide); have g1 := nv_nei c14 (k := 1) (by decide); have g2 := nv_nei c15 (k := 2) (by decide); have g3 := nv_nei c24 (k := 3) (by decide); have g4 := nv_nei c25 (k := 4) (by decide); have g5 := nv_nei c30 (k := 5) (by decide); omega) (by decide) ?_
        exact (db_X19_count_168 C K) (v0) s10 _ _ _ h hP hD hS (lv_sub hl [0, 1] rfl)
      · have h := nd_pos h c12
        refine lv_iload_n hx hb dX19_count_47 rfl (lv_at hl 1 rfl) ?_
        refine lv_iconst (v := 2) hx hb dX19_count_48 (by decide) ?_
        refine lv_icmp_eq (tgt := 64) hx hb dX19_count_49 (by decide) (fun c31 => ?_) (fun c31 => ?_)
        · have h := nd_pos h c31
          exact (db_X19_count_64 C K)  s10 _ _ _ h hP hD hS (lv_sub hl [] rfl)
        · have h := nd_neg h c31
          refine lv_iload_n hx hb dX19_count_52 rfl (lv_at hl 1 rfl) ?_
          refine lv_i2l hx hb dX19_count_53 rfl ?_
          refine lv_lconst (v := 0) hx hb dX19_count_54 (by decide) ?_
          refine lv_ldc2 hx hb hown (hts (.constantLong RX19 352 (14)) (List.mem_of_getElem? (i := 15) rfl)) dX19_count_55 ?_
          obtain ⟨q32, s33, hq, h⟩ := nd_b2_e h
          have hPc : va_P (dC, dI) vwCl (dw_P a ac ()) H := nd_p0
          have hDc : va_D A (dw_P a ac ()) := nd_d0
          have hKc : va_K (dC, dI) vwCl (dk_P ac) s := nd_y0 hK
          have hFc : ∀ q, va_A (dw_P a ac ()) H.size q → A q := nd_r0 hS hA
          refine nd_cSi (As := [.long (v0.toInt64), .long 0, .long 14]) (rest := []) (q := q32) (w' := dw_P a ac s33) ⟨hx, hb, hml, hown, hts⟩ (fun sz => dm_X19_in l hlt dC dI a ac n ((v0.toInt64)) (0) (14) () hq sz) (cwS 3 hts gi_dm_X19_count_2 rfl rfl rfl (by decide +kernel) ⟨Nat.le_of_ble_eq_true rfl, Nat.le_of_ble_eq_true rfl⟩) hPc hDc hKc hS hA hN rfl hl.1 rfl (Nat.le_of_ble_eq_true rfl) dX19_count_58 (fun H locs hP1 hD1 hk1 hS => ?_)
          have hP := nd_n0 hP hk1
          refine lv_if_ne (tgt := 70) hx hb dX19_count_61 (by decide) (fun c35 => ?_) (fun c35 => ?_)
          · have h := nd_neg h c35
            refine lv_lconst (v := 0) hx hb dX19_count_70 (by decide) ?_
            exact (db_X19_count_71 C K) (0) s10 _ _ _ h hP hD hS (lv_sub hl [] rfl)
          · have h := nd_pos h c35
            exact (db_X19_count_64 C K)  s10 _ _ _ h hP hD hS (lv_sub hl [] rfl)
    · have h := nd_pos h c8
      exact (db_X19_count_12 C K) (v0) s0 _ _ _ h hP hD hS (lv_sub hl [0, 1] rfl)
set_option maxHeartbeats 40000000 in
set_option maxRecDepth 100000 in
theorem dm_X19_count (l : Launch) (hlt : l.stackTraces = false) (dC : Nat → ClassId) (dI : Nat → Nat → Nat) (a : Nat → Nat) (ac : Nat → ClassId) (n : Nat) (v0 : Int32) (s0 : St × (St) × (St × (St × (St))) × (St) × (St)) {r : Int64 × (St × (St) × (St × (St × (St))) × (St) × (St))} (h : df_X19_count n v0 s0 = some r) (sz : Nat) : Met l yX19_count ow_dm_X19_count ({ frames := 11, cells := 0, slots := 0, locals := 245 }) (va_Pc [.ref (a 0), .int v0] (fun U => U.heap.size = sz ∧ va_P (dC, dI) vwCl (dw_X19 a ac s0) U.heap ∧ va_K (dC, dI) vwCl (dk_X19 ac) U ∧ va_D (fun _ => True) (dw_X19 a ac s0) ∧ nv_E dI (va_A (dw_X19 a ac s0) sz) U)) (va_Ql (fun x _ => x = r.1) (fun (_ : Unit) t => va_P (dC, dI) vwCl (dw_X19 a ac r.2) t.heap ∧ va_K (dC, dI) vwCl (dk_X19 ac) t ∧ va_D (va_A (dw_X19 a ac s0) sz) (dw_X19 a ac r.2)) (va_A (dw_X19 a ac s0) sz)) 0 0 (va_A (dw_X19 a ac s0) sz) := by
  refine Met.ofW (cc := cX19_count) (maxL := 3) (ret := (some .long)) (by decide) rfl ?_
  intro p e s m args below meth c s₁ B hml hv
  obtain ⟨rfl, hsz, hP, hK, hD0, hN⟩ := hv
  have hx := B.exec
  have hb := B.bytes
  have hr := B.returns
  have hts := atoms_spec (ws := ow_dm_X19_count) B.pre
  have hown : s.vm.findClass RX19 = some m.cls := findClass_of_methodNamed B.named
  have hlocks := B.notSynchronized
  subst hsz
  have hD := hD0.self (sz := s.heap.size)
  generalize hAe : va_A (dw_X19 a ac s0) s.heap.size = A at hD hN ⊢
  have hA : ∀ q : Nat, s.heap.size ≤ q → A q := fun q h => by rw [← hAe]; exact Or.inr h
  have hl := lv_entry ([.ref (a 0), .int v0]) (n := 3) (Nat.le_of_ble_eq_true rfl)
  rw [lg_entry_eq]
  generalize (lg_sl ([.ref (a 0), .int v0]) ++ List.replicate (3 - (lg_sl ([.ref (a 0), .int v0])).length) Slot.unset).toArray = ls at hl ⊢
  have hl : lv_has ls 3 [(0, .ref (a 0)), (1, .int v0)] := hl
  exact db_X19_count_0 (dC := dC) (dI := dI) (a := a) (ac := ac) (n := n) (r := r) ⟨hlt, hx, hb, hml, hown, hts, hN, hA, hK⟩ (fun pc v τ H locs ls d er hP hD hS => by subst er; exact W.lret (v := v) hx hb hr (fun t ht hW => ⟨⟨v, (), rfl, rfl, by rw [ht]; exact hP, va_K.moved hW.alike hK, hD⟩, hS.F ht⟩) hS.2.2 d) v0 s0 _ _ _ h hP hD va_S.rf (lv_sub hl [0, 1] rfl)

