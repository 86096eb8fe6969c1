set_option maxHeartbeats 40000000 in
set_option maxRecDepth 100000 in
theorem dp_vX19_X15t_0 {D : va_G} {H : Heap} {a : Nat → Nat} {ac : Nat → ClassId} {σ : St × (St) × (St × (St × (St))) × (St) × (St)} (h : va_P D vwCl (dw_X19 a ac σ) H) : va_P D vwCl (dw_X15t (fun k => a (nd_ix [92, 27, 28, 29, 30, 31, 32, 33, 34, 35, 36, 37, 38, 39, 40, 41, 42, 43, 44, 45, 46, 47, 48, 49, 50, 51, 52, 53, 54, 55, 56, 57, 58, 59, 60, 61, 62, 63, 64, 65, 66, 67, 68, 69, 70, 71, 72, 73, 74, 75, 76, 77, 78, 79, 80, 81, 82, 83, 84, 85] k)) (fun k => ac (nd_ix [92, 27, 28, 29, 30, 31, 32, 33, 34, 35, 36, 37, 38, 39, 40, 41, 42, 43, 44, 45, 46, 47, 48, 49, 50, 51, 52, 53, 54, 55, 56, 57, 58, 59, 60, 61, 62, 63, 64, 65, 66, 67, 68, 69, 70, 71, 72, 73, 74, 75, 76, 77, 78, 79, 80, 81, 82, 83, 84, 85] k)) ((pR nd_st0 0 (sR σ.2.2.2.1 3)), σ.2.2.1)) H := h.sub [92, 27, 28, 29, 30, 31, 32, 33, 34, 35, 36, 37, 38, 39, 40, 41, 42, 43, 44, 45, 46, 47, 48, 49, 50, 51, 52, 53, 54, 55, 56, 57, 58, 59, 60, 61, 62, 63, 64, 65, 66, 67, 68, 69, 70, 71, 72, 73, 74, 75, 76, 77, 78, 79, 80, 81, 82, 83, 84, 85] rfl
set_option maxHeartbeats 40000000 in
set_option maxRecDepth 100000 in
theorem dd_vX19_X15t_0 {A : Nat → Prop} {a : Nat → Nat} {ac : Nat → ClassId} {σ : St × (St) × (St × (St × (St))) × (St) × (St)} (h : va_D A (dw_X19 a ac σ)) : va_D A (dw_X15t (fun k => a (nd_ix [92, 27, 28, 29, 30, 31, 32, 33, 34, 35, 36, 37, 38, 39, 40, 41, 42, 43, 44, 45, 46, 47, 48, 49, 50, 51, 52, 53, 54, 55, 56, 57, 58, 59, 60, 61, 62, 63, 64, 65, 66, 67, 68, 69, 70, 71, 72, 73, 74, 75, 76, 77, 78, 79, 80, 81, 82, 83, 84, 85] k)) (fun k => ac (nd_ix [92, 27, 28, 29, 30, 31, 32, 33, 34, 35, 36, 37, 38, 39, 40, 41, 42, 43, 44, 45, 46, 47, 48, 49, 50, 51, 52, 53, 54, 55, 56, 57, 58, 59, 60, 61, 62, 63, 64, 65, 66, 67, 68, 69, 70, 71, 72, 73, 74, 75, 76, 77, 78, 79, 80, 81, 82, 83, 84, 85] k)) ((pR nd_st0 0 (sR σ.2.2.2.1 3)), σ.2.2.1)) := h.sub [92, 27, 28, 29, 30, 31, 32, 33, 34, 35, 36, 37, 38, 39, 40, 41, 42, 43, 44, 45, 46, 47, 48, 49, 50, 51, 52, 53, 54, 55, 56, 57, 58, 59, 60, 61, 62, 63, 64, 65, 66, 67, 68, 69, 70, 71, 72, 73, 74, 75, 76, 77, 78, 79, 80, 81, 82, 83, 84, 85] (by decide) rfl
set_option maxHeartbeats 40000000 in
set_option maxRecDepth 100000 in
theorem dy_vX19_X15t_0 {D : va_G} {U : State} {ac : Nat → ClassId} (h : va_K D vwCl (dk_X19 ac) U) : va_K D vwCl (dk_X15t (fun k => ac (nd_ix [92, 27, 28, 29, 30, 31, 32, 33, 34, 35, 36, 37, 38, 39, 40, 41, 42, 43, 44, 45, 46, 47, 48, 49, 50, 51, 52, 53, 54, 55, 56, 57, 58, 59, 60, 61, 62, 63, 64, 65, 66, 67, 68, 69, 70, 71, 72, 73, 74, 75, 76, 77, 78, 79, 80, 81, 82, 83, 84, 85] k))) U := h.sub [86, 25, 26, 27, 28, 29, 30, 31, 32, 33, 34, 35, 36, 37, 38, 39, 40, 41, 42, 43, 44, 45, 46, 47, 48, 49, 50, 51, 52, 53, 54, 55, 56, 57, 58, 59, 60, 61, 62, 63, 64, 65, 66, 67, 68, 69, 70, 71, 72, 73, 74, 75, 76, 77, 78, 79, 80] rfl
set_option maxHeartbeats 40000000 in
set_option maxRecDepth 100000 in
theorem dn_vX19_X15t_0 {A0 : Nat → Prop} {D : va_G} {H H1 : Heap} {a : Nat → Nat} {ac : Nat → ClassId} {σ : St × (St) × (St × (St × (St))) × (St) × (St)} {τ : St × (St × (St × (St)))} (hP : va_P D vwCl (dw_X19 a ac σ) H) (hD : va_D A0 (dw_X19 a ac σ)) (hA : ∀ q : Nat, H.size ≤ q → A0 q) (hk : ∀ q : Nat, q < H.size → ¬ va_A (dw_X15t (fun k => a (nd_ix [92, 27, 28, 29, 30, 31, 32, 33, 34, 35, 36, 37, 38, 39, 40, 41, 42, 43, 44, 45, 46, 47, 48, 49, 50, 51, 52, 53, 54, 55, 56, 57, 58, 59, 60, 61, 62, 63, 64, 65, 66, 67, 68, 69, 70, 71, 72, 73, 74, 75, 76, 77, 78, 79, 80, 81, 82, 83, 84, 85] k)) (fun k => ac (nd_ix [92, 27, 28, 29, 30, 31, 32, 33, 34, 35, 36, 37, 38, 39, 40, 41, 42, 43, 44, 45, 46, 47, 48, 49, 50, 51, 52, 53, 54, 55, 56, 57, 58, 59, 60, 61, 62, 63, 64, 65, 66, 67, 68, 69, 70, 71, 72, 73, 74, 75, 76, 77, 78, 79, 80, 81, 82, 83, 84, 85] k)) ((pR nd_st0 0 (sR σ.2.2.2.1 3)), σ.2.2.1)) H.size q → H1[q]? = H[q]?) (h1 : va_P D vwCl (dw_X15t (fun k => a (nd_ix [92, 27, 28, 29, 30, 31, 32, 33, 34, 35, 36, 37, 38, 39, 40, 41, 42, 43, 44, 45, 46, 47, 48, 49, 50, 51, 52, 53, 54, 55, 56, 57, 58, 59, 60, 61, 62, 63, 64, 65, 66, 67, 68, 69, 70, 71, 72, 73, 74, 75, 76, 77, 78, 79, 80, 81, 82, 83, 84, 85] k)) (fun k => ac (nd_ix [92, 27, 28, 29, 30, 31, 32, 33, 34, 35, 36, 37, 38, 39, 40, 41, 42, 43, 44, 45, 46, 47, 48, 49, 50, 51, 52, 53, 54, 55, 56, 57, 58, 59, 60, 61, 62, 63, 64, 65, 66, 67, 68, 69, 70, 71, 72, 73, 74, 75, 76, 77, 78, 79, 80, 81, 82, 83, 84, 85] k)) τ) H1) (h2 : va_D (va_A (dw_X15t (fun k => a (nd_ix [92, 27, 28, 29, 30, 31, 32, 33, 34, 35, 36, 37, 38, 39, 40, 41, 42, 43, 44, 45, 46, 47, 48, 49, 50, 51, 52, 53, 54, 55, 56, 57, 58, 59, 60, 61, 62, 63, 64, 65, 66, 67, 68, 69, 70, 71, 72, 73, 74, 75, 76, 77, 78, 79, 80, 81, 82, 83, 84, 85] k)) (fun k => ac (nd_ix [92, 27, 28, 29, 30, 31, 32, 33, 34, 35, 36, 37, 38, 39, 40, 41, 42, 43, 44, 45, 46, 47, 48, 49, 50, 51, 52, 53, 54, 55, 56, 57, 58, 59, 60, 61, 62, 63, 64, 65, 66, 67, 68, 69, 70, 71, 72, 73, 74, 75, 76, 77, 78, 79, 80, 81, 82, 83, 84, 85] k)) ((pR nd_st0 0 (sR σ.2.2.2.1 3)), σ.2.2.1)) H.size) (dw_X15t (fun k => a (nd_ix [92, 27, 28, 29, 30, 31, 32, 33, 34, 35, 36, 37, 38, 39, 40, 41, 42, 43, 44, 45, 46, 47, 48, 49, 50, 51, 52, 53, 54, 55, 56, 57, 58, 59, 60, 61, 62, 63, 64, 65, 66, 67, 68, 69, 70, 71, 72, 73, 74, 75, 76, 77, 78, 79, 80, 81, 82, 83, 84, 85] k)) (fun k => ac (nd_ix [92, 27, 28, 29, 30, 31, 32, 33, 34, 35, 36, 37, 38, 39, 40, 41, 42, 43, 44, 45, 46, 47, 48, 49, 50, 51, 52, 53, 54, 55, 56, 57, 58, 59, 60, 61, 62, 63, 64, 65, 66, 67, 68, 69, 70, 71, 72, 73, 74, 75, 76, 77, 78, 79, 80, 81, 82, 83, 84, 85] k)) τ)) : va_P D vwCl (dw_X19 a ac ((σ.1, (σ.2.1, (σ.2.2.1, ((pR σ.2.2.2.1 3 (sR τ.1 0)), σ.2.2.2.2)))).1, ((σ.1, (σ.2.1, (σ.2.2.1, ((pR σ.2.2.2.1 3 (sR τ.1 0)), σ.2.2.2.2)))).2.1, (τ.2, (σ.1, (σ.2.1, (σ.2.2.1, ((pR σ.2.2.2.1 3 (sR τ.1 0)), σ.2.2.2.2)))).2.2.2)))) H1 ∧ va_D A0 (dw_X19 a ac ((σ.1, (σ.2.1, (σ.2.2.1, ((pR σ.2.2.2.1 3 (sR τ.1 0)), σ.2.2.2.2)))).1, ((σ.1, (σ.2.1, (σ.2.2.1, ((pR σ.2.2.2.1 3 (sR τ.1 0)), σ.2.2.2.2)))).2.1, (τ.2, (σ.1, (σ.2.1, (σ.2.2.1, ((pR σ.2.2.2.1 3 (sR τ.1 0)), σ.2.2.2.2)))).2.2.2)))) := by
  obtain ⟨h1, h2⟩ := va_join (wr := [0, 1, 2, 3, 4, 5, 6, 7, 8, 9, 10, 11, 12, 13, 14, 15, 16, 17, 18, 19, 20, 21, 22, 23, 24, 25, 26, 86, 87, 88, 89, 90, 91, 93, 94, 95].filterMap (fun i => (dw_X19 a ac σ)[i]?)) hP hD [92, 27, 28, 29, 30, 31, 32, 33, 34, 35, 36, 37, 38, 39, 40, 41, 42, 43, 44, 45, 46, 47, 48, 49, 50, 51, 52, 53, 54, 55, 56, 57, 58, 59, 60, 61, 62, 63, 64, 65, 66, 67, 68, 69, 70, 71, 72, 73, 74, 75, 76, 77, 78, 79, 80, 81, 82, 83, 84, 85] [0, 1, 2, 3, 4, 5, 6, 7, 8, 9, 10, 11, 12, 13, 14, 15, 16, 17, 18, 19, 20, 21, 22, 23, 24, 25, 26, 86, 87, 88, 89, 90, 91, 93, 94, 95] rfl rfl (by decide) (by decide) hk (nd_rq (dd_vX19_X15t_0 hD) hA) h1 h2
  exact ⟨h1.sub [0, 1, 2, 3, 4, 5, 6, 7, 8, 9, 10, 11, 12, 13, 14, 15, 16, 17, 18, 19, 20, 21, 22, 23, 24, 25, 26, 37, 38, 39, 40, 41, 42, 43, 44, 45, 46, 47, 48, 49, 50, 51, 52, 53, 54, 55, 56, 57, 58, 59, 60, 61, 62, 63, 64, 65, 66, 67, 68, 69, 70, 71, 72, 73, 74, 75, 76, 77, 78, 79, 80, 81, 82, 83, 84, 85, 86, 87, 88, 89, 90, 91, 92, 93, 94, 95, 27, 28, 29, 30, 31, 32, 36, 33, 34, 35] rfl, h2.sub [0, 1, 2, 3, 4, 5, 6, 7, 8, 9, 10, 11, 12, 13, 14, 15, 16, 17, 18, 19, 20, 21, 22, 23, 24, 25, 26, 37, 38, 39, 40, 41, 42, 43, 44, 45, 46, 47, 48, 49, 50, 51, 52, 53, 54, 55, 56, 57, 58, 59, 60, 61, 62, 63, 64, 65, 66, 67, 68, 69, 70, 71, 72, 73, 74, 75, 76, 77, 78, 79, 80, 81, 82, 83, 84, 85, 86, 87, 88, 89, 90, 91, 92, 93, 94, 95, 27, 28, 29, 30, 31, 32, 36, 33, 34, 35] (by decide) rfl⟩
def ow_dm_X19_watch : List Cond := .code yX19_watch cX19_watch 3 (some .int) :: ([.constantLong RX19 302 (7), .methodLink RX19 126 yX19_in, .static yX19_in, .initialized RX19, .methodLink RX19 136 yX19_fails, .instanceMethod yX19_fails, .selects RX19 yX19_fails yX19_fails, .fieldLink RX19 67 "TimeMachineModel" "conditions" "LTimeMachineModel$Conditions;", .fieldLink RX19 10 "TimeMachineModel" "tape" "[I", .fieldLink RX19 117 "TimeMachineModel" "taped" "I", .methodLink RX19 304 yX15_compile, .instanceMethod yX15_compile, .selects RX15 yX15_compile yX15_compile, .initialized RX15, .methodLink RX19 148 yX19_use, .instanceMethod yX19_use, .selects RX19 yX19_use yX19_use] ++ (u_ws RX19 TX19 36 ++ (ow_dm_X19_in ++ (ow_dm_X19_fails ++ (ow_dm_X15_compile ++ (ow_dm_X19_use ++ []))))))
theorem gd_dm_X19_watch : ∀ w ∈ ow_dm_X19_watch, (w.onTables && w.keeps) = true ∨ ∃ ty, w = Cond.arrayClass ty := List.forall_mem_cons.mpr ⟨good_of_word rfl, List.forall_mem_append.mpr ⟨fun w h => good_of_word (List.all_eq_true.mp (by decide +kernel) w h), List.forall_mem_append.mpr ⟨gu_X19, List.forall_mem_append.mpr ⟨gd_dm_X19_in, List.forall_mem_append.mpr ⟨gd_dm_X19_fails, List.forall_mem_append.mpr ⟨gd_dm_X15_compile, List.forall_mem_append.mpr ⟨gd_dm_X19_use, fun _ h => nomatch h⟩⟩⟩⟩⟩⟩⟩
theorem hi_dm_X19_watch_X19 : ∀ w ∈ u_ws RX19 TX19 36, w ∈ ow_dm_X19_watch := fun w h => List.mem_cons_of_mem _ (List.mem_append_right _ (List.mem_append_left _ h))
theorem gi_dm_X19_watch_0 : GoodIn ow_dm_X19_watch (wsS RX19 126 yX19_in ow_dm_X19_in) := goodIn_app (goodIn_of _ (by decide +kernel)) (fun w h => ⟨List.mem_cons_of_mem _ (List.mem_append_right _ (List.mem_append_right _ (List.mem_append_left _ h))), gd_dm_X19_in w h⟩)
theorem gi_dm_X19_watch_1 : GoodIn ow_dm_X19_watch (wsV RX19 136 RX19 yX19_fails ow_dm_X19_fails) := goodIn_app (goodIn_of _ (by decide +kernel)) (fun w h => ⟨List.mem_cons_of_mem _ (List.mem_append_right _ (List.mem_append_right _ (List.mem_append_right _ (List.mem_append_left _ h)))), gd_dm_X19_fails w h⟩)
theorem gi_dm_X19_watch_2 : GoodIn ow_dm_X19_watch (wsV RX19 304 RX15 yX15_compile ow_dm_X15_compile) := goodIn_app (goodIn_of _ (by decide +kernel)) (fun w h => ⟨List.mem_cons_of_mem _ (List.mem_append_right _ (List.mem_append_right _ (List.mem_append_right _ (List.mem_append_right _ (List.mem_append_left _ h))))), gd_dm_X15_compile w h⟩)
theorem gi_dm_X19_watch_3 : GoodIn ow_dm_X19_watch (wsV RX19 148 RX19 yX19_use ow_dm_X19_use) := goodIn_app (goodIn_of _ (by decide +kernel)) (fun w h => ⟨List.mem_cons_of_mem _ (List.mem_append_right _ (List.mem_append_right _ (List.mem_append_right _ (List.mem_append_right _ (List.mem_append_right _ (List.mem_append_left _ h)))))), gd_dm_X19_use w h⟩)
def dj_X19_watch_18 (p : Program) (l : Launch) (e : Env) (s : State) (m : MethodId) (args : Array Value) (below : List Frame) (meth : Method) (c : Code) (Q : State → Prop) (A : Nat → Prop) (dC : Nat → ClassId) (dI : Nat → Nat → Nat) (a : Nat → Nat) (ac : Nat → ClassId) (g : Int32 → Int32 → (St × (St) × (St × (St × (St))) × (St) × (St)) → Option (Int32 × (St × (St) × (St × (St × (St))) × (St) × (St)))) (r : Int32 × (St × (St) × (St × (St × (St))) × (St) × (St))) : Prop := ∀ (x1 : Int32) (y1 : Int32) (s0 : St × (St) × (St × (St × (St))) × (St) × (St)) (H : Heap) (locs : List Loc) (ls : Array Slot), g x1 y1 s0 = some r → va_P (dC, dI) vwCl (dw_X19 a ac s0) H → va_D A (dw_X19 a ac s0) → va_S A s.heap H locs → lv_has ls 3 [(0, .ref (a 0)), (1, .int x1)] → W p l e (headSpec ow_dm_X19_watch ({ frames := 5, cells := 0, slots := 0, locals := 122 })).room s m args below meth c H locs 0 0 Q (F0 m 18 ls [.int y1, .ref (a 0)])
def dj_X19_watch_0 (p : Program) (l : Launch) (e : Env) (s : State) (m : MethodId) (args : Array Value) (below : List Frame) (meth : Method) (c : Code) (Q : State → Prop) (A : Nat → Prop) (dC : Nat → ClassId) (dI : Nat → Nat → Nat) (a : Nat → Nat) (ac : Nat → ClassId) (g : Int32 → (St × (St) × (St × (St × (St))) × (St) × (St)) → Option (Int32 × (St × (St) × (St × (St × (St))) × (St) × (St)))) (r : Int32 × (St × (St) × (St × (St × (St))) × (St) × (St))) : Prop := ∀ (v0 : Int32) (s0 : St × (St) × (St × (St × (St))) × (St) × (St)) (H : Heap) (locs : List Loc) (ls : Array Slot), g v0 s0 = some r → va_P (dC, dI) vwCl (dw_X19 a ac s0) H → va_D A (dw_X19 a ac s0) → va_S A s.heap H locs → lv_has ls 3 [(0, .ref (a 0)), (1, .int v0)] → W p l e (headSpec ow_dm_X19_watch ({ frames := 5, cells := 0, slots := 0, locals := 122 })).room s m args below meth c H locs 0 0 Q (F0 m 0 ls [])
set_option maxHeartbeats 40000000 in
set_option maxRecDepth 100000 in
theorem db_X19_watch_18 {p : Program} {l : Launch} {e : Env} {s : State} {m : MethodId} {args : Array Value} {below : List Frame} {meth : Method} {c : Code} {Q : State → Prop} {A : Nat → Prop} {dC : Nat → ClassId} {dI : Nat → Nat → Nat} {a : Nat → Nat} {ac : Nat → ClassId} {n : Nat} {r : Int32 × (St × (St) × (St × (St × (St))) × (St) × (St))} (C : nd_C p l s m args c A (dC, dI) cX19_watch 3 RX19 ow_dm_X19_watch (dk_X19 ac)) (K : nd_Ki p l e (headSpec ow_dm_X19_watch ({ frames := 5, cells := 0, slots := 0, locals := 122 })).room s m args below meth c Q A (dC, dI) cX19_watch .int (St × (St) × (St × (St × (St))) × (St) × (St)) (dw_X19 a ac) r) : dj_X19_watch_18 p l e s m args below meth c Q A dC dI a ac (df_X19_watch_18 n) r := by
  obtain ⟨hlt, hx, hb, hml, hown, hts, hN, hA, hK⟩ := id C
  intro x1 y1 s0 H locs ls h hP hD hS hl
  unfold df_X19_watch_18 at h
  refine lv_iconst (v := 0) hx hb dX19_watch_18 (by decide) ?_
  obtain ⟨q5, s6, hq, h⟩ := nd_b2_e h
  have hPc := hP
  have hDc := hD
  have hKc := hK
  have hFc := nd_rs hD hS hA
  refine nd_cVi (As := [.int y1, .int 0]) (rest := []) (q := q5) (w' := dw_X19 a ac s6) ⟨hx, hb, hml, hown, hts⟩ (fun sz => dm_X19_fails l hlt dC dI a ac n (y1) (0) s0 hq sz) (cwV 2 hts gi_dm_X19_watch_1 rfl rfl rfl (by decide +kernel) ⟨Nat.le_of_ble_eq_true rfl, Nat.le_of_ble_eq_true rfl⟩) hPc hDc hKc hS hA hN (va_recv hKc hPc (ci := 20) (q0 := 0) rfl rfl) rfl hl.1 rfl (Nat.le_of_ble_eq_true rfl) dX19_watch_19 (fun H locs hP1 hD1 hk1 hS => ?_)
  have hP := hP1
  have hD := hD1.weaken (fun k q _ h => hFc q.1 h)
  refine lv_if_eq (tgt := 27) hx hb dX19_watch_22 (by decide) (fun c8 => ?_) (fun c8 => ?_)
  · have h := nd_pos h c8
    refine lv_aload_n hx hb dX19_watch_27 rfl (lv_at hl 0 rfl) ?_
    refine va_get (D := (dC, dI)) (ci := 20) (v := .ref (a 27)) (C := RX19) (T := TX19) (N := 36) hx hb hts hi_dm_X19_watch_X19 hown hK hP 0 rfl rfl 14 (by decide) (hts (.fieldLink RX19 67 "TimeMachineModel" "conditions" "LTimeMachineModel$Conditions;") (List.mem_of_getElem? (i := 8) rfl)) (fun _ h9 => h9) rfl dX19_watch_28 ?_
    refine lv_iload_n hx hb dX19_watch_31 rfl (lv_at hl 1 rfl) ?_
    refine lv_aload_n hx hb dX19_watch_32 rfl (lv_at hl 0 rfl) ?_
    refine va_get (D := (dC, dI)) (ci := 20) (v := .ref (a 92)) (C := RX19) (T := TX19) (N := 36) hx hb hts hi_dm_X19_watch_X19 hown hK hP 0 rfl rfl 1 (by decide) (hts (.fieldLink RX19 10 "TimeMachineModel" "tape" "[I") (List.mem_of_getElem? (i := 9) rfl)) (fun _ h9 => h9) rfl dX19_watch_33 ?_
    refine lv_aload_n hx hb dX19_watch_36 rfl (lv_at hl 0 rfl) ?_
    refine va_get (D := (dC, dI)) (ci := 20) (v := .int (sI s6.1 1)) (C := RX19) (T := TX19) (N := 36) hx hb hts hi_dm_X19_watch_X19 hown hK hP 0 rfl rfl 2 (by decide) (hts (.fieldLink RX19 117 "TimeMachineModel" "taped" "I") (List.mem_of_getElem? (i := 10) rfl)) (fun _ h9 => h9) rfl dX19_watch_37 ?_
    obtain ⟨q9, s10, hq, h⟩ := nd_b2_e h
    have hPc := dp_vX19_X15t_0 hP
    have hDc := dd_vX19_X15t_0 hD
    have hKc := dy_vX19_X15t_0 hK
    have hFc := nd_rs hDc hS hA
    have hzA : ∀ q : Nat, H.size ≤ q → A q := fun q h => hA q (Nat.le_trans hS.1 h)
    refine nd_cVi (As := [.int x1, .ref (a 92), .int (sI s6.1 1)]) (rest := []) (q := q9) (w' := dw_X15t (fun k => a (nd_ix [92, 27, 28, 29, 30, 31, 32, 33, 34, 35, 36, 37, 38, 39, 40, 41, 42, 43, 44, 45, 46, 47, 48, 49, 50, 51, 52, 53, 54, 55, 56, 57, 58, 59, 60, 61, 62, 63, 64, 65, 66, 67, 68, 69, 70, 71, 72, 73, 74, 75, 76, 77, 78, 79, 80, 81, 82, 83, 84, 85] k)) (fun k => ac (nd_ix [92, 27, 28, 29, 30, 31, 32, 33, 34, 35, 36, 37, 38, 39, 40, 41, 42, 43, 44, 45, 46, 47, 48, 49, 50, 51, 52, 53, 54, 55, 56, 57, 58, 59, 60, 61, 62, 63, 64, 65, 66, 67, 68, 69, 70, 71, 72, 73, 74, 75, 76, 77, 78, 79, 80, 81, 82, 83, 84, 85] k)) s10) ⟨hx, hb, hml, hown, hts⟩ (fun sz => dm_X15_compile l hlt dC dI (fun k => a (nd_ix [92, 27, 28, 29, 30, 31, 32, 33, 34, 35, 36, 37, 38, 39, 40, 41, 42, 43, 44, 45, 46, 47, 48, 49, 50, 51, 52, 53, 54, 55, 56, 57, 58, 59, 60, 61, 62, 63, 64, 65, 66, 67, 68, 69, 70, 71, 72, 73, 74, 75, 76, 77, 78, 79, 80, 81, 82, 83, 84, 85] k)) (fun k => ac (nd_ix [92, 27, 28, 29, 30, 31, 32, 33, 34, 35, 36, 37, 38, 39, 40, 41, 42, 43, 44, 45, 46, 47, 48, 49, 50, 51, 52, 53, 54, 55, 56, 57, 58, 59, 60, 61, 62, 63, 64, 65, 66, 67, 68, 69, 70, 71, 72, 73, 74, 75, 76, 77, 78, 79, 80, 81, 82, 83, 84, 85] k)) n (x1) ((sI s6.1 1)) ((pR nd_st0 0 (sR s6.2.2.2.1 3)), s6.2.2.1) hq sz) (cwV 3 hts gi_dm_X19_watch_2 rfl rfl rfl (by decide +kernel) ⟨Nat.le_of_ble_eq_true rfl, Nat.le_of_ble_eq_true rfl⟩) hPc hDc hKc hS hA hN (va_recv hKc hPc (ci := 16) (q0 := 1) rfl rfl) rfl hl.1 rfl (Nat.le_of_ble_eq_true rfl) dX19_watch_40 (fun H locs hP1 hD1 hk1 hS => ?_)
    obtain ⟨hP, hD⟩ := dn_vX19_X15t_0 hP hD hzA hk1 hP1 hD1
    obtain ⟨s12, es12, h⟩ := nd_let_e h
    have hP : va_P (dC, dI) vwCl (dw_X19 a ac s12) H := by rw [es12]; exact hP
    have hD : va_D A (dw_X19 a ac s12) := by rw [es12]; exact hD
    refine lv_istore_n (lv' := [(2, .int q9), (0, .ref (a 0)), (1, .int x1)]) hx hb dX19_watch_43 rfl hl (by decide) rfl (fun ls hl => ?_)
    refine lv_aload_n hx hb dX19_watch_44 rfl (lv_at hl 1 rfl) ?_
    obtain ⟨s14, hq, h⟩ := nd_b1_e h
    have hPc := hP
    have hDc := hD
    have hKc := hK
    have hFc := nd_rs hD hS hA
    refine nd_cVv (As := []) (rest := []) (w' := dw_X19 a ac s14) ⟨hx, hb, hml, hown, hts⟩ (fun sz => dm_X19_use l hlt dC dI a ac n  s12 hq sz) (cwV 0 hts gi_dm_X19_watch_3 rfl rfl rfl (by decide +kernel) ⟨Nat.le_of_ble_eq_true rfl, Nat.le_of_ble_eq_true rfl⟩) hPc hDc hKc hS hA hN (va_recv hKc hPc (ci := 20) (q0 := 0) rfl rfl) rfl hl.1 rfl (Nat.le_of_ble_eq_true rfl) dX19_watch_45 (fun H locs hP1 hD1 hk1 hS => ?_)
    have hP := hP1
    have hD := hD1.weaken (fun k q _ h => hFc q.1 h)
    refine lv_iload_n hx hb dX19_watch_48 rfl (lv_at hl 0 rfl) ?_
    exact K _ _ _ _ _ _ dX19_watch_49 rfl (Option.some.inj h).symm hP hD hS
  · have h := nd_neg h c8
    refine lv_iconst (v := 0) hx hb dX19_watch_25 (by decide) ?_
    exact K _ _ _ _ _ _ dX19_watch_26 rfl (Option.some.inj h).symm hP hD hS
set_option maxHeartbeats 40000000 in
set_option maxRecDepth 100000 in
theorem db_X19_watch_0 {p : Program} {l : Launch} {e : Env} {s : State} {m : MethodId} {args : Array Value} {below : List Frame} {meth : Method} {c : Code} {Q : State → Prop} {A : Nat → Prop} {dC : Nat → ClassId} {dI : Nat → Nat → Nat} {a : Nat → Nat} {ac : Nat → ClassId} {n : Nat} {r : Int32 × (St × (St) × (St × (St × (St))) × (St) × (St))} (C : nd_C p l s m args c A (dC, dI) cX19_watch 3 RX19 ow_dm_X19_watch (dk_X19 ac)) (K : nd_Ki p l e (headSpec ow_dm_X19_watch ({ frames := 5, cells := 0, slots := 0, locals := 122 })).room s m args below meth c Q A (dC, dI) cX19_watch .int (St × (St) × (St × (St × (St))) × (St) × (St)) (dw_X19 a ac) r) : dj_X19_watch_0 p l e s m args below meth c Q A dC dI a ac (df_X19_watch_0 n) r := by
  obtain ⟨hlt, hx, hb, hml, hown, hts, hN, hA, hK⟩ := id C
  intro v0 s0 H locs ls h hP hD hS hl
  unfold df_X19_watch_0 at h
  refine lv_aload_n hx hb dX19_watch_0 rfl (lv_at hl 0 rfl) ?_
  refine lv_iload_n hx hb dX19_watch_1 rfl (lv_at hl 1 rfl) ?_
  refine lv_i2l hx hb dX19_watch_2 rfl ?_
  refine lv_lconst (v := 0) hx hb dX19_watch_3 (by decide) ?_
  refine lv_ldc2 hx hb hown (hts (.constantLong RX19 302 (7)) (List.mem_of_getElem? (i := 1) rfl)) dX19_watch_4 ?_
  obtain ⟨q1, s2, hq, h⟩ := nd_b2_e h
  have hPc : va_P (dC, dI) vwCl (dw_P a ac ()) H := nd_p0
  have hDc : va_D A (dw_P a ac ()) := nd_d0
  have hKc : va_K (dC, dI) vwCl (dk_P ac) s := nd_y0 hK
  have hFc : ∀ q, va_A (dw_P a ac ()) H.size q → A q := nd_r0 hS hA
  refine nd_cSi (As := [.long (v0.toInt64), .long 0, .long 7]) (rest := [.ref (a 0)]) (q := q1) (w' := dw_P a ac s2) ⟨hx, hb, hml, hown, hts⟩ (fun sz => dm_X19_in l hlt dC dI a ac n ((v0.toInt64)) (0) (7) () hq sz) (cwS 3 hts gi_dm_X19_watch_0 rfl rfl rfl (by decide +kernel) ⟨Nat.le_of_ble_eq_true rfl, Nat.le_of_ble_eq_true rfl⟩) hPc hDc hKc hS hA hN rfl hl.1 rfl (Nat.le_of_ble_eq_true rfl) dX19_watch_7 (fun H locs hP1 hD1 hk1 hS => ?_)
  have hP := nd_n0 hP hk1
  refine lv_if_ne (tgt := 17) hx hb dX19_watch_10 (by decide) (fun c4 => ?_) (fun c4 => ?_)
  · have h := nd_neg h c4
    refine lv_iconst (v := 0) hx hb dX19_watch_17 (by decide) ?_
    exact (db_X19_watch_18 C K) (v0) (0) s0 _ _ _ h hP hD hS (lv_sub hl [0, 1] rfl)
  · have h := nd_pos h c4
    refine lv_iconst (v := 1) hx hb dX19_watch_13 (by decide) ?_
    refine lv_goto (tgt := 18) hx hb dX19_watch_14 (by decide) ?_
    exact (db_X19_watch_18 C K) (v0) (1) s0 _ _ _ h hP hD hS (lv_sub hl [0, 1] rfl)
set_option maxHeartbeats 40000000 in
set_option maxRecDepth 100000 in
theorem dm_X19_watch (l : Launch) (hlt : l.stackTraces = false) (dC : Nat → ClassId) (dI : Nat → Nat → Nat) (a : Nat → Nat) (ac : Nat → ClassId) (n : Nat) (v0 : Int32) (s0 : St × (St) × (St × (St × (St))) × (St) × (St)) {r : Int32 × (St × (St) × (St × (St × (St))) × (St) × (St))} (h : df_X19_watch n v0 s0 = some r) (sz : Nat) : Met l yX19_watch ow_dm_X19_watch ({ frames := 5, cells := 0, slots := 0, locals := 122 }) (va_Pc [.ref (a 0), .int v0] (fun U => U.heap.size = sz ∧ va_P (dC, dI) vwCl (dw_X19 a ac s0) U.heap ∧ va_K (dC, dI) vwCl (dk_X19 ac) U ∧ va_D (fun _ => True) (dw_X19 a ac s0) ∧ nv_E (va_A (dw_X19 a ac s0) sz) U)) (va_Qi (fun x _ => x = r.1) (fun (_ : Unit) t => va_P (dC, dI) vwCl (dw_X19 a ac r.2) t.heap ∧ va_K (dC, dI) vwCl (dk_X19 ac) t ∧ va_D (va_A (dw_X19 a ac s0) sz) (dw_X19 a ac r.2)) (va_A (dw_X19 a ac s0) sz)) 0 0 (va_A (dw_X19 a ac s0) sz) := by
  refine Met.ofW (cc := cX19_watch) (maxL := 3) (ret := (some .int)) (by decide) rfl ?_
  intro p e s m args below meth c s₁ B hml hv
  obtain ⟨rfl, hsz, hP, hK, hD0, hN⟩ := hv
  have hx := B.exec
  have hb := B.bytes
  have hr := B.returns
  have hts := atoms_spec (ws := ow_dm_X19_watch) B.pre
  have hown : s.vm.findClass RX19 = some m.cls := findClass_of_methodNamed B.named
  have hlocks := B.notSynchronized
  subst hsz
  have hD := hD0.self (sz := s.heap.size)
  generalize hAe : va_A (dw_X19 a ac s0) s.heap.size = A at hD hN ⊢
  have hA : ∀ q : Nat, s.heap.size ≤ q → A q := fun q h => by rw [← hAe]; exact Or.inr h
  have hl := lv_entry ([.ref (a 0), .int v0]) (n := 3) (Nat.le_of_ble_eq_true rfl)
  rw [lg_entry_eq]
  generalize (lg_sl ([.ref (a 0), .int v0]) ++ List.replicate (3 - (lg_sl ([.ref (a 0), .int v0])).length) Slot.unset).toArray = ls at hl ⊢
  have hl : lv_has ls 3 [(0, .ref (a 0)), (1, .int v0)] := hl
  exact db_X19_watch_0 (dC := dC) (dI := dI) (a := a) (ac := ac) (n := n) (r := r) ⟨hlt, hx, hb, hml, hown, hts, hN, hA, hK⟩ (fun pc v τ H locs ls d z er hP hD hS => by subst er; exact W.zret (v := v) hx hb hr z (fun t ht hW => ⟨⟨v, (), rfl, rfl, by rw [ht]; exact hP, va_K.moved hW.alike hK, hD⟩, hS.F ht⟩) hS.2.2 d) v0 s0 _ _ _ h hP hD va_S.rf (lv_sub hl [0, 1] rfl)
def ow_dm_X19_drop : List Cond := .code yX19_drop cX19_drop 2 (some .boolean) :: ([.constantLong RX19 302 (7), .methodLink RX19 126 yX19_in, .static yX19_in, .initialized RX19, .methodLink RX19 136 yX19_fails, .instanceMethod yX19_fails, .selects RX19 yX19_fails yX19_fails, .fieldLink RX19 67 "TimeMachineModel" "conditions" "LTimeMachineModel$Conditions;", .methodLink RX19 308 yX15_drop, .instanceMethod yX15_drop, .selects RX15 yX15_drop yX15_drop, .initialized RX15] ++ (u_ws RX19 TX19 36 ++ (ow_dm_X19_in ++ (ow_dm_X19_fails ++ (ow_dm_X15_drop ++ [])))))
theorem gd_dm_X19_drop : ∀ w ∈ ow_dm_X19_drop, (w.onTables && w.keeps) = true ∨ ∃ ty, w = Cond.arrayClass ty := List.forall_mem_cons.mpr ⟨good_of_word rfl, List.forall_mem_append.mpr ⟨fun w h => good_of_word (List.all_eq_true.mp (by decide +kernel) w h), List.forall_mem_append.mpr ⟨gu_X19, List.forall_mem_append.mpr ⟨gd_dm_X19_in, List.forall_mem_append.mpr ⟨gd_dm_X19_fails, List.forall_mem_append.mpr ⟨gd_dm_X15_drop, fun _ h => nomatch h⟩⟩⟩⟩⟩⟩
theorem hi_dm_X19_drop_X19 : ∀ w ∈ u_ws RX19 TX19 36, w ∈ ow_dm_X19_drop := fun w h => List.mem_cons_of_mem _ (List.mem_append_right _ (List.mem_append_left _ h))
theorem gi_dm_X19_drop_0 : GoodIn ow_dm_X19_drop (wsS RX19 126 yX19_in ow_dm_X19_in) := goodIn_app (goodIn_of _ (by decide +kernel)) (fun w h => ⟨List.mem_cons_of_mem _ (List.mem_append_right _ (List.mem_append_right _ (List.mem_append_left _ h))), gd_dm_X19_in w h⟩)
theorem gi_dm_X19_drop_1 : GoodIn ow_dm_X19_drop (wsV RX19 136 RX19 yX19_fails ow_dm_X19_fails) := goodIn_app (goodIn_of _ (by decide +kernel)) (fun w h => ⟨List.mem_cons_of_mem _ (List.mem_append_right _ (List.mem_append_right _ (List.mem_append_right _ (List.mem_append_left _ h)))), gd_dm_X19_fails w h⟩)
theorem gi_dm_X19_drop_2 : GoodIn ow_dm_X19_drop (wsV RX19 308 RX15 yX15_drop ow_dm_X15_drop) := goodIn_app (goodIn_of _ (by decide +kernel)) (fun w h => ⟨List.mem_cons_of_mem _ (List.mem_append_right _ (List.mem_append_right _ (List.mem_append_right _ (List.mem_append_right _ (List.mem_append_left _ h))))), gd_dm_X15_drop w h⟩)
def dj_X19_drop_41 (p : Program) (l : Launch) (e : Env) (s : State) (m : MethodId) (args : Array Value) (below : List Frame) (meth : Method) (c : Code) (Q : State → Prop) (A : Nat → Prop) (dC : Nat → ClassId) (dI : Nat → Nat → Nat) (a : Nat → Nat) (ac : Nat → ClassId) (g : Int32 → (St × (St) × (St × (St × (St))) × (St) × (St)) → Option (Int32 × (St × (St) × (St × (St × (St))) × (St) × (St)))) (r : Int32 × (St × (St) × (St × (St × (St))) × (St) × (St))) : Prop := ∀ (y0 : Int32) (s0 : St × (St) × (St × (St × (St))) × (St) × (St)) (H : Heap) (locs : List Loc) (ls : Array Slot), g y0 s0 = some r → va_P (dC, dI) vwCl (dw_X19 a ac s0) H → va_D A (dw_X19 a ac s0) → va_S A s.heap H locs → lv_has ls 2 [] → W p l e (headSpec ow_dm_X19_drop ({ frames := 1, cells := 0, slots := 0, locals := 25 })).room s m args below meth c H locs 0 0 Q (F0 m 41 ls [.int y0])
def dj_X19_drop_40 (p : Program) (l : Launch) (e : Env) (s : State) (m : MethodId) (args : Array Value) (below : List Frame) (meth : Method) (c : Code) (Q : State → Prop) (A : Nat → Prop) (dC : Nat → ClassId) (dI : Nat → Nat → Nat) (a : Nat → Nat) (ac : Nat → ClassId) (g : (St × (St) × (St × (St × (St))) × (St) × (St)) → Option (Int32 × (St × (St) × (St × (St × (St))) × (St) × (St)))) (r : Int32 × (St × (St) × (St × (St × (St))) × (St) × (St))) : Prop := ∀ (s0 : St × (St) × (St × (St × (St))) × (St) × (St)) (H : Heap) (locs : List Loc) (ls : Array Slot), g s0 = some r → va_P (dC, dI) vwCl (dw_X19 a ac s0) H → va_D A (dw_X19 a ac s0) → va_S A s.heap H locs → lv_has ls 2 [] → W p l e (headSpec ow_dm_X19_drop ({ frames := 1, cells := 0, slots := 0, locals := 25 })).room s m args below meth c H locs 0 0 Q (F0 m 40 ls [])
def dj_X19_drop_18 (p : Program) (l : Launch) (e : Env) (s : State) (m : MethodId) (args : Array Value) (below : List Frame) (meth : Method) (c : Code) (Q : State → Prop) (A : Nat → Prop) (dC : Nat → ClassId) (dI : Nat → Nat → Nat) (a : Nat → Nat) (ac : Nat → ClassId) (g : Int32 → Int32 → (St × (St) × (St × (St × (St))) × (St) × (St)) → Option (Int32 × (St × (St) × (St × (St × (St))) × (St) × (St)))) (r : Int32 × (St × (St) × (St × (St × (St))) × (St) × (St))) : Prop := ∀ (x1 : Int32) (y1 : Int32) (s0 : St × (St) × (St × (St × (St))) × (St) × (St)) (H : Heap) (locs : List Loc) (ls : Array Slot), g x1 y1 s0 = some r → va_P (dC, dI) vwCl (dw_X19 a ac s0) H → va_D A (dw_X19 a ac s0) → va_S A s.heap H locs → lv_has ls 2 [(0, .ref (a 0)), (1, .int x1)] → W p l e (headSpec ow_dm_X19_drop ({ frames := 1, cells := 0, slots := 0, locals := 25 })).room s m args below meth c H locs 0 0 Q (F0 m 18 ls [.int y1, .ref (a 0)])
def dj_X19_drop_0 (p : Program) (l : Launch) (e : Env) (s : State) (m : MethodId) (args : Array Value) (below : List Frame) (meth : Method) (c : Code) (Q : State → Prop) (A : Nat → Prop) (dC : Nat → ClassId) (dI : Nat → Nat → Nat) (a : Nat → Nat) (ac : Nat → ClassId) (g : Int32 → (St × (St) × (St × (St × (St))) × (St) × (St)) → Option (Int32 × (St × (St) × (St × (St × (St))) × (St) × (St)))) (r : Int32 × (St × (St) × (St × (St × (St))) × (St) × (St))) : Prop := ∀ (v0 : Int32) (s0 : St × (St) × (St × (St × (St))) × (St) × (St)) (H : Heap) (locs : List Loc) (ls : Array Slot), g v0 s0 = some r → va_P (dC, dI) vwCl (dw_X19 a ac s0) H → va_D A (dw_X19 a ac s0) → va_S A s.heap H locs → lv_has ls 2 [(0, .ref (a 0)), (1, .int v0)] → W p l e (headSpec ow_dm_X19_drop ({ frames := 1, cells := 0, slots := 0, locals := 25 })).room s m args below meth c H locs 0 0 Q (F0 m 0 ls [])
set_option maxHeartbeats 40000000 in
set_option maxRecDepth 100000 in
theorem db_X19_drop_41 {p : Program} {l : Launch} {e : Env} {s : State} {m : MethodId} {args : Array Value} {below : List Frame} {meth : Method} {c : Code} {Q : State → Prop} {A : Nat → Prop} {dC : Nat → ClassId} {dI : Nat → Nat → Nat} {a : Nat → Nat} {ac : Nat → ClassId} {n : Nat} {r : Int32 × (St × (St) × (St × (St × (St))) × (St) × (St))} (C : nd_C p l s m args c A (dC, dI) cX19_drop 2 RX19 ow_dm_X19_drop (dk_X19 ac)) (K : nd_Ki p l e (headSpec ow_dm_X19_drop ({ frames := 1, cells := 0, slots := 0, locals := 25 })).room s m args below meth c Q A (dC, dI) cX19_drop .boolean (St × (St) × (St × (St × (St))) × (St) × (St)) (dw_X19 a ac) r) : dj_X19_drop_41 p l e s m args below meth c Q A dC dI a ac (df_X19_drop_41 n) r := by
  obtain ⟨hlt, hx, hb, hml, hown, hts, hN, hA, hK⟩ := id C
  intro y0 s0 H locs ls h hP hD hS hl
  unfold df_X19_drop_41 at h
  obtain ⟨n9, h⟩ := nd_z_e ⟨_, rfl⟩ h
  exact K _ _ _ _ _ _ dX19_drop_41 n9 (Option.some.inj h).symm hP hD hS
set_option maxHeartbeats 40000000 in
set_option maxRecDepth 100000 in
theorem db_X19_drop_40 {p : Program} {l : Launch} {e : Env} {s : State} {m : MethodId} {args : Array Value} {below : List Frame} {meth : Method} {c : Code} {Q : State → Prop} {A : Nat → Prop} {dC : Nat → ClassId} {dI : Nat → Nat → Nat} {a : Nat → Nat} {ac : Nat → ClassId} {n : Nat} {r : Int32 × (St × (St) × (St × (St × (St))) × (St) × (St))} (C : nd_C p l s m args c A (dC, dI) cX19_drop 2 RX19 ow_dm_X19_drop (dk_X19 ac)) (K : nd_Ki p l e (headSpec ow_dm_X19_drop ({ frames := 1, cells := 0, slots := 0, locals := 25 })).room s m args below meth c Q A (dC, dI) cX19_drop .boolean (St × (St) × (St × (St × (St))) × (St) × (St)) (dw_X19 a ac) r) : dj_X19_drop_40 p l e s m args below meth c Q A dC dI a ac (df_X19_drop_40 n) r := by
  obtain ⟨hlt, hx, hb, hml, hown, hts, hN, hA, hK⟩ := id C
  intro s0 H locs ls h hP hD hS hl
  unfold df_X19_drop_40 at h
  refine lv_iconst (v := 0) hx hb dX19_drop_40 (by decide) ?_
  exact (db_X19_drop_41 C K) (0) s0 _ _ _ h hP hD hS (lv_sub hl [] rfl)
set_option maxHeartbeats 40000000 in
set_option maxRecDepth 100000 in
theorem db_X19_drop_18 {p : Program} {l : Launch} {e : Env} {s : State} {m : MethodId} {args : Array Value} {below : List Frame} {meth : Method} {c : Code} {Q : State → Prop} {A : Nat → Prop} {dC : Nat → ClassId} {dI : Nat → Nat → Nat} {a : Nat → Nat} {ac : Nat → ClassId} {n : Nat} {r : Int32 × (St × (St) × (St × (St × (St))) × (St) × (St))} (C : nd_C p l s m args c A (dC, dI) cX19_drop 2 RX19 ow_dm_X19_drop (dk_X19 ac)) (K : nd_Ki p l e (headSpec ow_dm_X19_drop ({ frames := 1, cells := 0, slots := 0, locals := 25 })).room s m args below meth c Q A (dC, dI) cX19_drop .boolean (St × (St) × (St × (St × (St))) × (St) × (St)) (dw_X19 a ac) r) : dj_X19_drop_18 p l e s m args below meth c Q A dC dI a ac (df_X19_drop_18 n) r := by
  obtain ⟨hlt, hx, hb, hml, hown, hts, hN, hA, hK⟩ := id C
  intro x1 y1 s0 H locs ls h hP hD hS hl
  unfold df_X19_drop_18 at h
  refine lv_iconst (v := 0) hx hb dX19_drop_18 (by decide) ?_
  obtain ⟨q5, s6, hq, h⟩ := nd_b2_e h
  have hPc := hP
  have hDc := hD
  have hKc := hK
  have hFc := nd_rs hD hS hA
  refine nd_cVi (As := [.int y1, .int 0]) (rest := []) (q := q5) (w' := dw_X19 a ac s6) ⟨hx, hb, hml, hown, hts⟩ (fun sz => dm_X19_fails l hlt dC dI a ac n (y1) (0) s0 hq sz) (cwV 2 hts gi_dm_X19_drop_1 rfl rfl rfl (by decide +kernel) ⟨Nat.le_of_ble_eq_true rfl, Nat.le_of_ble_eq_true rfl⟩) hPc hDc hKc hS hA hN (va_recv hKc hPc (ci := 20) (q0 := 0) rfl rfl) rfl hl.1 rfl (Nat.le_of_ble_eq_true rfl) dX19_drop_19 (fun H locs hP1 hD1 hk1 hS => ?_)
  have hP := hP1
  have hD := hD1.weaken (fun k q _ h => hFc q.1 h)
  refine lv_if_ne (tgt := 40) hx hb dX19_drop_22 (by decide) (fun c8 => ?_) (fun c8 => ?_)
  · have h := nd_neg h c8
    exact (db_X19_drop_40 C K)  s6 _ _ _ h hP hD hS (lv_sub hl [] rfl)
  · have h := nd_pos h c8
    refine lv_aload_n hx hb dX19_drop_25 rfl (lv_at hl 0 rfl) ?_
    refine va_get (D := (dC, dI)) (ci := 20) (v := .ref (a 27)) (C := RX19) (T := TX19) (N := 36) hx hb hts hi_dm_X19_drop_X19 hown hK hP 0 rfl rfl 14 (by decide) (hts (.fieldLink RX19 67 "TimeMachineModel" "conditions" "LTimeMachineModel$Conditions;") (List.mem_of_getElem? (i := 8) rfl)) (fun _ h9 => h9) rfl dX19_drop_26 ?_
    refine lv_iload_n hx hb dX19_drop_29 rfl (lv_at hl 1 rfl) ?_
    obtain ⟨q10, s11, hq, h⟩ := nd_b2_e h
    have hPc := dp_X19_27 hP
    have hDc := dd_X19_27 hD
    have hKc := dy_X19_27 hK
    have hFc := nd_rs hDc hS hA
    have hzA : ∀ q : Nat, H.size ≤ q → A q := fun q h => hA q (Nat.le_trans hS.1 h)
    refine nd_cVi (As := [.int x1]) (rest := []) (q := q10) (w' := dw_X15 (fun k => a (k + 27)) (fun k => ac (k + 27)) s11) ⟨hx, hb, hml, hown, hts⟩ (fun sz => dm_X15_drop l hlt dC dI (fun k => a (k + 27)) (fun k => ac (k + 27)) n (x1) s6.2.2.1 hq sz) (cwV 1 hts gi_dm_X19_drop_2 rfl rfl rfl (by decide +kernel) ⟨Nat.le_of_ble_eq_true rfl, Nat.le_of_ble_eq_true rfl⟩) hPc hDc hKc hS hA hN (va_recv hKc hPc (ci := 16) (q0 := 0) rfl rfl) rfl hl.1 rfl (Nat.le_of_ble_eq_true rfl) dX19_drop_30 (fun H locs hP1 hD1 hk1 hS => ?_)
    obtain ⟨hP, hD⟩ := dn_X19_27 hP hD hzA hk1 hP1 hD1
    obtain ⟨s13, es13, h⟩ := nd_let_e h
    have hP : va_P (dC, dI) vwCl (dw_X19 a ac s13) H := by rw [es13]; exact hP
    have hD : va_D A (dw_X19 a ac s13) := by rw [es13]; exact hD
    refine lv_if_eq (tgt := 40) hx hb dX19_drop_33 (by decide) (fun c14 => ?_) (fun c14 => ?_)
    · have h := nd_pos h c14
      exact (db_X19_drop_40 C K)  s13 _ _ _ h hP hD hS (lv_sub hl [] rfl)
    · have h := nd_neg h c14
      refine lv_iconst (v := 1) hx hb dX19_drop_36 (by decide) ?_
      refine lv_goto (tgt := 41) hx hb dX19_drop_37 (by decide) ?_
      exact (db_X19_drop_41 C K) (1) s13 _ _ _ h hP hD hS (lv_sub hl [] rfl)
set_option maxHeartbeats 40000000 in
set_option maxRecDepth 100000 in
theorem db_X19_drop_0 {p : Program} {l : Launch} {e : Env} {s : State} {m : MethodId} {args : Array Value} {below : List Frame} {meth : Method} {c : Code} {Q : State → Prop} {A : Nat → Prop} {dC : Nat → ClassId} {dI : Nat → Nat → Nat} {a : Nat → Nat} {ac : Nat → ClassId} {n : Nat} {r : Int32 × (St × (St) × (St × (St × (St))) × (St) × (St))} (C : nd_C p l s m args c A (dC, dI) cX19_drop 2 RX19 ow_dm_X19_drop (dk_X19 ac)) (K : nd_Ki p l e (headSpec ow_dm_X19_drop ({ frames := 1, cells := 0, slots := 0, locals := 25 })).room s m args below meth c Q A (dC, dI) cX19_drop .boolean (St × (St) × (St × (St × (St))) × (St) × (St)) (dw_X19 a ac) r) : dj_X19_drop_0 p l e s m args below meth c Q A dC dI a ac (df_X19_drop_0 n) r := by
  obtain ⟨hlt, hx, hb, hml, hown, hts, hN, hA, hK⟩ := id C
  intro v0 s0 H locs ls h hP hD hS hl
  unfold df_X19_drop_0 at h
  refine lv_aload_n hx hb dX19_drop_0 rfl (lv_at hl 0 rfl) ?_
  refine lv_iload_n hx hb dX19_drop_1 rfl (lv_at hl 1 rfl) ?_
  refine lv_i2l hx hb dX19_drop_2 rfl ?_
  refine lv_lconst (v := 0) hx hb dX19_drop_3 (by decide) ?_
  refine lv_ldc2 hx hb hown (hts (.constantLong RX19 302 (7)) (List.mem_of_getElem? (i := 1) rfl)) dX19_drop_4 ?_
  obtain ⟨q1, s2, hq, h⟩ := nd_b2_e h
  have hPc : va_P (dC, dI) vwCl (dw_P a ac ()) H := nd_p0
  have hDc : va_D A (dw_P a ac ()) := nd_d0
  have hKc : va_K (dC, dI) vwCl (dk_P ac) s := nd_y0 hK
  have hFc : ∀ q, va_A (dw_P a ac ()) H.size q → A q := nd_r0 hS hA
  refine nd_cSi (As := [.long (v0.toInt64), .long 0, .long 7]) (rest := [.ref (a 0)]) (q := q1) (w' := dw_P a ac s2) ⟨hx, hb, hml, hown, hts⟩ (fun sz => dm_X19_in l hlt dC dI a ac n ((v0.toInt64)) (0) (7) () hq sz) (cwS 3 hts gi_dm_X19_drop_0 rfl rfl rfl (by decide +kernel) ⟨Nat.le_of_ble_eq_true rfl, Nat.le_of_ble_eq_true rfl⟩) hPc hDc hKc hS hA hN rfl hl.1 rfl (Nat.le_of_ble_eq_true rfl) dX19_drop_7 (fun H locs hP1 hD1 hk1 hS => ?_)
  have hP := nd_n0 hP hk1
  refine lv_if_ne (tgt := 17) hx hb dX19_drop_10 (by decide) (fun c4 => ?_) (fun c4 => ?_)
  · have h := nd_neg h c4
    refine lv_iconst (v := 0) hx hb dX19_drop_17 (by decide) ?_
    exact (db_X19_drop_18 C K) (v0) (0) s0 _ _ _ h hP hD hS (lv_sub hl [0, 1] rfl)
  · have h := nd_pos h c4
    refine lv_iconst (v := 1) hx hb dX19_drop_13 (by decide) ?_
    refine lv_goto (tgt := 18) hx hb dX19_drop_14 (by decide) ?_
    exact (db_X19_drop_18 C K) (v0) (1) s0 _ _ _ h hP hD hS (lv_sub hl [0, 1] rfl)
set_option maxHeartbeats 40000000 in
set_option maxRecDepth 100000 in
theorem dm_X19_drop (l : Launch) (hlt : l.stackTraces = false) (dC : Nat → ClassId) (dI : Nat → Nat → Nat) (a : Nat → Nat) (ac : Nat → ClassId) (n : Nat) (v0 : Int32) (s0 : St × (St) × (St × (St × (St))) × (St) × (St)) {r : Int32 × (St × (St) × (St × (St × (St))) × (St) × (St))} (h : df_X19_drop n v0 s0 = some r) (sz : Nat) : Met l yX19_drop ow_dm_X19_drop ({ frames := 1, cells := 0, slots := 0, locals := 25 }) (va_Pc [.ref (a 0), .int v0] (fun U => U.heap.size = sz ∧ va_P (dC, dI) vwCl (dw_X19 a ac s0) U.heap ∧ va_K (dC, dI) vwCl (dk_X19 ac) U ∧ va_D (fun _ => True) (dw_X19 a ac s0) ∧ nv_E (va_A (dw_X19 a ac s0) sz) U)) (va_Qi (fun x _ => x = r.1) (fun (_ : Unit) t => va_P (dC, dI) vwCl (dw_X19 a ac r.2) t.heap ∧ va_K (dC, dI) vwCl (dk_X19 ac) t ∧ va_D (va_A (dw_X19 a ac s0) sz) (dw_X19 a ac r.2)) (va_A (dw_X19 a ac s0) sz)) 0 0 (va_A (dw_X19 a ac s0) sz) := by
  refine Met.ofW (cc := cX19_drop) (maxL := 2) (ret := (some .boolean)) (by decide) rfl ?_
  intro p e s m args below meth c s₁ B hml hv
  obtain ⟨rfl, hsz, hP, hK, hD0, hN⟩ := hv
  have hx := B.exec
  have hb := B.bytes
  have hr := B.returns
  have hts := atoms_spec (ws := ow_dm_X19_drop) B.pre
  have hown : s.vm.findClass RX19 = some m.cls := findClass_of_methodNamed B.named
  have hlocks := B.notSynchronized
  subst hsz
  have hD := hD0.self (sz := s.heap.size)
  generalize hAe : va_A (dw_X19 a ac s0) s.heap.size = A at hD hN ⊢
  have hA : ∀ q : Nat, s.heap.size ≤ q → A q := fun q h => by rw [← hAe]; exact Or.inr h
  have hl := lv_entry ([.ref (a 0), .int v0]) (n := 2) (Nat.le_of_ble_eq_true rfl)
  rw [lg_entry_eq]
  generalize (lg_sl ([.ref (a 0), .int v0]) ++ List.replicate (2 - (lg_sl ([.ref (a 0), .int v0])).length) Slot.unset).toArray = ls at hl ⊢
  have hl : lv_has ls 2 [(0, .ref (a 0)), (1, .int v0)] := hl
  exact db_X19_drop_0 (dC := dC) (dI := dI) (a := a) (ac := ac) (n := n) (r := r) ⟨hlt, hx, hb, hml, hown, hts, hN, hA, hK⟩ (fun pc v τ H locs ls d z er hP hD hS => by subst er; exact W.zret (v := v) hx hb hr z (fun t ht hW => ⟨⟨v, (), rfl, rfl, by rw [ht]; exact hP, va_K.moved hW.alike hK, hD⟩, hS.F ht⟩) hS.2.2 d) v0 s0 _ _ _ h hP hD va_S.rf (lv_sub hl [0, 1] rfl)
def ow_dm_X19_value : List Cond := .code yX19_value cX19_value 3 (some .long) :: ([.constantLong RX19 302 (7), .methodLink RX19 126 yX19_in, .static yX19_in, .initialized RX19, .methodLink RX19 136 yX19_fails, .instanceMethod yX19_fails, .selects RX19 yX19_fails yX19_fails, .fieldLink RX19 234 "TimeMachineModel" "now" "I", .methodLink RX19 266 yX19_come, .instanceMethod yX19_come, .selects RX19 yX19_come yX19_come, .fieldLink RX19 67 "TimeMachineModel" "conditions" "LTimeMachineModel$Conditions;", .methodLink RX19 280 yX15_remember, .instanceMethod yX15_remember, .selects RX15 yX15_remember yX15_remember, .initialized RX15, .methodLink RX19 276 yX15_value, .instanceMethod yX15_value, .selects RX15 yX15_value yX15_value, .fieldLink RX19 231 "TimeMachineModel" "booted" "Z", .methodLink RX19 273 yX15_isThere, .instanceMethod yX15_isThere, .selects RX15 yX15_isThere yX15_isThere] ++ (u_ws RX19 TX19 36 ++ (ow_dm_X19_in ++ (ow_dm_X19_fails ++ (ow_dm_X19_come ++ (ow_dm_X15_remember ++ (ow_dm_X15_value ++ (ow_dm_X15_isThere ++ []))))))))
theorem gd_dm_X19_value : ∀ w ∈ ow_dm_X19_value, (w.onTables && w.keeps) = true ∨ ∃ ty, w = Cond.arrayClass ty := List.forall_mem_cons.mpr ⟨good_of_word rfl, List.forall_mem_append.mpr ⟨fun w h => good_of_word (List.all_eq_true.mp (by decide +kernel) w h), List.forall_mem_append.mpr ⟨gu_X19, List.forall_mem_append.mpr ⟨gd_dm_X19_in, List.forall_mem_append.mpr ⟨gd_dm_X19_fails, List.forall_mem_append.mpr ⟨gd_dm_X19_come, List.forall_mem_append.mpr ⟨gd_dm_X15_remember, List.forall_mem_append.mpr ⟨gd_dm_X15_value, List.forall_mem_append.mpr ⟨gd_dm_X15_isThere, fun _ h => nomatch h⟩⟩⟩⟩⟩⟩⟩⟩⟩
theorem hi_dm_X19_value_X19 : ∀ w ∈ u_ws RX19 TX19 36, w ∈ ow_dm_X19_value := fun w h => List.mem_cons_of_mem _ (List.mem_append_right _ (List.mem_append_left _ h))
theorem gi_dm_X19_value_0 : GoodIn ow_dm_X19_value (wsS RX19 126 yX19_in ow_dm_X19_in) := goodIn_app (goodIn_of _ (by decide +kernel)) (fun w h => ⟨List.mem_cons_of_mem _ (List.mem_append_right _ (List.mem_append_right _ (List.mem_append_left _ h))), gd_dm_X19_in w h⟩)
theorem gi_dm_X19_value_1 : GoodIn ow_dm_X19_value (wsV RX19 136 RX19 yX19_fails ow_dm_X19_fails) := goodIn_app (goodIn_of _ (by decide +kernel)) (fun w h => ⟨List.mem_cons_of_mem _ (List.mem_append_right _ (List.mem_append_right _ (List.mem_append_right _ (List.mem_append_left _ h)))), gd_dm_X19_fails w h⟩)
theorem gi_dm_X19_value_2 : GoodIn ow_dm_X19_value (wsV RX19 266 RX19 yX19_come ow_dm_X19_come) := goodIn_app (goodIn_of _ (by decide +kernel)) (fun w h => ⟨List.mem_cons_of_mem _ (List.mem_append_right _ (List.mem_append_right _ (List.mem_append_right _ (List.mem_append_right _ (List.mem_append_left _ h))))), gd_dm_X19_come w h⟩)
theorem gi_dm_X19_value_3 : GoodIn ow_dm_X19_value (wsV RX19 280 RX15 yX15_remember ow_dm_X15_remember) := goodIn_app (goodIn_of _ (by decide +kernel)) (fun w h => ⟨List.mem_cons_of_mem _ (List.mem_append_right _ (List.mem_append_right _ (List.mem_append_right _ (List.mem_append_right _ (List.mem_append_right _ (List.mem_append_left _ h)))))), gd_dm_X15_remember w h⟩)
theorem gi_dm_X19_value_4 : GoodIn ow_dm_X19_value (wsV RX19 276 RX15 yX15_value ow_dm_X15_value) := goodIn_app (goodIn_of _ (by decide +kernel)) (fun w h => ⟨List.mem_cons_of_mem _ (List.mem_append_right _ (List.mem_append_right _ (List.mem_append_right _ (List.mem_append_right _ (List.mem_append_right _ (List.mem_append_right _ (List.mem_append_left _ h))))))), gd_dm_X15_value w h⟩)
theorem gi_dm_X19_value_5 : GoodIn ow_dm_X19_value (wsV RX19 273 RX15 yX15_isThere ow_dm_X15_isThere) := goodIn_app (goodIn_of _ (by decide +kernel)) (fun w h => ⟨List.mem_cons_of_mem _ (List.mem_append_right _ (List.mem_append_right _ (List.mem_append_right _ (List.mem_append_right _ (List.mem_append_right _ (List.mem_append_right _ (List.mem_append_right _ (List.mem_append_left _ h)))))))), gd_dm_X15_isThere w h⟩)
def dj_X19_value_76 (p : Program) (l : Launch) (e : Env) (s : State) (m : MethodId) (args : Array Value) (below : List Frame) (meth : Method) (c : Code) (Q : State → Prop) (A : Nat → Prop) (dC : Nat → ClassId) (dI : Nat → Nat → Nat) (a : Nat → Nat) (ac : Nat → ClassId) (g : Int32 → Int32 → (St × (St) × (St × (St × (St))) × (St) × (St)) → Option (Int64 × (St × (St) × (St × (St × (St))) × (St) × (St)))) (r : Int64 × (St × (St) × (St × (St × (St))) × (St) × (St))) : Prop := ∀ (x1 : Int32) (y1 : Int32) (s0 : St × (St) × (St × (St × (St))) × (St) × (St)) (H : Heap) (locs : List Loc) (ls : Array Slot), g x1 y1 s0 = some r → va_P (dC, dI) vwCl (dw_X19 a ac s0) H → va_D A (dw_X19 a ac s0) → va_S A s.heap H locs → lv_has ls 3 [(0, .ref (a 0)), (1, .int x1)] → W p l e (headSpec ow_dm_X19_value ({ frames := 10, cells := 0, slots := 0, locals := 225 })).room s m args below meth c H locs 0 0 Q (F0 m 76 ls [.int y1, .ref (a 0)])
def dj_X19_value_50 (p : Program) (l : Launch) (e : Env) (s : State) (m : MethodId) (args : Array Value) (below : List Frame) (meth : Method) (c : Code) (Q : State → Prop) (A : Nat → Prop) (dC : Nat → ClassId) (dI : Nat → Nat → Nat) (a : Nat → Nat) (ac : Nat → ClassId) (g : Int32 → Int32 → Int32 → (St × (St) × (St × (St × (St))) × (St) × (St)) → Option (Int64 × (St × (St) × (St × (St × (St))) × (St) × (St)))) (r : Int64 × (St × (St) × (St × (St × (St))) × (St) × (St))) : Prop := ∀ (x1 : Int32) (y1 : Int32) (y2 : Int32) (s0 : St × (St) × (St × (St × (St))) × (St) × (St)) (H : Heap) (locs : List Loc) (ls : Array Slot), g x1 y1 y2 s0 = some r → va_P (dC, dI) vwCl (dw_X19 a ac s0) H → va_D A (dw_X19 a ac s0) → va_S A s.heap H locs → lv_has ls 3 [(0, .ref (a 0)), (1, .int x1)] → W p l e (headSpec ow_dm_X19_value ({ frames := 10, cells := 0, slots := 0, locals := 225 })).room s m args below meth c H locs 0 0 Q (F0 m 50 ls [.int y2, .int y1, .ref (a 0)])
def dj_X19_value_49 (p : Program) (l : Launch) (e : Env) (s : State) (m : MethodId) (args : Array Value) (below : List Frame) (meth : Method) (c : Code) (Q : State → Prop) (A : Nat → Prop) (dC : Nat → ClassId) (dI : Nat → Nat → Nat) (a : Nat → Nat) (ac : Nat → ClassId) (g : Int32 → Int32 → (St × (St) × (St × (St × (St))) × (St) × (St)) → Option (Int64 × (St × (St) × (St × (St × (St))) × (St) × (St)))) (r : Int64 × (St × (St) × (St × (St × (St))) × (St) × (St))) : Prop := ∀ (x1 : Int32) (y1 : Int32) (s0 : St × (St) × (St × (St × (St))) × (St) × (St)) (H : Heap) (locs : List Loc) (ls : Array Slot), g x1 y1 s0 = some r → va_P (dC, dI) vwCl (dw_X19 a ac s0) H → va_D A (dw_X19 a ac s0) → va_S A s.heap H locs → lv_has ls 3 [(0, .ref (a 0)), (1, .int x1)] → W p l e (headSpec ow_dm_X19_value ({ frames := 10, cells := 0, slots := 0, locals := 225 })).room s m args below meth c H locs 0 0 Q (F0 m 49 ls [.int y1, .ref (a 0)])
def dj_X19_value_45 (p : Program) (l : Launch) (e : Env) (s : State) (m : MethodId) (args : Array Value) (below : List Frame) (meth : Method) (c : Code) (Q : State → Prop) (A : Nat → Prop) (dC : Nat → ClassId) (dI : Nat → Nat → Nat) (a : Nat → Nat) (ac : Nat → ClassId) (g : Int32 → Int32 → (St × (St) × (St × (St × (St))) × (St) × (St)) → Option (Int64 × (St × (St) × (St × (St × (St))) × (St) × (St)))) (r : Int64 × (St × (St) × (St × (St × (St))) × (St) × (St))) : Prop := ∀ (x1 : Int32) (y1 : Int32) (s0 : St × (St) × (St × (St × (St))) × (St) × (St)) (H : Heap) (locs : List Loc) (ls : Array Slot), g x1 y1 s0 = some r → va_P (dC, dI) vwCl (dw_X19 a ac s0) H → va_D A (dw_X19 a ac s0) → va_S A s.heap H locs → lv_has ls 3 [(0, .ref (a 0)), (1, .int x1)] → W p l e (headSpec ow_dm_X19_value ({ frames := 10, cells := 0, slots := 0, locals := 225 })).room s m args below meth c H locs 0 0 Q (F0 m 45 ls [.int y1, .ref (a 0)])
def dj_X19_value_20 (p : Program) (l : Launch) (e : Env) (s : State) (m : MethodId) (args : Array Value) (below : List Frame) (meth : Method) (c : Code) (Q : State → Prop) (A : Nat → Prop) (dC : Nat → ClassId) (dI : Nat → Nat → Nat) (a : Nat → Nat) (ac : Nat → ClassId) (g : Int32 → Int32 → Int32 → (St × (St) × (St × (St × (St))) × (St) × (St)) → Option (Int64 × (St × (St) × (St × (St × (St))) × (St) × (St)))) (r : Int64 × (St × (St) × (St × (St × (St))) × (St) × (St))) : Prop := ∀ (x1 : Int32) (x2 : Int32) (y1 : Int32) (s0 : St × (St) × (St × (St × (St))) × (St) × (St)) (H : Heap) (locs : List Loc) (ls : Array Slot), g x1 x2 y1 s0 = some r → va_P (dC, dI) vwCl (dw_X19 a ac s0) H → va_D A (dw_X19 a ac s0) → va_S A s.heap H locs → lv_has ls 3 [(0, .ref (a 0)), (1, .int x1), (2, .int x2)] → W p l e (headSpec ow_dm_X19_value ({ frames := 10, cells := 0, slots := 0, locals := 225 })).room s m args below meth c H locs 0 0 Q (F0 m 20 ls [.int y1, .ref (a 0)])
def dj_X19_value_0 (p : Program) (l : Launch) (e : Env) (s : State) (m : MethodId) (args : Array Value) (below : List Frame) (meth : Method) (c : Code) (Q : State → Prop) (A : Nat → Prop) (dC : Nat → ClassId) (dI : Nat → Nat → Nat) (a : Nat → Nat) (ac : Nat → ClassId) (g : Int32 → (St × (St) × (St × (St × (St))) × (St) × (St)) → Option (Int64 × (St × (St) × (St × (St × (St))) × (St) × (St)))) (r : Int64 × (St × (St) × (St × (St × (St))) × (St) × (St))) : Prop := ∀ (v0 : Int32) (s0 : St × (St) × (St × (St × (St))) × (St) × (St)) (H : Heap) (locs : List Loc) (ls : Array Slot), g v0 s0 = some r → va_P (dC, dI) vwCl (dw_X19 a ac s0) H → va_D A (dw_X19 a ac s0) → va_S A s.heap H locs → lv_has ls 3 [(0, .ref (a 0)), (1, .int v0)] → W p l e (headSpec ow_dm_X19_value ({ frames := 10, cells := 0, slots := 0, locals := 225 })).room s m args below meth c H locs 0 0 Q (F0 m 0 ls [])
set_option maxHeartbeats 40000000 in
set_option maxRecDepth 100000 in
theorem db_X19_value_76 {p : Program} {l : Launch} {e : Env} {s : State} {m : MethodId} {args : Array Value} {below : List Frame} {meth : Method} {c : Code} {Q : State → Prop} {A : Nat → Prop} {dC : Nat → ClassId} {dI : Nat → Nat → Nat} {a : Nat → Nat} {ac : Nat → ClassId} {n : Nat} {r : Int64 × (St × (St) × (St × (St × (St))) × (St) × (St))} (C : nd_C p l s m args c A (dC, dI) cX19_value 3 RX19 ow_dm_X19_value (dk_X19 ac)) (K : nd_Kl p l e (headSpec ow_dm_X19_value ({ frames := 10, cells := 0, slots := 0, locals := 225 })).room s m args below meth c Q A (dC, dI) cX19_value (St × (St) × (St × (St × (St))) × (St) × (St)) (dw_X19 a ac) r) : dj_X19_value_76 p l e s m args below meth c Q A dC dI a ac (df_X19_value_76 n) r := by
  obtain ⟨hlt, hx, hb, hml, hown, hts, hN, hA, hK⟩ := id C
  intro x1 y1 s0 H locs ls h hP hD hS hl
  unfold df_X19_value_76 at h
  obtain ⟨s12, hq, h⟩ := nd_b1_e h
  have hPc := hP
  have hDc := hD
  have hKc := hK
  have hFc := nd_rs hD hS hA
  refine nd_cVv (As := [.int y1]) (rest := []) (w' := dw_X19 a ac s12) ⟨hx, hb, hml, hown, hts⟩ (fun sz => dm_X19_come l hlt dC dI a ac n (y1) s0 hq sz) (cwV 1 hts gi_dm_X19_value_2 rfl rfl rfl (by decide +kernel) ⟨Nat.le_of_ble_eq_true rfl, Nat.le_of_ble_eq_true rfl⟩) hPc hDc hKc hS hA hN (va_recv hKc hPc (ci := 20) (q0 := 0) rfl rfl) rfl hl.1 rfl (Nat.le_of_ble_eq_true rfl) dX19_value_76 (fun H locs hP1 hD1 hk1 hS => ?_)
  have hP := hP1
  have hD := hD1.weaken (fun k q _ h => hFc q.1 h)
  refine lv_aload_n hx hb dX19_value_79 rfl (lv_at hl 0 rfl) ?_
  refine va_get (D := (dC, dI)) (ci := 20) (v := .ref (a 27)) (C := RX19) (T := TX19) (N := 36) hx hb hts hi_dm_X19_value_X19 hown hK hP 0 rfl rfl 14 (by decide) (hts (.fieldLink RX19 67 "TimeMachineModel" "conditions" "LTimeMachineModel$Conditions;") (List.mem_of_getElem? (i := 12) rfl)) (fun _ h9 => h9) rfl dX19_value_80 ?_
  refine lv_iload_n hx hb dX19_value_83 rfl (lv_at hl 1 rfl) ?_
  obtain ⟨s15, hq, h⟩ := nd_b1_e h
  have hPc := dp_X19_27 hP
  have hDc := dd_X19_27 hD
  have hKc := dy_X19_27 hK
  have hFc := nd_rs hDc hS hA
  have hzA : ∀ q : Nat, H.size ≤ q → A q := fun q h => hA q (Nat.le_trans hS.1 h)
  refine nd_cVv (As := [.int x1]) (rest := []) (w' := dw_X15 (fun k => a (k + 27)) (fun k => ac (k + 27)) s15) ⟨hx, hb, hml, hown, hts⟩ (fun sz => dm_X15_remember l hlt dC dI (fun k => a (k + 27)) (fun k => ac (k + 27)) n (x1) s12.2.2.1 hq sz) (cwV 1 hts gi_dm_X19_value_3 rfl rfl rfl (by decide +kernel) ⟨Nat.le_of_ble_eq_true rfl, Nat.le_of_ble_eq_true rfl⟩) hPc hDc hKc hS hA hN (va_recv hKc hPc (ci := 16) (q0 := 0) rfl rfl) rfl hl.1 rfl (Nat.le_of_ble_eq_true rfl) dX19_value_84 (fun H locs hP1 hD1 hk1 hS => ?_)
  obtain ⟨hP, hD⟩ := dn_X19_27 hP hD hzA hk1 hP1 hD1
  obtain ⟨s17, es17, h⟩ := nd_let_e h
  have hP : va_P (dC, dI) vwCl (dw_X19 a ac s17) H := by rw [es17]; exact hP
  have hD : va_D A (dw_X19 a ac s17) := by rw [es17]; exact hD
  refine lv_aload_n hx hb dX19_value_87 rfl (lv_at hl 0 rfl) ?_
  refine lv_aload_n hx hb dX19_value_88 rfl (lv_at hl 0 rfl) ?_
  refine va_get (D := (dC, dI)) (ci := 20) (v := .int (sI s17.1 5)) (C := RX19) (T := TX19) (N := 36) hx hb hts hi_dm_X19_value_X19 hown hK hP 0 rfl rfl 19 (by decide) (hts (.fieldLink RX19 234 "TimeMachineModel" "now" "I") (List.mem_of_getElem? (i := 8) rfl)) (fun _ h9 => h9) rfl dX19_value_89 ?_
  obtain ⟨s19, hq, h⟩ := nd_b1_e h
  have hPc := hP
  have hDc := hD
  have hKc := hK
  have hFc := nd_rs hD hS hA
  refine nd_cVv (As := [.int (sI s17.1 5)]) (rest := []) (w' := dw_X19 a ac s19) ⟨hx, hb, hml, hown, hts⟩ (fun sz => dm_X19_come l hlt dC dI a ac n ((sI s17.1 5)) s17 hq sz) (cwV 1 hts gi_dm_X19_value_2 rfl rfl rfl (by decide +kernel) ⟨Nat.le_of_ble_eq_true rfl, Nat.le_of_ble_eq_true rfl⟩) hPc hDc hKc hS hA hN (va_recv hKc hPc (ci := 20) (q0 := 0) rfl rfl) rfl hl.1 rfl (Nat.le_of_ble_eq_true rfl) dX19_value_92 (fun H locs hP1 hD1 hk1 hS => ?_)
  have hP := hP1
  have hD := hD1.weaken (fun k q _ h => hFc q.1 h)
  refine lv_aload_n hx hb dX19_value_95 rfl (lv_at hl 0 rfl) ?_
  refine va_get (D := (dC, dI)) (ci := 20) (v := .ref (a 27)) (C := RX19) (T := TX19) (N := 36) hx hb hts hi_dm_X19_value_X19 hown hK hP 0 rfl rfl 14 (by decide) (hts (.fieldLink RX19 67 "TimeMachineModel" "conditions" "LTimeMachineModel$Conditions;") (List.mem_of_getElem? (i := 12) rfl)) (fun _ h9 => h9) rfl dX19_value_96 ?_
  refine lv_iload_n hx hb dX19_value_99 rfl (lv_at hl 1 rfl) ?_
  obtain ⟨q21, s22, hq, h⟩ := nd_b2_e h
  have hPc := dp_X19_27 hP
  have hDc := dd_X19_27 hD
  have hKc := dy_X19_27 hK
  have hFc := nd_rs hDc hS hA
  have hzA : ∀ q : Nat, H.size ≤ q → A q := fun q h => hA q (Nat.le_trans hS.1 h)
  refine nd_cVl (As := [.int x1]) (rest := []) (q := q21) (w' := dw_X15 (fun k => a (k + 27)) (fun k => ac (k + 27)) s22) ⟨hx, hb, hml, hown, hts⟩ (fun sz => dm_X15_value l hlt dC dI (fun k => a (k + 27)) (fun k => ac (k + 27)) n (x1) s19.2.2.1 hq sz) (cwV 1 hts gi_dm_X19_value_4 rfl rfl rfl (by decide +kernel) ⟨Nat.le_of_ble_eq_true rfl, Nat.le_of_ble_eq_true rfl⟩) hPc hDc hKc hS hA hN (va_recv hKc hPc (ci := 16) (q0 := 0) rfl rfl) rfl hl.1 rfl (Nat.le_of_ble_eq_true rfl) dX19_value_100 (fun H locs hP1 hD1 hk1 hS => ?_)
  obtain ⟨hP, hD⟩ := dn_X19_27 hP hD hzA hk1 hP1 hD1
  obtain ⟨s24, es24, h⟩ := nd_let_e h
  have hP : va_P (dC, dI) vwCl (dw_X19 a ac s24) H := by rw [es24]; exact hP
  have hD : va_D A (dw_X19 a ac s24) := by rw [es24]; exact hD
  exact K _ _ _ _ _ _ dX19_value_103 (Option.some.inj h).symm hP hD hS
set_option maxHeartbeats 40000000 in
set_option maxRecDepth 100000 in
theorem db_X19_value_50 {p : Program} {l : Launch} {e : Env} {s : State} {m : MethodId} {args : Array Value} {below : List Frame} {meth : Method} {c : Code} {Q : State → Prop} {A : Nat → Prop} {dC : Nat → ClassId} {dI : Nat → Nat → Nat} {a : Nat → Nat} {ac : Nat → ClassId} {n : Nat} {r : Int64 × (St × (St) × (St × (St × (St))) × (St) × (St))} (C : nd_C p l s m args c A (dC, dI) cX19_value 3 RX19 ow_dm_X19_value (dk_X19 ac)) (K : nd_Kl p l e (headSpec ow_dm_X19_value ({ frames := 10, cells := 0, slots := 0, locals := 225 })).room s m args below meth c Q A (dC, dI) cX19_value (St × (St) × (St × (St × (St))) × (St) × (St)) (dw_X19 a ac) r) : dj_X19_value_50 p l e s m args below meth c Q A dC dI a ac (df_X19_value_50 n) r := by
  obtain ⟨hlt, hx, hb, hml, hown, hts, hN, hA, hK⟩ := id C
  intro x1 y1 y2 s0 H locs ls h hP hD hS hl
  unfold df_X19_value_50 at h
  obtain ⟨q6, s7, hq, h⟩ := nd_b2_e h
  have hPc := hP
  have hDc := hD
  have hKc := hK
  have hFc := nd_rs hD hS hA
  refine nd_cVi (As := [.int y1, .int y2]) (rest := []) (q := q6) (w' := dw_X19 a ac s7) ⟨hx, hb, hml, hown, hts⟩ (fun sz => dm_X19_fails l hlt dC dI a ac n (y1) (y2) s0 hq sz) (cwV 2 hts gi_dm_X19_value_1 rfl rfl rfl (by decide +kernel) ⟨Nat.le_of_ble_eq_true rfl, Nat.le_of_ble_eq_true rfl⟩) hPc hDc hKc hS hA hN (va_recv hKc hPc (ci := 20) (q0 := 0) rfl rfl) rfl hl.1 rfl (Nat.le_of_ble_eq_true rfl) dX19_value_50 (fun H locs hP1 hD1 hk1 hS => ?_)
  have hP := hP1
  have hD := hD1.weaken (fun k q _ h => hFc q.1 h)
  refine lv_if_eq (tgt := 58) hx hb dX19_value_53 (by decide) (fun c9 => ?_) (fun c9 => ?_)
  · have h := nd_pos h c9
    refine lv_aload_n hx hb dX19_value_58 rfl (lv_at hl 0 rfl) ?_
    refine lv_aload_n hx hb dX19_value_59 rfl (lv_at hl 0 rfl) ?_
    refine va_get (D := (dC, dI)) (ci := 20) (v := .int (sI s7.1 5)) (C := RX19) (T := TX19) (N := 36) hx hb hts hi_dm_X19_value_X19 hown hK hP 0 rfl rfl 19 (by decide) (hts (.fieldLink RX19 234 "TimeMachineModel" "now" "I") (List.mem_of_getElem? (i := 8) rfl)) (fun _ h9 => h9) rfl dX19_value_60 ?_
    refine lv_if_ne (tgt := 70) hx hb dX19_value_63 (by decide) (fun c10 => ?_) (fun c10 => ?_)
    · have h := nd_neg h c10
      refine lv_aload_n hx hb dX19_value_70 rfl (lv_at hl 0 rfl) ?_
      refine va_get (D := (dC, dI)) (ci := 20) (v := .int (sI s7.1 5)) (C := RX19) (T := TX19) (N := 36) hx hb hts hi_dm_X19_value_X19 hown hK hP 0 rfl rfl 19 (by decide) (hts (.fieldLink RX19 234 "TimeMachineModel" "now" "I") (List.mem_of_getElem? (i := 8) rfl)) (fun _ h9 => h9) rfl dX19_value_71 ?_
      refine lv_iconst (v := 1) hx hb dX19_value_74 (by decide) ?_
      refine lv_isub hx hb dX19_value_75 ?_
      exact (db_X19_value_76 C K) (x1) (((sI s7.1 5) - 1)) s7 _ _ _ h hP hD hS (lv_sub hl [0, 1] rfl)
    · have h := nd_pos h c10
      refine lv_iconst (v := 0) hx hb dX19_value_66 (by decide) ?_
      refine lv_goto (tgt := 76) hx hb dX19_value_67 (by decide) ?_
      exact (db_X19_value_76 C K) (x1) (0) s7 _ _ _ h hP hD hS (lv_sub hl [0, 1] rfl)
  · have h := nd_neg h c9
    refine lv_lconst (v := 0) hx hb dX19_value_56 (by decide) ?_
    exact K _ _ _ _ _ _ dX19_value_57 (Option.some.inj h).symm hP hD hS
set_option maxHeartbeats 40000000 in
set_option maxRecDepth 100000 in
theorem db_X19_value_49 {p : Program} {l : Launch} {e : Env} {s : State} {m : MethodId} {args : Array Value} {below : List Frame} {meth : Method} {c : Code} {Q : State → Prop} {A : Nat → Prop} {dC : Nat → ClassId} {dI : Nat → Nat → Nat} {a : Nat → Nat} {ac : Nat → ClassId} {n : Nat} {r : Int64 × (St × (St) × (St × (St × (St))) × (St) × (St))} (C : nd_C p l s m args c A (dC, dI) cX19_value 3 RX19 ow_dm_X19_value (dk_X19 ac)) (K : nd_Kl p l e (headSpec ow_dm_X19_value ({ frames := 10, cells := 0, slots := 0, locals := 225 })).room s m args below meth c Q A (dC, dI) cX19_value (St × (St) × (St × (St × (St))) × (St) × (St)) (dw_X19 a ac) r) : dj_X19_value_49 p l e s m args below meth c Q A dC dI a ac (df_X19_value_49 n) r := by
  obtain ⟨hlt, hx, hb, hml, hown, hts, hN, hA, hK⟩ := id C
  intro x1 y1 s0 H locs ls h hP hD hS hl
  unfold df_X19_value_49 at h
  refine lv_iconst (v := 0) hx hb dX19_value_49 (by decide) ?_
  exact (db_X19_value_50 C K) (x1) (y1) (0) s0 _ _ _ h hP hD hS (lv_sub hl [0, 1] rfl)
set_option maxHeartbeats 40000000 in
set_option maxRecDepth 100000 in
theorem db_X19_value_45 {p : Program} {l : Launch} {e : Env} {s : State} {m : MethodId} {args : Array Value} {below : List Frame} {meth : Method} {c : Code} {Q : State → Prop} {A : Nat → Prop} {dC : Nat → ClassId} {dI : Nat → Nat → Nat} {a : Nat → Nat} {ac : Nat → ClassId} {n : Nat} {r : Int64 × (St × (St) × (St × (St × (St))) × (St) × (St))} (C : nd_C p l s m args c A (dC, dI) cX19_value 3 RX19 ow_dm_X19_value (dk_X19 ac)) (K : nd_Kl p l e (headSpec ow_dm_X19_value ({ frames := 10, cells := 0, slots := 0, locals := 225 })).room s m args below meth c Q A (dC, dI) cX19_value (St × (St) × (St × (St × (St))) × (St) × (St)) (dw_X19 a ac) r) : dj_X19_value_45 p l e s m args below meth c Q A dC dI a ac (df_X19_value_45 n) r := by
  obtain ⟨hlt, hx, hb, hml, hown, hts, hN, hA, hK⟩ := id C
  intro x1 y1 s0 H locs ls h hP hD hS hl
  unfold df_X19_value_45 at h
  refine lv_iconst (v := 1) hx hb dX19_value_45 (by decide) ?_
  refine lv_goto (tgt := 50) hx hb dX19_value_46 (by decide) ?_
  exact (db_X19_value_50 C K) (x1) (y1) (1) s0 _ _ _ h hP hD hS (lv_sub hl [0, 1] rfl)
set_option maxHeartbeats 40000000 in
set_option maxRecDepth 100000 in
theorem db_X19_value_20 {p : Program} {l : Launch} {e : Env} {s : State} {m : MethodId} {args : Array Value} {below : List Frame} {meth : Method} {c : Code} {Q : State → Prop} {A : Nat → Prop} {dC : Nat → ClassId} {dI : Nat → Nat → Nat} {a : Nat → Nat} {ac : Nat → ClassId} {n : Nat} {r : Int64 × (St × (St) × (St × (St × (St))) × (St) × (St))} (C : nd_C p l s m args c A (dC, dI) cX19_value 3 RX19 ow_dm_X19_value (dk_X19 ac)) (K : nd_Kl p l e (headSpec ow_dm_X19_value ({ frames := 10, cells := 0, slots := 0, locals := 225 })).room s m args below meth c Q A (dC, dI) cX19_value (St × (St) × (St × (St × (St))) × (St) × (St)) (dw_X19 a ac) r) : dj_X19_value_20 p l e s m args below meth c Q A dC dI a ac (df_X19_value_20 n) r := by
  obtain ⟨hlt, hx, hb, hml, hown, hts, hN, hA, hK⟩ := id C
  intro x1 x2 y1 s0 H locs ls h hP hD hS hl
  unfold df_X19_value_20 at h
  refine lv_iload_n hx hb dX19_value_20 rfl (lv_at hl 2 rfl) ?_
  refine lv_if_eq (tgt := 49) hx hb dX19_value_21 (by decide) (fun c5 => ?_) (fun c5 => ?_)
  · have h := nd_pos h c5
    exact (db_X19_value_49 C K) (x1) (y1) s0 _ _ _ h hP hD hS (lv_sub hl [0, 1] rfl)
  · have h := nd_neg h c5
    refine lv_aload_n hx hb dX19_value_24 rfl (lv_at hl 0 rfl) ?_
    refine va_get (D := (dC, dI)) (ci := 20) (v := .int (sI s0.1 3)) (C := RX19) (T := TX19) (N := 36) hx hb hts hi_dm_X19_value_X19 hown hK hP 0 rfl rfl 17 (by decide) (hts (.fieldLink RX19 231 "TimeMachineModel" "booted" "Z") (List.mem_of_getElem? (i := 20) rfl)) (fun _ h9 => h9) rfl dX19_value_25 ?_
    refine lv_if_eq (tgt := 45) hx hb dX19_value_28 (by decide) (fun c25 => ?_) (fun c25 => ?_)
    · have h := nd_pos h c25
      exact (db_X19_value_45 C K) (x1) (y1) s0 _ _ _ h hP hD hS (lv_sub hl [0, 1] rfl)
    · have h := nd_neg h c25
      refine lv_aload_n hx hb dX19_value_31 rfl (lv_at hl 0 rfl) ?_
      refine va_get (D := (dC, dI)) (ci := 20) (v := .ref (a 27)) (C := RX19) (T := TX19) (N := 36) hx hb hts hi_dm_X19_value_X19 hown hK hP 0 rfl rfl 14 (by decide) (hts (.fieldLink RX19 67 "TimeMachineModel" "conditions" "LTimeMachineModel$Conditions;") (List.mem_of_getElem? (i := 12) rfl)) (fun _ h9 => h9) rfl dX19_value_32 ?_
      refine lv_iload_n hx hb dX19_value_35 rfl (lv_at hl 1 rfl) ?_
      refine lv_bipush (v := 7) hx hb dX19_value_36 (by decide) ?_
      refine lv_iand hx hb dX19_value_38 ?_
      obtain ⟨q26, s27, hq, h⟩ := nd_b2_e h
      have hPc := dp_X19_27 hP
      have hDc := dd_X19_27 hD
      have hKc := dy_X19_27 hK
      have hFc := nd_rs hDc hS hA
      have hzA : ∀ q : Nat, H.size ≤ q → A q := fun q h => hA q (Nat.le_trans hS.1 h)
      refine nd_cVi (As := [.int (x1 &&& 7)]) (rest := [.int y1, .ref (a 0)]) (q := q26) (w' := dw_X15 (fun k => a (k + 27)) (fun k => ac (k + 27)) s27) ⟨hx, hb, hml, hown, hts⟩ (fun sz => dm_X15_isThere l hlt dC dI (fun k => a (k + 27)) (fun k => ac (k + 27)) n ((x1 &&& 7)) s0.2.2.1 hq sz) (cwV 1 hts gi_dm_X19_value_5 rfl rfl rfl (by decide +kernel) ⟨Nat.le_of_ble_eq_true rfl, Nat.le_of_ble_eq_true rfl⟩) hPc hDc hKc hS hA hN (va_recv hKc hPc (ci := 16) (q0 := 0) rfl rfl) rfl hl.1 rfl (Nat.le_of_ble_eq_true rfl) dX19_value_39 (fun H locs hP1 hD1 hk1 hS => ?_)
      obtain ⟨hP, hD⟩ := dn_X19_27 hP hD hzA hk1 hP1 hD1
      obtain ⟨s29, es29, h⟩ := nd_let_e h
      have hP : va_P (dC, dI) vwCl (dw_X19 a ac s29) H := by rw [es29]; exact hP
      have hD : va_D A (dw_X19 a ac s29) := by rw [es29]; exact hD
      refine lv_if_ne (tgt := 49) hx hb dX19_value_42 (by decide) (fun c30 => ?_) (fun c30 => ?_)
      · have h := nd_neg h c30
        exact (db_X19_value_49 C K) (x1) (y1) s29 _ _ _ h hP hD hS (lv_sub hl [0, 1] rfl)
      · have h := nd_pos h c30
        exact (db_X19_value_45 C K) (x1) (y1) s29 _ _ _ h hP hD hS (lv_sub hl [0, 1] rfl)
set_option maxHeartbeats 40000000 in
set_option maxRecDepth 100000 in
theorem db_X19_value_0 {p : Program} {l : Launch} {e : Env} {s : State} {m : MethodId} {args : Array Value} {below : List Frame} {meth : Method} {c : Code} {Q : State → Prop} {A : Nat → Prop} {dC : Nat → ClassId} {dI : Nat → Nat → Nat} {a : Nat → Nat} {ac : Nat → ClassId} {n : Nat} {r : Int64 × (St × (St) × (St × (St × (St))) × (St) × (St))} (C : nd_C p l s m args c A (dC, dI) cX19_value 3 RX19 ow_dm_X19_value (dk_X19 ac)) (K : nd_Kl p l e (headSpec ow_dm_X19_value ({ frames := 10, cells := 0, slots := 0, locals := 225 })).room s m args below meth c Q A (dC, dI) cX19_value (St × (St) × (St × (St × (St))) × (St) × (St)) (dw_X19 a ac) r) : dj_X19_value_0 p l e s m args below meth c Q A dC dI a ac (df_X19_value_0 n) r := by
  obtain ⟨hlt, hx, hb, hml, hown, hts, hN, hA, hK⟩ := id C
  intro v0 s0 H locs ls h hP hD hS hl
  unfold df_X19_value_0 at h
  refine lv_iload_n hx hb dX19_value_0 rfl (lv_at hl 1 rfl) ?_
  refine lv_i2l hx hb dX19_value_1 rfl ?_
  refine lv_lconst (v := 0) hx hb dX19_value_2 (by decide) ?_
  refine lv_ldc2 hx hb hown (hts (.constantLong RX19 302 (7)) (List.mem_of_getElem? (i := 1) rfl)) dX19_value_3 ?_
  obtain ⟨q1, s2, hq, h⟩ := nd_b2_e h
  have hPc : va_P (dC, dI) vwCl (dw_P a ac ()) H := nd_p0
  have hDc : va_D A (dw_P a ac ()) := nd_d0
  have hKc : va_K (dC, dI) vwCl (dk_P ac) s := nd_y0 hK
  have hFc : ∀ q, va_A (dw_P a ac ()) H.size q → A q := nd_r0 hS hA
  refine nd_cSi (As := [.long (v0.toInt64), .long 0, .long 7]) (rest := []) (q := q1) (w' := dw_P a ac s2) ⟨hx, hb, hml, hown, hts⟩ (fun sz => dm_X19_in l hlt dC dI a ac n ((v0.toInt64)) (0) (7) () hq sz) (cwS 3 hts gi_dm_X19_value_0 rfl rfl rfl (by decide +kernel) ⟨Nat.le_of_ble_eq_true rfl, Nat.le_of_ble_eq_true rfl⟩) hPc hDc hKc hS hA hN rfl hl.1 rfl (Nat.le_of_ble_eq_true rfl) dX19_value_6 (fun H locs hP1 hD1 hk1 hS => ?_)
  have hP := nd_n0 hP hk1
  refine lv_istore_n (lv' := [(2, .int q1), (0, .ref (a 0)), (1, .int v0)]) hx hb dX19_value_9 rfl hl (by decide) rfl (fun ls hl => ?_)
  refine lv_aload_n hx hb dX19_value_10 rfl (lv_at hl 1 rfl) ?_
  refine lv_iload_n hx hb dX19_value_11 rfl (lv_at hl 0 rfl) ?_
  refine lv_if_ne (tgt := 19) hx hb dX19_value_12 (by decide) (fun c4 => ?_) (fun c4 => ?_)
  · have h := nd_neg h c4
    refine lv_iconst (v := 0) hx hb dX19_value_19 (by decide) ?_
    exact (db_X19_value_20 C K) (v0) (q1) (0) s0 _ _ _ h hP hD hS (lv_sub hl [1, 2, 0] rfl)
  · have h := nd_pos h c4
    refine lv_iconst (v := 1) hx hb dX19_value_15 (by decide) ?_
    refine lv_goto (tgt := 20) hx hb dX19_value_16 (by decide) ?_
    exact (db_X19_value_20 C K) (v0) (q1) (1) s0 _ _ _ h hP hD hS (lv_sub hl [1, 2, 0] rfl)
set_option maxHeartbeats 40000000 in
set_option maxRecDepth 100000 in
theorem dm_X19_value (l : Launch) (hlt : l.stackTraces = false) (dC : Nat → ClassId) (dI : Nat → Nat → Nat) (a : Nat → Nat) (ac : Nat → ClassId) (n : Nat) (v0 : Int32) (s0 : St × (St) × (St × (St × (St))) × (St) × (St)) {r : Int64 × (St × (St) × (St × (St × (St))) × (St) × (St))} (h : df_X19_value n v0 s0 = some r) (sz : Nat) : Met l yX19_value ow_dm_X19_value ({ frames := 10, cells := 0, slots := 0, locals := 225 }) (va_Pc [.ref (a 0), .int v0] (fun U => U.heap.size = sz ∧ va_P (dC, dI) vwCl (dw_X19 a ac s0) U.heap ∧ va_K (dC, dI) vwCl (dk_X19 ac) U ∧ va_D (fun _ => True) (dw_X19 a ac s0) ∧ nv_E (va_A (dw_X19 a ac s0) sz) U)) (va_Ql (fun x _ => x = r.1) (fun (_ : Unit) t => va_P (dC, dI) vwCl (dw_X19 a ac r.2) t.heap ∧ va_K (dC, dI) vwCl (dk_X19 ac) t ∧ va_D (va_A (dw_X19 a ac s0) sz) (dw_X19 a ac r.2)) (va_A (dw_X19 a ac s0) sz)) 0 0 (va_A (dw_X19 a ac s0) sz) := by
  refine Met.ofW (cc := cX19_value) (maxL := 3) (ret := (some .long)) (by decide) rfl ?_
  intro p e s m args below meth c s₁ B hml hv
  obtain ⟨rfl, hsz, hP, hK, hD0, hN⟩ := hv
  have hx := B.exec
  have hb := B.bytes
  have hr := B.returns
  have hts := atoms_spec (ws := ow_dm_X19_value) B.pre
  have hown : s.vm.findClass RX19 = some m.cls := findClass_of_methodNamed B.named
  have hlocks := B.notSynchronized
  subst hsz
  have hD := hD0.self (sz := s.heap.size)
  generalize hAe : va_A (dw_X19 a ac s0) s.heap.size = A at hD hN ⊢
  have hA : ∀ q : Nat, s.heap.size ≤ q → A q := fun q h => by rw [← hAe]; exact Or.inr h
  have hl := lv_entry ([.ref (a 0), .int v0]) (n := 3) (Nat.le_of_ble_eq_true rfl)
  rw [lg_entry_eq]
  generalize (lg_sl ([.ref (a 0), .int v0]) ++ List.replicate (3 - (lg_sl ([.ref (a 0), .int v0])).length) Slot.unset).toArray = ls at hl ⊢
  have hl : lv_has ls 3 [(0, .ref (a 0)), (1, .int v0)] := hl
  exact db_X19_value_0 (dC := dC) (dI := dI) (a := a) (ac := ac) (n := n) (r := r) ⟨hlt, hx, hb, hml, hown, hts, hN, hA, hK⟩ (fun pc v τ H locs ls d er hP hD hS => by subst er; exact W.lret (v := v) hx hb hr (fun t ht hW => ⟨⟨v, (), rfl, rfl, by rw [ht]; exact hP, va_K.moved hW.alike hK, hD⟩, hS.F ht⟩) hS.2.2 d) v0 s0 _ _ _ h hP hD va_S.rf (lv_sub hl [0, 1] rfl)
def ow_dm_X19_backTo : List Cond := .code yX19_backTo cX19_backTo 5 (some .int) :: ([.constantLong RX19 302 (7), .methodLink RX19 126 yX19_in, .static yX19_in, .initialized RX19, .methodLink RX19 136 yX19_fails, .instanceMethod yX19_fails, .selects RX19 yX19_fails yX19_fails, .methodLink RX19 206 yX19_anew, .instanceMethod yX19_anew, .selects RX19 yX19_anew yX19_anew, .fieldLink RX19 234 "TimeMachineModel" "now" "I", .fieldLink RX19 67 "TimeMachineModel" "conditions" "LTimeMachineModel$Conditions;", .methodLink RX19 276 yX15_value, .instanceMethod yX15_value, .selects RX15 yX15_value yX15_value, .initialized RX15, .methodLink RX19 280 yX15_remember, .instanceMethod yX15_remember, .selects RX15 yX15_remember yX15_remember, .methodLink RX19 209 yX19_tick, .instanceMethod yX19_tick, .selects RX19 yX19_tick yX19_tick, .fieldLink RX19 231 "TimeMachineModel" "booted" "Z", .methodLink RX19 273 yX15_isThere, .instanceMethod yX15_isThere, .selects RX15 yX15_isThere yX15_isThere] ++ (u_ws RX19 TX19 36 ++ (ow_dm_X19_in ++ (ow_dm_X19_fails ++ (ow_dm_X19_anew ++ (ow_dm_X15_value ++ (ow_dm_X15_remember ++ (ow_dm_X19_tick ++ (ow_dm_X15_isThere ++ [])))))))))
theorem gd_dm_X19_backTo : ∀ w ∈ ow_dm_X19_backTo, (w.onTables && w.keeps) = true ∨ ∃ ty, w = Cond.arrayClass ty := List.forall_mem_cons.mpr ⟨good_of_word rfl, List.forall_mem_append.mpr ⟨fun w h => good_of_word (List.all_eq_true.mp (by decide +kernel) w h), List.forall_mem_append.mpr ⟨gu_X19, List.forall_mem_append.mpr ⟨gd_dm_X19_in, List.forall_mem_append.mpr ⟨gd_dm_X19_fails, List.forall_mem_append.mpr ⟨gd_dm_X19_anew, List.forall_mem_append.mpr ⟨gd_dm_X15_value, List.forall_mem_append.mpr ⟨gd_dm_X15_remember, List.forall_mem_append.mpr ⟨gd_dm_X19_tick, List.forall_mem_append.mpr ⟨gd_dm_X15_isThere, fun _ h => nomatch h⟩⟩⟩⟩⟩⟩⟩⟩⟩⟩
theorem hi_dm_X19_backTo_X19 : ∀ w ∈ u_ws RX19 TX19 36, w ∈ ow_dm_X19_backTo := fun w h => List.mem_cons_of_mem _ (List.mem_append_right _ (List.mem_append_left _ h))
theorem gi_dm_X19_backTo_0 : GoodIn ow_dm_X19_backTo (wsS RX19 126 yX19_in ow_dm_X19_in) := goodIn_app (goodIn_of _ (by decide +kernel)) (fun w h => ⟨List.mem_cons_of_mem _ (List.mem_append_right _ (List.mem_append_right _ (List.mem_append_left _ h))), gd_dm_X19_in w h⟩)
theorem gi_dm_X19_backTo_1 : GoodIn ow_dm_X19_backTo (wsV RX19 136 RX19 yX19_fails ow_dm_X19_fails) := goodIn_app (goodIn_of _ (by decide +kernel)) (fun w h => ⟨List.mem_cons_of_mem _ (List.mem_append_right _ (List.mem_append_right _ (List.mem_append_right _ (List.mem_append_left _ h)))), gd_dm_X19_fails w h⟩)
theorem gi_dm_X19_backTo_2 : GoodIn ow_dm_X19_backTo (wsV RX19 206 RX19 yX19_anew ow_dm_X19_anew) := goodIn_app (goodIn_of _ (by decide +kernel)) (fun w h => ⟨List.mem_cons_of_mem _ (List.mem_append_right _ (List.mem_append_right _ (List.mem_append_right _ (List.mem_append_right _ (List.mem_append_left _ h))))), gd_dm_X19_anew w h⟩)
theorem gi_dm_X19_backTo_3 : GoodIn ow_dm_X19_backTo (wsV RX19 276 RX15 yX15_value ow_dm_X15_value) := goodIn_app (goodIn_of _ (by decide +kernel)) (fun w h => ⟨List.mem_cons_of_mem _ (List.mem_append_right _ (List.mem_append_right _ (List.mem_append_right _ (List.mem_append_right _ (List.mem_append_right _ (List.mem_append_left _ h)))))), gd_dm_X15_value w h⟩)
theorem gi_dm_X19_backTo_4 : GoodIn ow_dm_X19_backTo (wsV RX19 280 RX15 yX15_remember ow_dm_X15_remember) := goodIn_app (goodIn_of _ (by decide +kernel)) (fun w h => ⟨List.mem_cons_of_mem _ (List.mem_append_right _ (List.mem_append_right _ (List.mem_append_right _ (List.mem_append_right _ (List.mem_append_right _ (List.mem_append_right _ (List.mem_append_left _ h))))))), gd_dm_X15_remember w h⟩)
theorem gi_dm_X19_backTo_5 : GoodIn ow_dm_X19_backTo (wsV RX19 209 RX19 yX19_tick ow_dm_X19_tick) := goodIn_app (goodIn_of _ (by decide +kernel)) (fun w h => ⟨List.mem_cons_of_mem _ (List.mem_append_right _ (List.mem_append_right _ (List.mem_append_right _ (List.mem_append_right _ (List.mem_append_right _ (List.mem_append_right _ (List.mem_append_right _ (List.mem_append_left _ h)))))))), gd_dm_X19_tick w h⟩)
theorem gi_dm_X19_backTo_6 : GoodIn ow_dm_X19_backTo (wsV RX19 273 RX15 yX15_isThere ow_dm_X15_isThere) := goodIn_app (goodIn_of _ (by decide +kernel)) (fun w h => ⟨List.mem_cons_of_mem _ (List.mem_append_right _ (List.mem_append_right _ (List.mem_append_right _ (List.mem_append_right _ (List.mem_append_right _ (List.mem_append_right _ (List.mem_append_right _ (List.mem_append_right _ (List.mem_append_left _ h))))))))), gd_dm_X15_isThere w h⟩)
def dj_X19_backTo_149 (p : Program) (l : Launch) (e : Env) (s : State) (m : MethodId) (args : Array Value) (below : List Frame) (meth : Method) (c : Code) (Q : State → Prop) (A : Nat → Prop) (dC : Nat → ClassId) (dI : Nat → Nat → Nat) (a : Nat → Nat) (ac : Nat → ClassId) (g : Int32 → Int32 → (St × (St) × (St × (St × (St))) × (St) × (St)) → Option (Int32 × (St × (St) × (St × (St × (St))) × (St) × (St)))) (r : Int32 × (St × (St) × (St × (St × (St))) × (St) × (St))) : Prop := ∀ (x3 : Int32) (y1 : Int32) (s0 : St × (St) × (St × (St × (St))) × (St) × (St)) (H : Heap) (locs : List Loc) (ls : Array Slot), g x3 y1 s0 = some r → va_P (dC, dI) vwCl (dw_X19 a ac s0) H → va_D A (dw_X19 a ac s0) → va_S A s.heap H locs → lv_has ls 5 [(3, .int x3)] → W p l e (headSpec ow_dm_X19_backTo ({ frames := 9, cells := 0, slots := 0, locals := 204 })).room s m args below meth c H locs 0 0 Q (F0 m 149 ls [.int y1, .ref (a 0)])
def dj_X19_backTo_129 (p : Program) (l : Launch) (e : Env) (s : State) (m : MethodId) (args : Array Value) (below : List Frame) (meth : Method) (c : Code) (Q : State → Prop) (A : Nat → Prop) (dC : Nat → ClassId) (dI : Nat → Nat → Nat) (a : Nat → Nat) (ac : Nat → ClassId) (g : Int32 → Int32 → Int32 → (St × (St) × (St × (St × (St))) × (St) × (St)) → Option (Int32 × (St × (St) × (St × (St × (St))) × (St) × (St)))) (r : Int32 × (St × (St) × (St × (St × (St))) × (St) × (St))) : Prop := ∀ (x1 : Int32) (x3 : Int32) (x4 : Int32) (s0 : St × (St) × (St × (St × (St))) × (St) × (St)) (H : Heap) (locs : List Loc) (ls : Array Slot), g x1 x3 x4 s0 = some r → va_P (dC, dI) vwCl (dw_X19 a ac s0) H → va_D A (dw_X19 a ac s0) → va_S A s.heap H locs → lv_has ls 5 [(0, .ref (a 0)), (1, .int x1), (3, .int x3), (4, .int x4)] → W p l e (headSpec ow_dm_X19_backTo ({ frames := 9, cells := 0, slots := 0, locals := 204 })).room s m args below meth c H locs 0 0 Q (F0 m 129 ls [])
def dj_X19_backTo_105 (p : Program) (l : Launch) (e : Env) (s : State) (m : MethodId) (args : Array Value) (below : List Frame) (meth : Method) (c : Code) (Q : State → Prop) (A : Nat → Prop) (dC : Nat → ClassId) (dI : Nat → Nat → Nat) (a : Nat → Nat) (ac : Nat → ClassId) (g : Int32 → Int32 → Int32 → (St × (St) × (St × (St × (St))) × (St) × (St)) → Option (Int32 × (St × (St) × (St × (St × (St))) × (St) × (St)))) (r : Int32 × (St × (St) × (St × (St × (St))) × (St) × (St))) : Prop := ∀ (x1 : Int32) (x3 : Int32) (x4 : Int32) (s0 : St × (St) × (St × (St × (St))) × (St) × (St)) (H : Heap) (locs : List Loc) (ls : Array Slot), g x1 x3 x4 s0 = some r → va_P (dC, dI) vwCl (dw_X19 a ac s0) H → va_D A (dw_X19 a ac s0) → va_S A s.heap H locs → lv_has ls 5 [(0, .ref (a 0)), (1, .int x1), (3, .int x3), (4, .int x4)] → W p l e (headSpec ow_dm_X19_backTo ({ frames := 9, cells := 0, slots := 0, locals := 204 })).room s m args below meth c H locs 0 0 Q (F0 m 105 ls [])
def dj_X19_backTo_89 (p : Program) (l : Launch) (e : Env) (s : State) (m : MethodId) (args : Array Value) (below : List Frame) (meth : Method) (c : Code) (Q : State → Prop) (A : Nat → Prop) (dC : Nat → ClassId) (dI : Nat → Nat → Nat) (a : Nat → Nat) (ac : Nat → ClassId) (g : Int32 → Int32 → Int32 → (St × (St) × (St × (St × (St))) × (St) × (St)) → Option (Int32 × (St × (St) × (St × (St × (St))) × (St) × (St)))) (r : Int32 × (St × (St) × (St × (St × (St))) × (St) × (St))) : Prop := ∀ (x1 : Int32) (x3 : Int32) (x4 : Int32) (s0 : St × (St) × (St × (St × (St))) × (St) × (St)) (H : Heap) (locs : List Loc) (ls : Array Slot), g x1 x3 x4 s0 = some r → va_P (dC, dI) vwCl (dw_X19 a ac s0) H → va_D A (dw_X19 a ac s0) → va_S A s.heap H locs → lv_has ls 5 [(0, .ref (a 0)), (1, .int x1), (3, .int x3), (4, .int x4)] → W p l e (headSpec ow_dm_X19_backTo ({ frames := 9, cells := 0, slots := 0, locals := 204 })).room s m args below meth c H locs 0 0 Q (F0 m 89 ls [])
def dj_X19_backTo_67 (p : Program) (l : Launch) (e : Env) (s : State) (m : MethodId) (args : Array Value) (below : List Frame) (meth : Method) (c : Code) (Q : State → Prop) (A : Nat → Prop) (dC : Nat → ClassId) (dI : Nat → Nat → Nat) (a : Nat → Nat) (ac : Nat → ClassId) (g : Int32 → Int32 → Int32 → (St × (St) × (St × (St × (St))) × (St) × (St)) → Option (Int32 × (St × (St) × (St × (St × (St))) × (St) × (St)))) (r : Int32 × (St × (St) × (St × (St × (St))) × (St) × (St))) : Prop := ∀ (x1 : Int32) (x3 : Int32) (x4 : Int32) (s0 : St × (St) × (St × (St × (St))) × (St) × (St)) (H : Heap) (locs : List Loc) (ls : Array Slot), g x1 x3 x4 s0 = some r → va_P (dC, dI) vwCl (dw_X19 a ac s0) H → va_D A (dw_X19 a ac s0) → va_S A s.heap H locs → lv_has ls 5 [(0, .ref (a 0)), (1, .int x1), (3, .int x3), (4, .int x4)] → W p l e (headSpec ow_dm_X19_backTo ({ frames := 9, cells := 0, slots := 0, locals := 204 })).room s m args below meth c H locs 0 0 Q (F0 m 67 ls [])
def dj_X19_backTo_50 (p : Program) (l : Launch) (e : Env) (s : State) (m : MethodId) (args : Array Value) (below : List Frame) (meth : Method) (c : Code) (Q : State → Prop) (A : Nat → Prop) (dC : Nat → ClassId) (dI : Nat → Nat → Nat) (a : Nat → Nat) (ac : Nat → ClassId) (g : Int32 → Int32 → Int32 → (St × (St) × (St × (St × (St))) × (St) × (St)) → Option (Int32 × (St × (St) × (St × (St × (St))) × (St) × (St)))) (r : Int32 × (St × (St) × (St × (St × (St))) × (St) × (St))) : Prop := ∀ (x1 : Int32) (y1 : Int32) (y2 : Int32) (s0 : St × (St) × (St × (St × (St))) × (St) × (St)) (H : Heap) (locs : List Loc) (ls : Array Slot), g x1 y1 y2 s0 = some r → va_P (dC, dI) vwCl (dw_X19 a ac s0) H → va_D A (dw_X19 a ac s0) → va_S A s.heap H locs → lv_has ls 5 [(0, .ref (a 0)), (1, .int x1)] → W p l e (headSpec ow_dm_X19_backTo ({ frames := 9, cells := 0, slots := 0, locals := 204 })).room s m args below meth c H locs 0 0 Q (F0 m 50 ls [.int y2, .int y1, .ref (a 0)])
def dj_X19_backTo_49 (p : Program) (l : Launch) (e : Env) (s : State) (m : MethodId) (args : Array Value) (below : List Frame) (meth : Method) (c : Code) (Q : State → Prop) (A : Nat → Prop) (dC : Nat → ClassId) (dI : Nat → Nat → Nat) (a : Nat → Nat) (ac : Nat → ClassId) (g : Int32 → Int32 → (St × (St) × (St × (St × (St))) × (St) × (St)) → Option (Int32 × (St × (St) × (St × (St × (St))) × (St) × (St)))) (r : Int32 × (St × (St) × (St × (St × (St))) × (St) × (St))) : Prop := ∀ (x1 : Int32) (y1 : Int32) (s0 : St × (St) × (St × (St × (St))) × (St) × (St)) (H : Heap) (locs : List Loc) (ls : Array Slot), g x1 y1 s0 = some r → va_P (dC, dI) vwCl (dw_X19 a ac s0) H → va_D A (dw_X19 a ac s0) → va_S A s.heap H locs → lv_has ls 5 [(0, .ref (a 0)), (1, .int x1)] → W p l e (headSpec ow_dm_X19_backTo ({ frames := 9, cells := 0, slots := 0, locals := 204 })).room s m args below meth c H locs 0 0 Q (F0 m 49 ls [.int y1, .ref (a 0)])
def dj_X19_backTo_45 (p : Program) (l : Launch) (e : Env) (s : State) (m : MethodId) (args : Array Value) (below : List Frame) (meth : Method) (c : Code) (Q : State → Prop) (A : Nat → Prop) (dC : Nat → ClassId) (dI : Nat → Nat → Nat) (a : Nat → Nat) (ac : Nat → ClassId) (g : Int32 → Int32 → (St × (St) × (St × (St × (St))) × (St) × (St)) → Option (Int32 × (St × (St) × (St × (St × (St))) × (St) × (St)))) (r : Int32 × (St × (St) × (St × (St × (St))) × (St) × (St))) : Prop := ∀ (x1 : Int32) (y1 : Int32) (s0 : St × (St) × (St × (St × (St))) × (St) × (St)) (H : Heap) (locs : List Loc) (ls : Array Slot), g x1 y1 s0 = some r → va_P (dC, dI) vwCl (dw_X19 a ac s0) H → va_D A (dw_X19 a ac s0) → va_S A s.heap H locs → lv_has ls 5 [(0, .ref (a 0)), (1, .int x1)] → W p l e (headSpec ow_dm_X19_backTo ({ frames := 9, cells := 0, slots := 0, locals := 204 })).room s m args below meth c H locs 0 0 Q (F0 m 45 ls [.int y1, .ref (a 0)])
def dj_X19_backTo_20 (p : Program) (l : Launch) (e : Env) (s : State) (m : MethodId) (args : Array Value) (below : List Frame) (meth : Method) (c : Code) (Q : State → Prop) (A : Nat → Prop) (dC : Nat → ClassId) (dI : Nat → Nat → Nat) (a : Nat → Nat) (ac : Nat → ClassId) (g : Int32 → Int32 → Int32 → (St × (St) × (St × (St × (St))) × (St) × (St)) → Option (Int32 × (St × (St) × (St × (St × (St))) × (St) × (St)))) (r : Int32 × (St × (St) × (St × (St × (St))) × (St) × (St))) : Prop := ∀ (x1 : Int32) (x2 : Int32) (y1 : Int32) (s0 : St × (St) × (St × (St × (St))) × (St) × (St)) (H : Heap) (locs : List Loc) (ls : Array Slot), g x1 x2 y1 s0 = some r → va_P (dC, dI) vwCl (dw_X19 a ac s0) H → va_D A (dw_X19 a ac s0) → va_S A s.heap H locs → lv_has ls 5 [(0, .ref (a 0)), (1, .int x1), (2, .int x2)] → W p l e (headSpec ow_dm_X19_backTo ({ frames := 9, cells := 0, slots := 0, locals := 204 })).room s m args below meth c H locs 0 0 Q (F0 m 20 ls [.int y1, .ref (a 0)])
def dj_X19_backTo_0 (p : Program) (l : Launch) (e : Env) (s : State) (m : MethodId) (args : Array Value) (below : List Frame) (meth : Method) (c : Code) (Q : State → Prop) (A : Nat → Prop) (dC : Nat → ClassId) (dI : Nat → Nat → Nat) (a : Nat → Nat) (ac : Nat → ClassId) (g : Int32 → (St × (St) × (St × (St × (St))) × (St) × (St)) → Option (Int32 × (St × (St) × (St × (St × (St))) × (St) × (St)))) (r : Int32 × (St × (St) × (St × (St × (St))) × (St) × (St))) : Prop := ∀ (v0 : Int32) (s0 : St × (St) × (St × (St × (St))) × (St) × (St)) (H : Heap) (locs : List Loc) (ls : Array Slot), g v0 s0 = some r → va_P (dC, dI) vwCl (dw_X19 a ac s0) H → va_D A (dw_X19 a ac s0) → va_S A s.heap H locs → lv_has ls 5 [(0, .ref (a 0)), (1, .int v0)] → W p l e (headSpec ow_dm_X19_backTo ({ frames := 9, cells := 0, slots := 0, locals := 204 })).room s m args below meth c H locs 0 0 Q (F0 m 0 ls [])
set_option maxHeartbeats 40000000 in
set_option maxRecDepth 100000 in
theorem db_X19_backTo_149 {p : Program} {l : Launch} {e : Env} {s : State} {m : MethodId} {args : Array Value} {below : List Frame} {meth : Method} {c : Code} {Q : State → Prop} {A : Nat → Prop} {dC : Nat → ClassId} {dI : Nat → Nat → Nat} {a : Nat → Nat} {ac : Nat → ClassId} {n : Nat} {r : Int32 × (St × (St) × (St × (St × (St))) × (St) × (St))} (C : nd_C p l s m args c A (dC, dI) cX19_backTo 5 RX19 ow_dm_X19_backTo (dk_X19 ac)) (K : nd_Ki p l e (headSpec ow_dm_X19_backTo ({ frames := 9, cells := 0, slots := 0, locals := 204 })).room s m args below meth c Q A (dC, dI) cX19_backTo .int (St × (St) × (St × (St × (St))) × (St) × (St)) (dw_X19 a ac) r) : dj_X19_backTo_149 p l e s m args below meth c Q A dC dI a ac (df_X19_backTo_149 n) r := by
  obtain ⟨hlt, hx, hb, hml, hown, hts, hN, hA, hK⟩ := id C
  intro x3 y1 s0 H locs ls h hP hD hS hl
  unfold df_X19_backTo_149 at h
  refine va_put (D := (dC, dI)) (ci := 20) (v := .int y1) (ty := .int) (C := RX19) (T := TX19) (N := 36) hx hb hts hi_dm_X19_backTo_X19 tyX19 tyX19_ok nmX19 hown hK hP hD hS 0 rfl rfl 19 (by decide) (hts (.fieldLink RX19 234 "TimeMachineModel" "now" "I") (List.mem_of_getElem? (i := 11) rfl)) (fun _ h9 => h9) rfl (by decide +kernel) rfl rfl (Nat.le_of_ble_eq_true rfl) dX19_backTo_149 (fun H locs hP hD hS => ?_)
  obtain ⟨s15, es15, h⟩ := nd_let_e h
  have hP : va_P (dC, dI) vwCl (dw_X19 a ac s15) H := by rw [es15]; exact hP
  have hD : va_D A (dw_X19 a ac s15) := by rw [es15]; exact hD
  refine lv_iload_n hx hb dX19_backTo_152 rfl (lv_at hl 0 rfl) ?_
  exact K _ _ _ _ _ _ dX19_backTo_153 rfl (Option.some.inj h).symm hP hD hS
set_option maxHeartbeats 40000000 in
set_option maxRecDepth 100000 in
theorem db_X19_backTo_129 {p : Program} {l : Launch} {e : Env} {s : State} {m : MethodId} {args : Array Value} {below : List Frame} {meth : Method} {c : Code} {Q : State → Prop} {A : Nat → Prop} {dC : Nat → ClassId} {dI : Nat → Nat → Nat} {a : Nat → Nat} {ac : Nat → ClassId} {n : Nat} {r : Int32 × (St × (St) × (St × (St × (St))) × (St) × (St))} (C : nd_C p l s m args c A (dC, dI) cX19_backTo 5 RX19 ow_dm_X19_backTo (dk_X19 ac)) (K : nd_Ki p l e (headSpec ow_dm_X19_backTo ({ frames := 9, cells := 0, slots := 0, locals := 204 })).room s m args below meth c Q A (dC, dI) cX19_backTo .int (St × (St) × (St × (St × (St))) × (St) × (St)) (dw_X19 a ac) r) {g67 : Int32 → Int32 → Int32 → (St × (St) × (St × (St × (St))) × (St) × (St)) → Option (Int32 × (St × (St) × (St × (St × (St))) × (St) × (St)))} (J67 : dj_X19_backTo_67 p l e s m args below meth c Q A dC dI a ac g67 r) : dj_X19_backTo_129 p l e s m args below meth c Q A dC dI a ac (df_X19_backTo_129 n g67) r := by
  obtain ⟨hlt, hx, hb, hml, hown, hts, hN, hA, hK⟩ := id C
  intro x1 x3 x4 s0 H locs ls h hP hD hS hl
  unfold df_X19_backTo_129 at h
  obtain ⟨z27, ez27, h⟩ := nd_let_e h
  refine lv_iinc (v := z27) (lv' := [(4, .int z27), (0, .ref (a 0)), (1, .int x1), (3, .int x3)]) hx hb dX19_backTo_129 hl (k := 3) rfl (by rw [ez27]) (by decide) rfl (fun ls hl => ?_)
  refine lv_goto (tgt := 67) hx hb dX19_backTo_132 (by decide) ?_
  exact (J67) (x1) (x3) (z27) s0 _ _ _ h hP hD hS (lv_sub hl [1, 2, 3, 0] rfl)
set_option maxHeartbeats 40000000 in
set_option maxRecDepth 100000 in
theorem db_X19_backTo_105 {p : Program} {l : Launch} {e : Env} {s : State} {m : MethodId} {args : Array Value} {below : List Frame} {meth : Method} {c : Code} {Q : State → Prop} {A : Nat → Prop} {dC : Nat → ClassId} {dI : Nat → Nat → Nat} {a : Nat → Nat} {ac : Nat → ClassId} {n : Nat} {r : Int32 × (St × (St) × (St × (St × (St))) × (St) × (St))} (C : nd_C p l s m args c A (dC, dI) cX19_backTo 5 RX19 ow_dm_X19_backTo (dk_X19 ac)) (K : nd_Ki p l e (headSpec ow_dm_X19_backTo ({ frames := 9, cells := 0, slots := 0, locals := 204 })).room s m args below meth c Q A (dC, dI) cX19_backTo .int (St × (St) × (St × (St × (St))) × (St) × (St)) (dw_X19 a ac) r) {g67 : Int32 → Int32 → Int32 → (St × (St) × (St × (St × (St))) × (St) × (St)) → Option (Int32 × (St × (St) × (St × (St × (St))) × (St) × (St)))} (J67 : dj_X19_backTo_67 p l e s m args below meth c Q A dC dI a ac g67 r) : dj_X19_backTo_105 p l e s m args below meth c Q A dC dI a ac (df_X19_backTo_105 n g67) r := by
  obtain ⟨hlt, hx, hb, hml, hown, hts, hN, hA, hK⟩ := id C
  intro x1 x3 x4 s0 H locs ls h hP hD hS hl
  unfold df_X19_backTo_105 at h
  refine lv_aload_n hx hb dX19_backTo_105 rfl (lv_at hl 0 rfl) ?_
  refine va_get (D := (dC, dI)) (ci := 20) (v := .ref (a 27)) (C := RX19) (T := TX19) (N := 36) hx hb hts hi_dm_X19_backTo_X19 hown hK hP 0 rfl rfl 14 (by decide) (hts (.fieldLink RX19 67 "TimeMachineModel" "conditions" "LTimeMachineModel$Conditions;") (List.mem_of_getElem? (i := 12) rfl)) (fun _ h9 => h9) rfl dX19_backTo_106 ?_
  refine lv_iload_n hx hb dX19_backTo_109 rfl (lv_at hl 1 rfl) ?_
  obtain ⟨s23, hq, h⟩ := nd_b1_e h
  have hPc := dp_X19_27 hP
  have hDc := dd_X19_27 hD
  have hKc := dy_X19_27 hK
  have hFc := nd_rs hDc hS hA
  have hzA : ∀ q : Nat, H.size ≤ q → A q := fun q h => hA q (Nat.le_trans hS.1 h)
  refine nd_cVv (As := [.int x1]) (rest := []) (w' := dw_X15 (fun k => a (k + 27)) (fun k => ac (k + 27)) s23) ⟨hx, hb, hml, hown, hts⟩ (fun sz => dm_X15_remember l hlt dC dI (fun k => a (k + 27)) (fun k => ac (k + 27)) n (x1) s0.2.2.1 hq sz) (cwV 1 hts gi_dm_X19_backTo_4 rfl rfl rfl (by decide +kernel) ⟨Nat.le_of_ble_eq_true rfl, Nat.le_of_ble_eq_true rfl⟩) hPc hDc hKc hS hA hN (va_recv hKc hPc (ci := 16) (q0 := 0) rfl rfl) rfl hl.1 rfl (Nat.le_of_ble_eq_true rfl) dX19_backTo_110 (fun H locs hP1 hD1 hk1 hS => ?_)
  obtain ⟨hP, hD⟩ := dn_X19_27 hP hD hzA hk1 hP1 hD1
  obtain ⟨s25, es25, h⟩ := nd_let_e h
  have hP : va_P (dC, dI) vwCl (dw_X19 a ac s25) H := by rw [es25]; exact hP
  have hD : va_D A (dw_X19 a ac s25) := by rw [es25]; exact hD
  refine lv_iload hx hb dX19_backTo_113 (lv_at hl 3 rfl) ?_
  refine lv_iconst (v := 1) hx hb dX19_backTo_115 (by decide) ?_
  refine lv_iadd hx hb dX19_backTo_116 ?_
  refine lv_aload_n hx hb dX19_backTo_117 rfl (lv_at hl 0 rfl) ?_
  refine va_get (D := (dC, dI)) (ci := 20) (v := .int (sI s25.1 5)) (C := RX19) (T := TX19) (N := 36) hx hb hts hi_dm_X19_backTo_X19 hown hK hP 0 rfl rfl 19 (by decide) (hts (.fieldLink RX19 234 "TimeMachineModel" "now" "I") (List.mem_of_getElem? (i := 11) rfl)) (fun _ h9 => h9) rfl dX19_backTo_118 ?_
  refine lv_icmp_ge (tgt := 129) hx hb dX19_backTo_121 (by decide) (fun c26 => ?_) (fun c26 => ?_)
  · have h := nd_pos h c26
    exact (db_X19_backTo_129 C K J67) (x1) (x3) (x4) s25 _ _ _ h hP hD hS (lv_sub hl [0, 1, 2, 3] rfl)
  · have h := nd_neg h c26
    refine lv_aload_n hx hb dX19_backTo_124 rfl (lv_at hl 0 rfl) ?_
    obtain ⟨q28, s29, hq, h⟩ := nd_b2_e h
    have hPc := hP
    have hDc := hD
    have hKc := hK
    have hFc := nd_rs hD hS hA
    refine nd_cVi (As := []) (rest := []) (q := q28) (w' := dw_X19 a ac s29) ⟨hx, hb, hml, hown, hts⟩ (fun sz => dm_X19_tick l hlt dC dI a ac n  s25 hq sz) (cwV 0 hts gi_dm_X19_backTo_5 rfl rfl rfl (by decide +kernel) ⟨Nat.le_of_ble_eq_true rfl, Nat.le_of_ble_eq_true rfl⟩) hPc hDc hKc hS hA hN (va_recv hKc hPc (ci := 20) (q0 := 0) rfl rfl) rfl hl.1 rfl (Nat.le_of_ble_eq_true rfl) dX19_backTo_125 (fun H locs hP1 hD1 hk1 hS => ?_)
    have hP := hP1
    have hD := hD1.weaken (fun k q _ h => hFc q.1 h)
    refine lv_pop hx hb dX19_backTo_128 rfl ?_
    exact (db_X19_backTo_129 C K J67) (x1) (x3) (x4) s29 _ _ _ h hP hD hS (lv_sub hl [0, 1, 2, 3] rfl)
set_option maxHeartbeats 40000000 in
set_option maxRecDepth 100000 in
theorem db_X19_backTo_89 {p : Program} {l : Launch} {e : Env} {s : State} {m : MethodId} {args : Array Value} {below : List Frame} {meth : Method} {c : Code} {Q : State → Prop} {A : Nat → Prop} {dC : Nat → ClassId} {dI : Nat → Nat → Nat} {a : Nat → Nat} {ac : Nat → ClassId} {n : Nat} {r : Int32 × (St × (St) × (St × (St × (St))) × (St) × (St))} (C : nd_C p l s m args c A (dC, dI) cX19_backTo 5 RX19 ow_dm_X19_backTo (dk_X19 ac)) (K : nd_Ki p l e (headSpec ow_dm_X19_backTo ({ frames := 9, cells := 0, slots := 0, locals := 204 })).room s m args below meth c Q A (dC, dI) cX19_backTo .int (St × (St) × (St × (St × (St))) × (St) × (St)) (dw_X19 a ac) r) {g67 : Int32 → Int32 → Int32 → (St × (St) × (St × (St × (St))) × (St) × (St)) → Option (Int32 × (St × (St) × (St × (St × (St))) × (St) × (St)))} (J67 : dj_X19_backTo_67 p l e s m args below meth c Q A dC dI a ac g67 r) : dj_X19_backTo_89 p l e s m args below meth c Q A dC dI a ac (df_X19_backTo_89 n g67) r := by
  obtain ⟨hlt, hx, hb, hml, hown, hts, hN, hA, hK⟩ := id C
  intro x1 x3 x4 s0 H locs ls h hP hD hS hl
  unfold df_X19_backTo_89 at h
  refine lv_aload_n hx hb dX19_backTo_89 rfl (lv_at hl 0 rfl) ?_
  refine va_get (D := (dC, dI)) (ci := 20) (v := .ref (a 27)) (C := RX19) (T := TX19) (N := 36) hx hb hts hi_dm_X19_backTo_X19 hown hK hP 0 rfl rfl 14 (by decide) (hts (.fieldLink RX19 67 "TimeMachineModel" "conditions" "LTimeMachineModel$Conditions;") (List.mem_of_getElem? (i := 12) rfl)) (fun _ h9 => h9) rfl dX19_backTo_90 ?_
  refine lv_iload_n hx hb dX19_backTo_93 rfl (lv_at hl 1 rfl) ?_
  obtain ⟨q17, s18, hq, h⟩ := nd_b2_e h
  have hPc := dp_X19_27 hP
  have hDc := dd_X19_27 hD
  have hKc := dy_X19_27 hK
  have hFc := nd_rs hDc hS hA
  have hzA : ∀ q : Nat, H.size ≤ q → A q := fun q h => hA q (Nat.le_trans hS.1 h)
  refine nd_cVl (As := [.int x1]) (rest := []) (q := q17) (w' := dw_X15 (fun k => a (k + 27)) (fun k => ac (k + 27)) s18) ⟨hx, hb, hml, hown, hts⟩ (fun sz => dm_X15_value l hlt dC dI (fun k => a (k + 27)) (fun k => ac (k + 27)) n (x1) s0.2.2.1 hq sz) (cwV 1 hts gi_dm_X19_backTo_3 rfl rfl rfl (by decide +kernel) ⟨Nat.le_of_ble_eq_true rfl, Nat.le_of_ble_eq_true rfl⟩) hPc hDc hKc hS hA hN (va_recv hKc hPc (ci := 16) (q0 := 0) rfl rfl) rfl hl.1 rfl (Nat.le_of_ble_eq_true rfl) dX19_backTo_94 (fun H locs hP1 hD1 hk1 hS => ?_)
  obtain ⟨hP, hD⟩ := dn_X19_27 hP hD hzA hk1 hP1 hD1
  obtain ⟨s20, es20, h⟩ := nd_let_e h
  have hP : va_P (dC, dI) vwCl (dw_X19 a ac s20) H := by rw [es20]; exact hP
  have hD : va_D A (dw_X19 a ac s20) := by rw [es20]; exact hD
  refine lv_lconst (v := 0) hx hb dX19_backTo_97 (by decide) ?_
  refine W.lcmp hx hb dX19_backTo_98 ?_
  refine lv_if_eq (tgt := 105) hx hb dX19_backTo_99 (by decide) (fun c21 => ?_) (fun c21 => ?_)
  · have h := nd_pos h c21
    exact (db_X19_backTo_105 C K J67) (x1) (x3) (x4) s20 _ _ _ h hP hD hS (lv_sub hl [0, 1, 2, 3] rfl)
  · have h := nd_neg h c21
    refine lv_iload hx hb dX19_backTo_102 (lv_at hl 3 rfl) ?_
    refine lv_istore_n (lv' := [(3, .int x4), (0, .ref (a 0)), (1, .int x1), (4, .int x4)]) hx hb dX19_backTo_104 rfl hl (by decide) rfl (fun ls hl => ?_)
    exact (db_X19_backTo_105 C K J67) (x1) (x4) (x4) s20 _ _ _ h hP hD hS (lv_sub hl [1, 2, 0, 3] rfl)
set_option maxHeartbeats 40000000 in
set_option maxRecDepth 100000 in
theorem dB_X19_backTo_67 {p : Program} {l : Launch} {e : Env} {s : State} {m : MethodId} {args : Array Value} {below : List Frame} {meth : Method} {c : Code} {Q : State → Prop} {A : Nat → Prop} {dC : Nat → ClassId} {dI : Nat → Nat → Nat} {a : Nat → Nat} {ac : Nat → ClassId} {n : Nat} {r : Int32 × (St × (St) × (St × (St × (St))) × (St) × (St))} (C : nd_C p l s m args c A (dC, dI) cX19_backTo 5 RX19 ow_dm_X19_backTo (dk_X19 ac)) (K : nd_Ki p l e (headSpec ow_dm_X19_backTo ({ frames := 9, cells := 0, slots := 0, locals := 204 })).room s m args below meth c Q A (dC, dI) cX19_backTo .int (St × (St) × (St × (St × (St))) × (St) × (St)) (dw_X19 a ac) r) {g67 : Int32 → Int32 → Int32 → (St × (St) × (St × (St × (St))) × (St) × (St)) → Option (Int32 × (St × (St) × (St × (St × (St))) × (St) × (St)))} (J67 : dj_X19_backTo_67 p l e s m args below meth c Q A dC dI a ac g67 r) : dj_X19_backTo_67 p l e s m args below meth c Q A dC dI a ac (dF_X19_backTo_67 n g67) r := by
  obtain ⟨hlt, hx, hb, hml, hown, hts, hN, hA, hK⟩ := id C
  intro x1 x3 x4 s0 H locs ls h hP hD hS hl
  unfold dF_X19_backTo_67 at h
  refine lv_iload hx hb dX19_backTo_67 (lv_at hl 3 rfl) ?_
  refine lv_aload_n hx hb dX19_backTo_69 rfl (lv_at hl 0 rfl) ?_
  refine va_get (D := (dC, dI)) (ci := 20) (v := .int (sI s0.1 5)) (C := RX19) (T := TX19) (N := 36) hx hb hts hi_dm_X19_backTo_X19 hown hK hP 0 rfl rfl 19 (by decide) (hts (.fieldLink RX19 234 "TimeMachineModel" "now" "I") (List.mem_of_getElem? (i := 11) rfl)) (fun _ h9 => h9) rfl dX19_backTo_70 ?_
  refine lv_icmp_ge (tgt := 135) hx hb dX19_backTo_73 (by decide) (fun c13 => ?_) (fun c13 => ?_)
  · have h := nd_pos h c13
    refine lv_aload_n hx hb dX19_backTo_135 rfl (lv_at hl 0 rfl) ?_
    refine lv_iload_n hx hb dX19_backTo_136 rfl (lv_at hl 2 rfl) ?_
    refine lv_iconst (v := (-1)) hx hb dX19_backTo_137 (by decide) ?_
    refine lv_icmp_ne (tgt := 148) hx hb dX19_backTo_138 (by decide) (fun c14 => ?_) (fun c14 => ?_)
    · have h := nd_neg h c14
      refine lv_iload_n hx hb dX19_backTo_148 rfl (lv_at hl 2 rfl) ?_
      exact (db_X19_backTo_149 C K) (x3) (x3) s0 _ _ _ h hP hD hS (lv_sub hl [2] rfl)
    · have h := nd_pos h c14
      refine lv_aload_n hx hb dX19_backTo_141 rfl (lv_at hl 0 rfl) ?_
      refine va_get (D := (dC, dI)) (ci := 20) (v := .int (sI s0.1 5)) (C := RX19) (T := TX19) (N := 36) hx hb hts hi_dm_X19_backTo_X19 hown hK hP 0 rfl rfl 19 (by decide) (hts (.fieldLink RX19 234 "TimeMachineModel" "now" "I") (List.mem_of_getElem? (i := 11) rfl)) (fun _ h9 => h9) rfl dX19_backTo_142 ?_
      refine lv_goto (tgt := 149) hx hb dX19_backTo_145 (by decide) ?_
      exact (db_X19_backTo_149 C K) (x3) ((sI s0.1 5)) s0 _ _ _ h hP hD hS (lv_sub hl [2] rfl)
  · have h := nd_neg h c13
    refine lv_iload hx hb dX19_backTo_76 (lv_at hl 3 rfl) ?_
    refine lv_if_ne (tgt := 89) hx hb dX19_backTo_78 (by decide) (fun c16 => ?_) (fun c16 => ?_)
    · have h := nd_neg h c16
      exact (db_X19_backTo_89 C K J67) (x1) (x3) (x4) s0 _ _ _ h hP hD hS (lv_sub hl [0, 1, 2, 3] rfl)
    · have h := nd_pos h c16
      refine lv_aload_n hx hb dX19_backTo_81 rfl (lv_at hl 0 rfl) ?_
      refine va_get (D := (dC, dI)) (ci := 20) (v := .ref (a 27)) (C := RX19) (T := TX19) (N := 36) hx hb hts hi_dm_X19_backTo_X19 hown hK hP 0 rfl rfl 14 (by decide) (hts (.fieldLink RX19 67 "TimeMachineModel" "conditions" "LTimeMachineModel$Conditions;") (List.mem_of_getElem? (i := 12) rfl)) (fun _ h9 => h9) rfl dX19_backTo_82 ?_
      refine lv_iload_n hx hb dX19_backTo_85 rfl (lv_at hl 1 rfl) ?_
      obtain ⟨s32, hq, h⟩ := nd_b1_e h
      have hPc := dp_X19_27 hP
      have hDc := dd_X19_27 hD
      have hKc := dy_X19_27 hK
      have hFc := nd_rs hDc hS hA
      have hzA : ∀ q : Nat, H.size ≤ q → A q := fun q h => hA q (Nat.le_trans hS.1 h)
      refine nd_cVv (As := [.int x1]) (rest := []) (w' := dw_X15 (fun k => a (k + 27)) (fun k => ac (k + 27)) s32) ⟨hx, hb, hml, hown, hts⟩ (fun sz => dm_X15_remember l hlt dC dI (fun k => a (k + 27)) (fun k => ac (k + 27)) n (x1) s0.2.2.1 hq sz) (cwV 1 hts gi_dm_X19_backTo_4 rfl rfl rfl (by decide +kernel) ⟨Nat.le_of_ble_eq_true rfl, Nat.le_of_ble_eq_true rfl⟩) hPc hDc hKc hS hA hN (va_recv hKc hPc (ci := 16) (q0 := 0) rfl rfl) rfl hl.1 rfl (Nat.le_of_ble_eq_true rfl) dX19_backTo_86 (fun H locs hP1 hD1 hk1 hS => ?_)
      obtain ⟨hP, hD⟩ := dn_X19_27 hP hD hzA hk1 hP1 hD1
      obtain ⟨s34, es34, h⟩ := nd_let_e h
      have hP : va_P (dC, dI) vwCl (dw_X19 a ac s34) H := by rw [es34]; exact hP
      have hD : va_D A (dw_X19 a ac s34) := by rw [es34]; exact hD
      exact (db_X19_backTo_89 C K J67) (x1) (x3) (x4) s34 _ _ _ h hP hD hS (lv_sub hl [0, 1, 2, 3] rfl)
set_option maxHeartbeats 40000000 in
set_option maxRecDepth 100000 in
theorem db_X19_backTo_67 {p : Program} {l : Launch} {e : Env} {s : State} {m : MethodId} {args : Array Value} {below : List Frame} {meth : Method} {c : Code} {Q : State → Prop} {A : Nat → Prop} {dC : Nat → ClassId} {dI : Nat → Nat → Nat} {a : Nat → Nat} {ac : Nat → ClassId} {n : Nat} {r : Int32 × (St × (St) × (St × (St × (St))) × (St) × (St))} (C : nd_C p l s m args c A (dC, dI) cX19_backTo 5 RX19 ow_dm_X19_backTo (dk_X19 ac)) (K : nd_Ki p l e (headSpec ow_dm_X19_backTo ({ frames := 9, cells := 0, slots := 0, locals := 204 })).room s m args below meth c Q A (dC, dI) cX19_backTo .int (St × (St) × (St × (St × (St))) × (St) × (St)) (dw_X19 a ac) r) (k : Nat) : dj_X19_backTo_67 p l e s m args below meth c Q A dC dI a ac (df_X19_backTo_67 n k) r := by
  induction k with
  | zero => intro x1 x3 x4 s0 H locs ls h; exact nomatch (show (none : Option (Int32 × (St × (St) × (St × (St × (St))) × (St) × (St)))) = some r from h)
  | succ k ih => exact dB_X19_backTo_67 C K ih
set_option maxHeartbeats 40000000 in
set_option maxRecDepth 100000 in
theorem db_X19_backTo_50 {p : Program} {l : Launch} {e : Env} {s : State} {m : MethodId} {args : Array Value} {below : List Frame} {meth : Method} {c : Code} {Q : State → Prop} {A : Nat → Prop} {dC : Nat → ClassId} {dI : Nat → Nat → Nat} {a : Nat → Nat} {ac : Nat → ClassId} {n : Nat} {r : Int32 × (St × (St) × (St × (St × (St))) × (St) × (St))} (C : nd_C p l s m args c A (dC, dI) cX19_backTo 5 RX19 ow_dm_X19_backTo (dk_X19 ac)) (K : nd_Ki p l e (headSpec ow_dm_X19_backTo ({ frames := 9, cells := 0, slots := 0, locals := 204 })).room s m args below meth c Q A (dC, dI) cX19_backTo .int (St × (St) × (St × (St × (St))) × (St) × (St)) (dw_X19 a ac) r) : dj_X19_backTo_50 p l e s m args below meth c Q A dC dI a ac (df_X19_backTo_50 n) r := by
  obtain ⟨hlt, hx, hb, hml, hown, hts, hN, hA, hK⟩ := id C
  intro x1 y1 y2 s0 H locs ls h hP hD hS hl
  unfold df_X19_backTo_50 at h
  obtain ⟨q6, s7, hq, h⟩ := nd_b2_e h
  have hPc := hP
  have hDc := hD
  have hKc := hK
  have hFc := nd_rs hD hS hA
  refine nd_cVi (As := [.int y1, .int y2]) (rest := []) (q := q6) (w' := dw_X19 a ac s7) ⟨hx, hb, hml, hown, hts⟩ (fun sz => dm_X19_fails l hlt dC dI a ac n (y1) (y2) s0 hq sz) (cwV 2 hts gi_dm_X19_backTo_1 rfl rfl rfl (by decide +kernel) ⟨Nat.le_of_ble_eq_true rfl, Nat.le_of_ble_eq_true rfl⟩) hPc hDc hKc hS hA hN (va_recv hKc hPc (ci := 20) (q0 := 0) rfl rfl) rfl hl.1 rfl (Nat.le_of_ble_eq_true rfl) dX19_backTo_50 (fun H locs hP1 hD1 hk1 hS => ?_)
  have hP := hP1
  have hD := hD1.weaken (fun k q _ h => hFc q.1 h)
  refine lv_if_eq (tgt := 58) hx hb dX19_backTo_53 (by decide) (fun c9 => ?_) (fun c9 => ?_)
  · have h := nd_pos h c9
    refine lv_iconst (v := (-1)) hx hb dX19_backTo_58 (by decide) ?_
    refine lv_istore_n (lv' := [(3, .int (-1)), (0, .ref (a 0)), (1, .int x1)]) hx hb dX19_backTo_59 rfl hl (by decide) rfl (fun ls hl => ?_)
    refine lv_aload_n hx hb dX19_backTo_60 rfl (lv_at hl 1 rfl) ?_
    obtain ⟨s11, hq, h⟩ := nd_b1_e h
    have hPc := hP
    have hDc := hD
    have hKc := hK
    have hFc := nd_rs hD hS hA
    refine nd_cVv (As := []) (rest := []) (w' := dw_X19 a ac s11) ⟨hx, hb, hml, hown, hts⟩ (fun sz => dm_X19_anew l hlt dC dI a ac n  s7 hq sz) (cwV 0 hts gi_dm_X19_backTo_2 rfl rfl rfl (by decide +kernel) ⟨Nat.le_of_ble_eq_true rfl, Nat.le_of_ble_eq_true rfl⟩) hPc hDc hKc hS hA hN (va_recv hKc hPc (ci := 20) (q0 := 0) rfl rfl) rfl hl.1 rfl (Nat.le_of_ble_eq_true rfl) dX19_backTo_61 (fun H locs hP1 hD1 hk1 hS => ?_)
    have hP := hP1
    have hD := hD1.weaken (fun k q _ h => hFc q.1 h)
    refine lv_iconst (v := 0) hx hb dX19_backTo_64 (by decide) ?_
    refine lv_istore (lv' := [(4, .int 0), (3, .int (-1)), (0, .ref (a 0)), (1, .int x1)]) hx hb dX19_backTo_65 hl (by decide) rfl (fun ls hl => ?_)
    exact (db_X19_backTo_67 C K n) (x1) ((-1)) (0) s11 _ _ _ h hP hD hS (lv_sub hl [2, 3, 1, 0] rfl)
  · have h := nd_neg h c9
    refine lv_iconst (v := 0) hx hb dX19_backTo_56 (by decide) ?_
    exact K _ _ _ _ _ _ dX19_backTo_57 rfl (Option.some.inj h).symm hP hD hS
set_option maxHeartbeats 40000000 in
set_option maxRecDepth 100000 in
theorem db_X19_backTo_49 {p : Program} {l : Launch} {e : Env} {s : State} {m : MethodId} {args : Array Value} {below : List Frame} {meth : Method} {c : Code} {Q : State → Prop} {A : Nat → Prop} {dC : Nat → ClassId} {dI : Nat → Nat → Nat} {a : Nat → Nat} {ac : Nat → ClassId} {n : Nat} {r : Int32 × (St × (St) × (St × (St × (St))) × (St) × (St))} (C : nd_C p l s m args c A (dC, dI) cX19_backTo 5 RX19 ow_dm_X19_backTo (dk_X19 ac)) (K : nd_Ki p l e (headSpec ow_dm_X19_backTo ({ frames := 9, cells := 0, slots := 0, locals := 204 })).room s m args below meth c Q A (dC, dI) cX19_backTo .int (St × (St) × (St × (St × (St))) × (St) × (St)) (dw_X19 a ac) r) : dj_X19_backTo_49 p l e s m args below meth c Q A dC dI a ac (df_X19_backTo_49 n) r := by
  obtain ⟨hlt, hx, hb, hml, hown, hts, hN, hA, hK⟩ := id C
  intro x1 y1 s0 H locs ls h hP hD hS hl
  unfold df_X19_backTo_49 at h
  refine lv_iconst (v := 0) hx hb dX19_backTo_49 (by decide) ?_
  exact (db_X19_backTo_50 C K) (x1) (y1) (0) s0 _ _ _ h hP hD hS (lv_sub hl [0, 1] rfl)
set_option maxHeartbeats 40000000 in
set_option maxRecDepth 100000 in
theorem db_X19_backTo_45 {p : Program} {l : Launch} {e : Env} {s : State} {m : MethodId} {args : Array Value} {below : List Frame} {meth : Method} {c : Code} {Q : State → Prop} {A : Nat → Prop} {dC : Nat → ClassId} {dI : Nat → Nat → Nat} {a : Nat → Nat} {ac : Nat → ClassId} {n : Nat} {r : Int32 × (St × (St) × (St × (St × (St))) × (St) × (St))} (C : nd_C p l s m args c A (dC, dI) cX19_backTo 5 RX19 ow_dm_X19_backTo (dk_X19 ac)) (K : nd_Ki p l e (headSpec ow_dm_X19_backTo ({ frames := 9, cells := 0, slots := 0, locals := 204 })).room s m args below meth c Q A (dC, dI) cX19_backTo .int (St × (St) × (St × (St × (St))) × (St) × (St)) (dw_X19 a ac) r) : dj_X19_backTo_45 p l e s m args below meth c Q A dC dI a ac (df_X19_backTo_45 n) r := by
  obtain ⟨hlt, hx, hb, hml, hown, hts, hN, hA, hK⟩ := id C
  intro x1 y1 s0 H locs ls h hP hD hS hl
  unfold df_X19_backTo_45 at h
  refine lv_iconst (v := 1) hx hb dX19_backTo_45 (by decide) ?_
  refine lv_goto (tgt := 50) hx hb dX19_backTo_46 (by decide) ?_
  exact (db_X19_backTo_50 C K) (x1) (y1) (1) s0 _ _ _ h hP hD hS (lv_sub hl [0, 1] rfl)
set_option maxHeartbeats 40000000 in
set_option maxRecDepth 100000 in
theorem db_X19_backTo_20 {p : Program} {l : Launch} {e : Env} {s : State} {m : MethodId} {args : Array Value} {below : List Frame} {meth : Method} {c : Code} {Q : State → Prop} {A : Nat → Prop} {dC : Nat → ClassId} {dI : Nat → Nat → Nat} {a : Nat → Nat} {ac : Nat → ClassId} {n : Nat} {r : Int32 × (St × (St) × (St × (St × (St))) × (St) × (St))} (C : nd_C p l s m args c A (dC, dI) cX19_backTo 5 RX19 ow_dm_X19_backTo (dk_X19 ac)) (K : nd_Ki p l e (headSpec ow_dm_X19_backTo ({ frames := 9, cells := 0, slots := 0, locals := 204 })).room s m args below meth c Q A (dC, dI) cX19_backTo .int (St × (St) × (St × (St × (St))) × (St) × (St)) (dw_X19 a ac) r) : dj_X19_backTo_20 p l e s m args below meth c Q A dC dI a ac (df_X19_backTo_20 n) r := by
  obtain ⟨hlt, hx, hb, hml, hown, hts, hN, hA, hK⟩ := id C
  intro x1 x2 y1 s0 H locs ls h hP hD hS hl
  unfold df_X19_backTo_20 at h
  refine lv_iload_n hx hb dX19_backTo_20 rfl (lv_at hl 2 rfl) ?_
  refine lv_if_eq (tgt := 49) hx hb dX19_backTo_21 (by decide) (fun c5 => ?_) (fun c5 => ?_)
  · have h := nd_pos h c5
    exact (db_X19_backTo_49 C K) (x1) (y1) s0 _ _ _ h hP hD hS (lv_sub hl [0, 1] rfl)
  · have h := nd_neg h c5
    refine lv_aload_n hx hb dX19_backTo_24 rfl (lv_at hl 0 rfl) ?_
    refine va_get (D := (dC, dI)) (ci := 20) (v := .int (sI s0.1 3)) (C := RX19) (T := TX19) (N := 36) hx hb hts hi_dm_X19_backTo_X19 hown hK hP 0 rfl rfl 17 (by decide) (hts (.fieldLink RX19 231 "TimeMachineModel" "booted" "Z") (List.mem_of_getElem? (i := 23) rfl)) (fun _ h9 => h9) rfl dX19_backTo_25 ?_
    refine lv_if_eq (tgt := 45) hx hb dX19_backTo_28 (by decide) (fun c35 => ?_) (fun c35 => ?_)
    · have h := nd_pos h c35
      exact (db_X19_backTo_45 C K) (x1) (y1) s0 _ _ _ h hP hD hS (lv_sub hl [0, 1] rfl)
    · have h := nd_neg h c35
      refine lv_aload_n hx hb dX19_backTo_31 rfl (lv_at hl 0 rfl) ?_
      refine va_get (D := (dC, dI)) (ci := 20) (v := .ref (a 27)) (C := RX19) (T := TX19) (N := 36) hx hb hts hi_dm_X19_backTo_X19 hown hK hP 0 rfl rfl 14 (by decide) (hts (.fieldLink RX19 67 "TimeMachineModel" "conditions" "LTimeMachineModel$Conditions;") (List.mem_of_getElem? (i := 12) rfl)) (fun _ h9 => h9) rfl dX19_backTo_32 ?_
      refine lv_iload_n hx hb dX19_backTo_35 rfl (lv_at hl 1 rfl) ?_
      refine lv_bipush (v := 7) hx hb dX19_backTo_36 (by decide) ?_
      refine lv_iand hx hb dX19_backTo_38 ?_
      obtain ⟨q36, s37, hq, h⟩ := nd_b2_e h
      have hPc := dp_X19_27 hP
      have hDc := dd_X19_27 hD
      have hKc := dy_X19_27 hK
      have hFc := nd_rs hDc hS hA
      have hzA : ∀ q : Nat, H.size ≤ q → A q := fun q h => hA q (Nat.le_trans hS.1 h)
      refine nd_cVi (As := [.int (x1 &&& 7)]) (rest := [.int y1, .ref (a 0)]) (q := q36) (w' := dw_X15 (fun k => a (k + 27)) (fun k => ac (k + 27)) s37) ⟨hx, hb, hml, hown, hts⟩ (fun sz => dm_X15_isThere l hlt dC dI (fun k => a (k + 27)) (fun k => ac (k + 27)) n ((x1 &&& 7)) s0.2.2.1 hq sz) (cwV 1 hts gi_dm_X19_backTo_6 rfl rfl rfl (by decide +kernel) ⟨Nat.le_of_ble_eq_true rfl, Nat.le_of_ble_eq_true rfl⟩) hPc hDc hKc hS hA hN (va_recv hKc hPc (ci := 16) (q0 := 0) rfl rfl) rfl hl.1 rfl (Nat.le_of_ble_eq_true rfl) dX19_backTo_39 (fun H locs hP1 hD1 hk1 hS => ?_)
      obtain ⟨hP, hD⟩ := dn_X19_27 hP hD hzA hk1 hP1 hD1
      obtain ⟨s39, es39, h⟩ := nd_let_e h
      have hP : va_P (dC, dI) vwCl (dw_X19 a ac s39) H := by rw [es39]; exact hP
      have hD : va_D A (dw_X19 a ac s39) := by rw [es39]; exact hD
      refine lv_if_ne (tgt := 49) hx hb dX19_backTo_42 (by decide) (fun c40 => ?_) (fun c40 => ?_)
      · have h := nd_neg h c40
        exact (db_X19_backTo_49 C K) (x1) (y1) s39 _ _ _ h hP hD hS (lv_sub hl [0, 1] rfl)
      · have h := nd_pos h c40
        exact (db_X19_backTo_45 C K) (x1) (y1) s39 _ _ _ h hP hD hS (lv_sub hl [0, 1] rfl)
set_option maxHeartbeats 40000000 in
set_option maxRecDepth 100000 in
theorem db_X19_backTo_0 {p : Program} {l : Launch} {e : Env} {s : State} {m : MethodId} {args : Array Value} {below : List Frame} {meth : Method} {c : Code} {Q : State → Prop} {A : Nat → Prop} {dC : Nat → ClassId} {dI : Nat → Nat → Nat} {a : Nat → Nat} {ac : Nat → ClassId} {n : Nat} {r : Int32 × (St × (St) × (St × (St × (St))) × (St) × (St))} (C : nd_C p l s m args c A (dC, dI) cX19_backTo 5 RX19 ow_dm_X19_backTo (dk_X19 ac)) (K : nd_Ki p l e (headSpec ow_dm_X19_backTo ({ frames := 9, cells := 0, slots := 0, locals := 204 })).room s m args below meth c Q A (dC, dI) cX19_backTo .int (St × (St) × (St × (St × (St))) × (St) × (St)) (dw_X19 a ac) r) : dj_X19_backTo_0 p l e s m args below meth c Q A dC dI a ac (df_X19_backTo_0 n) r := by
  obtain ⟨hlt, hx, hb, hml, hown, hts, hN, hA, hK⟩ := id C
  intro v0 s0 H locs ls h hP hD hS hl
  unfold df_X19_backTo_0 at h
  refine lv_iload_n hx hb dX19_backTo_0 rfl (lv_at hl 1 rfl) ?_
  refine lv_i2l hx hb dX19_backTo_1 rfl ?_
  refine lv_lconst (v := 0) hx hb dX19_backTo_2 (by decide) ?_
  refine lv_ldc2 hx hb hown (hts (.constantLong RX19 302 (7)) (List.mem_of_getElem? (i := 1) rfl)) dX19_backTo_3 ?_
  obtain ⟨q1, s2, hq, h⟩ := nd_b2_e h
  have hPc : va_P (dC, dI) vwCl (dw_P a ac ()) H := nd_p0
  have hDc : va_D A (dw_P a ac ()) := nd_d0
  have hKc : va_K (dC, dI) vwCl (dk_P ac) s := nd_y0 hK
  have hFc : ∀ q, va_A (dw_P a ac ()) H.size q → A q := nd_r0 hS hA
  refine nd_cSi (As := [.long (v0.toInt64), .long 0, .long 7]) (rest := []) (q := q1) (w' := dw_P a ac s2) ⟨hx, hb, hml, hown, hts⟩ (fun sz => dm_X19_in l hlt dC dI a ac n ((v0.toInt64)) (0) (7) () hq sz) (cwS 3 hts gi_dm_X19_backTo_0 rfl rfl rfl (by decide +kernel) ⟨Nat.le_of_ble_eq_true rfl, Nat.le_of_ble_eq_true rfl⟩) hPc hDc hKc hS hA hN rfl hl.1 rfl (Nat.le_of_ble_eq_true rfl) dX19_backTo_6 (fun H locs hP1 hD1 hk1 hS => ?_)
  have hP := nd_n0 hP hk1
  refine lv_istore_n (lv' := [(2, .int q1), (0, .ref (a 0)), (1, .int v0)]) hx hb dX19_backTo_9 rfl hl (by decide) rfl (fun ls hl => ?_)
  refine lv_aload_n hx hb dX19_backTo_10 rfl (lv_at hl 1 rfl) ?_
  refine lv_iload_n hx hb dX19_backTo_11 rfl (lv_at hl 0 rfl) ?_
  refine lv_if_ne (tgt := 19) hx hb dX19_backTo_12 (by decide) (fun c4 => ?_) (fun c4 => ?_)
  · have h := nd_neg h c4
    refine lv_iconst (v := 0) hx hb dX19_backTo_19 (by decide) ?_
    exact (db_X19_backTo_20 C K) (v0) (q1) (0) s0 _ _ _ h hP hD hS (lv_sub hl [1, 2, 0] rfl)
  · have h := nd_pos h c4
    refine lv_iconst (v := 1) hx hb dX19_backTo_15 (by decide) ?_
    refine lv_goto (tgt := 20) hx hb dX19_backTo_16 (by decide) ?_
    exact (db_X19_backTo_20 C K) (v0) (q1) (1) s0 _ _ _ h hP hD hS (lv_sub hl [1, 2, 0] rfl)
set_option maxHeartbeats 40000000 in
set_option maxRecDepth 100000 in
theorem dm_X19_backTo (l : Launch) (hlt : l.stackTraces = false) (dC : Nat → ClassId) (dI : Nat → Nat → Nat) (a : Nat → Nat) (ac : Nat → ClassId) (n : Nat) (v0 : Int32) (s0 : St × (St) × (St × (St × (St))) × (St) × (St)) {r : Int32 × (St × (St) × (St × (St × (St))) × (St) × (St))} (h : df_X19_backTo n v0 s0 = some r) (sz : Nat) : Met l yX19_backTo ow_dm_X19_backTo ({ frames := 9, cells := 0, slots := 0, locals := 204 }) (va_Pc [.ref (a 0), .int v0] (fun U => U.heap.size = sz ∧ va_P (dC, dI) vwCl (dw_X19 a ac s0) U.heap ∧ va_K (dC, dI) vwCl (dk_X19 ac) U ∧ va_D (fun _ => True) (dw_X19 a ac s0) ∧ nv_E (va_A (dw_X19 a ac s0) sz) U)) (va_Qi (fun x _ => x = r.1) (fun (_ : Unit) t => va_P (dC, dI) vwCl (dw_X19 a ac r.2) t.heap ∧ va_K (dC, dI) vwCl (dk_X19 ac) t ∧ va_D (va_A (dw_X19 a ac s0) sz) (dw_X19 a ac r.2)) (va_A (dw_X19 a ac s0) sz)) 0 0 (va_A (dw_X19 a ac s0) sz) := by
  refine Met.ofW (cc := cX19_backTo) (maxL := 5) (ret := (some .int)) (by decide) rfl ?_
  intro p e s m args below meth c s₁ B hml hv
  obtain ⟨rfl, hsz, hP, hK, hD0, hN⟩ := hv
  have hx := B.exec
  have hb := B.bytes
  have hr := B.returns
  have hts := atoms_spec (ws := ow_dm_X19_backTo) B.pre
  have hown : s.vm.findClass RX19 = some m.cls := findClass_of_methodNamed B.named
  have hlocks := B.notSynchronized
  subst hsz
  have hD := hD0.self (sz := s.heap.size)
  generalize hAe : va_A (dw_X19 a ac s0) s.heap.size = A at hD hN ⊢
  have hA : ∀ q : Nat, s.heap.size ≤ q → A q := fun q h => by rw [← hAe]; exact Or.inr h
  have hl := lv_entry ([.ref (a 0), .int v0]) (n := 5) (Nat.le_of_ble_eq_true rfl)
  rw [lg_entry_eq]
  generalize (lg_sl ([.ref (a 0), .int v0]) ++ List.replicate (5 - (lg_sl ([.ref (a 0), .int v0])).length) Slot.unset).toArray = ls at hl ⊢
  have hl : lv_has ls 5 [(0, .ref (a 0)), (1, .int v0)] := hl
  exact db_X19_backTo_0 (dC := dC) (dI := dI) (a := a) (ac := ac) (n := n) (r := r) ⟨hlt, hx, hb, hml, hown, hts, hN, hA, hK⟩ (fun pc v τ H locs ls d z er hP hD hS => by subst er; exact W.zret (v := v) hx hb hr z (fun t ht hW => ⟨⟨v, (), rfl, rfl, by rw [ht]; exact hP, va_K.moved hW.alike hK, hD⟩, hS.F ht⟩) hS.2.2 d) v0 s0 _ _ _ h hP hD va_S.rf (lv_sub hl [0, 1] rfl)
def ow_dm_X19_wrote : List Cond := .code yX19_wrote cX19_wrote 5 (some .int) :: ([.fieldLink RX19 113 "TimeMachineModel" "code" "I", .fieldLink RX19 231 "TimeMachineModel" "booted" "Z", .constantLong RX19 255 (15), .methodLink RX19 126 yX19_in, .static yX19_in, .initialized RX19, .methodLink RX19 206 yX19_anew, .instanceMethod yX19_anew, .selects RX19 yX19_anew yX19_anew, .fieldLink RX19 58 "TimeMachineModel" "m" "LTimeMachineModel$Machine;", .methodLink RX19 311 yX16_watch, .instanceMethod yX16_watch, .selects RX16 yX16_watch yX16_watch, .initialized RX16, .fieldLink RX19 234 "TimeMachineModel" "now" "I", .methodLink RX19 209 yX19_tick, .instanceMethod yX19_tick, .selects RX19 yX19_tick yX19_tick] ++ (u_ws RX19 TX19 36 ++ (ow_dm_X19_in ++ (ow_dm_X19_anew ++ (ow_dm_X16_watch ++ (ow_dm_X19_tick ++ []))))))
theorem gd_dm_X19_wrote : ∀ w ∈ ow_dm_X19_wrote, (w.onTables && w.keeps) = true ∨ ∃ ty, w = Cond.arrayClass ty := List.forall_mem_cons.mpr ⟨good_of_word rfl, List.forall_mem_append.mpr ⟨fun w h => good_of_word (List.all_eq_true.mp (by decide +kernel) w h), List.forall_mem_append.mpr ⟨gu_X19, List.forall_mem_append.mpr ⟨gd_dm_X19_in, List.forall_mem_append.mpr ⟨gd_dm_X19_anew, List.forall_mem_append.mpr ⟨gd_dm_X16_watch, List.forall_mem_append.mpr ⟨gd_dm_X19_tick, fun _ h => nomatch h⟩⟩⟩⟩⟩⟩⟩
theorem hi_dm_X19_wrote_X19 : ∀ w ∈ u_ws RX19 TX19 36, w ∈ ow_dm_X19_wrote := fun w h => List.mem_cons_of_mem _ (List.mem_append_right _ (List.mem_append_left _ h))
theorem gi_dm_X19_wrote_0 : GoodIn ow_dm_X19_wrote (wsS RX19 126 yX19_in ow_dm_X19_in) := goodIn_app (goodIn_of _ (by decide +kernel)) (fun w h => ⟨List.mem_cons_of_mem _ (List.mem_append_right _ (List.mem_append_right _ (List.mem_append_left _ h))), gd_dm_X19_in w h⟩)
theorem gi_dm_X19_wrote_1 : GoodIn ow_dm_X19_wrote (wsV RX19 206 RX19 yX19_anew ow_dm_X19_anew) := goodIn_app (goodIn_of _ (by decide +kernel)) (fun w h => ⟨List.mem_cons_of_mem _ (List.mem_append_right _ (List.mem_append_right _ (List.mem_append_right _ (List.mem_append_left _ h)))), gd_dm_X19_anew w h⟩)
theorem gi_dm_X19_wrote_2 : GoodIn ow_dm_X19_wrote (wsV RX19 311 RX16 yX16_watch ow_dm_X16_watch) := goodIn_app (goodIn_of _ (by decide +kernel)) (fun w h => ⟨List.mem_cons_of_mem _ (List.mem_append_right _ (List.mem_append_right _ (List.mem_append_right _ (List.mem_append_right _ (List.mem_append_left _ h))))), gd_dm_X16_watch w h⟩)
theorem gi_dm_X19_wrote_3 : GoodIn ow_dm_X19_wrote (wsV RX19 209 RX19 yX19_tick ow_dm_X19_tick) := goodIn_app (goodIn_of _ (by decide +kernel)) (fun w h => ⟨List.mem_cons_of_mem _ (List.mem_append_right _ (List.mem_append_right _ (List.mem_append_right _ (List.mem_append_right _ (List.mem_append_right _ (List.mem_append_left _ h)))))), gd_dm_X19_tick w h⟩)
def dj_X19_wrote_24 (p : Program) (l : Launch) (e : Env) (s : State) (m : MethodId) (args : Array Value) (below : List Frame) (meth : Method) (c : Code) (Q : State → Prop) (A : Nat → Prop) (dC : Nat → ClassId) (dI : Nat → Nat → Nat) (a : Nat → Nat) (ac : Nat → ClassId) (g : (St × (St) × (St × (St × (St))) × (St) × (St)) → Option (Int32 × (St × (St) × (St × (St × (St))) × (St) × (St)))) (r : Int32 × (St × (St) × (St × (St × (St))) × (St) × (St))) : Prop := ∀ (s0 : St × (St) × (St × (St × (St))) × (St) × (St)) (H : Heap) (locs : List Loc) (ls : Array Slot), g s0 = some r → va_P (dC, dI) vwCl (dw_X19 a ac s0) H → va_D A (dw_X19 a ac s0) → va_S A s.heap H locs → lv_has ls 5 [] → W p l e (headSpec ow_dm_X19_wrote ({ frames := 9, cells := 0, slots := 0, locals := 204 })).room s m args below meth c H locs 0 0 Q (F0 m 24 ls [])
def dj_X19_wrote_66 (p : Program) (l : Launch) (e : Env) (s : State) (m : MethodId) (args : Array Value) (below : List Frame) (meth : Method) (c : Code) (Q : State → Prop) (A : Nat → Prop) (dC : Nat → ClassId) (dI : Nat → Nat → Nat) (a : Nat → Nat) (ac : Nat → ClassId) (g : Int32 → Int32 → (St × (St) × (St × (St × (St))) × (St) × (St)) → Option (Int32 × (St × (St) × (St × (St × (St))) × (St) × (St)))) (r : Int32 × (St × (St) × (St × (St × (St))) × (St) × (St))) : Prop := ∀ (x4 : Int32) (y0 : Int32) (s0 : St × (St) × (St × (St × (St))) × (St) × (St)) (H : Heap) (locs : List Loc) (ls : Array Slot), g x4 y0 s0 = some r → va_P (dC, dI) vwCl (dw_X19 a ac s0) H → va_D A (dw_X19 a ac s0) → va_S A s.heap H locs → lv_has ls 5 [(0, .ref (a 0)), (4, .int x4)] → W p l e (headSpec ow_dm_X19_wrote ({ frames := 9, cells := 0, slots := 0, locals := 204 })).room s m args below meth c H locs 0 0 Q (F0 m 66 ls [.int y0])
def dj_X19_wrote_44 (p : Program) (l : Launch) (e : Env) (s : State) (m : MethodId) (args : Array Value) (below : List Frame) (meth : Method) (c : Code) (Q : State → Prop) (A : Nat → Prop) (dC : Nat → ClassId) (dI : Nat → Nat → Nat) (a : Nat → Nat) (ac : Nat → ClassId) (g : Int32 → Int32 → (St × (St) × (St × (St × (St))) × (St) × (St)) → Option (Int32 × (St × (St) × (St × (St × (St))) × (St) × (St)))) (r : Int32 × (St × (St) × (St × (St × (St))) × (St) × (St))) : Prop := ∀ (x3 : Int32) (x4 : Int32) (s0 : St × (St) × (St × (St × (St))) × (St) × (St)) (H : Heap) (locs : List Loc) (ls : Array Slot), g x3 x4 s0 = some r → va_P (dC, dI) vwCl (dw_X19 a ac s0) H → va_D A (dw_X19 a ac s0) → va_S A s.heap H locs → lv_has ls 5 [(0, .ref (a 0)), (3, .int x3), (4, .int x4)] → W p l e (headSpec ow_dm_X19_wrote ({ frames := 9, cells := 0, slots := 0, locals := 204 })).room s m args below meth c H locs 0 0 Q (F0 m 44 ls [])
def dj_X19_wrote_0 (p : Program) (l : Launch) (e : Env) (s : State) (m : MethodId) (args : Array Value) (below : List Frame) (meth : Method) (c : Code) (Q : State → Prop) (A : Nat → Prop) (dC : Nat → ClassId) (dI : Nat → Nat → Nat) (a : Nat → Nat) (ac : Nat → ClassId) (g : Int32 → Int32 → (St × (St) × (St × (St × (St))) × (St) × (St)) → Option (Int32 × (St × (St) × (St × (St × (St))) × (St) × (St)))) (r : Int32 × (St × (St) × (St × (St × (St))) × (St) × (St))) : Prop := ∀ (v0 : Int32) (v1 : Int32) (s0 : St × (St) × (St × (St × (St))) × (St) × (St)) (H : Heap) (locs : List Loc) (ls : Array Slot), g v0 v1 s0 = some r → va_P (dC, dI) vwCl (dw_X19 a ac s0) H → va_D A (dw_X19 a ac s0) → va_S A s.heap H locs → lv_has ls 5 [(0, .ref (a 0)), (1, .int v0), (2, .int v1)] → W p l e (headSpec ow_dm_X19_wrote ({ frames := 9, cells := 0, slots := 0, locals := 204 })).room s m args below meth c H locs 0 0 Q (F0 m 0 ls [])
set_option maxHeartbeats 40000000 in
set_option maxRecDepth 100000 in
theorem db_X19_wrote_24 {p : Program} {l : Launch} {e : Env} {s : State} {m : MethodId} {args : Array Value} {below : List Frame} {meth : Method} {c : Code} {Q : State → Prop} {A : Nat → Prop} {dC : Nat → ClassId} {dI : Nat → Nat → Nat} {a : Nat → Nat} {ac : Nat → ClassId} {n : Nat} {r : Int32 × (St × (St) × (St × (St × (St))) × (St) × (St))} (C : nd_C p l s m args c A (dC, dI) cX19_wrote 5 RX19 ow_dm_X19_wrote (dk_X19 ac)) (K : nd_Ki p l e (headSpec ow_dm_X19_wrote ({ frames := 9, cells := 0, slots := 0, locals := 204 })).room s m args below meth c Q A (dC, dI) cX19_wrote .int (St × (St) × (St × (St × (St))) × (St) × (St)) (dw_X19 a ac) r) : dj_X19_wrote_24 p l e s m args below meth c Q A dC dI a ac (df_X19_wrote_24 n) r := by
  obtain ⟨hlt, hx, hb, hml, hown, hts, hN, hA, hK⟩ := id C
  intro s0 H locs ls h hP hD hS hl
  unfold df_X19_wrote_24 at h
  refine lv_iconst (v := (-1)) hx hb dX19_wrote_24 (by decide) ?_
  exact K _ _ _ _ _ _ dX19_wrote_25 rfl (Option.some.inj h).symm hP hD hS
set_option maxHeartbeats 40000000 in
set_option maxRecDepth 100000 in
theorem db_X19_wrote_66 {p : Program} {l : Launch} {e : Env} {s : State} {m : MethodId} {args : Array Value} {below : List Frame} {meth : Method} {c : Code} {Q : State → Prop} {A : Nat → Prop} {dC : Nat → ClassId} {dI : Nat → Nat → Nat} {a : Nat → Nat} {ac : Nat → ClassId} {n : Nat} {r : Int32 × (St × (St) × (St × (St × (St))) × (St) × (St))} (C : nd_C p l s m args c A (dC, dI) cX19_wrote 5 RX19 ow_dm_X19_wrote (dk_X19 ac)) (K : nd_Ki p l e (headSpec ow_dm_X19_wrote ({ frames := 9, cells := 0, slots := 0, locals := 204 })).room s m args below meth c Q A (dC, dI) cX19_wrote .int (St × (St) × (St × (St × (St))) × (St) × (St)) (dw_X19 a ac) r) {g44 : Int32 → Int32 → (St × (St) × (St × (St × (St))) × (St) × (St)) → Option (Int32 × (St × (St) × (St × (St × (St))) × (St) × (St)))} (J44 : dj_X19_wrote_44 p l e s m args below meth c Q A dC dI a ac g44 r) : dj_X19_wrote_66 p l e s m args below meth c Q A dC dI a ac (df_X19_wrote_66 n g44) r := by
  obtain ⟨hlt, hx, hb, hml, hown, hts, hN, hA, hK⟩ := id C
  intro x4 y0 s0 H locs ls h hP hD hS hl
  unfold df_X19_wrote_66 at h
  refine lv_istore_n (lv' := [(3, .int y0), (0, .ref (a 0)), (4, .int x4)]) hx hb dX19_wrote_66 rfl hl (by decide) rfl (fun ls hl => ?_)
  obtain ⟨z23, ez23, h⟩ := nd_let_e h
  refine lv_iinc (v := z23) (lv' := [(4, .int z23), (3, .int y0), (0, .ref (a 0))]) hx hb dX19_wrote_67 hl (k := 2) rfl (by rw [ez23]) (by decide) rfl (fun ls hl => ?_)
  refine lv_goto (tgt := 44) hx hb dX19_wrote_70 (by decide) ?_
  exact (J44) (y0) (z23) s0 _ _ _ h hP hD hS (lv_sub hl [2, 1, 0] rfl)
set_option maxHeartbeats 40000000 in
set_option maxRecDepth 100000 in
theorem dB_X19_wrote_44 {p : Program} {l : Launch} {e : Env} {s : State} {m : MethodId} {args : Array Value} {below : List Frame} {meth : Method} {c : Code} {Q : State → Prop} {A : Nat → Prop} {dC : Nat → ClassId} {dI : Nat → Nat → Nat} {a : Nat → Nat} {ac : Nat → ClassId} {n : Nat} {r : Int32 × (St × (St) × (St × (St × (St))) × (St) × (St))} (C : nd_C p l s m args c A (dC, dI) cX19_wrote 5 RX19 ow_dm_X19_wrote (dk_X19 ac)) (K : nd_Ki p l e (headSpec ow_dm_X19_wrote ({ frames := 9, cells := 0, slots := 0, locals := 204 })).room s m args below meth c Q A (dC, dI) cX19_wrote .int (St × (St) × (St × (St × (St))) × (St) × (St)) (dw_X19 a ac) r) {g44 : Int32 → Int32 → (St × (St) × (St × (St × (St))) × (St) × (St)) → Option (Int32 × (St × (St) × (St × (St × (St))) × (St) × (St)))} (J44 : dj_X19_wrote_44 p l e s m args below meth c Q A dC dI a ac g44 r) : dj_X19_wrote_44 p l e s m args below meth c Q A dC dI a ac (dF_X19_wrote_44 n g44) r := by
  obtain ⟨hlt, hx, hb, hml, hown, hts, hN, hA, hK⟩ := id C
  intro x3 x4 s0 H locs ls h hP hD hS hl
  unfold dF_X19_wrote_44 at h
  refine lv_iload hx hb dX19_wrote_44 (lv_at hl 2 rfl) ?_
  refine lv_aload_n hx hb dX19_wrote_46 rfl (lv_at hl 0 rfl) ?_
  refine va_get (D := (dC, dI)) (ci := 20) (v := .int (sI s0.1 5)) (C := RX19) (T := TX19) (N := 36) hx hb hts hi_dm_X19_wrote_X19 hown hK hP 0 rfl rfl 19 (by decide) (hts (.fieldLink RX19 234 "TimeMachineModel" "now" "I") (List.mem_of_getElem? (i := 15) rfl)) (fun _ h9 => h9) rfl dX19_wrote_47 ?_
  refine lv_icmp_ge (tgt := 73) hx hb dX19_wrote_50 (by decide) (fun c14 => ?_) (fun c14 => ?_)
  · have h := nd_pos h c14
    refine lv_aload_n hx hb dX19_wrote_73 rfl (lv_at hl 0 rfl) ?_
    refine va_get (D := (dC, dI)) (ci := 20) (v := .ref (a 44)) (C := RX19) (T := TX19) (N := 36) hx hb hts hi_dm_X19_wrote_X19 hown hK hP 0 rfl rfl 13 (by decide) (hts (.fieldLink RX19 58 "TimeMachineModel" "m" "LTimeMachineModel$Machine;") (List.mem_of_getElem? (i := 10) rfl)) (fun _ h9 => h9) rfl dX19_wrote_74 ?_
    refine lv_iconst (v := (-1)) hx hb dX19_wrote_77 (by decide) ?_
    refine lv_iconst (v := 0) hx hb dX19_wrote_78 (by decide) ?_
    obtain ⟨s16, hq, h⟩ := nd_b1_e h
    have hPc := dp_X19_44 hP
    have hDc := dd_X19_44 hD
    have hKc := dy_X19_44 hK
    have hFc := nd_rs hDc hS hA
    have hzA : ∀ q : Nat, H.size ≤ q → A q := fun q h => hA q (Nat.le_trans hS.1 h)
    refine nd_cVv (As := [.int (-1), .int 0]) (rest := []) (w' := dw_X16 (fun k => a (k + 44)) (fun k => ac (k + 44)) s16) ⟨hx, hb, hml, hown, hts⟩ (fun sz => dm_X16_watch l hlt dC dI (fun k => a (k + 44)) (fun k => ac (k + 44)) n ((-1)) (0) s0.2.2.1.2 hq sz) (cwV 2 hts gi_dm_X19_wrote_2 rfl rfl rfl (by decide +kernel) ⟨Nat.le_of_ble_eq_true rfl, Nat.le_of_ble_eq_true rfl⟩) hPc hDc hKc hS hA hN (va_recv hKc hPc (ci := 17) (q0 := 0) rfl rfl) rfl hl.1 rfl (Nat.le_of_ble_eq_true rfl) dX19_wrote_79 (fun H locs hP1 hD1 hk1 hS => ?_)
    obtain ⟨hP, hD⟩ := dn_X19_44 hP hD hzA hk1 hP1 hD1
    obtain ⟨s18, es18, h⟩ := nd_let_e h
    have hP : va_P (dC, dI) vwCl (dw_X19 a ac s18) H := by rw [es18]; exact hP
    have hD : va_D A (dw_X19 a ac s18) := by rw [es18]; exact hD
    refine lv_iload_n hx hb dX19_wrote_82 rfl (lv_at hl 1 rfl) ?_
    exact K _ _ _ _ _ _ dX19_wrote_83 rfl (Option.some.inj h).symm hP hD hS
  · have h := nd_neg h c14
    refine lv_aload_n hx hb dX19_wrote_53 rfl (lv_at hl 0 rfl) ?_
    obtain ⟨q19, s20, hq, h⟩ := nd_b2_e h
    have hPc := hP
    have hDc := hD
    have hKc := hK
    have hFc := nd_rs hD hS hA
    refine nd_cVi (As := []) (rest := []) (q := q19) (w' := dw_X19 a ac s20) ⟨hx, hb, hml, hown, hts⟩ (fun sz => dm_X19_tick l hlt dC dI a ac n  s0 hq sz) (cwV 0 hts gi_dm_X19_wrote_3 rfl rfl rfl (by decide +kernel) ⟨Nat.le_of_ble_eq_true rfl, Nat.le_of_ble_eq_true rfl⟩) hPc hDc hKc hS hA hN (va_recv hKc hPc (ci := 20) (q0 := 0) rfl rfl) rfl hl.1 rfl (Nat.le_of_ble_eq_true rfl) dX19_wrote_54 (fun H locs hP1 hD1 hk1 hS => ?_)
    have hP := hP1
    have hD := hD1.weaken (fun k q _ h => hFc q.1 h)
    refine lv_if_eq (tgt := 65) hx hb dX19_wrote_57 (by decide) (fun c22 => ?_) (fun c22 => ?_)
    · have h := nd_pos h c22
      refine lv_iload_n hx hb dX19_wrote_65 rfl (lv_at hl 1 rfl) ?_
      exact (db_X19_wrote_66 C K J44) (x4) (x3) s20 _ _ _ h hP hD hS (lv_sub hl [0, 2] rfl)
    · have h := nd_neg h c22
      refine lv_iload hx hb dX19_wrote_60 (lv_at hl 2 rfl) ?_
      refine lv_goto (tgt := 66) hx hb dX19_wrote_62 (by decide) ?_
      exact (db_X19_wrote_66 C K J44) (x4) (x4) s20 _ _ _ h hP hD hS (lv_sub hl [0, 2] rfl)
set_option maxHeartbeats 40000000 in
set_option maxRecDepth 100000 in
theorem db_X19_wrote_44 {p : Program} {l : Launch} {e : Env} {s : State} {m : MethodId} {args : Array Value} {below : List Frame} {meth : Method} {c : Code} {Q : State → Prop} {A : Nat → Prop} {dC : Nat → ClassId} {dI : Nat → Nat → Nat} {a : Nat → Nat} {ac : Nat → ClassId} {n : Nat} {r : Int32 × (St × (St) × (St × (St × (St))) × (St) × (St))} (C : nd_C p l s m args c A (dC, dI) cX19_wrote 5 RX19 ow_dm_X19_wrote (dk_X19 ac)) (K : nd_Ki p l e (headSpec ow_dm_X19_wrote ({ frames := 9, cells := 0, slots := 0, locals := 204 })).room s m args below meth c Q A (dC, dI) cX19_wrote .int (St × (St) × (St × (St × (St))) × (St) × (St)) (dw_X19 a ac) r) (k : Nat) : dj_X19_wrote_44 p l e s m args below meth c Q A dC dI a ac (df_X19_wrote_44 n k) r := by
  induction k with
  | zero => intro x3 x4 s0 H locs ls h; exact nomatch (show (none : Option (Int32 × (St × (St) × (St × (St × (St))) × (St) × (St)))) = some r from h)
  | succ k ih => exact dB_X19_wrote_44 C K ih
set_option maxHeartbeats 40000000 in
set_option maxRecDepth 100000 in
theorem db_X19_wrote_0 {p : Program} {l : Launch} {e : Env} {s : State} {m : MethodId} {args : Array Value} {below : List Frame} {meth : Method} {c : Code} {Q : State → Prop} {A : Nat → Prop} {dC : Nat → ClassId} {dI : Nat → Nat → Nat} {a : Nat → Nat} {ac : Nat → ClassId} {n : Nat} {r : Int32 × (St × (St) × (St × (St × (St))) × (St) × (St))} (C : nd_C p l s m args c A (dC, dI) cX19_wrote 5 RX19 ow_dm_X19_wrote (dk_X19 ac)) (K : nd_Ki p l e (headSpec ow_dm_X19_wrote ({ frames := 9, cells := 0, slots := 0, locals := 204 })).room s m args below meth c Q A (dC, dI) cX19_wrote .int (St × (St) × (St × (St × (St))) × (St) × (St)) (dw_X19 a ac) r) : dj_X19_wrote_0 p l e s m args below meth c Q A dC dI a ac (df_X19_wrote_0 n) r := by
  obtain ⟨hlt, hx, hb, hml, hown, hts, hN, hA, hK⟩ := id C
  intro v0 v1 s0 H locs ls h hP hD hS hl
  unfold df_X19_wrote_0 at h
  refine lv_aload_n hx hb dX19_wrote_0 rfl (lv_at hl 0 rfl) ?_
  refine lv_iconst (v := 0) hx hb dX19_wrote_1 (by decide) ?_
  refine va_put (D := (dC, dI)) (ci := 20) (v := .int 0) (ty := .int) (C := RX19) (T := TX19) (N := 36) hx hb hts hi_dm_X19_wrote_X19 tyX19 tyX19_ok nmX19 hown hK hP hD hS 0 rfl rfl 0 (by decide) (hts (.fieldLink RX19 113 "TimeMachineModel" "code" "I") (List.mem_of_getElem? (i := 1) rfl)) (fun _ h9 => h9) rfl (by decide +kernel) rfl rfl (Nat.le_of_ble_eq_true rfl) dX19_wrote_2 (fun H locs hP hD hS => ?_)
  obtain ⟨s1, es1, h⟩ := nd_let_e h
  have hP : va_P (dC, dI) vwCl (dw_X19 a ac s1) H := by rw [es1]; exact hP
  have hD : va_D A (dw_X19 a ac s1) := by rw [es1]; exact hD
  refine lv_aload_n hx hb dX19_wrote_5 rfl (lv_at hl 0 rfl) ?_
  refine va_get (D := (dC, dI)) (ci := 20) (v := .int (sI s1.1 3)) (C := RX19) (T := TX19) (N := 36) hx hb hts hi_dm_X19_wrote_X19 hown hK hP 0 rfl rfl 17 (by decide) (hts (.fieldLink RX19 231 "TimeMachineModel" "booted" "Z") (List.mem_of_getElem? (i := 2) rfl)) (fun _ h9 => h9) rfl dX19_wrote_6 ?_
  refine lv_if_eq (tgt := 24) hx hb dX19_wrote_9 (by decide) (fun c2 => ?_) (fun c2 => ?_)
  · have h := nd_pos h c2
    exact (db_X19_wrote_24 C K)  s1 _ _ _ h hP hD hS (lv_sub hl [] rfl)
  · have h := nd_neg h c2
    refine lv_iload_n hx hb dX19_wrote_12 rfl (lv_at hl 1 rfl) ?_
    refine lv_i2l hx hb dX19_wrote_13 rfl ?_
    refine lv_lconst (v := 0) hx hb dX19_wrote_14 (by decide) ?_
    refine lv_ldc2 hx hb hown (hts (.constantLong RX19 255 (15)) (List.mem_of_getElem? (i := 3) rfl)) dX19_wrote_15 ?_
    obtain ⟨q3, s4, hq, h⟩ := nd_b2_e h
    have hPc : va_P (dC, dI) vwCl (dw_P a ac ()) H := nd_p0
    have hDc : va_D A (dw_P a ac ()) := nd_d0
    have hKc : va_K (dC, dI) vwCl (dk_P ac) s := nd_y0 hK
    have hFc : ∀ q, va_A (dw_P a ac ()) H.size q → A q := nd_r0 hS hA
    refine nd_cSi (As := [.long (v0.toInt64), .long 0, .long 15]) (rest := []) (q := q3) (w' := dw_P a ac s4) ⟨hx, hb, hml, hown, hts⟩ (fun sz => dm_X19_in l hlt dC dI a ac n ((v0.toInt64)) (0) (15) () hq sz) (cwS 3 hts gi_dm_X19_wrote_0 rfl rfl rfl (by decide +kernel) ⟨Nat.le_of_ble_eq_true rfl, Nat.le_of_ble_eq_true rfl⟩) hPc hDc hKc hS hA hN rfl hl.1 rfl (Nat.le_of_ble_eq_true rfl) dX19_wrote_18 (fun H locs hP1 hD1 hk1 hS => ?_)
    have hP := nd_n0 hP hk1
    refine lv_if_ne (tgt := 26) hx hb dX19_wrote_21 (by decide) (fun c6 => ?_) (fun c6 => ?_)
    · have h := nd_neg h c6
      refine lv_iconst (v := (-1)) hx hb dX19_wrote_26 (by decide) ?_
      refine lv_istore_n (lv' := [(3, .int (-1)), (0, .ref (a 0)), (1, .int v0), (2, .int v1)]) hx hb dX19_wrote_27 rfl hl (by decide) rfl (fun ls hl => ?_)
      refine lv_aload_n hx hb dX19_wrote_28 rfl (lv_at hl 1 rfl) ?_
      obtain ⟨s8, hq, h⟩ := nd_b1_e h
      have hPc := hP
      have hDc := hD
      have hKc := hK
      have hFc := nd_rs hD hS hA
      refine nd_cVv (As := []) (rest := []) (w' := dw_X19 a ac s8) ⟨hx, hb, hml, hown, hts⟩ (fun sz => dm_X19_anew l hlt dC dI a ac n  s1 hq sz) (cwV 0 hts gi_dm_X19_wrote_1 rfl rfl rfl (by decide +kernel) ⟨Nat.le_of_ble_eq_true rfl, Nat.le_of_ble_eq_true rfl⟩) hPc hDc hKc hS hA hN (va_recv hKc hPc (ci := 20) (q0 := 0) rfl rfl) rfl hl.1 rfl (Nat.le_of_ble_eq_true rfl) dX19_wrote_29 (fun H locs hP1 hD1 hk1 hS => ?_)
      have hP := hP1
      have hD := hD1.weaken (fun k q _ h => hFc q.1 h)
      refine lv_aload_n hx hb dX19_wrote_32 rfl (lv_at hl 1 rfl) ?_
      refine va_get (D := (dC, dI)) (ci := 20) (v := .ref (a 44)) (C := RX19) (T := TX19) (N := 36) hx hb hts hi_dm_X19_wrote_X19 hown hK hP 0 rfl rfl 13 (by decide) (hts (.fieldLink RX19 58 "TimeMachineModel" "m" "LTimeMachineModel$Machine;") (List.mem_of_getElem? (i := 10) rfl)) (fun _ h9 => h9) rfl dX19_wrote_33 ?_
      refine lv_iload_n hx hb dX19_wrote_36 rfl (lv_at hl 2 rfl) ?_
      refine lv_iload_n hx hb dX19_wrote_37 rfl (lv_at hl 3 rfl) ?_
      obtain ⟨s11, hq, h⟩ := nd_b1_e h
      have hPc := dp_X19_44 hP
      have hDc := dd_X19_44 hD
      have hKc := dy_X19_44 hK
      have hFc := nd_rs hDc hS hA
      have hzA : ∀ q : Nat, H.size ≤ q → A q := fun q h => hA q (Nat.le_trans hS.1 h)
      refine nd_cVv (As := [.int v0, .int v1]) (rest := []) (w' := dw_X16 (fun k => a (k + 44)) (fun k => ac (k + 44)) s11) ⟨hx, hb, hml, hown, hts⟩ (fun sz => dm_X16_watch l hlt dC dI (fun k => a (k + 44)) (fun k => ac (k + 44)) n (v0) (v1) s8.2.2.1.2 hq sz) (cwV 2 hts gi_dm_X19_wrote_2 rfl rfl rfl (by decide +kernel) ⟨Nat.le_of_ble_eq_true rfl, Nat.le_of_ble_eq_true rfl⟩) hPc hDc hKc hS hA hN (va_recv hKc hPc (ci := 17) (q0 := 0) rfl rfl) rfl hl.1 rfl (Nat.le_of_ble_eq_true rfl) dX19_wrote_38 (fun H locs hP1 hD1 hk1 hS => ?_)
      obtain ⟨hP, hD⟩ := dn_X19_44 hP hD hzA hk1 hP1 hD1
      obtain ⟨s13, es13, h⟩ := nd_let_e h
      have hP : va_P (dC, dI) vwCl (dw_X19 a ac s13) H := by rw [es13]; exact hP
      have hD : va_D A (dw_X19 a ac s13) := by rw [es13]; exact hD
      refine lv_iconst (v := 0) hx hb dX19_wrote_41 (by decide) ?_
      refine lv_istore (lv' := [(4, .int 0), (3, .int (-1)), (0, .ref (a 0)), (1, .int v0), (2, .int v1)]) hx hb dX19_wrote_42 hl (by decide) rfl (fun ls hl => ?_)
      exact (db_X19_wrote_44 C K n) ((-1)) (0) s13 _ _ _ h hP hD hS (lv_sub hl [2, 1, 0] rfl)
    · have h := nd_pos h c6
      exact (db_X19_wrote_24 C K)  s1 _ _ _ h hP hD hS (lv_sub hl [] rfl)
set_option maxHeartbeats 40000000 in
set_option maxRecDepth 100000 in
theorem dm_X19_wrote (l : Launch) (hlt : l.stackTraces = false) (dC : Nat → ClassId) (dI : Nat → Nat → Nat) (a : Nat → Nat) (ac : Nat → ClassId) (n : Nat) (v0 : Int32) (v1 : Int32) (s0 : St × (St) × (St × (St × (St))) × (St) × (St)) {r : Int32 × (St × (St) × (St × (St × (St))) × (St) × (St))} (h : df_X19_wrote n v0 v1 s0 = some r) (sz : Nat) : Met l yX19_wrote ow_dm_X19_wrote ({ frames := 9, cells := 0, slots := 0, locals := 204 }) (va_Pc [.ref (a 0), .int v0, .int v1] (fun U => U.heap.size = sz ∧ va_P (dC, dI) vwCl (dw_X19 a ac s0) U.heap ∧ va_K (dC, dI) vwCl (dk_X19 ac) U ∧ va_D (fun _ => True) (dw_X19 a ac s0) ∧ nv_E (va_A (dw_X19 a ac s0) sz) U)) (va_Qi (fun x _ => x = r.1) (fun (_ : Unit) t => va_P (dC, dI) vwCl (dw_X19 a ac r.2) t.heap ∧ va_K (dC, dI) vwCl (dk_X19 ac) t ∧ va_D (va_A (dw_X19 a ac s0) sz) (dw_X19 a ac r.2)) (va_A (dw_X19 a ac s0) sz)) 0 0 (va_A (dw_X19 a ac s0) sz) := by
  refine Met.ofW (cc := cX19_wrote) (maxL := 5) (ret := (some .int)) (by decide) rfl ?_
  intro p e s m args below meth c s₁ B hml hv
  obtain ⟨rfl, hsz, hP, hK, hD0, hN⟩ := hv
  have hx := B.exec
  have hb := B.bytes
  have hr := B.returns
  have hts := atoms_spec (ws := ow_dm_X19_wrote) B.pre
  have hown : s.vm.findClass RX19 = some m.cls := findClass_of_methodNamed B.named
  have hlocks := B.notSynchronized
  subst hsz
  have hD := hD0.self (sz := s.heap.size)
  generalize hAe : va_A (dw_X19 a ac s0) s.heap.size = A at hD hN ⊢
  have hA : ∀ q : Nat, s.heap.size ≤ q → A q := fun q h => by rw [← hAe]; exact Or.inr h
  have hl := lv_entry ([.ref (a 0), .int v0, .int v1]) (n := 5) (Nat.le_of_ble_eq_true rfl)
  rw [lg_entry_eq]
  generalize (lg_sl ([.ref (a 0), .int v0, .int v1]) ++ List.replicate (5 - (lg_sl ([.ref (a 0), .int v0, .int v1])).length) Slot.unset).toArray = ls at hl ⊢
  have hl : lv_has ls 5 [(0, .ref (a 0)), (1, .int v0), (2, .int v1)] := hl
  exact db_X19_wrote_0 (dC := dC) (dI := dI) (a := a) (ac := ac) (n := n) (r := r) ⟨hlt, hx, hb, hml, hown, hts, hN, hA, hK⟩ (fun pc v τ H locs ls d z er hP hD hS => by subst er; exact W.zret (v := v) hx hb hr z (fun t ht hW => ⟨⟨v, (), rfl, rfl, by rw [ht]; exact hP, va_K.moved hW.alike hK, hD⟩, hS.F ht⟩) hS.2.2 d) v0 v1 s0 _ _ _ h hP hD va_S.rf (lv_sub hl [0, 1, 2] rfl)
def ow_dm_X19_shows : List Cond := .code yX19_shows cX19_shows 1 (some .boolean) :: ([.fieldLink RX19 113 "TimeMachineModel" "code" "I", .fieldLink RX19 231 "TimeMachineModel" "booted" "Z", .fieldLink RX19 234 "TimeMachineModel" "now" "I", .methodLink RX19 266 yX19_come, .instanceMethod yX19_come, .selects RX19 yX19_come yX19_come, .initialized RX19] ++ (u_ws RX19 TX19 36 ++ (ow_dm_X19_come ++ [])))
theorem gd_dm_X19_shows : ∀ w ∈ ow_dm_X19_shows, (w.onTables && w.keeps) = true ∨ ∃ ty, w = Cond.arrayClass ty := List.forall_mem_cons.mpr ⟨good_of_word rfl, List.forall_mem_append.mpr ⟨fun w h => good_of_word (List.all_eq_true.mp (by decide +kernel) w h), List.forall_mem_append.mpr ⟨gu_X19, List.forall_mem_append.mpr ⟨gd_dm_X19_come, fun _ h => nomatch h⟩⟩⟩⟩
theorem hi_dm_X19_shows_X19 : ∀ w ∈ u_ws RX19 TX19 36, w ∈ ow_dm_X19_shows := fun w h => List.mem_cons_of_mem _ (List.mem_append_right _ (List.mem_append_left _ h))
theorem gi_dm_X19_shows_0 : GoodIn ow_dm_X19_shows (wsV RX19 266 RX19 yX19_come ow_dm_X19_come) := goodIn_app (goodIn_of _ (by decide +kernel)) (fun w h => ⟨List.mem_cons_of_mem _ (List.mem_append_right _ (List.mem_append_right _ (List.mem_append_left _ h))), gd_dm_X19_come w h⟩)
def dj_X19_shows_20 (p : Program) (l : Launch) (e : Env) (s : State) (m : MethodId) (args : Array Value) (below : List Frame) (meth : Method) (c : Code) (Q : State → Prop) (A : Nat → Prop) (dC : Nat → ClassId) (dI : Nat → Nat → Nat) (a : Nat → Nat) (ac : Nat → ClassId) (g : (St × (St) × (St × (St × (St))) × (St) × (St)) → Option (Int32 × (St × (St) × (St × (St × (St))) × (St) × (St)))) (r : Int32 × (St × (St) × (St × (St × (St))) × (St) × (St))) : Prop := ∀ (s0 : St × (St) × (St × (St × (St))) × (St) × (St)) (H : Heap) (locs : List Loc) (ls : Array Slot), g s0 = some r → va_P (dC, dI) vwCl (dw_X19 a ac s0) H → va_D A (dw_X19 a ac s0) → va_S A s.heap H locs → lv_has ls 1 [(0, .ref (a 0))] → W p l e (headSpec ow_dm_X19_shows ({ frames := 10, cells := 0, slots := 0, locals := 225 })).room s m args below meth c H locs 0 0 Q (F0 m 20 ls [])
def dj_X19_shows_0 (p : Program) (l : Launch) (e : Env) (s : State) (m : MethodId) (args : Array Value) (below : List Frame) (meth : Method) (c : Code) (Q : State → Prop) (A : Nat → Prop) (dC : Nat → ClassId) (dI : Nat → Nat → Nat) (a : Nat → Nat) (ac : Nat → ClassId) (g : (St × (St) × (St × (St × (St))) × (St) × (St)) → Option (Int32 × (St × (St) × (St × (St × (St))) × (St) × (St)))) (r : Int32 × (St × (St) × (St × (St × (St))) × (St) × (St))) : Prop := ∀ (s0 : St × (St) × (St × (St × (St))) × (St) × (St)) (H : Heap) (locs : List Loc) (ls : Array Slot), g s0 = some r → va_P (dC, dI) vwCl (dw_X19 a ac s0) H → va_D A (dw_X19 a ac s0) → va_S A s.heap H locs → lv_has ls 1 [(0, .ref (a 0))] → W p l e (headSpec ow_dm_X19_shows ({ frames := 10, cells := 0, slots := 0, locals := 225 })).room s m args below meth c H locs 0 0 Q (F0 m 0 ls [])
set_option maxHeartbeats 40000000 in
set_option maxRecDepth 100000 in
theorem db_X19_shows_20 {p : Program} {l : Launch} {e : Env} {s : State} {m : MethodId} {args : Array Value} {below : List Frame} {meth : Method} {c : Code} {Q : State → Prop} {A : Nat → Prop} {dC : Nat → ClassId} {dI : Nat → Nat → Nat} {a : Nat → Nat} {ac : Nat → ClassId} {n : Nat} {r : Int32 × (St × (St) × (St × (St × (St))) × (St) × (St))} (C : nd_C p l s m args c A (dC, dI) cX19_shows 1 RX19 ow_dm_X19_shows (dk_X19 ac)) (K : nd_Ki p l e (headSpec ow_dm_X19_shows ({ frames := 10, cells := 0, slots := 0, locals := 225 })).room s m args below meth c Q A (dC, dI) cX19_shows .boolean (St × (St) × (St × (St × (St))) × (St) × (St)) (dw_X19 a ac) r) : dj_X19_shows_20 p l e s m args below meth c Q A dC dI a ac (df_X19_shows_20 n) r := by
  obtain ⟨hlt, hx, hb, hml, hown, hts, hN, hA, hK⟩ := id C
  intro s0 H locs ls h hP hD hS hl
  unfold df_X19_shows_20 at h
  refine lv_aload_n hx hb dX19_shows_20 rfl (lv_at hl 0 rfl) ?_
  refine va_get (D := (dC, dI)) (ci := 20) (v := .int (sI s0.1 3)) (C := RX19) (T := TX19) (N := 36) hx hb hts hi_dm_X19_shows_X19 hown hK hP 0 rfl rfl 17 (by decide) (hts (.fieldLink RX19 231 "TimeMachineModel" "booted" "Z") (List.mem_of_getElem? (i := 2) rfl)) (fun _ h9 => h9) rfl dX19_shows_21 ?_
  obtain ⟨n3, h⟩ := nd_z_e ⟨_, rfl⟩ h
  exact K _ _ _ _ _ _ dX19_shows_24 n3 (Option.some.inj h).symm hP hD hS
set_option maxHeartbeats 40000000 in
set_option maxRecDepth 100000 in
theorem db_X19_shows_0 {p : Program} {l : Launch} {e : Env} {s : State} {m : MethodId} {args : Array Value} {below : List Frame} {meth : Method} {c : Code} {Q : State → Prop} {A : Nat → Prop} {dC : Nat → ClassId} {dI : Nat → Nat → Nat} {a : Nat → Nat} {ac : Nat → ClassId} {n : Nat} {r : Int32 × (St × (St) × (St × (St × (St))) × (St) × (St))} (C : nd_C p l s m args c A (dC, dI) cX19_shows 1 RX19 ow_dm_X19_shows (dk_X19 ac)) (K : nd_Ki p l e (headSpec ow_dm_X19_shows ({ frames := 10, cells := 0, slots := 0, locals := 225 })).room s m args below meth c Q A (dC, dI) cX19_shows .boolean (St × (St) × (St × (St × (St))) × (St) × (St)) (dw_X19 a ac) r) : dj_X19_shows_0 p l e s m args below meth c Q A dC dI a ac (df_X19_shows_0 n) r := by
  obtain ⟨hlt, hx, hb, hml, hown, hts, hN, hA, hK⟩ := id C
  intro s0 H locs ls h hP hD hS hl
  unfold df_X19_shows_0 at h
  refine lv_aload_n hx hb dX19_shows_0 rfl (lv_at hl 0 rfl) ?_
  refine lv_iconst (v := 0) hx hb dX19_shows_1 (by decide) ?_
  refine va_put (D := (dC, dI)) (ci := 20) (v := .int 0) (ty := .int) (C := RX19) (T := TX19) (N := 36) hx hb hts hi_dm_X19_shows_X19 tyX19 tyX19_ok nmX19 hown hK hP hD hS 0 rfl rfl 0 (by decide) (hts (.fieldLink RX19 113 "TimeMachineModel" "code" "I") (List.mem_of_getElem? (i := 1) rfl)) (fun _ h9 => h9) rfl (by decide +kernel) rfl rfl (Nat.le_of_ble_eq_true rfl) dX19_shows_2 (fun H locs hP hD hS => ?_)
  obtain ⟨s1, es1, h⟩ := nd_let_e h
  have hP : va_P (dC, dI) vwCl (dw_X19 a ac s1) H := by rw [es1]; exact hP
  have hD : va_D A (dw_X19 a ac s1) := by rw [es1]; exact hD
  refine lv_aload_n hx hb dX19_shows_5 rfl (lv_at hl 0 rfl) ?_
  refine va_get (D := (dC, dI)) (ci := 20) (v := .int (sI s1.1 3)) (C := RX19) (T := TX19) (N := 36) hx hb hts hi_dm_X19_shows_X19 hown hK hP 0 rfl rfl 17 (by decide) (hts (.fieldLink RX19 231 "TimeMachineModel" "booted" "Z") (List.mem_of_getElem? (i := 2) rfl)) (fun _ h9 => h9) rfl dX19_shows_6 ?_
  refine lv_if_eq (tgt := 20) hx hb dX19_shows_9 (by decide) (fun c2 => ?_) (fun c2 => ?_)
  · have h := nd_pos h c2
    exact (db_X19_shows_20 C K)  s1 _ _ _ h hP hD hS (lv_sub hl [0] rfl)
  · have h := nd_neg h c2
    refine lv_aload_n hx hb dX19_shows_12 rfl (lv_at hl 0 rfl) ?_
    refine lv_aload_n hx hb dX19_shows_13 rfl (lv_at hl 0 rfl) ?_
    refine va_get (D := (dC, dI)) (ci := 20) (v := .int (sI s1.1 5)) (C := RX19) (T := TX19) (N := 36) hx hb hts hi_dm_X19_shows_X19 hown hK hP 0 rfl rfl 19 (by decide) (hts (.fieldLink RX19 234 "TimeMachineModel" "now" "I") (List.mem_of_getElem? (i := 3) rfl)) (fun _ h9 => h9) rfl dX19_shows_14 ?_
    obtain ⟨s5, hq, h⟩ := nd_b1_e h
    have hPc := hP
    have hDc := hD
    have hKc := hK
    have hFc := nd_rs hD hS hA
    refine nd_cVv (As := [.int (sI s1.1 5)]) (rest := []) (w' := dw_X19 a ac s5) ⟨hx, hb, hml, hown, hts⟩ (fun sz => dm_X19_come l hlt dC dI a ac n ((sI s1.1 5)) s1 hq sz) (cwV 1 hts gi_dm_X19_shows_0 rfl rfl rfl (by decide +kernel) ⟨Nat.le_of_ble_eq_true rfl, Nat.le_of_ble_eq_true rfl⟩) hPc hDc hKc hS hA hN (va_recv hKc hPc (ci := 20) (q0 := 0) rfl rfl) rfl hl.1 rfl (Nat.le_of_ble_eq_true rfl) dX19_shows_17 (fun H locs hP1 hD1 hk1 hS => ?_)
    have hP := hP1
    have hD := hD1.weaken (fun k q _ h => hFc q.1 h)
    exact (db_X19_shows_20 C K)  s5 _ _ _ h hP hD hS (lv_sub hl [0] rfl)
set_option maxHeartbeats 40000000 in
set_option maxRecDepth 100000 in
theorem dm_X19_shows (l : Launch) (hlt : l.stackTraces = false) (dC : Nat → ClassId) (dI : Nat → Nat → Nat) (a : Nat → Nat) (ac : Nat → ClassId) (n : Nat) (s0 : St × (St) × (St × (St × (St))) × (St) × (St)) {r : Int32 × (St × (St) × (St × (St × (St))) × (St) × (St))} (h : df_X19_shows n s0 = some r) (sz : Nat) : Met l yX19_shows ow_dm_X19_shows ({ frames := 10, cells := 0, slots := 0, locals := 225 }) (va_Pc [.ref (a 0)] (fun U => U.heap.size = sz ∧ va_P (dC, dI) vwCl (dw_X19 a ac s0) U.heap ∧ va_K (dC, dI) vwCl (dk_X19 ac) U ∧ va_D (fun _ => True) (dw_X19 a ac s0) ∧ nv_E (va_A (dw_X19 a ac s0) sz) U)) (va_Qi (fun x _ => x = r.1) (fun (_ : Unit) t => va_P (dC, dI) vwCl (dw_X19 a ac r.2) t.heap ∧ va_K (dC, dI) vwCl (dk_X19 ac) t ∧ va_D (va_A (dw_X19 a ac s0) sz) (dw_X19 a ac r.2)) (va_A (dw_X19 a ac s0) sz)) 0 0 (va_A (dw_X19 a ac s0) sz) := by
  refine Met.ofW (cc := cX19_shows) (maxL := 1) (ret := (some .boolean)) (by decide) rfl ?_
  intro p e s m args below meth c s₁ B hml hv
  obtain ⟨rfl, hsz, hP, hK, hD0, hN⟩ := hv
  have hx := B.exec
  have hb := B.bytes
  have hr := B.returns
  have hts := atoms_spec (ws := ow_dm_X19_shows) B.pre
  have hown : s.vm.findClass RX19 = some m.cls := findClass_of_methodNamed B.named
  have hlocks := B.notSynchronized
  subst hsz
  have hD := hD0.self (sz := s.heap.size)
  generalize hAe : va_A (dw_X19 a ac s0) s.heap.size = A at hD hN ⊢
  have hA : ∀ q : Nat, s.heap.size ≤ q → A q := fun q h => by rw [← hAe]; exact Or.inr h
  have hl := lv_entry ([.ref (a 0)]) (n := 1) (Nat.le_of_ble_eq_true rfl)
  rw [lg_entry_eq]
  generalize (lg_sl ([.ref (a 0)]) ++ List.replicate (1 - (lg_sl ([.ref (a 0)])).length) Slot.unset).toArray = ls at hl ⊢
  have hl : lv_has ls 1 [(0, .ref (a 0))] := hl
  exact db_X19_shows_0 (dC := dC) (dI := dI) (a := a) (ac := ac) (n := n) (r := r) ⟨hlt, hx, hb, hml, hown, hts, hN, hA, hK⟩ (fun pc v τ H locs ls d z er hP hD hS => by subst er; exact W.zret (v := v) hx hb hr z (fun t ht hW => ⟨⟨v, (), rfl, rfl, by rw [ht]; exact hP, va_K.moved hW.alike hK, hD⟩, hS.F ht⟩) hS.2.2 d) s0 _ _ _ h hP hD va_S.rf (lv_sub hl [0] rfl)
def ow_dm_X19_register : List Cond := .code yX19_register cX19_register 3 (some .int) :: ([.methodLink RX19 315 yX19_shows, .instanceMethod yX19_shows, .selects RX19 yX19_shows yX19_shows, .initialized RX19, .fieldLink RX19 58 "TimeMachineModel" "m" "LTimeMachineModel$Machine;", .methodLink RX19 318 yX16_register, .instanceMethod yX16_register, .selects RX16 yX16_register yX16_register, .initialized RX16] ++ (u_ws RX19 TX19 36 ++ (ow_dm_X19_shows ++ (ow_dm_X16_register ++ []))))
theorem gd_dm_X19_register : ∀ w ∈ ow_dm_X19_register, (w.onTables && w.keeps) = true ∨ ∃ ty, w = Cond.arrayClass ty := List.forall_mem_cons.mpr ⟨good_of_word rfl, List.forall_mem_append.mpr ⟨fun w h => good_of_word (List.all_eq_true.mp (by decide +kernel) w h), List.forall_mem_append.mpr ⟨gu_X19, List.forall_mem_append.mpr ⟨gd_dm_X19_shows, List.forall_mem_append.mpr ⟨gd_dm_X16_register, fun _ h => nomatch h⟩⟩⟩⟩⟩
theorem hi_dm_X19_register_X19 : ∀ w ∈ u_ws RX19 TX19 36, w ∈ ow_dm_X19_register := fun w h => List.mem_cons_of_mem _ (List.mem_append_right _ (List.mem_append_left _ h))
theorem gi_dm_X19_register_0 : GoodIn ow_dm_X19_register (wsV RX19 315 RX19 yX19_shows ow_dm_X19_shows) := goodIn_app (goodIn_of _ (by decide +kernel)) (fun w h => ⟨List.mem_cons_of_mem _ (List.mem_append_right _ (List.mem_append_right _ (List.mem_append_left _ h))), gd_dm_X19_shows w h⟩)
theorem gi_dm_X19_register_1 : GoodIn ow_dm_X19_register (wsV RX19 318 RX16 yX16_register ow_dm_X16_register) := goodIn_app (goodIn_of _ (by decide +kernel)) (fun w h => ⟨List.mem_cons_of_mem _ (List.mem_append_right _ (List.mem_append_right _ (List.mem_append_right _ (List.mem_append_left _ h)))), gd_dm_X16_register w h⟩)
def dj_X19_register_20 (p : Program) (l : Launch) (e : Env) (s : State) (m : MethodId) (args : Array Value) (below : List Frame) (meth : Method) (c : Code) (Q : State → Prop) (A : Nat → Prop) (dC : Nat → ClassId) (dI : Nat → Nat → Nat) (a : Nat → Nat) (ac : Nat → ClassId) (g : Int32 → (St × (St) × (St × (St × (St))) × (St) × (St)) → Option (Int32 × (St × (St) × (St × (St × (St))) × (St) × (St)))) (r : Int32 × (St × (St) × (St × (St × (St))) × (St) × (St))) : Prop := ∀ (y0 : Int32) (s0 : St × (St) × (St × (St × (St))) × (St) × (St)) (H : Heap) (locs : List Loc) (ls : Array Slot), g y0 s0 = some r → va_P (dC, dI) vwCl (dw_X19 a ac s0) H → va_D A (dw_X19 a ac s0) → va_S A s.heap H locs → lv_has ls 3 [] → W p l e (headSpec ow_dm_X19_register ({ frames := 11, cells := 0, slots := 0, locals := 245 })).room s m args below meth c H locs 0 0 Q (F0 m 20 ls [.int y0])
def dj_X19_register_0 (p : Program) (l : Launch) (e : Env) (s : State) (m : MethodId) (args : Array Value) (below : List Frame) (meth : Method) (c : Code) (Q : State → Prop) (A : Nat → Prop) (dC : Nat → ClassId) (dI : Nat → Nat → Nat) (a : Nat → Nat) (ac : Nat → ClassId) (g : Int32 → Int32 → (St × (St) × (St × (St × (St))) × (St) × (St)) → Option (Int32 × (St × (St) × (St × (St × (St))) × (St) × (St)))) (r : Int32 × (St × (St) × (St × (St × (St))) × (St) × (St))) : Prop := ∀ (v0 : Int32) (v1 : Int32) (s0 : St × (St) × (St × (St × (St))) × (St) × (St)) (H : Heap) (locs : List Loc) (ls : Array Slot), g v0 v1 s0 = some r → va_P (dC, dI) vwCl (dw_X19 a ac s0) H → va_D A (dw_X19 a ac s0) → va_S A s.heap H locs → lv_has ls 3 [(0, .ref (a 0)), (1, .int v0), (2, .int v1)] → W p l e (headSpec ow_dm_X19_register ({ frames := 11, cells := 0, slots := 0, locals := 245 })).room s m args below meth c H locs 0 0 Q (F0 m 0 ls [])
set_option maxHeartbeats 40000000 in
set_option maxRecDepth 100000 in
theorem db_X19_register_20 {p : Program} {l : Launch} {e : Env} {s : State} {m : MethodId} {args : Array Value} {below : List Frame} {meth : Method} {c : Code} {Q : State → Prop} {A : Nat → Prop} {dC : Nat → ClassId} {dI : Nat → Nat → Nat} {a : Nat → Nat} {ac : Nat → ClassId} {n : Nat} {r : Int32 × (St × (St) × (St × (St × (St))) × (St) × (St))} (C : nd_C p l s m args c A (dC, dI) cX19_register 3 RX19 ow_dm_X19_register (dk_X19 ac)) (K : nd_Ki p l e (headSpec ow_dm_X19_register ({ frames := 11, cells := 0, slots := 0, locals := 245 })).room s m args below meth c Q A (dC, dI) cX19_register .int (St × (St) × (St × (St × (St))) × (St) × (St)) (dw_X19 a ac) r) : dj_X19_register_20 p l e s m args below meth c Q A dC dI a ac (df_X19_register_20 n) r := by
  obtain ⟨hlt, hx, hb, hml, hown, hts, hN, hA, hK⟩ := id C
  intro y0 s0 H locs ls h hP hD hS hl
  unfold df_X19_register_20 at h
  exact K _ _ _ _ _ _ dX19_register_20 rfl (Option.some.inj h).symm hP hD hS
set_option maxHeartbeats 40000000 in
set_option maxRecDepth 100000 in
theorem db_X19_register_0 {p : Program} {l : Launch} {e : Env} {s : State} {m : MethodId} {args : Array Value} {below : List Frame} {meth : Method} {c : Code} {Q : State → Prop} {A : Nat → Prop} {dC : Nat → ClassId} {dI : Nat → Nat → Nat} {a : Nat → Nat} {ac : Nat → ClassId} {n : Nat} {r : Int32 × (St × (St) × (St × (St × (St))) × (St) × (St))} (C : nd_C p l s m args c A (dC, dI) cX19_register 3 RX19 ow_dm_X19_register (dk_X19 ac)) (K : nd_Ki p l e (headSpec ow_dm_X19_register ({ frames := 11, cells := 0, slots := 0, locals := 245 })).room s m args below meth c Q A (dC, dI) cX19_register .int (St × (St) × (St × (St × (St))) × (St) × (St)) (dw_X19 a ac) r) : dj_X19_register_0 p l e s m args below meth c Q A dC dI a ac (df_X19_register_0 n) r := by
  obtain ⟨hlt, hx, hb, hml, hown, hts, hN, hA, hK⟩ := id C
  intro v0 v1 s0 H locs ls h hP hD hS hl
  unfold df_X19_register_0 at h
  refine lv_aload_n hx hb dX19_register_0 rfl (lv_at hl 0 rfl) ?_
  obtain ⟨q1, s2, hq, h⟩ := nd_b2_e h
  have hPc := hP
  have hDc := hD
  have hKc := hK
  have hFc := nd_rs hD hS hA
  refine nd_cVi (As := []) (rest := []) (q := q1) (w' := dw_X19 a ac s2) ⟨hx, hb, hml, hown, hts⟩ (fun sz => dm_X19_shows l hlt dC dI a ac n  s0 hq sz) (cwV 0 hts gi_dm_X19_register_0 rfl rfl rfl (by decide +kernel) ⟨Nat.le_of_ble_eq_true rfl, Nat.le_of_ble_eq_true rfl⟩) hPc hDc hKc hS hA hN (va_recv hKc hPc (ci := 20) (q0 := 0) rfl rfl) rfl hl.1 rfl (Nat.le_of_ble_eq_true rfl) dX19_register_1 (fun H locs hP1 hD1 hk1 hS => ?_)
  have hP := hP1
  have hD := hD1.weaken (fun k q _ h => hFc q.1 h)
  refine lv_if_eq (tgt := 19) hx hb dX19_register_4 (by decide) (fun c4 => ?_) (fun c4 => ?_)
  · have h := nd_pos h c4
    refine lv_iconst (v := 0) hx hb dX19_register_19 (by decide) ?_
    exact (db_X19_register_20 C K) (0) s2 _ _ _ h hP hD hS (lv_sub hl [] rfl)
  · have h := nd_neg h c4
    refine lv_aload_n hx hb dX19_register_7 rfl (lv_at hl 0 rfl) ?_
    refine va_get (D := (dC, dI)) (ci := 20) (v := .ref (a 44)) (C := RX19) (T := TX19) (N := 36) hx hb hts hi_dm_X19_register_X19 hown hK hP 0 rfl rfl 13 (by decide) (hts (.fieldLink RX19 58 "TimeMachineModel" "m" "LTimeMachineModel$Machine;") (List.mem_of_getElem? (i := 5) rfl)) (fun _ h9 => h9) rfl dX19_register_8 ?_
    refine lv_iload_n hx hb dX19_register_11 rfl (lv_at hl 1 rfl) ?_
    refine lv_iload_n hx hb dX19_register_12 rfl (lv_at hl 2 rfl) ?_
    obtain ⟨q5, s6, hq, h⟩ := nd_b2_e h
    have hPc := dp_X19_44 hP
    have hDc := dd_X19_44 hD
    have hKc := dy_X19_44 hK
    have hFc := nd_rs hDc hS hA
    have hzA : ∀ q : Nat, H.size ≤ q → A q := fun q h => hA q (Nat.le_trans hS.1 h)
    refine nd_cVi (As := [.int v0, .int v1]) (rest := []) (q := q5) (w' := dw_X16 (fun k => a (k + 44)) (fun k => ac (k + 44)) s6) ⟨hx, hb, hml, hown, hts⟩ (fun sz => dm_X16_register l hlt dC dI (fun k => a (k + 44)) (fun k => ac (k + 44)) n (v0) (v1) s2.2.2.1.2 hq sz) (cwV 2 hts gi_dm_X19_register_1 rfl rfl rfl (by decide +kernel) ⟨Nat.le_of_ble_eq_true rfl, Nat.le_of_ble_eq_true rfl⟩) hPc hDc hKc hS hA hN (va_recv hKc hPc (ci := 17) (q0 := 0) rfl rfl) rfl hl.1 rfl (Nat.le_of_ble_eq_true rfl) dX19_register_13 (fun H locs hP1 hD1 hk1 hS => ?_)
    obtain ⟨hP, hD⟩ := dn_X19_44 hP hD hzA hk1 hP1 hD1
    obtain ⟨s8, es8, h⟩ := nd_let_e h
    have hP : va_P (dC, dI) vwCl (dw_X19 a ac s8) H := by rw [es8]; exact hP
    have hD : va_D A (dw_X19 a ac s8) := by rw [es8]; exact hD
    refine lv_goto (tgt := 20) hx hb dX19_register_16 (by decide) ?_
    exact (db_X19_register_20 C K) (q5) s8 _ _ _ h hP hD hS (lv_sub hl [] rfl)
set_option maxHeartbeats 40000000 in
set_option maxRecDepth 100000 in
theorem dm_X19_register (l : Launch) (hlt : l.stackTraces = false) (dC : Nat → ClassId) (dI : Nat → Nat → Nat) (a : Nat → Nat) (ac : Nat → ClassId) (n : Nat) (v0 : Int32) (v1 : Int32) (s0 : St × (St) × (St × (St × (St))) × (St) × (St)) {r : Int32 × (St × (St) × (St × (St × (St))) × (St) × (St))} (h : df_X19_register n v0 v1 s0 = some r) (sz : Nat) : Met l yX19_register ow_dm_X19_register ({ frames := 11, cells := 0, slots := 0, locals := 245 }) (va_Pc [.ref (a 0), .int v0, .int v1] (fun U => U.heap.size = sz ∧ va_P (dC, dI) vwCl (dw_X19 a ac s0) U.heap ∧ va_K (dC, dI) vwCl (dk_X19 ac) U ∧ va_D (fun _ => True) (dw_X19 a ac s0) ∧ nv_E (va_A (dw_X19 a ac s0) sz) U)) (va_Qi (fun x _ => x = r.1) (fun (_ : Unit) t => va_P (dC, dI) vwCl (dw_X19 a ac r.2) t.heap ∧ va_K (dC, dI) vwCl (dk_X19 ac) t ∧ va_D (va_A (dw_X19 a ac s0) sz) (dw_X19 a ac r.2)) (va_A (dw_X19 a ac s0) sz)) 0 0 (va_A (dw_X19 a ac s0) sz) := by
  refine Met.ofW (cc := cX19_register) (maxL := 3) (ret := (some .int)) (by decide) rfl ?_
  intro p e s m args below meth c s₁ B hml hv
  obtain ⟨rfl, hsz, hP, hK, hD0, hN⟩ := hv
  have hx := B.exec
  have hb := B.bytes
  have hr := B.returns
  have hts := atoms_spec (ws := ow_dm_X19_register) B.pre
  have hown : s.vm.findClass RX19 = some m.cls := findClass_of_methodNamed B.named
  have hlocks := B.notSynchronized
  subst hsz
  have hD := hD0.self (sz := s.heap.size)
  generalize hAe : va_A (dw_X19 a ac s0) s.heap.size = A at hD hN ⊢
  have hA : ∀ q : Nat, s.heap.size ≤ q → A q := fun q h => by rw [← hAe]; exact Or.inr h
  have hl := lv_entry ([.ref (a 0), .int v0, .int v1]) (n := 3) (Nat.le_of_ble_eq_true rfl)
  rw [lg_entry_eq]
  generalize (lg_sl ([.ref (a 0), .int v0, .int v1]) ++ List.replicate (3 - (lg_sl ([.ref (a 0), .int v0, .int v1])).length) Slot.unset).toArray = ls at hl ⊢
  have hl : lv_has ls 3 [(0, .ref (a 0)), (1, .int v0), (2, .int v1)] := hl
  exact db_X19_register_0 (dC := dC) (dI := dI) (a := a) (ac := ac) (n := n) (r := r) ⟨hlt, hx, hb, hml, hown, hts, hN, hA, hK⟩ (fun pc v τ H locs ls d z er hP hD hS => by subst er; exact W.zret (v := v) hx hb hr z (fun t ht hW => ⟨⟨v, (), rfl, rfl, by rw [ht]; exact hP, va_K.moved hW.alike hK, hD⟩, hS.F ht⟩) hS.2.2 d) v0 v1 s0 _ _ _ h hP hD va_S.rf (lv_sub hl [0, 1, 2] rfl)
def ow_dm_X19_process : List Cond := .code yX19_process cX19_process 3 (some .int) :: ([.methodLink RX19 315 yX19_shows, .instanceMethod yX19_shows, .selects RX19 yX19_shows yX19_shows, .initialized RX19, .constantLong RX19 325 (6), .methodLink RX19 126 yX19_in, .static yX19_in, .constantLong RX19 255 (15), .fieldLink RX19 58 "TimeMachineModel" "m" "LTimeMachineModel$Machine;", .methodLink RX19 322 yX16_process, .instanceMethod yX16_process, .selects RX16 yX16_process yX16_process, .initialized RX16] ++ (u_ws RX19 TX19 36 ++ (ow_dm_X19_shows ++ (ow_dm_X19_in ++ (ow_dm_X16_process ++ [])))))
theorem gd_dm_X19_process : ∀ w ∈ ow_dm_X19_process, (w.onTables && w.keeps) = true ∨ ∃ ty, w = Cond.arrayClass ty := List.forall_mem_cons.mpr ⟨good_of_word rfl, List.forall_mem_append.mpr ⟨fun w h => good_of_word (List.all_eq_true.mp (by decide +kernel) w h), List.forall_mem_append.mpr ⟨gu_X19, List.forall_mem_append.mpr ⟨gd_dm_X19_shows, List.forall_mem_append.mpr ⟨gd_dm_X19_in, List.forall_mem_append.mpr ⟨gd_dm_X16_process, fun _ h => nomatch h⟩⟩⟩⟩⟩⟩
theorem hi_dm_X19_process_X19 : ∀ w ∈ u_ws RX19 TX19 36, w ∈ ow_dm_X19_process := fun w h => List.mem_cons_of_mem _ (List.mem_append_right _ (List.mem_append_left _ h))
theorem gi_dm_X19_process_0 : GoodIn ow_dm_X19_process (wsV RX19 315 RX19 yX19_shows ow_dm_X19_shows) := goodIn_app (goodIn_of _ (by decide +kernel)) (fun w h => ⟨List.mem_cons_of_mem _ (List.mem_append_right _ (List.mem_append_right _ (List.mem_append_left _ h))), gd_dm_X19_shows w h⟩)
theorem gi_dm_X19_process_1 : GoodIn ow_dm_X19_process (wsS RX19 126 yX19_in ow_dm_X19_in) := goodIn_app (goodIn_of _ (by decide +kernel)) (fun w h => ⟨List.mem_cons_of_mem _ (List.mem_append_right _ (List.mem_append_right _ (List.mem_append_right _ (List.mem_append_left _ h)))), gd_dm_X19_in w h⟩)
theorem gi_dm_X19_process_2 : GoodIn ow_dm_X19_process (wsV RX19 322 RX16 yX16_process ow_dm_X16_process) := goodIn_app (goodIn_of _ (by decide +kernel)) (fun w h => ⟨List.mem_cons_of_mem _ (List.mem_append_right _ (List.mem_append_right _ (List.mem_append_right _ (List.mem_append_right _ (List.mem_append_left _ h))))), gd_dm_X16_process w h⟩)
def dj_X19_process_53 (p : Program) (l : Launch) (e : Env) (s : State) (m : MethodId) (args : Array Value) (below : List Frame) (meth : Method) (c : Code) (Q : State → Prop) (A : Nat → Prop) (dC : Nat → ClassId) (dI : Nat → Nat → Nat) (a : Nat → Nat) (ac : Nat → ClassId) (g : Int32 → (St × (St) × (St × (St × (St))) × (St) × (St)) → Option (Int32 × (St × (St) × (St × (St × (St))) × (St) × (St)))) (r : Int32 × (St × (St) × (St × (St × (St))) × (St) × (St))) : Prop := ∀ (y0 : Int32) (s0 : St × (St) × (St × (St × (St))) × (St) × (St)) (H : Heap) (locs : List Loc) (ls : Array Slot), g y0 s0 = some r → va_P (dC, dI) vwCl (dw_X19 a ac s0) H → va_D A (dw_X19 a ac s0) → va_S A s.heap H locs → lv_has ls 3 [] → W p l e (headSpec ow_dm_X19_process ({ frames := 11, cells := 0, slots := 0, locals := 245 })).room s m args below meth c H locs 0 0 Q (F0 m 53 ls [.int y0])
def dj_X19_process_48 (p : Program) (l : Launch) (e : Env) (s : State) (m : MethodId) (args : Array Value) (below : List Frame) (meth : Method) (c : Code) (Q : State → Prop) (A : Nat → Prop) (dC : Nat → ClassId) (dI : Nat → Nat → Nat) (a : Nat → Nat) (ac : Nat → ClassId) (g : (St × (St) × (St × (St × (St))) × (St) × (St)) → Option (Int32 × (St × (St) × (St × (St × (St))) × (St) × (St)))) (r : Int32 × (St × (St) × (St × (St × (St))) × (St) × (St))) : Prop := ∀ (s0 : St × (St) × (St × (St × (St))) × (St) × (St)) (H : Heap) (locs : List Loc) (ls : Array Slot), g s0 = some r → va_P (dC, dI) vwCl (dw_X19 a ac s0) H → va_D A (dw_X19 a ac s0) → va_S A s.heap H locs → lv_has ls 3 [] → W p l e (headSpec ow_dm_X19_process ({ frames := 11, cells := 0, slots := 0, locals := 245 })).room s m args below meth c H locs 0 0 Q (F0 m 48 ls [])
def dj_X19_process_31 (p : Program) (l : Launch) (e : Env) (s : State) (m : MethodId) (args : Array Value) (below : List Frame) (meth : Method) (c : Code) (Q : State → Prop) (A : Nat → Prop) (dC : Nat → ClassId) (dI : Nat → Nat → Nat) (a : Nat → Nat) (ac : Nat → ClassId) (g : Int32 → (St × (St) × (St × (St × (St))) × (St) × (St)) → Option (Int32 × (St × (St) × (St × (St × (St))) × (St) × (St)))) (r : Int32 × (St × (St) × (St × (St × (St))) × (St) × (St))) : Prop := ∀ (x2 : Int32) (s0 : St × (St) × (St × (St × (St))) × (St) × (St)) (H : Heap) (locs : List Loc) (ls : Array Slot), g x2 s0 = some r → va_P (dC, dI) vwCl (dw_X19 a ac s0) H → va_D A (dw_X19 a ac s0) → va_S A s.heap H locs → lv_has ls 3 [(2, .int x2)] → W p l e (headSpec ow_dm_X19_process ({ frames := 11, cells := 0, slots := 0, locals := 245 })).room s m args below meth c H locs 0 0 Q (F0 m 31 ls [])
def dj_X19_process_0 (p : Program) (l : Launch) (e : Env) (s : State) (m : MethodId) (args : Array Value) (below : List Frame) (meth : Method) (c : Code) (Q : State → Prop) (A : Nat → Prop) (dC : Nat → ClassId) (dI : Nat → Nat → Nat) (a : Nat → Nat) (ac : Nat → ClassId) (g : Int32 → Int32 → (St × (St) × (St × (St × (St))) × (St) × (St)) → Option (Int32 × (St × (St) × (St × (St × (St))) × (St) × (St)))) (r : Int32 × (St × (St) × (St × (St × (St))) × (St) × (St))) : Prop := ∀ (v0 : Int32) (v1 : Int32) (s0 : St × (St) × (St × (St × (St))) × (St) × (St)) (H : Heap) (locs : List Loc) (ls : Array Slot), g v0 v1 s0 = some r → va_P (dC, dI) vwCl (dw_X19 a ac s0) H → va_D A (dw_X19 a ac s0) → va_S A s.heap H locs → lv_has ls 3 [(0, .ref (a 0)), (1, .int v0), (2, .int v1)] → W p l e (headSpec ow_dm_X19_process ({ frames := 11, cells := 0, slots := 0, locals := 245 })).room s m args below meth c H locs 0 0 Q (F0 m 0 ls [])
set_option maxHeartbeats 40000000 in
set_option maxRecDepth 100000 in
theorem db_X19_process_53 {p : Program} {l : Launch} {e : Env} {s : State} {m : MethodId} {args : Array Value} {below : List Frame} {meth : Method} {c : Code} {Q : State → Prop} {A : Nat → Prop} {dC : Nat → ClassId} {dI : Nat → Nat → Nat} {a : Nat → Nat} {ac : Nat → ClassId} {n : Nat} {r : Int32 × (St × (St) × (St × (St × (St))) × (St) × (St))} (C : nd_C p l s m args c A (dC, dI) cX19_process 3 RX19 ow_dm_X19_process (dk_X19 ac)) (K : nd_Ki p l e (headSpec ow_dm_X19_process ({ frames := 11, cells := 0, slots := 0, locals := 245 })).room s m args below meth c Q A (dC, dI) cX19_process .int (St × (St) × (St × (St × (St))) × (St) × (St)) (dw_X19 a ac) r) : dj_X19_process_53 p l e s m args below meth c Q A dC dI a ac (df_X19_process_53 n) r := by
  obtain ⟨hlt, hx, hb, hml, hown, hts, hN, hA, hK⟩ := id C
  intro y0 s0 H locs ls h hP hD hS hl
  unfold df_X19_process_53 at h
  exact K _ _ _ _ _ _ dX19_process_53 rfl (Option.some.inj h).symm hP hD hS
set_option maxHeartbeats 40000000 in
set_option maxRecDepth 100000 in
theorem db_X19_process_48 {p : Program} {l : Launch} {e : Env} {s : State} {m : MethodId} {args : Array Value} {below : List Frame} {meth : Method} {c : Code} {Q : State → Prop} {A : Nat → Prop} {dC : Nat → ClassId} {dI : Nat → Nat → Nat} {a : Nat → Nat} {ac : Nat → ClassId} {n : Nat} {r : Int32 × (St × (St) × (St × (St × (St))) × (St) × (St))} (C : nd_C p l s m args c A (dC, dI) cX19_process 3 RX19 ow_dm_X19_process (dk_X19 ac)) (K : nd_Ki p l e (headSpec ow_dm_X19_process ({ frames := 11, cells := 0, slots := 0, locals := 245 })).room s m args below meth c Q A (dC, dI) cX19_process .int (St × (St) × (St × (St × (St))) × (St) × (St)) (dw_X19 a ac) r) : dj_X19_process_48 p l e s m args below meth c Q A dC dI a ac (df_X19_process_48 n) r := by
  obtain ⟨hlt, hx, hb, hml, hown, hts, hN, hA, hK⟩ := id C
  intro s0 H locs ls h hP hD hS hl
  unfold df_X19_process_48 at h
  refine lv_iconst (v := (-1)) hx hb dX19_process_48 (by decide) ?_
  refine lv_goto (tgt := 53) hx hb dX19_process_49 (by decide) ?_
  exact (db_X19_process_53 C K) ((-1)) s0 _ _ _ h hP hD hS (lv_sub hl [] rfl)
set_option maxHeartbeats 40000000 in
set_option maxRecDepth 100000 in
theorem db_X19_process_31 {p : Program} {l : Launch} {e : Env} {s : State} {m : MethodId} {args : Array Value} {below : List Frame} {meth : Method} {c : Code} {Q : State → Prop} {A : Nat → Prop} {dC : Nat → ClassId} {dI : Nat → Nat → Nat} {a : Nat → Nat} {ac : Nat → ClassId} {n : Nat} {r : Int32 × (St × (St) × (St × (St × (St))) × (St) × (St))} (C : nd_C p l s m args c A (dC, dI) cX19_process 3 RX19 ow_dm_X19_process (dk_X19 ac)) (K : nd_Ki p l e (headSpec ow_dm_X19_process ({ frames := 11, cells := 0, slots := 0, locals := 245 })).room s m args below meth c Q A (dC, dI) cX19_process .int (St × (St) × (St × (St × (St))) × (St) × (St)) (dw_X19 a ac) r) : dj_X19_process_31 p l e s m args below meth c Q A dC dI a ac (df_X19_process_31 n) r := by
  obtain ⟨hlt, hx, hb, hml, hown, hts, hN, hA, hK⟩ := id C
  intro x2 s0 H locs ls h hP hD hS hl
  unfold df_X19_process_31 at h
  refine lv_iload_n hx hb dX19_process_31 rfl (lv_at hl 0 rfl) ?_
  refine lv_iconst (v := 1) hx hb dX19_process_32 (by decide) ?_
  refine lv_icmp_eq (tgt := 48) hx hb dX19_process_33 (by decide) (fun c5 => ?_) (fun c5 => ?_)
  · have h := nd_pos h c5
    exact (db_X19_process_48 C K)  s0 _ _ _ h hP hD hS (lv_sub hl [] rfl)
  · have h := nd_neg h c5
    refine lv_iload_n hx hb dX19_process_36 rfl (lv_at hl 0 rfl) ?_
    refine lv_i2l hx hb dX19_process_37 rfl ?_
    refine lv_lconst (v := 0) hx hb dX19_process_38 (by decide) ?_
    refine lv_ldc2 hx hb hown (hts (.constantLong RX19 325 (6)) (List.mem_of_getElem? (i := 5) rfl)) dX19_process_39 ?_
    obtain ⟨q6, s7, hq, h⟩ := nd_b2_e h
    have hPc : va_P (dC, dI) vwCl (dw_P a ac ()) H := nd_p0
    have hDc : va_D A (dw_P a ac ()) := nd_d0
    have hKc : va_K (dC, dI) vwCl (dk_P ac) s := nd_y0 hK
    have hFc : ∀ q, va_A (dw_P a ac ()) H.size q → A q := nd_r0 hS hA
    refine nd_cSi (As := [.long (x2.toInt64), .long 0, .long 6]) (rest := []) (q := q6) (w' := dw_P a ac s7) ⟨hx, hb, hml, hown, hts⟩ (fun sz => dm_X19_in l hlt dC dI a ac n ((x2.toInt64)) (0) (6) () hq sz) (cwS 3 hts gi_dm_X19_process_1 rfl rfl rfl (by decide +kernel) ⟨Nat.le_of_ble_eq_true rfl, Nat.le_of_ble_eq_true rfl⟩) hPc hDc hKc hS hA hN rfl hl.1 rfl (Nat.le_of_ble_eq_true rfl) dX19_process_42 (fun H locs hP1 hD1 hk1 hS => ?_)
    have hP := nd_n0 hP hk1
    refine lv_if_ne (tgt := 52) hx hb dX19_process_45 (by decide) (fun c9 => ?_) (fun c9 => ?_)
    · have h := nd_neg h c9
      refine lv_iconst (v := 0) hx hb dX19_process_52 (by decide) ?_
      exact (db_X19_process_53 C K) (0) s0 _ _ _ h hP hD hS (lv_sub hl [] rfl)
    · have h := nd_pos h c9
      exact (db_X19_process_48 C K)  s0 _ _ _ h hP hD hS (lv_sub hl [] rfl)
