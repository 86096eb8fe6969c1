set_option maxHeartbeats 40000000 in
set_option maxRecDepth 100000 in
theorem de_wX12t_X6_0 {a : Nat → Nat} {ac : Nat → ClassId} {τ : St × (St)} : ([dwo_X6 (fun k => a (k + 23)) (fun k => ac (k + 23)) (τ.1), dw_X10 (fun k => a (k + 33)) (fun k => ac (k + 33)) (τ.2)] : List va_W).flatten = dw_X6 (fun k => a (k + 23)) (fun k => ac (k + 23)) τ := by
  first
  | (simp only [List.flatten_cons, List.flatten_nil, List.append_nil]; done)
  | (simp only [List.flatten_cons, List.flatten_nil, List.append_nil]; rfl)
set_option maxHeartbeats 40000000 in
set_option maxRecDepth 100000 in
theorem dp_wX12t_X6_0 {D : va_G} {H : Heap} {a : Nat → Nat} {ac : Nat → ClassId} {σ : St × Rw × (St) × (St × (St)) × (St) × (St × (St × (St × (St)))) × (St) × (St) × (Nat → St) × (Nat → St) × (Nat → St × (St))} (h : va_P D vwCl (dw_X12 a ac σ) H) : va_P D vwCl (dw_X6 (fun k => a (k + 23)) (fun k => ac (k + 23)) σ.2.2.2.2.2.1.2.2) H := by
  have h2 := nd_vp (segs := dg_X12 a ac σ) (ix := [10, 11]) (old := [dwo_X6 (fun k => a (k + 23)) (fun k => ac (k + 23)) (σ.2.2.2.2.2.1.2.2.1), dw_X10 (fun k => a (k + 33)) (fun k => ac (k + 33)) (σ.2.2.2.2.2.1.2.2.2)]) h (nd_co rfl (nd_co rfl rfl))
  have e := de_wX12t_X6_0 (a := a) (ac := ac) (τ := σ.2.2.2.2.2.1.2.2)
  exact e ▸ h2
set_option maxHeartbeats 40000000 in
set_option maxRecDepth 100000 in
theorem dd_wX12t_X6_0 {A : Nat → Prop} {a : Nat → Nat} {ac : Nat → ClassId} {σ : St × Rw × (St) × (St × (St)) × (St) × (St × (St × (St × (St)))) × (St) × (St) × (Nat → St) × (Nat → St) × (Nat → St × (St))} (h : va_D A (dw_X12 a ac σ)) : va_D A (dw_X6 (fun k => a (k + 23)) (fun k => ac (k + 23)) σ.2.2.2.2.2.1.2.2) := by
  have h2 := nd_vd (segs := dg_X12 a ac σ) (ix := [10, 11]) (old := [dwo_X6 (fun k => a (k + 23)) (fun k => ac (k + 23)) (σ.2.2.2.2.2.1.2.2.1), dw_X10 (fun k => a (k + 33)) (fun k => ac (k + 33)) (σ.2.2.2.2.2.1.2.2.2)]) h (nd_co rfl (nd_co rfl rfl)) (by decide)
  have e := de_wX12t_X6_0 (a := a) (ac := ac) (τ := σ.2.2.2.2.2.1.2.2)
  exact e ▸ h2
set_option maxHeartbeats 40000000 in
set_option maxRecDepth 100000 in
theorem dy_wX12t_X6_0 {D : va_G} {U : State} {ac : Nat → ClassId} (h : va_K D vwCl (dk_X12 ac) U) : va_K D vwCl (dk_X6 (fun k => ac (k + 23))) U := (h.sub [17, 18, 19, 20, 21, 22, 23, 24, 25, 26, 27, 28, 29, 30, 31, 32, 33, 34] rfl)
set_option maxHeartbeats 40000000 in
set_option maxRecDepth 100000 in
theorem dn_wX12t_X6_0 {A0 : Nat → Prop} {D : va_G} {H H1 : Heap} {a : Nat → Nat} {ac : Nat → ClassId} {σ : St × Rw × (St) × (St × (St)) × (St) × (St × (St × (St × (St)))) × (St) × (St) × (Nat → St) × (Nat → St) × (Nat → St × (St))} {τ : St × (St)} (hP : va_P D vwCl (dw_X12 a ac σ) H) (hD : va_D A0 (dw_X12 a ac σ)) (hA : ∀ q : Nat, H.size ≤ q → A0 q) (hk : ∀ q : Nat, q < H.size → ¬ va_A (dw_X6 (fun k => a (k + 23)) (fun k => ac (k + 23)) σ.2.2.2.2.2.1.2.2) H.size q → H1[q]? = H[q]?) (h1 : va_P D vwCl (dw_X6 (fun k => a (k + 23)) (fun k => ac (k + 23)) τ) H1) (h2 : va_D (va_A (dw_X6 (fun k => a (k + 23)) (fun k => ac (k + 23)) σ.2.2.2.2.2.1.2.2) H.size) (dw_X6 (fun k => a (k + 23)) (fun k => ac (k + 23)) τ)) : va_P D vwCl (dw_X12 a ac (σ.1, (σ.2.1, (σ.2.2.1, (σ.2.2.2.1, (σ.2.2.2.2.1, ((σ.2.2.2.2.2.1.1, (σ.2.2.2.2.2.1.2.1, τ)), σ.2.2.2.2.2.2))))))) H1 ∧ va_D A0 (dw_X12 a ac (σ.1, (σ.2.1, (σ.2.2.1, (σ.2.2.2.1, (σ.2.2.2.2.1, ((σ.2.2.2.2.2.1.1, (σ.2.2.2.2.2.1.2.1, τ)), σ.2.2.2.2.2.2))))))) := by
  have eo := de_wX12t_X6_0 (a := a) (ac := ac) (τ := σ.2.2.2.2.2.1.2.2)
  have en := de_wX12t_X6_0 (a := a) (ac := ac) (τ := τ)
  have h := nd_vn (segs := dg_X12 a ac σ) (ix := [10, 11]) (old := [dwo_X6 (fun k => a (k + 23)) (fun k => ac (k + 23)) (σ.2.2.2.2.2.1.2.2.1), dw_X10 (fun k => a (k + 33)) (fun k => ac (k + 33)) (σ.2.2.2.2.2.1.2.2.2)]) (new := [dwo_X6 (fun k => a (k + 23)) (fun k => ac (k + 23)) (τ.1), dw_X10 (fun k => a (k + 33)) (fun k => ac (k + 33)) (τ.2)]) hP hD (nd_co rfl (nd_co rfl rfl)) rfl (fun q z y => hk q z (fun w => y (eo ▸ w))) (en ▸ h1)
  have ee : nd_sets (dg_X12 a ac σ) [10, 11] [dwo_X6 (fun k => a (k + 23)) (fun k => ac (k + 23)) (τ.1), dw_X10 (fun k => a (k + 33)) (fun k => ac (k + 33)) (τ.2)] = dg_X12 a ac (σ.1, (σ.2.1, (σ.2.2.1, (σ.2.2.2.1, (σ.2.2.2.2.1, ((σ.2.2.2.2.2.1.1, (σ.2.2.2.2.2.1.2.1, τ)), σ.2.2.2.2.2.2)))))) := rfl
  have hz : va_P D vwCl (dg_X12 a ac (σ.1, (σ.2.1, (σ.2.2.1, (σ.2.2.2.1, (σ.2.2.2.2.1, ((σ.2.2.2.2.2.1.1, (σ.2.2.2.2.2.1.2.1, τ)), σ.2.2.2.2.2.2))))))).flatten H1 := by rw [← ee]; exact h
  exact ⟨hz, nd_Da hD dA_X12⟩
def nd_Kx (p : Program) (l : Launch) (e : Env) (R : Room) (s : State) (m : MethodId) (args : Array Value) (below : List Frame) (meth : Method) (c : Code) (Q : State → Prop) (A : Nat → Prop) (D : va_G) (cc : ByteArray) (ty : FieldType) (S : Type) (wf : S → va_W) (τ : Sb) (r : Int32 × (S × Sb)) : Prop := ∀ (pc : Nat) (v : Int32) (σ : S) (H : Heap) (locs : List Loc) (ls : Array Slot), decode cc pc = .ok (.ireturn, 1) → narrow ty (.int v) = .int v → r = (v, (σ, τ)) → va_P D vwCl (wf σ) H → va_D A (wf σ) → va_S A s.heap H locs → W p l e R s m args below meth c H locs 0 0 Q (F0 m pc ls [.int v])
def nd_K94 (p : Program) (l : Launch) (e : Env) (R : Room) (s : State) (m : MethodId) (args : Array Value) (below : List Frame) (meth : Method) (c : Code) (Q : State → Prop) (A : Nat → Prop) (dC : Nat → ClassId) (dI : Nat → Nat → Nat) (a : Nat → Nat) (ac : Nat → ClassId) (n : Nat) (τ : Sb) (r : Int32 × ((St × Rw × (St) × (St × (St)) × (St) × (St × (St × (St × (St)))) × (St) × (St) × (Nat → St) × (Nat → St) × (Nat → St × (St))) × Sb)) : Prop := ∀ (x3 x5 : Int32) (s0 : St × Rw × (St) × (St × (St)) × (St) × (St × (St × (St × (St)))) × (St) × (St) × (Nat → St) × (Nat → St) × (Nat → St × (St))) (H : Heap) (locs : List Loc) (ls : Array Slot), df_X12_text_94 n x3 x5 s0 τ = some r → va_P (dC, dI) vwCl (dw_X12 a ac s0) H → va_D A (dw_X12 a ac s0) → va_S A s.heap H locs → lv_has ls 6 [(0, .ref (a 0)), (3, .int x3), (5, .int x5)] → W p l e R s m args below meth c H locs 0 0 Q (F0 m 94 ls [])
def nd_Ky (p : Program) (l : Launch) (e : Env) (R : Room) (s : State) (m : MethodId) (args : Array Value) (below : List Frame) (meth : Method) (c : Code) (Q : State → Prop) (A : Nat → Prop) (D : va_G) (cc : ByteArray) (wf : Nat → (St × Rw × (St) × (St × (St)) × (St) × (St × (St × (St × (St)))) × (St) × (St) × (Nat → St) × (Nat → St) × (Nat → St × (St))) × Sb → va_W) (r : Int32 × ((St × Rw × (St) × (St × (St)) × (St) × (St × (St × (St × (St)))) × (St) × (St) × (Nat → St) × (Nat → St) × (Nat → St × (St))) × Sb)) : Prop := ∀ (pc : Nat) (x : Int32) (v k : Nat) (σ : (St × Rw × (St) × (St × (St)) × (St) × (St × (St × (St × (St)))) × (St) × (St) × (Nat → St) × (Nat → St) × (Nat → St × (St))) × Sb) (H : Heap) (locs : List Loc) (ls : Array Slot), k ≤ 1 → decode cc pc = .ok (.ireturn, 1) → r = (x, σ) → va_P D vwCl (wf v σ) H → va_D A (wf v σ) → va_S A s.heap H locs → W p l e R s m args below meth c H locs k (34 * k) Q (F0 m pc ls [.int x])
def dw_TX (a : Nat → Nat) (ac acB : Nat → ClassId) (v : Nat) (σ : (St × Rw × (St) × (St × (St)) × (St) × (St × (St × (St × (St)))) × (St) × (St) × (Nat → St) × (Nat → St) × (Nat → St × (St))) × Sb) : va_W := dw_X12 a ac σ.1 ++ dw_SB (fun _ => a 9999) acB v σ.2
theorem nd_Sw {A A1 : Nat → Prop} {H0 H : Heap} {locs : List Loc} (h : va_S A1 H0 H locs) (up : ∀ q, A1 q → A q) : va_S A H0 H locs := ⟨h.1, fun q l n => h.2.1 q l (fun z => n (up q z)), fun q hq => up _ (h.2.2 q hq)⟩
def ow_dm_X12_text : List Cond := Cond.code yX12_text cX12_text 6 (some .int) :: ([Cond.methodLink RX12 208 yX12_isThere, Cond.instanceMethod yX12_isThere, Cond.selects RX12 yX12_isThere yX12_isThere, Cond.initialized RX12, Cond.fieldLink RX12 33 "TimeMachine" "timeline" "LTimeMachine$Timeline;", Cond.fieldLink RX12 192 "TimeMachine$Timeline" "machine" "LTimeMachine$Machine;", Cond.methodLink RX12 224 yX6_may, Cond.instanceMethod yX6_may, Cond.selects RX6 yX6_may yX6_may, Cond.initialized RX6, Cond.methodLink RX12 231 yX6_halfAt, Cond.instanceMethod yX6_halfAt, Cond.selects RX6 yX6_halfAt yX6_halfAt, Cond.fieldLink RX12 52 "TimeMachine" "letters" "Ljava/lang/StringBuilder;", Cond.methodLink RX12 234 yJ4_setLength_d00df, Cond.instanceMethod yJ4_setLength_d00df, Cond.selects RJ4 yJ4_setLength_d00df yJ4_setLength_d00df, Cond.initialized RJ4, Cond.methodLink RX12 237 yX7_spell, Cond.static yX7_spell, Cond.initialized RX7, Cond.methodLink RX12 243 yJ4_length_8abf5, Cond.instanceMethod yJ4_length_8abf5, Cond.selects RJ4 yJ4_length_8abf5 yJ4_length_8abf5, Cond.methodLink RX12 246 yJ4_charAt_5068e, Cond.instanceMethod yJ4_charAt_5068e, Cond.selects RJ4 yJ4_charAt_5068e yJ4_charAt_5068e] ++ (u_ws RX12 TX12 12 ++ (u_ws RX11 TX11 16 ++ (ow_dm_X12_isThere ++ (ow_dm_X6_may ++ (ow_dm_X6_halfAt ++ (ow_dm_J4_setLength_d00df ++ (ow_dm_X7_spell ++ (ow_dm_J4_length_8abf5 ++ (ow_dm_J4_charAt_5068e ++ []))))))))))
theorem gd_dm_X12_text : ∀ w ∈ ow_dm_X12_text, (w.onTables && w.keeps) = true ∨ ∃ ty, w = Cond.arrayClass ty := List.forall_mem_cons.mpr ⟨good_of_word rfl, List.forall_mem_append.mpr ⟨fun w h => good_of_word (List.all_eq_true.mp (by decide +kernel) w h), List.forall_mem_append.mpr ⟨gu_X12, List.forall_mem_append.mpr ⟨gu_X11, List.forall_mem_append.mpr ⟨gd_dm_X12_isThere, List.forall_mem_append.mpr ⟨gd_dm_X6_may, List.forall_mem_append.mpr ⟨gd_dm_X6_halfAt, List.forall_mem_append.mpr ⟨gd_dm_J4_setLength_d00df, List.forall_mem_append.mpr ⟨gd_dm_X7_spell, List.forall_mem_append.mpr ⟨gd_dm_J4_length_8abf5, List.forall_mem_append.mpr ⟨gd_dm_J4_charAt_5068e, fun _ h => nomatch h⟩⟩⟩⟩⟩⟩⟩⟩⟩⟩⟩
theorem hi_dm_X12_text_X12 : ∀ w ∈ u_ws RX12 TX12 12, w ∈ ow_dm_X12_text := fun w h => List.mem_cons_of_mem _ (List.mem_append_right _ (List.mem_append_left _ h))
theorem hi_dm_X12_text_X11 : ∀ w ∈ u_ws RX11 TX11 16, w ∈ ow_dm_X12_text := fun w h => List.mem_cons_of_mem _ (List.mem_append_right _ (List.mem_append_right _ (List.mem_append_left _ h)))
theorem gi_dm_X12_text_0 : GoodIn ow_dm_X12_text (wsV RX12 208 RX12 yX12_isThere ow_dm_X12_isThere) := goodIn_app (goodIn_of _ (by decide +kernel)) (fun w h => ⟨List.mem_cons_of_mem _ (List.mem_append_right _ (List.mem_append_right _ (List.mem_append_right _ (List.mem_append_left _ h)))), gd_dm_X12_isThere w h⟩)
theorem gi_dm_X12_text_1 : GoodIn ow_dm_X12_text (wsV RX12 224 RX6 yX6_may ow_dm_X6_may) := goodIn_app (goodIn_of _ (by decide +kernel)) (fun w h => ⟨List.mem_cons_of_mem _ (List.mem_append_right _ (List.mem_append_right _ (List.mem_append_right _ (List.mem_append_right _ (List.mem_append_left _ h))))), gd_dm_X6_may w h⟩)
theorem gi_dm_X12_text_2 : GoodIn ow_dm_X12_text (wsV RX12 231 RX6 yX6_halfAt ow_dm_X6_halfAt) := goodIn_app (goodIn_of _ (by decide +kernel)) (fun w h => ⟨List.mem_cons_of_mem _ (List.mem_append_right _ (List.mem_append_right _ (List.mem_append_right _ (List.mem_append_right _ (List.mem_append_right _ (List.mem_append_left _ h)))))), gd_dm_X6_halfAt w h⟩)
theorem gi_dm_X12_text_3 : GoodIn ow_dm_X12_text (wsV RX12 234 RJ4 yJ4_setLength_d00df ow_dm_J4_setLength_d00df) := goodIn_app (goodIn_of _ (by decide +kernel)) (fun w h => ⟨List.mem_cons_of_mem _ (List.mem_append_right _ (List.mem_append_right _ (List.mem_append_right _ (List.mem_append_right _ (List.mem_append_right _ (List.mem_append_right _ (List.mem_append_left _ h))))))), gd_dm_J4_setLength_d00df w h⟩)
theorem gi_dm_X12_text_4 : GoodIn ow_dm_X12_text (va_wsS RX12 237 yX7_spell ow_dm_X7_spell) := goodIn_app (goodIn_of _ (by decide +kernel)) (fun w h => ⟨List.mem_cons_of_mem _ (List.mem_append_right _ (List.mem_append_right _ (List.mem_append_right _ (List.mem_append_right _ (List.mem_append_right _ (List.mem_append_right _ (List.mem_append_right _ (List.mem_append_left _ h)))))))), gd_dm_X7_spell w h⟩)
theorem gi_dm_X12_text_5 : GoodIn ow_dm_X12_text (wsV RX12 243 RJ4 yJ4_length_8abf5 ow_dm_J4_length_8abf5) := goodIn_app (goodIn_of _ (by decide +kernel)) (fun w h => ⟨List.mem_cons_of_mem _ (List.mem_append_right _ (List.mem_append_right _ (List.mem_append_right _ (List.mem_append_right _ (List.mem_append_right _ (List.mem_append_right _ (List.mem_append_right _ (List.mem_append_right _ (List.mem_append_left _ h))))))))), gd_dm_J4_length_8abf5 w h⟩)
theorem gi_dm_X12_text_6 : GoodIn ow_dm_X12_text (wsV RX12 246 RJ4 yJ4_charAt_5068e ow_dm_J4_charAt_5068e) := goodIn_app (goodIn_of _ (by decide +kernel)) (fun w h => ⟨List.mem_cons_of_mem _ (List.mem_append_right _ (List.mem_append_right _ (List.mem_append_right _ (List.mem_append_right _ (List.mem_append_right _ (List.mem_append_right _ (List.mem_append_right _ (List.mem_append_right _ (List.mem_append_right _ (List.mem_append_left _ h)))))))))), gd_dm_J4_charAt_5068e w h⟩)
def dj_X12_text_34 (p : Program) (l : Launch) (e : Env) (s : State) (m : MethodId) (args : Array Value) (below : List Frame) (meth : Method) (c : Code) (Q : State → Prop) (A : Nat → Prop) (dC : Nat → ClassId) (dI : Nat → Nat → Nat) (a : Nat → Nat) (ac : Nat → ClassId) (g : (St × Rw × (St) × (St × (St)) × (St) × (St × (St × (St × (St)))) × (St) × (St) × (Nat → St) × (Nat → St) × (Nat → St × (St))) → Option (Int32 × ((St × Rw × (St) × (St × (St)) × (St) × (St × (St × (St × (St)))) × (St) × (St) × (Nat → St) × (Nat → St) × (Nat → St × (St))) × Sb))) (r : Int32 × ((St × Rw × (St) × (St × (St)) × (St) × (St × (St × (St × (St)))) × (St) × (St) × (Nat → St) × (Nat → St) × (Nat → St × (St))) × Sb)) : Prop := ∀ (s0 : St × Rw × (St) × (St × (St)) × (St) × (St × (St × (St × (St)))) × (St) × (St) × (Nat → St) × (Nat → St) × (Nat → St × (St))) (H : Heap) (locs : List Loc) (ls : Array Slot), g s0 = some r → va_P (dC, dI) vwCl (dw_X12 a ac s0) H → va_D A (dw_X12 a ac s0) → va_S A s.heap H locs → lv_has ls 6 [] → W p l e (headSpec ow_dm_X12_text ({ frames := 10, cells := 1, slots := 34, locals := 270 })).room s m args below meth c H locs 0 0 Q (F0 m 34 ls [])
def dj_X12_text_0 (p : Program) (l : Launch) (e : Env) (s : State) (m : MethodId) (args : Array Value) (below : List Frame) (meth : Method) (c : Code) (Q : State → Prop) (A : Nat → Prop) (dC : Nat → ClassId) (dI : Nat → Nat → Nat) (a : Nat → Nat) (ac : Nat → ClassId) (g : Int32 → Int32 → Int32 → (St × Rw × (St) × (St × (St)) × (St) × (St × (St × (St × (St)))) × (St) × (St) × (Nat → St) × (Nat → St) × (Nat → St × (St))) → Option (Int32 × ((St × Rw × (St) × (St × (St)) × (St) × (St × (St × (St × (St)))) × (St) × (St) × (Nat → St) × (Nat → St) × (Nat → St × (St))) × Sb))) (r : Int32 × ((St × Rw × (St) × (St × (St)) × (St) × (St × (St × (St × (St)))) × (St) × (St) × (Nat → St) × (Nat → St) × (Nat → St × (St))) × Sb)) : Prop := ∀ (v0 : Int32) (v1 : Int32) (v2 : Int32) (s0 : St × Rw × (St) × (St × (St)) × (St) × (St × (St × (St × (St)))) × (St) × (St) × (Nat → St) × (Nat → St) × (Nat → St × (St))) (H : Heap) (locs : List Loc) (ls : Array Slot), g v0 v1 v2 s0 = some r → va_P (dC, dI) vwCl (dw_X12 a ac s0) H → va_D A (dw_X12 a ac s0) → va_S A s.heap H locs → lv_has ls 6 [(0, .ref (a 0)), (1, .int v0), (2, .int v1), (3, .int v2)] → W p l e (headSpec ow_dm_X12_text ({ frames := 10, cells := 1, slots := 34, locals := 270 })).room s m args below meth c H locs 0 0 Q (F0 m 0 ls [])
set_option maxHeartbeats 40000000 in
set_option maxRecDepth 100000 in
theorem db_X12_text_34 {p : Program} {l : Launch} {e : Env} {s : State} {m : MethodId} {args : Array Value} {below : List Frame} {meth : Method} {c : Code} {Q : State → Prop} {A : Nat → Prop} {dC : Nat → ClassId} {dI : Nat → Nat → Nat} {a : Nat → Nat} {ac : Nat → ClassId} {τ : Sb} {n : Nat} {r : Int32 × ((St × Rw × (St) × (St × (St)) × (St) × (St × (St × (St × (St)))) × (St) × (St) × (Nat → St) × (Nat → St) × (Nat → St × (St))) × Sb)} (C : nd_C p l s m args c A (dC, dI) cX12_text 6 RX12 ow_dm_X12_text (dk_X12 ac)) (K : nd_Kx p l e (headSpec ow_dm_X12_text ({ frames := 10, cells := 1, slots := 34, locals := 270 })).room s m args below meth c Q A (dC, dI) cX12_text .int (St × Rw × (St) × (St × (St)) × (St) × (St × (St × (St × (St)))) × (St) × (St) × (Nat → St) × (Nat → St) × (Nat → St × (St))) (dw_X12 a ac) τ r) (K94 : nd_K94 p l e (headSpec ow_dm_X12_text ({ frames := 10, cells := 1, slots := 34, locals := 270 })).room s m args below meth c Q A dC dI a ac n τ r) : dj_X12_text_34 p l e s m args below meth c Q A dC dI a ac (df_X12_text_34 n (a 15) (a 3) τ) r := by
  obtain ⟨hlt, hx, hb, hml, hown, hts, hN, hA, hK⟩ := id C
  intro s0 H locs ls h hP hD hS hl
  unfold df_X12_text_34 at h
  refine lv_iconst (v := (-1)) hx hb dX12_text_34 (by decide) ?_
  exact K _ _ _ _ _ _ dX12_text_35 rfl (Option.some.inj h).symm hP hD hS
set_option maxHeartbeats 40000000 in
set_option maxRecDepth 100000 in
theorem db_X12_text_0 {p : Program} {l : Launch} {e : Env} {s : State} {m : MethodId} {args : Array Value} {below : List Frame} {meth : Method} {c : Code} {Q : State → Prop} {A : Nat → Prop} {dC : Nat → ClassId} {dI : Nat → Nat → Nat} {a : Nat → Nat} {ac : Nat → ClassId} {τ : Sb} {n : Nat} {r : Int32 × ((St × Rw × (St) × (St × (St)) × (St) × (St × (St × (St × (St)))) × (St) × (St) × (Nat → St) × (Nat → St) × (Nat → St × (St))) × Sb)} (C : nd_C p l s m args c A (dC, dI) cX12_text 6 RX12 ow_dm_X12_text (dk_X12 ac)) (K : nd_Kx p l e (headSpec ow_dm_X12_text ({ frames := 10, cells := 1, slots := 34, locals := 270 })).room s m args below meth c Q A (dC, dI) cX12_text .int (St × Rw × (St) × (St × (St)) × (St) × (St × (St × (St × (St)))) × (St) × (St) × (Nat → St) × (Nat → St) × (Nat → St × (St))) (dw_X12 a ac) τ r) (K94 : nd_K94 p l e (headSpec ow_dm_X12_text ({ frames := 10, cells := 1, slots := 34, locals := 270 })).room s m args below meth c Q A dC dI a ac n τ r) : dj_X12_text_0 p l e s m args below meth c Q A dC dI a ac (df_X12_text_0 n (a 15) (a 3) τ) r := by
  obtain ⟨hlt, hx, hb, hml, hown, hts, hN, hA, hK⟩ := id C
  intro v0 v1 v2 s0 H locs ls h hP hD hS hl
  unfold df_X12_text_0 at h
  refine lv_aload_n hx hb dX12_text_0 rfl (lv_at hl 0 rfl) ?_
  refine lv_iload_n hx hb dX12_text_1 rfl (lv_at hl 1 rfl) ?_
  obtain ⟨q1, s2, hq, h⟩ := nd_b2_e h
  have hPc := hP
  have hDc := hD
  have hKc := hK
  have hFc := nd_rs hD hS hA
  refine nd_cVi (As := [.int v0]) (rest := []) (q := q1) (w' := dw_X12 a ac s2) ⟨hx, hb, hml, hown, hts⟩ (fun sz => dm_X12_isThere l hlt dC dI a ac n (v0) s0 hq sz) (cwV 1 hts gi_dm_X12_text_0 rfl rfl rfl (by decide +kernel) ⟨Nat.le_of_ble_eq_true rfl, Nat.le_of_ble_eq_true rfl⟩) hPc hDc hKc hS hA hN (va_recv hKc hPc (ci := 13) (q0 := 0) rfl rfl) rfl hl.1 rfl (Nat.le_of_ble_eq_true rfl) dX12_text_2 (fun H locs hP1 hD1 hk1 hS => ?_)
  have hP := hP1
  have hD := hD1.weaken (fun k q _ h => hFc q.1 h)
  refine lv_if_eq (tgt := 34) hx hb dX12_text_5 (by decide) (fun c4 => ?_) (fun c4 => ?_)
  · have h := nd_pos h c4
    exact (db_X12_text_34 C K K94)  s2 _ _ _ h hP hD hS (lv_sub hl [] rfl)
  · have h := nd_neg h c4
    refine lv_iload_n hx hb dX12_text_8 rfl (lv_at hl 3 rfl) ?_
    refine lv_if_lt (tgt := 34) hx hb dX12_text_9 (by decide) (fun c5 => ?_) (fun c5 => ?_)
    · have h := nd_pos h c5
      exact (db_X12_text_34 C K K94)  s2 _ _ _ h hP hD hS (lv_sub hl [] rfl)
    · have h := nd_neg h c5
      refine lv_iload_n hx hb dX12_text_12 rfl (lv_at hl 2 rfl) ?_
      refine lv_iconst (v := 1) hx hb dX12_text_13 (by decide) ?_
      refine lv_iand hx hb dX12_text_14 ?_
      refine lv_if_ne (tgt := 34) hx hb dX12_text_15 (by decide) (fun c6 => ?_) (fun c6 => ?_)
      · have h := nd_neg h c6
        exact (db_X12_text_34 C K K94)  s2 _ _ _ h hP hD hS (lv_sub hl [] rfl)
      · have h := nd_pos h c6
        refine lv_aload_n hx hb dX12_text_18 rfl (lv_at hl 0 rfl) ?_
        refine va_get (D := (dC, dI)) (ci := 13) (v := .ref (a 16)) (C := RX12) (T := TX12) (N := 12) hx hb hts hi_dm_X12_text_X12 hown hK hP 0 rfl rfl 6 (by decide) (hts (.fieldLink RX12 33 "TimeMachine" "timeline" "LTimeMachine$Timeline;") (List.mem_of_getElem? (i := 5) rfl)) (fun _ h9 => h9) rfl dX12_text_19 ?_
        refine va_get (D := (dC, dI)) (ci := 12) (v := .ref (a 23)) (C := RX11) (T := TX11) (N := 16) hx hb hts hi_dm_X12_text_X11 hown hK hP 16 rfl rfl 3 (by decide) (hts (.fieldLink RX12 192 "TimeMachine$Timeline" "machine" "LTimeMachine$Machine;") (List.mem_of_getElem? (i := 6) rfl)) (fun _ h9 => h9) rfl dX12_text_22 ?_
        refine lv_iload_n hx hb dX12_text_25 rfl (lv_at hl 1 rfl) ?_
        refine lv_iload_n hx hb dX12_text_26 rfl (lv_at hl 2 rfl) ?_
        refine lv_iconst (v := 4) hx hb dX12_text_27 (by decide) ?_
        obtain ⟨q7, s8, hq, h⟩ := nd_b2_e h
        have hPc := dp_wX12t_X6_0 hP
        have hDc := dd_wX12t_X6_0 hD
        have hKc := dy_wX12t_X6_0 hK
        have hFc := nd_rs hDc hS hA
        have hzA : ∀ q : Nat, H.size ≤ q → A q := fun q h => hA q (Nat.le_trans hS.1 h)
        refine nd_cVi (As := [.int v0, .int v1, .int 4]) (rest := []) (q := q7) (w' := dw_X6 (fun k => a (k + 23)) (fun k => ac (k + 23)) s8) ⟨hx, hb, hml, hown, hts⟩ (fun sz => dm_X6_may l hlt dC dI (fun k => a (k + 23)) (fun k => ac (k + 23)) n (v0) (v1) (4) s2.2.2.2.2.2.1.2.2 hq sz) (cwV 3 hts gi_dm_X12_text_1 rfl rfl rfl (by decide +kernel) ⟨Nat.le_of_ble_eq_true rfl, Nat.le_of_ble_eq_true rfl⟩) hPc hDc hKc hS hA hN (va_recv hKc hPc (ci := 7) (q0 := 0) rfl rfl) rfl hl.1 rfl (Nat.le_of_ble_eq_true rfl) dX12_text_28 (fun H locs hP1 hD1 hk1 hS => ?_)
        obtain ⟨hP, hD⟩ := dn_wX12t_X6_0 hP hD hzA hk1 hP1 hD1
        obtain ⟨s10, es10, h⟩ := nd_let_e h
        have hP : va_P (dC, dI) vwCl (dw_X12 a ac s10) H := by rw [es10]; exact hP
        have hD : va_D A (dw_X12 a ac s10) := by rw [es10]; exact hD
        refine lv_if_ne (tgt := 36) hx hb dX12_text_31 (by decide) (fun c11 => ?_) (fun c11 => ?_)
        · have h := nd_neg h c11
          refine lv_aload_n hx hb dX12_text_36 rfl (lv_at hl 0 rfl) ?_
          refine va_get (D := (dC, dI)) (ci := 13) (v := .ref (a 16)) (C := RX12) (T := TX12) (N := 12) hx hb hts hi_dm_X12_text_X12 hown hK hP 0 rfl rfl 6 (by decide) (hts (.fieldLink RX12 33 "TimeMachine" "timeline" "LTimeMachine$Timeline;") (List.mem_of_getElem? (i := 5) rfl)) (fun _ h9 => h9) rfl dX12_text_37 ?_
          refine va_get (D := (dC, dI)) (ci := 12) (v := .ref (a 23)) (C := RX11) (T := TX11) (N := 16) hx hb hts hi_dm_X12_text_X11 hown hK hP 16 rfl rfl 3 (by decide) (hts (.fieldLink RX12 192 "TimeMachine$Timeline" "machine" "LTimeMachine$Machine;") (List.mem_of_getElem? (i := 6) rfl)) (fun _ h9 => h9) rfl dX12_text_40 ?_
          refine lv_astore (lv' := [(4, .ref (a 23)), (0, .ref (a 0)), (1, .int v0), (2, .int v1), (3, .int v2)]) hx hb dX12_text_43 hl (by decide) rfl (fun ls hl => ?_)
          refine lv_aload hx hb dX12_text_45 (lv_at hl 0 rfl) ?_
          refine lv_iload_n hx hb dX12_text_47 rfl (lv_at hl 2 rfl) ?_
          refine lv_iload_n hx hb dX12_text_48 rfl (lv_at hl 3 rfl) ?_
          obtain ⟨q12, s13, hq, h⟩ := nd_b2_e h
          have hPc := dp_wX12t_X6_0 hP
          have hDc := dd_wX12t_X6_0 hD
          have hKc := dy_wX12t_X6_0 hK
          have hFc := nd_rs hDc hS hA
          have hzA : ∀ q : Nat, H.size ≤ q → A q := fun q h => hA q (Nat.le_trans hS.1 h)
          refine nd_cVi (As := [.int v0, .int v1]) (rest := []) (q := q12) (w' := dw_X6 (fun k => a (k + 23)) (fun k => ac (k + 23)) s13) ⟨hx, hb, hml, hown, hts⟩ (fun sz => dm_X6_halfAt l hlt dC dI (fun k => a (k + 23)) (fun k => ac (k + 23)) n (v0) (v1) s10.2.2.2.2.2.1.2.2 hq sz) (cwV 2 hts gi_dm_X12_text_2 rfl rfl rfl (by decide +kernel) ⟨Nat.le_of_ble_eq_true rfl, Nat.le_of_ble_eq_true rfl⟩) hPc hDc hKc hS hA hN (va_recv hKc hPc (ci := 7) (q0 := 0) rfl rfl) rfl hl.1 rfl (Nat.le_of_ble_eq_true rfl) dX12_text_49 (fun H locs hP1 hD1 hk1 hS => ?_)
          obtain ⟨hP, hD⟩ := dn_wX12t_X6_0 hP hD hzA hk1 hP1 hD1
          obtain ⟨s15, es15, h⟩ := nd_let_e h
          have hP : va_P (dC, dI) vwCl (dw_X12 a ac s15) H := by rw [es15]; exact hP
          have hD : va_D A (dw_X12 a ac s15) := by rw [es15]; exact hD
          refine lv_istore (lv' := [(5, .int q12), (4, .ref (a 23)), (0, .ref (a 0)), (1, .int v0), (2, .int v1), (3, .int v2)]) hx hb dX12_text_52 hl (by decide) rfl (fun ls hl => ?_)
          refine lv_iload hx hb dX12_text_54 (lv_at hl 0 rfl) ?_
          refine lv_iconst (v := 3) hx hb dX12_text_56 (by decide) ?_
          refine lv_iand hx hb dX12_text_57 ?_
          refine lv_iconst (v := 3) hx hb dX12_text_58 (by decide) ?_
          refine lv_icmp_ne (tgt := 94) hx hb dX12_text_59 (by decide) (fun c16 => ?_) (fun c16 => ?_)
          · have h := nd_neg h c16
            exact K94 (v2) (q12) s15 _ _ _ h hP hD hS (lv_sub hl [2, 5, 0] rfl)
          · have h := nd_pos h c16
            refine lv_aload hx hb dX12_text_62 (lv_at hl 1 rfl) ?_
            refine lv_iload_n hx hb dX12_text_64 rfl (lv_at hl 3 rfl) ?_
            refine lv_iload_n hx hb dX12_text_65 rfl (lv_at hl 4 rfl) ?_
            refine lv_iconst (v := 2) hx hb dX12_text_66 (by decide) ?_
            refine lv_iadd hx hb dX12_text_67 ?_
            refine lv_iconst (v := 4) hx hb dX12_text_68 (by decide) ?_
            obtain ⟨q17, s18, hq, h⟩ := nd_b2_e h
            have hPc := dp_wX12t_X6_0 hP
            have hDc := dd_wX12t_X6_0 hD
            have hKc := dy_wX12t_X6_0 hK
            have hFc := nd_rs hDc hS hA
            have hzA : ∀ q : Nat, H.size ≤ q → A q := fun q h => hA q (Nat.le_trans hS.1 h)
            refine nd_cVi (As := [.int v0, .int (v1 + 2), .int 4]) (rest := []) (q := q17) (w' := dw_X6 (fun k => a (k + 23)) (fun k => ac (k + 23)) s18) ⟨hx, hb, hml, hown, hts⟩ (fun sz => dm_X6_may l hlt dC dI (fun k => a (k + 23)) (fun k => ac (k + 23)) n (v0) ((v1 + 2)) (4) s15.2.2.2.2.2.1.2.2 hq sz) (cwV 3 hts gi_dm_X12_text_1 rfl rfl rfl (by decide +kernel) ⟨Nat.le_of_ble_eq_true rfl, Nat.le_of_ble_eq_true rfl⟩) hPc hDc hKc hS hA hN (va_recv hKc hPc (ci := 7) (q0 := 0) rfl rfl) rfl hl.1 rfl (Nat.le_of_ble_eq_true rfl) dX12_text_69 (fun H locs hP1 hD1 hk1 hS => ?_)
            obtain ⟨hP, hD⟩ := dn_wX12t_X6_0 hP hD hzA hk1 hP1 hD1
            obtain ⟨s20, es20, h⟩ := nd_let_e h
            have hP : va_P (dC, dI) vwCl (dw_X12 a ac s20) H := by rw [es20]; exact hP
            have hD : va_D A (dw_X12 a ac s20) := by rw [es20]; exact hD
            refine lv_if_ne (tgt := 77) hx hb dX12_text_72 (by decide) (fun c21 => ?_) (fun c21 => ?_)
            · have h := nd_neg h c21
              refine lv_iload hx hb dX12_text_77 (lv_at hl 0 rfl) ?_
              refine lv_aload hx hb dX12_text_79 (lv_at hl 1 rfl) ?_
              refine lv_iload_n hx hb dX12_text_81 rfl (lv_at hl 3 rfl) ?_
              refine lv_iload_n hx hb dX12_text_82 rfl (lv_at hl 4 rfl) ?_
              refine lv_iconst (v := 2) hx hb dX12_text_83 (by decide) ?_
              refine lv_iadd hx hb dX12_text_84 ?_
              obtain ⟨q22, s23, hq, h⟩ := nd_b2_e h
              have hPc := dp_wX12t_X6_0 hP
              have hDc := dd_wX12t_X6_0 hD
              have hKc := dy_wX12t_X6_0 hK
              have hFc := nd_rs hDc hS hA
              have hzA : ∀ q : Nat, H.size ≤ q → A q := fun q h => hA q (Nat.le_trans hS.1 h)
              refine nd_cVi (As := [.int v0, .int (v1 + 2)]) (rest := [.int q12]) (q := q22) (w' := dw_X6 (fun k => a (k + 23)) (fun k => ac (k + 23)) s23) ⟨hx, hb, hml, hown, hts⟩ (fun sz => dm_X6_halfAt l hlt dC dI (fun k => a (k + 23)) (fun k => ac (k + 23)) n (v0) ((v1 + 2)) s20.2.2.2.2.2.1.2.2 hq sz) (cwV 2 hts gi_dm_X12_text_2 rfl rfl rfl (by decide +kernel) ⟨Nat.le_of_ble_eq_true rfl, Nat.le_of_ble_eq_true rfl⟩) hPc hDc hKc hS hA hN (va_recv hKc hPc (ci := 7) (q0 := 0) rfl rfl) rfl hl.1 rfl (Nat.le_of_ble_eq_true rfl) dX12_text_85 (fun H locs hP1 hD1 hk1 hS => ?_)
              obtain ⟨hP, hD⟩ := dn_wX12t_X6_0 hP hD hzA hk1 hP1 hD1
              obtain ⟨s25, es25, h⟩ := nd_let_e h
              have hP : va_P (dC, dI) vwCl (dw_X12 a ac s25) H := by rw [es25]; exact hP
              have hD : va_D A (dw_X12 a ac s25) := by rw [es25]; exact hD
              refine lv_bipush (v := 16) hx hb dX12_text_88 (by decide) ?_
              refine lv_ishl hx hb dX12_text_90 ?_
              refine lv_ior hx hb dX12_text_91 ?_
              refine lv_topi (fun z26 ez26 => ?_)
              have h := nd_at h ez26
              refine lv_istore (lv' := [(5, .int z26), (4, .ref (a 23)), (0, .ref (a 0)), (1, .int v0), (2, .int v1), (3, .int v2)]) hx hb dX12_text_92 hl (by decide) rfl (fun ls hl => ?_)
              exact K94 (v2) (z26) s25 _ _ _ h hP hD hS (lv_sub hl [2, 5, 0] rfl)
            · have h := nd_pos h c21
              refine lv_iconst (v := (-1)) hx hb dX12_text_75 (by decide) ?_
              exact K _ _ _ _ _ _ dX12_text_76 rfl (Option.some.inj h).symm hP hD hS
        · have h := nd_pos h c11
          exact (db_X12_text_34 C K K94)  s10 _ _ _ h hP hD hS (lv_sub hl [] rfl)
set_option maxHeartbeats 40000000 in
set_option maxRecDepth 100000 in
theorem db_X12_text_94 {p : Program} {l : Launch} {e : Env} {s : State} {m : MethodId} {args : Array Value} {below : List Frame} {meth : Method} {c : Code} {Q : State → Prop} {A A1 : Nat → Prop} {dC : Nat → ClassId} {dI : Nat → Nat → Nat} {a : Nat → Nat} {ac acB : Nat → ClassId} {n v : Nat} {τ : Sb} {r : Int32 × ((St × Rw × (St) × (St × (St)) × (St) × (St × (St × (St × (St)))) × (St) × (St) × (Nat → St) × (Nat → St) × (Nat → St × (St))) × Sb)} (hlt : l.stackTraces = false) (hx : p.tables.exec = Jvm.exec) (hb : c.code = cX12_text) (hml : c.maxLocals = 6) (hown : s.vm.findClass RX12 = some m.cls) (hts : ∀ w ∈ ow_dm_X12_text, w.before args s = true) (hE : nv_H dI A s) (hA : ∀ q : Nat, s.heap.size ≤ q → A q) (hK : va_K (dC, dI) vwCl (dk_X12 ac ++ dk_J4 acB) s) (up : ∀ q, A1 q → A q) (hQ0 : va_P (dC, dI) vwCl (dw_SB (fun _ => a 9999) acB v τ) s.heap) (nQ : ∀ (k : Nat) (q : Nat × va_E), (dw_SB (fun _ => a 9999) acB v τ)[k]? = some q → ¬ A1 q.1) (hap : ∀ σ : St × Rw × (St) × (St × (St)) × (St) × (St × (St × (St × (St)))) × (St) × (St) × (Nat → St) × (Nat → St) × (Nat → St × (St)), va_D A (dw_TX a ac acB v (σ, τ))) (K : nd_Ky p l e (headSpec ow_dm_X12_text ({ frames := 10, cells := 1, slots := 34, locals := 270 })).room s m args below meth c Q A (dC, dI) cX12_text (dw_TX a ac acB) r) : nd_K94 p l e (headSpec ow_dm_X12_text ({ frames := 10, cells := 1, slots := 34, locals := 270 })).room s m args below meth c Q A1 dC dI a ac n τ r := by
  intro x3 x5 s0 H locs ls h hP hD hS hl
  have hN := hE.1
  have hQ : va_P (dC, dI) vwCl (dw_SB (fun _ => a 9999) acB v τ) H := hQ0.kept (fun k q hq => hS.2.1 q.1 (hQ0 k q hq).lt (nQ k q hq))
  have hP : va_P (dC, dI) vwCl (dw_X12 a ac s0 ++ dw_SB (fun _ => a 9999) acB v τ) H := va_P.app hP hQ
  have hD : va_D A (dw_X12 a ac s0 ++ dw_SB (fun _ => a 9999) acB v τ) := hap s0
  have hS : va_S A s.heap H locs := nd_Sw hS up
  have hKc : va_K (dC, dI) vwCl (dk_J4 acB) s := nd_yr hK
  unfold df_X12_text_94 at h
  refine lv_aload_n hx hb dX12_text_94 rfl (lv_at hl 0 rfl) ?_
  refine va_get (D := (dC, dI)) (ci := 13) (v := .ref (a 9999)) (C := RX12) (T := TX12) (N := 12) hx hb hts hi_dm_X12_text_X12 hown hK (nd_pl hP) 0 rfl rfl 11 (by decide) (hts (.fieldLink RX12 52 "TimeMachine" "letters" "Ljava/lang/StringBuilder;") (List.mem_of_getElem? (i := 14) rfl)) (fun _ h9 => h9) rfl dX12_text_95 ?_
  refine lv_iconst (v := 0) hx hb dX12_text_98 (by decide) ?_
  obtain ⟨σ1, hq, h⟩ := nd_b1_e h
  have hPc : va_P (dC, dI) vwCl (dw_J4 (nd_bv (a 9999) v τ.1) acB τ.2.2) H := nd_pr hP
  have hDc : va_D A (dw_J4 (nd_bv (a 9999) v τ.1) acB τ.2.2) := nd_dr hD
  have hzA : ∀ q : Nat, H.size ≤ q → A q := fun q h => hA q (Nat.le_trans hS.1 h)
  refine nd_gVv (E := nv_E dI) (As := [.int 0]) (rest := []) (w' := (fun (_ : Unit) => dw_J4 (nd_bv (a 9999) v τ.1) acB σ1)) nv_same nv_call ⟨hx, hb, hml, hown, hts⟩ (fun sz => dm_J4_setLength_d00df l hlt dC dI (nd_bv (a 9999) v τ.1) acB n (0) τ.2.2 hq sz) (cwV 1 hts gi_dm_X12_text_3 rfl rfl rfl (by decide +kernel) ⟨Nat.le_of_ble_eq_true rfl, Nat.le_of_ble_eq_true rfl⟩) hPc hDc hKc hS hA hN (va_recv hKc hPc (ci := 1) (q0 := 0) rfl rfl) rfl hl.1 rfl (Nat.le_of_ble_eq_true rfl) dX12_text_99 ⟨Nat.le_of_ble_eq_true rfl, Nat.le_of_ble_eq_true rfl⟩ (fun _ H locs hP1 hD1 hk1 hS => ?_)
  obtain ⟨hP, hD2, -⟩ := nd_stepR hP hD hk1 hP1 hD1
  have hP : va_P (dC, dI) vwCl (dw_X12 a ac s0 ++ dw_SB (fun _ => a 9999) acB v (τ.1, (0, σ1))) H := hP
  have hD : va_D A (dw_X12 a ac s0 ++ dw_SB (fun _ => a 9999) acB v (τ.1, (0, σ1))) := hD2.weaken (fun k q _ h => nd_rq hD hzA q.1 h)
  refine lv_aload_n hx hb dX12_text_102 rfl (lv_at hl 0 rfl) ?_
  refine va_get (D := (dC, dI)) (ci := 13) (v := .ref (a 9999)) (C := RX12) (T := TX12) (N := 12) hx hb hts hi_dm_X12_text_X12 hown hK (nd_pl hP) 0 rfl rfl 11 (by decide) (hts (.fieldLink RX12 52 "TimeMachine" "letters" "Ljava/lang/StringBuilder;") (List.mem_of_getElem? (i := 14) rfl)) (fun _ h9 => h9) rfl dX12_text_103 ?_
  refine lv_iload hx hb dX12_text_106 (lv_at hl 2 rfl) ?_
  obtain ⟨τ2, hq, h⟩ := nd_b1_e h
  have hPc := nd_pr hP
  have hDc := nd_dr hD
  have hzA : ∀ q : Nat, H.size ≤ q → A q := fun q h => hA q (Nat.le_trans hS.1 h)
  refine nd_gSv (E := nv_H dI) (As := [.ref (a 9999), .int x5]) (rest := []) (w' := (fun (v : Nat) => dw_SB (fun _ => a 9999) acB v τ2)) nv_Hs nv_Hc ⟨hx, hb, hml, hown, hts⟩ (fun sz => dm_X7_spell l hlt dC dI (fun _ => a 9999) acB v n (x5) (τ.1, (0, σ1)) hq (Nat.zero_le 1) sz) (va_cwS 2 hts gi_dm_X12_text_4 rfl rfl rfl (by decide +kernel) ⟨Nat.le_of_ble_eq_true rfl, Nat.le_of_ble_eq_true rfl⟩) hPc hDc hKc hS hA hE rfl hl.1 rfl (Nat.le_of_ble_eq_true rfl) dX12_text_108 ⟨Nat.le_of_ble_eq_true rfl, Nat.le_of_ble_eq_true rfl⟩ (fun v2 H locs hP1 hD1 hk1 hS => ?_)
  obtain ⟨hP, hD2, -⟩ := nd_stepR hP hD hk1 hP1 hD1
  have hD : va_D A (dw_X12 a ac s0 ++ dw_SB (fun _ => a 9999) acB v2 τ2) := hD2.weaken (fun k q _ h => nd_rq hD hzA q.1 h)
  refine lv_iload_n hx hb dX12_text_111 rfl (lv_at hl 1 rfl) ?_
  refine lv_aload_n hx hb dX12_text_112 rfl (lv_at hl 0 rfl) ?_
  refine va_get (D := (dC, dI)) (ci := 13) (v := .ref (a 9999)) (C := RX12) (T := TX12) (N := 12) hx hb hts hi_dm_X12_text_X12 hown hK (nd_pl hP) 0 rfl rfl 11 (by decide) (hts (.fieldLink RX12 52 "TimeMachine" "letters" "Ljava/lang/StringBuilder;") (List.mem_of_getElem? (i := 14) rfl)) (fun _ h9 => h9) rfl dX12_text_113 ?_
  obtain ⟨q3, σ3, hq, h⟩ := nd_b2_e h
  have hPc : va_P (dC, dI) vwCl (dw_J4 (nd_bv (a 9999) v2 τ2.1) acB τ2.2.2) H := nd_pr hP
  have hDc : va_D A (dw_J4 (nd_bv (a 9999) v2 τ2.1) acB τ2.2.2) := nd_dr hD
  have hzA : ∀ q : Nat, H.size ≤ q → A q := fun q h => hA q (Nat.le_trans hS.1 h)
  refine nd_gVi (E := nv_E dI) (As := []) (rest := [.int x3]) (q := q3) (w' := (fun (_ : Unit) => dw_J4 (nd_bv (a 9999) v2 τ2.1) acB σ3)) nv_same nv_call ⟨hx, hb, hml, hown, hts⟩ (fun sz => dm_J4_length_8abf5 l hlt dC dI (nd_bv (a 9999) v2 τ2.1) acB n τ2.2.2 hq sz) (cwV 0 hts gi_dm_X12_text_5 rfl rfl rfl (by decide +kernel) ⟨Nat.le_of_ble_eq_true rfl, Nat.le_of_ble_eq_true rfl⟩) hPc hDc hKc hS hA hN (va_recv hKc hPc (ci := 1) (q0 := 0) rfl rfl) rfl hl.1 rfl (Nat.le_of_ble_eq_true rfl) dX12_text_116 ⟨Nat.le_of_ble_eq_true rfl, Nat.le_of_ble_eq_true rfl⟩ (fun _ H locs hP1 hD1 hk1 hS => ?_)
  obtain ⟨hP, hD2, -⟩ := nd_stepR hP hD hk1 hP1 hD1
  have hP : va_P (dC, dI) vwCl (dw_X12 a ac s0 ++ dw_SB (fun _ => a 9999) acB v2 (τ2.1, (τ2.2.1, σ3))) H := hP
  have hD : va_D A (dw_X12 a ac s0 ++ dw_SB (fun _ => a 9999) acB v2 (τ2.1, (τ2.2.1, σ3))) := hD2.weaken (fun k q _ h => nd_rq hD hzA q.1 h)
  refine lv_icmp_ge (tgt := 133) hx hb dX12_text_119 (by decide) (fun c1 => ?_) (fun c1 => ?_)
  · have h := nd_pos h c1
    refine lv_iconst (v := (-1)) hx hb dX12_text_133 (by decide) ?_
    exact K 134 _ v2 1 (s0, (τ2.1, (τ2.2.1, σ3))) _ _ _ (Nat.le_refl 1) dX12_text_134 (Option.some.inj h).symm hP hD hS
  · have h := nd_neg h c1
    refine lv_aload_n hx hb dX12_text_122 rfl (lv_at hl 0 rfl) ?_
    refine va_get (D := (dC, dI)) (ci := 13) (v := .ref (a 9999)) (C := RX12) (T := TX12) (N := 12) hx hb hts hi_dm_X12_text_X12 hown hK (nd_pl hP) 0 rfl rfl 11 (by decide) (hts (.fieldLink RX12 52 "TimeMachine" "letters" "Ljava/lang/StringBuilder;") (List.mem_of_getElem? (i := 14) rfl)) (fun _ h9 => h9) rfl dX12_text_123 ?_
    refine lv_iload_n hx hb dX12_text_126 rfl (lv_at hl 1 rfl) ?_
    obtain ⟨q4, σ4, hq, h⟩ := nd_b2_e h
    have hPc : va_P (dC, dI) vwCl (dw_J4 (nd_bv (a 9999) v2 τ2.1) acB σ3) H := nd_pr hP
    have hDc : va_D A (dw_J4 (nd_bv (a 9999) v2 τ2.1) acB σ3) := nd_dr hD
    have hzA : ∀ q : Nat, H.size ≤ q → A q := fun q h => hA q (Nat.le_trans hS.1 h)
    refine nd_gVi (E := nv_E dI) (As := [.int x3]) (rest := []) (q := q4) (w' := (fun (_ : Unit) => dw_J4 (nd_bv (a 9999) v2 τ2.1) acB σ4)) nv_same nv_call ⟨hx, hb, hml, hown, hts⟩ (fun sz => dm_J4_charAt_5068e l hlt dC dI (nd_bv (a 9999) v2 τ2.1) acB n (x3) σ3 hq sz) (cwV 1 hts gi_dm_X12_text_6 rfl rfl rfl (by decide +kernel) ⟨Nat.le_of_ble_eq_true rfl, Nat.le_of_ble_eq_true rfl⟩) hPc hDc hKc hS hA hN (va_recv hKc hPc (ci := 1) (q0 := 0) rfl rfl) rfl hl.1 rfl (Nat.le_of_ble_eq_true rfl) dX12_text_127 ⟨Nat.le_of_ble_eq_true rfl, Nat.le_of_ble_eq_true rfl⟩ (fun _ H locs hP1 hD1 hk1 hS => ?_)
    obtain ⟨hP, hD2, -⟩ := nd_stepR hP hD hk1 hP1 hD1
    have hP : va_P (dC, dI) vwCl (dw_X12 a ac s0 ++ dw_SB (fun _ => a 9999) acB v2 (τ2.1, (τ2.2.1, σ4))) H := hP
    have hD : va_D A (dw_X12 a ac s0 ++ dw_SB (fun _ => a 9999) acB v2 (τ2.1, (τ2.2.1, σ4))) := hD2.weaken (fun k q _ h => nd_rq hD hzA q.1 h)
    refine lv_goto (tgt := 134) hx hb dX12_text_130 (by decide) ?_
    exact K 134 _ v2 1 (s0, (τ2.1, (τ2.2.1, σ4))) _ _ _ (Nat.le_refl 1) dX12_text_134 (Option.some.inj h).symm hP hD hS
set_option maxHeartbeats 40000000 in
set_option maxRecDepth 100000 in
theorem dm_X12_text (l : Launch) (hlt : l.stackTraces = false) (dC : Nat → ClassId) (dI : Nat → Nat → Nat) (a : Nat → Nat) (ac acB : Nat → ClassId) (v0 : Nat) (n : Nat) (x0 x1 x2 : Int32) (s0 : St × Rw × (St) × (St × (St)) × (St) × (St × (St × (St × (St)))) × (St) × (St) × (Nat → St) × (Nat → St) × (Nat → St × (St))) (τ : Sb) {r : Int32 × ((St × Rw × (St) × (St × (St)) × (St) × (St × (St × (St × (St)))) × (St) × (St) × (Nat → St) × (Nat → St) × (Nat → St × (St))) × Sb)} (h : df_X12_text n (a 15) (a 3) τ x0 x1 x2 s0 = some r) (sz : Nat) : Met l yX12_text ow_dm_X12_text ({ frames := 10, cells := 1, slots := 34, locals := 270 }) (va_Pc [.ref (a 0), .int x0, .int x1, .int x2] (fun U => U.heap.size = sz ∧ va_P (dC, dI) vwCl (dw_TX a ac acB v0 (s0, τ)) U.heap ∧ va_K (dC, dI) vwCl (dk_X12 ac ++ dk_J4 acB) U ∧ va_D (fun _ => True) (dw_TX a ac acB v0 (s0, τ)) ∧ nv_H dI (va_A (dw_TX a ac acB v0 (s0, τ)) sz) U)) (va_Qi (fun x _ => x = r.1) (fun (v : Nat) t => va_P (dC, dI) vwCl (dw_TX a ac acB v r.2) t.heap ∧ va_K (dC, dI) vwCl (dk_X12 ac ++ dk_J4 acB) t ∧ va_D (va_A (dw_TX a ac acB v0 (s0, τ)) sz) (dw_TX a ac acB v r.2)) (va_A (dw_TX a ac acB v0 (s0, τ)) sz)) 1 34 (va_A (dw_TX a ac acB v0 (s0, τ)) sz) := by
  refine Met.ofW (cc := cX12_text) (maxL := 6) (ret := (some .int)) (by decide) rfl ?_
  intro p e s m args below meth c s₁ B hml hv
  obtain ⟨rfl, hsz, hP, hK, hD0, hE⟩ := hv
  have hx := B.exec
  have hb := B.bytes
  have hr := B.returns
  have hts := atoms_spec (ws := ow_dm_X12_text) B.pre
  have hown : s.vm.findClass RX12 = some m.cls := findClass_of_methodNamed B.named
  have hlocks := B.notSynchronized
  subst hsz
  have hD := hD0.self (sz := s.heap.size)
  generalize hAe : va_A (dw_TX a ac acB v0 (s0, τ)) s.heap.size = A at hD hE ⊢
  have hA : ∀ q : Nat, s.heap.size ≤ q → A q := fun q h => by rw [← hAe]; exact Or.inr h
  have hl := lv_entry ([.ref (a 0), .int x0, .int x1, .int x2]) (n := 6) (Nat.le_of_ble_eq_true rfl)
  rw [lg_entry_eq]
  generalize (lg_sl ([.ref (a 0), .int x0, .int x1, .int x2]) ++ List.replicate (6 - (lg_sl ([.ref (a 0), .int x0, .int x1, .int x2])).length) Slot.unset).toArray = ls at hl ⊢
  have hl : lv_has ls 6 [(0, .ref (a 0)), (1, .int x0), (2, .int x1), (3, .int x2)] := hl
  have hP12 : va_P (dC, dI) vwCl (dw_X12 a ac s0) s.heap := nd_pl hP
  have hQ0 : va_P (dC, dI) vwCl (dw_SB (fun _ => a 9999) acB v0 τ) s.heap := nd_pr hP
  have hD12 : va_D (va_A (dw_X12 a ac s0) s.heap.size) (dw_X12 a ac s0) := (nd_dl hD0).self (sz := s.heap.size)
  have up : ∀ q, va_A (dw_X12 a ac s0) s.heap.size q → A q := fun q hq => by
    rw [← hAe]
    rcases hq with ⟨k, e, hq⟩ | hq
    · exact Or.inl ⟨k, e, by
        show (dw_X12 a ac s0 ++ _)[k]? = some (q, e)
        rw [List.getElem?_append_left (List.getElem?_eq_some_iff.mp hq).1]; exact hq⟩
    · exact Or.inr hq
  have nQ : ∀ (k : Nat) (q : Nat × va_E), (dw_SB (fun _ => a 9999) acB v0 τ)[k]? = some q → ¬ va_A (dw_X12 a ac s0) s.heap.size q.1 := fun k q hq hz => by
    rcases hz with ⟨j, e, hz⟩ | hz
    · exact nd_ap hD0 hz hq rfl
    · exact absurd (hQ0 k q hq).lt (Nat.not_lt.mpr hz)
  have hap : ∀ σ : St × Rw × (St) × (St × (St)) × (St) × (St × (St × (St × (St)))) × (St) × (St) × (Nat → St) × (Nat → St) × (Nat → St × (St)), va_D A (dw_TX a ac acB v0 (σ, τ)) := fun σ => nd_Da hD (by
    show (dw_X12 a ac σ ++ _).map _ = (dw_X12 a ac s0 ++ _).map _
    rw [List.map_append, List.map_append, dA_X12 (σ := s0) (σ1 := σ)])
  have hN1 : nv_E dI (va_A (dw_X12 a ac s0) s.heap.size) s := nv_call (A := A) (s := s) (U := s) (H := s.heap) (locs := []) va_S.rf up rfl (State.WarmedH.refl s) hE.1
  have KY : nd_Ky p l e (headSpec ow_dm_X12_text ({ frames := 10, cells := 1, slots := 34, locals := 270 })).room s m #[Value.ref (a 0), Value.int x0, Value.int x1, Value.int x2] below meth c (MQ below (va_Qi (fun x _ => x = r.1) (fun (v : Nat) t => va_P (dC, dI) vwCl (dw_TX a ac acB v r.2) t.heap ∧ va_K (dC, dI) vwCl (dk_X12 ac ++ dk_J4 acB) t ∧ va_D A (dw_TX a ac acB v r.2)) A) #[Value.ref (a 0), Value.int x0, Value.int x1, Value.int x2] s 1 34 A) A (dC, dI) cX12_text (dw_TX a ac acB) r := fun pc x v k σ H locs ls hk d er hP hD hS => by
    subst er
    obtain ⟨z1, z2⟩ : k ≤ 1 ∧ 34 * k ≤ 34 := ⟨hk, by omega⟩
    refine W.widen (k := 1) (n := 34) z1 z2 ?_
    exact W.zret (v := x) hx hb hr rfl (fun t ht hW => ⟨⟨x, v, rfl, rfl, by rw [ht]; exact hP, va_K.moved hW.alike hK, hD⟩, hS.F ht⟩) hS.2.2 d
  exact db_X12_text_0 (dC := dC) (dI := dI) (a := a) (ac := ac) (τ := τ) (n := n) (r := r) ⟨hlt, hx, hb, hml, hown, hts, hN1, fun q h => Or.inr h, nd_yl hK⟩ (fun pc x σ H locs ls d z er hP hD hS => KY pc x v0 0 (σ, τ) H locs ls (Nat.zero_le 1) d er (va_P.app hP (hQ0.kept (fun k q hq => hS.2.1 q.1 (hQ0 k q hq).lt (nQ k q hq)))) (hap σ) (nd_Sw hS up)) (db_X12_text_94 hlt hx hb hml hown hts hE hA hK up hQ0 nQ hap KY) x0 x1 x2 s0 _ _ _ h hP12 hD12 va_S.rf (lv_sub hl [0, 1, 2, 3] rfl)

theorem dX13_addresses_0 : decode cX13_addresses 0 = .ok (.aload_n 0, 1) := by decide +kernel
theorem dX13_addresses_1 : decode cX13_addresses 1 = .ok (.iconst 0, 1) := by decide +kernel
theorem dX13_addresses_2 : decode cX13_addresses 2 = .ok (.invokevirtual 719, 3) := by decide +kernel
theorem dX13_addresses_5 : decode cX13_addresses 5 = .ok (.newarray .int, 2) := by decide +kernel
theorem dX13_addresses_7 : decode cX13_addresses 7 = .ok (.astore_n 1, 1) := by decide +kernel
theorem dX13_addresses_8 : decode cX13_addresses 8 = .ok (.iconst 0, 1) := by decide +kernel
theorem dX13_addresses_9 : decode cX13_addresses 9 = .ok (.istore_n 2, 1) := by decide +kernel
theorem dX13_addresses_10 : decode cX13_addresses 10 = .ok (.iconst 0, 1) := by decide +kernel
theorem dX13_addresses_11 : decode cX13_addresses 11 = .ok (.istore_n 3, 1) := by decide +kernel
theorem dX13_addresses_12 : decode cX13_addresses 12 = .ok (.iload_n 3, 1) := by decide +kernel
theorem dX13_addresses_13 : decode cX13_addresses 13 = .ok (.aload_n 0, 1) := by decide +kernel
theorem dX13_addresses_14 : decode cX13_addresses 14 = .ok (.getfield 439, 3) := by decide +kernel
theorem dX13_addresses_17 : decode cX13_addresses 17 = .ok (.if_icmp .ge 36, 3) := by decide +kernel
theorem dX13_addresses_20 : decode cX13_addresses 20 = .ok (.aload_n 0, 1) := by decide +kernel
theorem dX13_addresses_21 : decode cX13_addresses 21 = .ok (.getfield 337, 3) := by decide +kernel
theorem dX13_addresses_24 : decode cX13_addresses 24 = .ok (.iload_n 3, 1) := by decide +kernel
theorem dX13_addresses_25 : decode cX13_addresses 25 = .ok (.iaload, 1) := by decide +kernel
theorem dX13_addresses_26 : decode cX13_addresses 26 = .ok (.bipush 17, 2) := by decide +kernel
theorem dX13_addresses_28 : decode cX13_addresses 28 = .ok (.ishr, 1) := by decide +kernel
theorem dX13_addresses_29 : decode cX13_addresses 29 = .ok (.iconst 2, 1) := by decide +kernel
theorem dX13_addresses_30 : decode cX13_addresses 30 = .ok (.if_icmp .lt 6, 3) := by decide +kernel
theorem dX13_addresses_33 : decode cX13_addresses 33 = .ok (.goto 14, 3) := by decide +kernel
theorem dX13_addresses_36 : decode cX13_addresses 36 = .ok (.aload_n 1, 1) := by decide +kernel
theorem dX13_addresses_37 : decode cX13_addresses 37 = .ok (.iload_n 2, 1) := by decide +kernel
theorem dX13_addresses_38 : decode cX13_addresses 38 = .ok (.aload_n 0, 1) := by decide +kernel
theorem dX13_addresses_39 : decode cX13_addresses 39 = .ok (.iload_n 3, 1) := by decide +kernel
theorem dX13_addresses_40 : decode cX13_addresses 40 = .ok (.invokevirtual 461, 3) := by decide +kernel
theorem dX13_addresses_43 : decode cX13_addresses 43 = .ok (.iastore, 1) := by decide +kernel
theorem dX13_addresses_44 : decode cX13_addresses 44 = .ok (.iinc 2 1, 3) := by decide +kernel
theorem dX13_addresses_47 : decode cX13_addresses 47 = .ok (.iinc 3 1, 3) := by decide +kernel
theorem dX13_addresses_50 : decode cX13_addresses 50 = .ok (.goto (-38), 3) := by decide +kernel
theorem dX13_addresses_53 : decode cX13_addresses 53 = .ok (.aload_n 1, 1) := by decide +kernel
theorem dX13_addresses_54 : decode cX13_addresses 54 = .ok (.areturn, 1) := by decide +kernel
def ow_dm_X13_addresses : List Cond := Cond.code yX13_addresses cX13_addresses 4 (some (.array .int)) :: ([Cond.methodLink RX13 719 yX13_countOf, Cond.instanceMethod yX13_countOf, Cond.selects RX13 yX13_countOf yX13_countOf, Cond.initialized RX13, Cond.fieldLink RX13 439 "TimeMachineModel$Assembler" "labels" "I", Cond.fieldLink RX13 337 "TimeMachineModel$Assembler" "label" "[I", Cond.methodLink RX13 461 yX13_valueOf, Cond.instanceMethod yX13_valueOf, Cond.selects RX13 yX13_valueOf yX13_valueOf] ++ (u_ws RX13 TX13 37 ++ (ow_dm_X13_countOf ++ (ow_dm_X13_valueOf ++ [Cond.arrayClass .int]))))
theorem gd_dm_X13_addresses : ∀ w ∈ ow_dm_X13_addresses, (w.onTables && w.keeps) = true ∨ ∃ ty, w = Cond.arrayClass ty := List.forall_mem_cons.mpr ⟨good_of_word rfl, List.forall_mem_append.mpr ⟨fun w h => good_of_word (List.all_eq_true.mp (by decide +kernel) w h), List.forall_mem_append.mpr ⟨gu_X13, List.forall_mem_append.mpr ⟨gd_dm_X13_countOf, List.forall_mem_append.mpr ⟨gd_dm_X13_valueOf, fun w h => Or.inr ⟨.int, List.mem_singleton.mp h⟩⟩⟩⟩⟩⟩
theorem hi_dm_X13_addresses_X13 : ∀ w ∈ u_ws RX13 TX13 37, w ∈ ow_dm_X13_addresses := fun w h => List.mem_cons_of_mem _ (List.mem_append_right _ (List.mem_append_left _ h))
theorem gi_dm_X13_addresses_0 : GoodIn ow_dm_X13_addresses (wsV RX13 719 RX13 yX13_countOf ow_dm_X13_countOf) := goodIn_app (goodIn_of _ (by decide +kernel)) (fun w h => ⟨List.mem_cons_of_mem _ (List.mem_append_right _ (List.mem_append_right _ (List.mem_append_left _ h))), gd_dm_X13_countOf w h⟩)
theorem gi_dm_X13_addresses_1 : GoodIn ow_dm_X13_addresses (wsV RX13 461 RX13 yX13_valueOf ow_dm_X13_valueOf) := goodIn_app (goodIn_of _ (by decide +kernel)) (fun w h => ⟨List.mem_cons_of_mem _ (List.mem_append_right _ (List.mem_append_right _ (List.mem_append_right _ (List.mem_append_left _ h)))), gd_dm_X13_valueOf w h⟩)
def dw_X13r (a : Nat → Nat) (ac : Nat → ClassId) (na : Nat) (cA : ClassId) (ln : Nat) (σ : ((Nat → Int32) × St)) : va_W := dw_X13 a ac σ.2 ++ [(na, .inl (cA, ln, .inl σ.1))]
set_option maxHeartbeats 40000000 in
set_option maxRecDepth 100000 in
theorem nd_cVN {p : Program} {l : Launch} {e : Env} {R : Room} {s : State} {m : MethodId} {args : Array Value} {below : List Frame} {meth : Method} {c : Code} {H : Heap} {locs : List Loc} {cells slots : Nat} {Q : State → Prop} {A : Nat → Prop} {D : va_G} {cc : ByteArray} {nL : Nat} {own C : String} {Ts ows : List Cond} {index : Nat} {y : MethodName} {bytes : ByteArray} {maxL : Nat} {ret : Option FieldType} {rm : Room} {n : Nat} {w w' : va_W} {tys : List (ClassId × FieldType)} {b : Nat} {As rest : List Value} {q : Int32} {pc : Nat} {ls : Array Slot} {st : List Value} (S : CallFix p m c cc nL s args Ts own)
    (hM : ∀ sz : Nat, Met l y ows rm (va_Pc (.ref b :: As) (fun U => U.heap.size = sz ∧ va_P D vwCl w U.heap ∧ va_K D vwCl tys U ∧ va_D (fun _ => True) w ∧ nv_E D.2 (va_A w sz) U)) (va_Qi (fun x (_ : Unit) => x = q) (fun _ t => va_P D vwCl w' t.heap ∧ va_K D vwCl tys t ∧ va_D (va_A w sz) w') (va_A w sz)) 0 0 (va_A w sz))
    (cw : CallW R s args own C index y bytes maxL ret ows rm 0 0 n) (hP : va_P D vwCl w H) (hD : va_D A w) (hK : va_K D vwCl tys s) (hS : va_S A s.heap H locs) (hA : ∀ q : Nat, s.heap.size ≤ q → A q) (hN : nv_E D.2 A s) (hv : ∃ cell : Cell, H[b]? = some cell ∧ cell.vm.isStatics = false ∧ s.vm.findClass C = some cell.cls) (hn : As.length = n) (hsize : ls.size = nL) (hst : st = As.reverse ++ .ref b :: rest) (hW : (rest.map fun v => v.category).sum ≤ 8) (hdg : decode cc pc = .ok (.invokevirtual index, 3)) (hcs : cells + 0 ≤ R.cells ∧ slots + 0 ≤ R.slots)
    (kk : ∀ (H1 : Heap) (locs1 : List Loc), va_P D vwCl w' H1 → va_D (va_A w H.size) w' → (∀ q : Nat, q < H.size → ¬ va_A w H.size q → H1[q]? = H[q]?) → va_S A s.heap H1 locs1 → W p l e R s m args below meth c H1 locs1 cells slots Q (F0 m (pc + 3) ls (.int q :: rest))) : W p l e R s m args below meth c H locs cells slots Q (F0 m pc ls st) := by
  have hF := nd_rs hD hS hA
  subst hst
  refine va_calli (va_runV (As := As) (rest := rest) S (hM H.size) cw ⟨fun a U g mk q => by obtain ⟨q0, q1, qP, qK, qD, qN⟩ := q; exact ⟨q0, q1, qP, va_K.moved (u := U) (U := U.calling g mk a) (Vm.Alike.refl U.vm) qK, qD, nv_same rfl rfl qN⟩, hv, fun U hU hW => ⟨rfl, by rw [hU], by rw [hU]; exact hP, va_K.moved hW.alike hK, hD.weaken (fun _ _ _ _ => trivial), nv_call hS hF hU hW hN⟩⟩ rfl hn hsize rfl (lv_room hW) hdg hcs) hS (fun q _ h => hF q h) hF (fun r u t H1 locs ht hvm hw hB hz1 hk1 hS => ?_)
  obtain rfl : q = r := Eq.symm hw
  obtain ⟨hP1, -, hD1⟩ := hB
  rw [ht] at hP1
  exact kk H1 locs hP1 hD1 hk1 hS
def dj_X13_addresses_12 (p : Program) (l : Launch) (e : Env) (s : State) (m : MethodId) (args : Array Value) (below : List Frame) (meth : Method) (c : Code) (Q : State → Prop) (A : Nat → Prop) (dC : Nat → ClassId) (dI : Nat → Nat → Nat) (a : Nat → Nat) (ac : Nat → ClassId) (na : Nat) (cA : ClassId) (ln : Nat) (g : Int32 → Int32 → ((Nat → Int32) × St) → Option ((Nat → Int32) × St)) (r : ((Nat → Int32) × St)) : Prop := ∀ (x2 : Int32) (x3 : Int32) (s0 : ((Nat → Int32) × St)) (H : Heap) (locs : List Loc) (ls : Array Slot), g x2 x3 s0 = some r → va_P (dC, dI) vwCl (dw_X13r a ac na cA ln s0) H → va_D A (dw_X13r a ac na cA ln s0) → va_S A s.heap H locs → lv_has ls 4 [(0, .ref (a 0)), (1, .ref na), (2, .int x2), (3, .int x3)] → W p l e (headSpec ow_dm_X13_addresses ({ frames := 2, cells := 1, slots := ln, locals := 42 })).room s m args below meth c H locs 1 ln Q (F0 m 12 ls [])
def dk_X13r_K (p : Program) (l : Launch) (e : Env) (s : State) (m : MethodId) (args : Array Value) (below : List Frame) (meth : Method) (c : Code) (Q : State → Prop) (A : Nat → Prop) (dC : Nat → ClassId) (dI : Nat → Nat → Nat) (a : Nat → Nat) (ac : Nat → ClassId) (na : Nat) (cA : ClassId) (ln : Nat) (r : ((Nat → Int32) × St)) : Prop := ∀ (H : Heap) (locs : List Loc) (ls : Array Slot), va_P (dC, dI) vwCl (dw_X13r a ac na cA ln r) H → va_D A (dw_X13r a ac na cA ln r) → va_S A s.heap H locs → W p l e (headSpec ow_dm_X13_addresses ({ frames := 2, cells := 1, slots := ln, locals := 42 })).room s m args below meth c H locs 1 ln Q (F0 m 54 ls [.ref na])
set_option maxHeartbeats 40000000 in
set_option maxRecDepth 100000 in
theorem dB_X13_addresses_12 {p : Program} {l : Launch} {e : Env} {s : State} {m : MethodId} {args : Array Value} {below : List Frame} {meth : Method} {c : Code} {Q : State → Prop} {A : Nat → Prop} {dC : Nat → ClassId} {dI : Nat → Nat → Nat} {a : Nat → Nat} {ac : Nat → ClassId} {n : Nat} {na : Nat} {cA : ClassId} {ln : Nat} {r : ((Nat → Int32) × St)} (C : nd_C p l s m args c A (dC, dI) cX13_addresses 4 RX13 ow_dm_X13_addresses (dk_X13 ac ++ [(cA, .int)])) (K : dk_X13r_K p l e s m args below meth c Q A dC dI a ac na cA ln r) {g12 : Int32 → Int32 → ((Nat → Int32) × St) → Option ((Nat → Int32) × St)} (J : dj_X13_addresses_12 p l e s m args below meth c Q A dC dI a ac na cA ln g12 r) : dj_X13_addresses_12 p l e s m args below meth c Q A dC dI a ac na cA ln (dF_X13_addresses_12 n ln g12) r := by
  obtain ⟨hlt, hx, hb, hml, hown, hts, hN, hA, hK⟩ := id C
  intro x2 x3 s0 H locs ls h hP hD hS hl
  unfold dF_X13_addresses_12 at h
  refine lv_iload_n hx hb dX13_addresses_12 rfl (lv_at hl 3 rfl) ?_
  refine lv_aload_n hx hb dX13_addresses_13 rfl (lv_at hl 0 rfl) ?_
  refine va_get (D := (dC, dI)) (ci := 14) (v := .int (sI s0.2 3)) (C := RX13) (T := TX13) (N := 37) hx hb hts hi_dm_X13_addresses_X13 hown hK hP 0 rfl rfl 10 (by decide) (hts (.fieldLink RX13 439 "TimeMachineModel$Assembler" "labels" "I") (List.mem_of_getElem? (i := 5) rfl)) (fun _ h9 => h9) rfl dX13_addresses_14 ?_
  refine lv_icmp_ge (tgt := 53) hx hb dX13_addresses_17 (by decide) (fun c1 => ?_) (fun c1 => ?_)
  · have h := nd_pos h c1
    refine lv_aload_n hx hb dX13_addresses_53 rfl (lv_at hl 1 rfl) ?_
    obtain rfl : s0 = r := Option.some.inj h
    exact K _ _ _ hP hD hS
  · have h := nd_neg h c1
    refine lv_aload_n hx hb dX13_addresses_20 rfl (lv_at hl 0 rfl) ?_
    refine va_get (D := (dC, dI)) (ci := 14) (v := .ref (a 8)) (C := RX13) (T := TX13) (N := 37) hx hb hts hi_dm_X13_addresses_X13 hown hK hP 0 rfl rfl 11 (by decide) (hts (.fieldLink RX13 337 "TimeMachineModel$Assembler" "label" "[I") (List.mem_of_getElem? (i := 6) rfl)) (fun _ h9 => h9) rfl dX13_addresses_21 ?_
    refine lv_iload_n hx hb dX13_addresses_24 rfl (lv_at hl 3 rfl) ?_
    obtain ⟨i3, h⟩ := nd_ck_e h
    refine va_iald (i := x3) hx hb hK hP 8 7 rfl rfl i3 dX13_addresses_25 ?_
    refine lv_bipush (v := 17) hx hb dX13_addresses_26 (by decide) ?_
    refine lv_ishr hx hb dX13_addresses_28 ?_
    refine lv_iconst (v := 2) hx hb dX13_addresses_29 (by decide) ?_
    refine lv_icmp_lt (tgt := 36) hx hb dX13_addresses_30 (by decide) (fun c4 => ?_) (fun c4 => ?_)
    · have h := nd_pos h c4
      refine lv_aload_n hx hb dX13_addresses_36 rfl (lv_at hl 1 rfl) ?_
      refine lv_iload_n hx hb dX13_addresses_37 rfl (lv_at hl 2 rfl) ?_
      refine lv_aload_n hx hb dX13_addresses_38 rfl (lv_at hl 0 rfl) ?_
      refine lv_iload_n hx hb dX13_addresses_39 rfl (lv_at hl 3 rfl) ?_
      obtain ⟨q1, s2, hq, h⟩ := nd_b2_e h
      have hPc : va_P (dC, dI) vwCl (dw_X13 a ac s0.2) H := nd_pl hP
      have hDc : va_D A (dw_X13 a ac s0.2) := nd_dl hD
      have hKc : va_K (dC, dI) vwCl (dk_X13 ac) s := nd_yl hK
      have hzA : ∀ q : Nat, H.size ≤ q → A q := fun q h => hA q (Nat.le_trans hS.1 h)
      refine nd_cVN (As := [.int x3]) (rest := [.int x2, .ref na]) (q := q1) (w' := dw_X13 a ac s2) ⟨hx, hb, hml, hown, hts⟩ (fun sz => dm_X13_valueOf l hlt dC dI a ac n x3 s0.2 hq sz) (cwV 1 hts gi_dm_X13_addresses_1 rfl rfl rfl (by decide +kernel) ⟨Nat.le_of_ble_eq_true rfl, Nat.le_of_ble_eq_true rfl⟩) hPc hDc hKc hS hA hN (va_recv hKc hPc (ci := 14) (q0 := 0) rfl rfl) rfl hl.1 rfl (Nat.le_of_ble_eq_true rfl) dX13_addresses_40 ⟨Nat.le_of_ble_eq_true rfl, Nat.le_refl _⟩ (fun H locs hP1 hD1 hk1 hS => ?_)
      obtain ⟨hP2, hD2, -⟩ := nd_stepL hP hD hk1 hP1 hD1
      have hP : va_P (dC, dI) vwCl (dw_X13r a ac na cA ln (s0.1, s2)) H := hP2
      have hD : va_D A (dw_X13r a ac na cA ln (s0.1, s2)) := hD2.weaken (fun k q _ h => nd_rq hD hzA q.1 h)
      obtain ⟨i5, h⟩ := nd_ck_e h
      refine va_iast (i := x2) (x := q1) hx hb hK hP hD hS 12 11 rfl rfl i5 dX13_addresses_43 (fun H locs hP hD hS => ?_)
      have hP : va_P (dC, dI) vwCl (dw_X13r a ac na cA ln (upd s0.1 (Int32.toNatClampNeg x2) q1, s2)) H := hP
      have hD : va_D A (dw_X13r a ac na cA ln (upd s0.1 (Int32.toNatClampNeg x2) q1, s2)) := hD
      refine lv_iinc (v := x2 + 1) (lv' := [(2, .int (x2 + 1)), (0, .ref (a 0)), (1, .ref na), (3, .int x3)]) hx hb dX13_addresses_44 hl (k := 2) rfl rfl (by decide) rfl (fun ls hl => ?_)
      refine lv_iinc (v := x3 + 1) (lv' := [(3, .int (x3 + 1)), (2, .int (x2 + 1)), (0, .ref (a 0)), (1, .ref na)]) hx hb dX13_addresses_47 hl (k := 3) rfl rfl (by decide) rfl (fun ls hl => ?_)
      refine lv_goto (tgt := 12) hx hb dX13_addresses_50 (by decide) ?_
      exact J _ _ _ _ _ _ h hP hD hS (lv_sub hl [2, 3, 1, 0] rfl)
    · have h := nd_neg h c4
      refine lv_goto (tgt := 47) hx hb dX13_addresses_33 (by decide) ?_
      refine lv_iinc (v := x3 + 1) (lv' := [(3, .int (x3 + 1)), (0, .ref (a 0)), (1, .ref na), (2, .int x2)]) hx hb dX13_addresses_47 hl (k := 3) rfl rfl (by decide) rfl (fun ls hl => ?_)
      refine lv_goto (tgt := 12) hx hb dX13_addresses_50 (by decide) ?_
      exact J _ _ _ _ _ _ h hP hD hS (lv_sub hl [1, 2, 3, 0] rfl)
set_option maxHeartbeats 40000000 in
set_option maxRecDepth 100000 in
theorem db_X13_addresses_12 {p : Program} {l : Launch} {e : Env} {s : State} {m : MethodId} {args : Array Value} {below : List Frame} {meth : Method} {c : Code} {Q : State → Prop} {A : Nat → Prop} {dC : Nat → ClassId} {dI : Nat → Nat → Nat} {a : Nat → Nat} {ac : Nat → ClassId} {n : Nat} {na : Nat} {cA : ClassId} {ln : Nat} {r : ((Nat → Int32) × St)} (C : nd_C p l s m args c A (dC, dI) cX13_addresses 4 RX13 ow_dm_X13_addresses (dk_X13 ac ++ [(cA, .int)])) (K : dk_X13r_K p l e s m args below meth c Q A dC dI a ac na cA ln r) (k : Nat) : dj_X13_addresses_12 p l e s m args below meth c Q A dC dI a ac na cA ln (df_X13_addresses_12 n ln k) r := by
  induction k with
  | zero => intro x2 x3 s0 H locs ls h; exact nomatch (show (none : Option ((Nat → Int32) × St)) = some r from h)
  | succ k ih => exact dB_X13_addresses_12 C K ih
set_option maxHeartbeats 40000000 in
set_option maxRecDepth 100000 in
theorem dm_X13_addresses (l : Launch) (hlt : l.stackTraces = false) (dC : Nat → ClassId) (dI : Nat → Nat → Nat) (a : Nat → Nat) (ac : Nat → ClassId) (n : Nat) (s0 : St) {r : (Nat × (Nat → Int32)) × St} (h : df_X13_addresses n s0 = some r) (sz : Nat) : Met l yX13_addresses ow_dm_X13_addresses ({ frames := 2, cells := 1, slots := r.1.1, locals := 42 }) (va_Pc [.ref (a 0)] (fun U => U.heap.size = sz ∧ va_P (dC, dI) vwCl (dw_X13 a ac s0) U.heap ∧ va_K (dC, dI) vwCl (dk_X13 ac) U ∧ va_D (fun _ => True) (dw_X13 a ac s0) ∧ nv_E dI (va_A (dw_X13 a ac s0) sz) U)) (va_Qr (fun (_ : Unit) => True) (fun (_ : Unit) na t => va_P (dC, dI) vwCl (dw_X13r a ac na (ac 3) r.1.1 (r.1.2, r.2)) t.heap ∧ va_K (dC, dI) vwCl (dk_X13 ac) t ∧ va_D (va_A (dw_X13 a ac s0) sz) (dw_X13r a ac na (ac 3) r.1.1 (r.1.2, r.2))) (va_A (dw_X13 a ac s0) sz)) 1 r.1.1 (va_A (dw_X13 a ac s0) sz) := by
  refine Met.ofW (cc := cX13_addresses) (maxL := 4) (ret := (some (.array .int))) (by decide) rfl ?_
  intro p e s m args below meth c s₁ B hml hv
  obtain ⟨rfl, hsz, hP, hK, hD0, hN⟩ := hv
  have hx := B.exec
  have hb := B.bytes
  have hr := B.returns
  have hts := atoms_spec (ws := ow_dm_X13_addresses) B.pre
  have hown : s.vm.findClass RX13 = some m.cls := findClass_of_methodNamed B.named
  have hlocks := B.notSynchronized
  subst hsz
  have hD := hD0.self (sz := s.heap.size)
  generalize hAe : va_A (dw_X13 a ac s0) s.heap.size = A at hD hN ⊢
  have hA : ∀ q : Nat, s.heap.size ≤ q → A q := fun q h => by rw [← hAe]; exact Or.inr h
  have hS : va_S A s.heap s.heap [] := va_S.rf
  have hl := lv_entry ([.ref (a 0)]) (n := 4) (Nat.le_of_ble_eq_true rfl)
  rw [lg_entry_eq]
  generalize (lg_sl ([.ref (a 0)]) ++ List.replicate (4 - (lg_sl ([.ref (a 0)])).length) Slot.unset).toArray = ls at hl ⊢
  have hl : lv_has ls 4 [(0, .ref (a 0))] := hl
  unfold df_X13_addresses at h
  refine lv_aload_n hx hb dX13_addresses_0 rfl (lv_at hl 0 rfl) ?_
  refine lv_iconst (v := 0) hx hb dX13_addresses_1 (by decide) ?_
  obtain ⟨q1, s2, hq, h⟩ := nd_b2_e h
  have hFc := nd_rs hD hS hA
  refine nd_cVi (As := [.int 0]) (rest := []) (q := q1) (w' := dw_X13 a ac s2) ⟨hx, hb, hml, hown, hts⟩ (fun sz => dm_X13_countOf l hlt dC dI a ac n 0 s0 hq sz) (cwV 1 hts gi_dm_X13_addresses_0 rfl rfl rfl (by decide +kernel) ⟨Nat.le_of_ble_eq_true rfl, Nat.le_of_ble_eq_true rfl⟩) hP hD hK hS hA hN (va_recv hK hP (ci := 14) (q0 := 0) rfl rfl) rfl hl.1 rfl (Nat.le_of_ble_eq_true rfl) dX13_addresses_2 (fun H locs hP1 hD1 hk1 hS => ?_)
  have hP := hP1
  have hD := hD1.weaken (fun k q _ h => hFc q.1 h)
  by_cases hq0 : 0 ≤ q1.toInt ∧ q1.toInt ≤ 10986
  · rw [if_pos hq0] at h
    have hcl : ((Int32.toNatClampNeg q1 : Nat) : Int) = q1.toInt := by
      show ((q1.toInt.toNat : Nat) : Int) = q1.toInt
      exact Int.toNat_of_nonneg hq0.1
    obtain ⟨r1, hr1, h⟩ := nd_b1_e h
    obtain rfl := Option.some.inj h
    refine va_newa (atype := .int) (ty := .int) (N' := Int32.toNatClampNeg q1) (a0 := (Int32.toNatClampNeg q1, .inl (fun _ => 0))) hx hb (hts (.arrayClass .int) (List.mem_cons_of_mem _ (List.mem_append_right _ (List.mem_append_right _ (List.mem_append_right _ (List.mem_append_right _ (List.mem_singleton.mpr rfl))))))) rfl hK hP hD hS hA (fun cA => vp_cell_i cA (Int32.toNatClampNeg q1) (fun _ => 0)) (fun z => by rw [Int32.lt_iff_toInt_lt] at z; have z : q1.toInt < 0 := z; omega) rfl (by show Int32.toNatClampNeg q1 * 4 ≤ 536870912; omega) (Nat.le_of_ble_eq_true rfl) (by show 0 + Int32.toNatClampNeg q1 ≤ Int32.toNatClampNeg q1; omega) dX13_addresses_5 (fun na cA H hK2 hP2 hD2 hS => ?_)
    obtain rfl : cA = ac 3 := Option.some.inj ((hK2.2 11 (cA, .int) rfl).2.symm.trans (hK2.2 2 (ac 3, .int) rfl).2)
    refine W.widen (k := 1) (n := Int32.toNatClampNeg q1) (Nat.le_of_ble_eq_true rfl) (by show 0 + Int32.toNatClampNeg q1 ≤ Int32.toNatClampNeg q1; omega) ?_
    refine lv_astore_n (lv' := [(1, .ref na), (0, .ref (a 0))]) hx hb dX13_addresses_7 rfl hl (by decide) rfl (fun ls hl => ?_)
    refine lv_iconst (v := 0) hx hb dX13_addresses_8 (by decide) ?_
    refine lv_istore_n (lv' := [(2, .int 0), (1, .ref na), (0, .ref (a 0))]) hx hb dX13_addresses_9 rfl hl (by decide) rfl (fun ls hl => ?_)
    refine lv_iconst (v := 0) hx hb dX13_addresses_10 (by decide) ?_
    refine lv_istore_n (lv' := [(3, .int 0), (2, .int 0), (1, .ref na), (0, .ref (a 0))]) hx hb dX13_addresses_11 rfl hl (by decide) rfl (fun ls hl => ?_)
    refine db_X13_addresses_12 (dC := dC) (dI := dI) (a := a) (ac := ac) (n := n) (na := na) (cA := ac 3) (ln := Int32.toNatClampNeg q1) (r := r1) ⟨hlt, hx, hb, hml, hown, hts, hN, hA, hK2⟩ (fun H locs ls hP hD hS => ?_) n 0 0 (fun _ => 0, s2) _ _ _ hr1 hP2 hD2 hS (lv_sub hl [3, 2, 1, 0] rfl)
    exact W.aret (v := .ref na) hx hb hr (by first | exact Or.inl ⟨_, rfl⟩ | exact Or.inr ⟨_, rfl⟩) (va_rf_or (some na)) (fun t ht hW => ⟨⟨(), na, rfl, trivial, by rw [ht]; exact hP, va_K.moved hW.alike hK, hD⟩, hS.F ht⟩) hS.2.2 dX13_addresses_54
  · rw [if_neg hq0] at h
    exact nomatch h

