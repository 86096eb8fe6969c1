def ow_dm_X2_isLetter : List Cond := Cond.code yX2_isLetter cX2_isLetter 1 (some .boolean) :: ([] ++ [])
theorem gd_dm_X2_isLetter : ∀ w ∈ ow_dm_X2_isLetter, (w.onTables && w.keeps) = true ∨ ∃ ty, w = Cond.arrayClass ty := List.forall_mem_cons.mpr ⟨good_of_word rfl, List.forall_mem_append.mpr ⟨fun w h => good_of_word (List.all_eq_true.mp (by decide +kernel) w h), fun _ h => nomatch h⟩⟩
def dj_X2_isLetter_29 (p : Program) (l : Launch) (e : Env) (s : State) (m : MethodId) (args : Array Value) (below : List Frame) (meth : Method) (c : Code) (Q : State → Prop) (A : Nat → Prop) (dC : Nat → ClassId) (dI : Nat → Nat → Nat) (a : Nat → Nat) (ac : Nat → ClassId) (g : Int32 → (Unit) → Option (Int32 × (Unit))) (r : Int32 × (Unit)) : Prop := ∀ (y0 : Int32) (s0 : Unit) (H : Heap) (locs : List Loc) (ls : Array Slot), g y0 s0 = some r → va_P (dC, dI) vwCl (dw_P a ac s0) H → va_D A (dw_P a ac s0) → va_S A s.heap H locs → lv_has ls 1 [] → W p l e (headSpec ow_dm_X2_isLetter ({ frames := 0, cells := 0, slots := 0, locals := 0 })).room s m args below meth c H locs 0 0 Q (F0 m 29 ls [.int y0])
def dj_X2_isLetter_28 (p : Program) (l : Launch) (e : Env) (s : State) (m : MethodId) (args : Array Value) (below : List Frame) (meth : Method) (c : Code) (Q : State → Prop) (A : Nat → Prop) (dC : Nat → ClassId) (dI : Nat → Nat → Nat) (a : Nat → Nat) (ac : Nat → ClassId) (g : (Unit) → Option (Int32 × (Unit))) (r : Int32 × (Unit)) : Prop := ∀ (s0 : Unit) (H : Heap) (locs : List Loc) (ls : Array Slot), g s0 = some r → va_P (dC, dI) vwCl (dw_P a ac s0) H → va_D A (dw_P a ac s0) → va_S A s.heap H locs → lv_has ls 1 [] → W p l e (headSpec ow_dm_X2_isLetter ({ frames := 0, cells := 0, slots := 0, locals := 0 })).room s m args below meth c H locs 0 0 Q (F0 m 28 ls [])
def dj_X2_isLetter_24 (p : Program) (l : Launch) (e : Env) (s : State) (m : MethodId) (args : Array Value) (below : List Frame) (meth : Method) (c : Code) (Q : State → Prop) (A : Nat → Prop) (dC : Nat → ClassId) (dI : Nat → Nat → Nat) (a : Nat → Nat) (ac : Nat → ClassId) (g : (Unit) → Option (Int32 × (Unit))) (r : Int32 × (Unit)) : Prop := ∀ (s0 : Unit) (H : Heap) (locs : List Loc) (ls : Array Slot), g s0 = some r → va_P (dC, dI) vwCl (dw_P a ac s0) H → va_D A (dw_P a ac s0) → va_S A s.heap H locs → lv_has ls 1 [] → W p l e (headSpec ow_dm_X2_isLetter ({ frames := 0, cells := 0, slots := 0, locals := 0 })).room s m args below meth c H locs 0 0 Q (F0 m 24 ls [])
def dj_X2_isLetter_12 (p : Program) (l : Launch) (e : Env) (s : State) (m : MethodId) (args : Array Value) (below : List Frame) (meth : Method) (c : Code) (Q : State → Prop) (A : Nat → Prop) (dC : Nat → ClassId) (dI : Nat → Nat → Nat) (a : Nat → Nat) (ac : Nat → ClassId) (g : Int32 → (Unit) → Option (Int32 × (Unit))) (r : Int32 × (Unit)) : Prop := ∀ (x0 : Int32) (s0 : Unit) (H : Heap) (locs : List Loc) (ls : Array Slot), g x0 s0 = some r → va_P (dC, dI) vwCl (dw_P a ac s0) H → va_D A (dw_P a ac s0) → va_S A s.heap H locs → lv_has ls 1 [(0, .int x0)] → W p l e (headSpec ow_dm_X2_isLetter ({ frames := 0, cells := 0, slots := 0, locals := 0 })).room s m args below meth c H locs 0 0 Q (F0 m 12 ls [])
def dj_X2_isLetter_0 (p : Program) (l : Launch) (e : Env) (s : State) (m : MethodId) (args : Array Value) (below : List Frame) (meth : Method) (c : Code) (Q : State → Prop) (A : Nat → Prop) (dC : Nat → ClassId) (dI : Nat → Nat → Nat) (a : Nat → Nat) (ac : Nat → ClassId) (g : Int32 → (Unit) → Option (Int32 × (Unit))) (r : Int32 × (Unit)) : Prop := ∀ (v0 : Int32) (s0 : Unit) (H : Heap) (locs : List Loc) (ls : Array Slot), g v0 s0 = some r → va_P (dC, dI) vwCl (dw_P a ac s0) H → va_D A (dw_P a ac s0) → va_S A s.heap H locs → lv_has ls 1 [(0, .int v0)] → W p l e (headSpec ow_dm_X2_isLetter ({ frames := 0, cells := 0, slots := 0, locals := 0 })).room s m args below meth c H locs 0 0 Q (F0 m 0 ls [])
set_option maxHeartbeats 40000000 in
set_option maxRecDepth 100000 in
theorem db_X2_isLetter_29 {p : Program} {l : Launch} {e : Env} {s : State} {m : MethodId} {args : Array Value} {below : List Frame} {meth : Method} {c : Code} {Q : State → Prop} {A : Nat → Prop} {dC : Nat → ClassId} {dI : Nat → Nat → Nat} {a : Nat → Nat} {ac : Nat → ClassId} {n : Nat} {r : Int32 × (Unit)} (C : nd_C p l s m args c A (dC, dI) cX2_isLetter 1 RX2 ow_dm_X2_isLetter (dk_P ac)) (K : nd_Ki p l e (headSpec ow_dm_X2_isLetter ({ frames := 0, cells := 0, slots := 0, locals := 0 })).room s m args below meth c Q A (dC, dI) cX2_isLetter .boolean (Unit) (dw_P a ac) r) : dj_X2_isLetter_29 p l e s m args below meth c Q A dC dI a ac (df_X2_isLetter_29 n) r := by
  obtain ⟨hlt, hx, hb, hml, hown, hts, hN, hA, hK⟩ := id C
  intro y0 s0 H locs ls h hP hD hS hl
  unfold df_X2_isLetter_29 at h
  obtain ⟨n3, h⟩ := nd_z_e ⟨_, rfl⟩ h
  exact K _ _ _ _ _ _ dX2_isLetter_29 n3 (Option.some.inj h).symm hP hD hS
set_option maxHeartbeats 40000000 in
set_option maxRecDepth 100000 in
theorem db_X2_isLetter_28 {p : Program} {l : Launch} {e : Env} {s : State} {m : MethodId} {args : Array Value} {below : List Frame} {meth : Method} {c : Code} {Q : State → Prop} {A : Nat → Prop} {dC : Nat → ClassId} {dI : Nat → Nat → Nat} {a : Nat → Nat} {ac : Nat → ClassId} {n : Nat} {r : Int32 × (Unit)} (C : nd_C p l s m args c A (dC, dI) cX2_isLetter 1 RX2 ow_dm_X2_isLetter (dk_P ac)) (K : nd_Ki p l e (headSpec ow_dm_X2_isLetter ({ frames := 0, cells := 0, slots := 0, locals := 0 })).room s m args below meth c Q A (dC, dI) cX2_isLetter .boolean (Unit) (dw_P a ac) r) : dj_X2_isLetter_28 p l e s m args below meth c Q A dC dI a ac (df_X2_isLetter_28 n) r := by
  obtain ⟨hlt, hx, hb, hml, hown, hts, hN, hA, hK⟩ := id C
  intro s0 H locs ls h hP hD hS hl
  unfold df_X2_isLetter_28 at h
  refine lv_iconst (v := 0) hx hb dX2_isLetter_28 (by decide) ?_
  exact (db_X2_isLetter_29 C K) (0) s0 _ _ _ h hP hD hS (lv_sub hl [] rfl)
set_option maxHeartbeats 40000000 in
set_option maxRecDepth 100000 in
theorem db_X2_isLetter_24 {p : Program} {l : Launch} {e : Env} {s : State} {m : MethodId} {args : Array Value} {below : List Frame} {meth : Method} {c : Code} {Q : State → Prop} {A : Nat → Prop} {dC : Nat → ClassId} {dI : Nat → Nat → Nat} {a : Nat → Nat} {ac : Nat → ClassId} {n : Nat} {r : Int32 × (Unit)} (C : nd_C p l s m args c A (dC, dI) cX2_isLetter 1 RX2 ow_dm_X2_isLetter (dk_P ac)) (K : nd_Ki p l e (headSpec ow_dm_X2_isLetter ({ frames := 0, cells := 0, slots := 0, locals := 0 })).room s m args below meth c Q A (dC, dI) cX2_isLetter .boolean (Unit) (dw_P a ac) r) : dj_X2_isLetter_24 p l e s m args below meth c Q A dC dI a ac (df_X2_isLetter_24 n) r := by
  obtain ⟨hlt, hx, hb, hml, hown, hts, hN, hA, hK⟩ := id C
  intro s0 H locs ls h hP hD hS hl
  unfold df_X2_isLetter_24 at h
  refine lv_iconst (v := 1) hx hb dX2_isLetter_24 (by decide) ?_
  refine lv_goto (tgt := 29) hx hb dX2_isLetter_25 (by decide) ?_
  exact (db_X2_isLetter_29 C K) (1) s0 _ _ _ h hP hD hS (lv_sub hl [] rfl)
set_option maxHeartbeats 40000000 in
set_option maxRecDepth 100000 in
theorem db_X2_isLetter_12 {p : Program} {l : Launch} {e : Env} {s : State} {m : MethodId} {args : Array Value} {below : List Frame} {meth : Method} {c : Code} {Q : State → Prop} {A : Nat → Prop} {dC : Nat → ClassId} {dI : Nat → Nat → Nat} {a : Nat → Nat} {ac : Nat → ClassId} {n : Nat} {r : Int32 × (Unit)} (C : nd_C p l s m args c A (dC, dI) cX2_isLetter 1 RX2 ow_dm_X2_isLetter (dk_P ac)) (K : nd_Ki p l e (headSpec ow_dm_X2_isLetter ({ frames := 0, cells := 0, slots := 0, locals := 0 })).room s m args below meth c Q A (dC, dI) cX2_isLetter .boolean (Unit) (dw_P a ac) r) : dj_X2_isLetter_12 p l e s m args below meth c Q A dC dI a ac (df_X2_isLetter_12 n) r := by
  obtain ⟨hlt, hx, hb, hml, hown, hts, hN, hA, hK⟩ := id C
  intro x0 s0 H locs ls h hP hD hS hl
  unfold df_X2_isLetter_12 at h
  refine lv_iload_n hx hb dX2_isLetter_12 rfl (lv_at hl 0 rfl) ?_
  refine lv_bipush (v := 65) hx hb dX2_isLetter_13 (by decide) ?_
  refine lv_icmp_lt (tgt := 28) hx hb dX2_isLetter_15 (by decide) (fun c2 => ?_) (fun c2 => ?_)
  · have h := nd_pos h c2
    exact (db_X2_isLetter_28 C K)  s0 _ _ _ h hP hD hS (lv_sub hl [] rfl)
  · have h := nd_neg h c2
    refine lv_iload_n hx hb dX2_isLetter_18 rfl (lv_at hl 0 rfl) ?_
    refine lv_bipush (v := 90) hx hb dX2_isLetter_19 (by decide) ?_
    refine lv_icmp_gt (tgt := 28) hx hb dX2_isLetter_21 (by decide) (fun c4 => ?_) (fun c4 => ?_)
    · have h := nd_pos h c4
      exact (db_X2_isLetter_28 C K)  s0 _ _ _ h hP hD hS (lv_sub hl [] rfl)
    · have h := nd_neg h c4
      exact (db_X2_isLetter_24 C K)  s0 _ _ _ h hP hD hS (lv_sub hl [] rfl)
set_option maxHeartbeats 40000000 in
set_option maxRecDepth 100000 in
theorem db_X2_isLetter_0 {p : Program} {l : Launch} {e : Env} {s : State} {m : MethodId} {args : Array Value} {below : List Frame} {meth : Method} {c : Code} {Q : State → Prop} {A : Nat → Prop} {dC : Nat → ClassId} {dI : Nat → Nat → Nat} {a : Nat → Nat} {ac : Nat → ClassId} {n : Nat} {r : Int32 × (Unit)} (C : nd_C p l s m args c A (dC, dI) cX2_isLetter 1 RX2 ow_dm_X2_isLetter (dk_P ac)) (K : nd_Ki p l e (headSpec ow_dm_X2_isLetter ({ frames := 0, cells := 0, slots := 0, locals := 0 })).room s m args below meth c Q A (dC, dI) cX2_isLetter .boolean (Unit) (dw_P a ac) r) : dj_X2_isLetter_0 p l e s m args below meth c Q A dC dI a ac (df_X2_isLetter_0 n) r := by
  obtain ⟨hlt, hx, hb, hml, hown, hts, hN, hA, hK⟩ := id C
  intro v0 s0 H locs ls h hP hD hS hl
  unfold df_X2_isLetter_0 at h
  refine lv_iload_n hx hb dX2_isLetter_0 rfl (lv_at hl 0 rfl) ?_
  refine lv_bipush (v := 97) hx hb dX2_isLetter_1 (by decide) ?_
  refine lv_icmp_lt (tgt := 12) hx hb dX2_isLetter_3 (by decide) (fun c1 => ?_) (fun c1 => ?_)
  · have h := nd_pos h c1
    exact (db_X2_isLetter_12 C K) (v0) s0 _ _ _ h hP hD hS (lv_sub hl [0] rfl)
  · have h := nd_neg h c1
    refine lv_iload_n hx hb dX2_isLetter_6 rfl (lv_at hl 0 rfl) ?_
    refine lv_bipush (v := 122) hx hb dX2_isLetter_7 (by decide) ?_
    refine lv_icmp_le (tgt := 24) hx hb dX2_isLetter_9 (by decide) (fun c5 => ?_) (fun c5 => ?_)
    · have h := nd_pos h c5
      exact (db_X2_isLetter_24 C K)  s0 _ _ _ h hP hD hS (lv_sub hl [] rfl)
    · have h := nd_neg h c5
      exact (db_X2_isLetter_12 C K) (v0) s0 _ _ _ h hP hD hS (lv_sub hl [0] rfl)
set_option maxHeartbeats 40000000 in
set_option maxRecDepth 100000 in
theorem dm_X2_isLetter (l : Launch) (hlt : l.stackTraces = false) (dC : Nat → ClassId) (dI : Nat → Nat → Nat) (a : Nat → Nat) (ac : Nat → ClassId) (n : Nat) (v0 : Int32) (s0 : Unit) {r : Int32 × (Unit)} (h : df_X2_isLetter n v0 s0 = some r) (sz : Nat) : Met l yX2_isLetter ow_dm_X2_isLetter ({ frames := 0, cells := 0, slots := 0, locals := 0 }) (va_Pc [.int v0] (fun U => U.heap.size = sz ∧ va_P (dC, dI) vwCl (dw_P a ac s0) U.heap ∧ va_K (dC, dI) vwCl (dk_P ac) U ∧ va_D (fun _ => True) (dw_P a ac s0) ∧ nv_E dI (va_A (dw_P a ac s0) sz) U)) (va_Qi (fun x _ => x = r.1) (fun (_ : Unit) t => va_P (dC, dI) vwCl (dw_P a ac r.2) t.heap ∧ va_K (dC, dI) vwCl (dk_P ac) t ∧ va_D (va_A (dw_P a ac s0) sz) (dw_P a ac r.2)) (va_A (dw_P a ac s0) sz)) 0 0 (va_A (dw_P a ac s0) sz) := by
  refine Met.ofW (cc := cX2_isLetter) (maxL := 1) (ret := (some .boolean)) (by decide) rfl ?_
  intro p e s m args below meth c s₁ B hml hv
  obtain ⟨rfl, hsz, hP, hK, hD0, hN⟩ := hv
  have hx := B.exec
  have hb := B.bytes
  have hr := B.returns
  have hts := atoms_spec (ws := ow_dm_X2_isLetter) B.pre
  have hown : s.vm.findClass RX2 = some m.cls := findClass_of_methodNamed B.named
  have hlocks := B.notSynchronized
  subst hsz
  have hD := hD0.self (sz := s.heap.size)
  generalize hAe : va_A (dw_P a ac s0) s.heap.size = A at hD hN ⊢
  have hA : ∀ q : Nat, s.heap.size ≤ q → A q := fun q h => by rw [← hAe]; exact Or.inr h
  have hl := lv_entry ([.int v0]) (n := 1) (Nat.le_of_ble_eq_true rfl)
  rw [lg_entry_eq]
  generalize (lg_sl ([.int v0]) ++ List.replicate (1 - (lg_sl ([.int v0])).length) Slot.unset).toArray = ls at hl ⊢
  have hl : lv_has ls 1 [(0, .int v0)] := hl
  exact db_X2_isLetter_0 (dC := dC) (dI := dI) (a := a) (ac := ac) (n := n) (r := r) ⟨hlt, hx, hb, hml, hown, hts, hN, hA, hK⟩ (fun pc v τ H locs ls d z er hP hD hS => by subst er; exact W.zret (v := v) hx hb hr z (fun t ht hW => ⟨⟨v, (), rfl, rfl, by rw [ht]; exact hP, va_K.moved hW.alike hK, hD⟩, hS.F ht⟩) hS.2.2 d) v0 s0 _ _ _ h hP hD va_S.rf (lv_sub hl [0] rfl)
def ow_dm_X2_isDigit : List Cond := Cond.code yX2_isDigit cX2_isDigit 1 (some .boolean) :: ([] ++ [])
theorem gd_dm_X2_isDigit : ∀ w ∈ ow_dm_X2_isDigit, (w.onTables && w.keeps) = true ∨ ∃ ty, w = Cond.arrayClass ty := List.forall_mem_cons.mpr ⟨good_of_word rfl, List.forall_mem_append.mpr ⟨fun w h => good_of_word (List.all_eq_true.mp (by decide +kernel) w h), fun _ h => nomatch h⟩⟩
def dj_X2_isDigit_17 (p : Program) (l : Launch) (e : Env) (s : State) (m : MethodId) (args : Array Value) (below : List Frame) (meth : Method) (c : Code) (Q : State → Prop) (A : Nat → Prop) (dC : Nat → ClassId) (dI : Nat → Nat → Nat) (a : Nat → Nat) (ac : Nat → ClassId) (g : Int32 → (Unit) → Option (Int32 × (Unit))) (r : Int32 × (Unit)) : Prop := ∀ (y0 : Int32) (s0 : Unit) (H : Heap) (locs : List Loc) (ls : Array Slot), g y0 s0 = some r → va_P (dC, dI) vwCl (dw_P a ac s0) H → va_D A (dw_P a ac s0) → va_S A s.heap H locs → lv_has ls 1 [] → W p l e (headSpec ow_dm_X2_isDigit ({ frames := 0, cells := 0, slots := 0, locals := 0 })).room s m args below meth c H locs 0 0 Q (F0 m 17 ls [.int y0])
def dj_X2_isDigit_16 (p : Program) (l : Launch) (e : Env) (s : State) (m : MethodId) (args : Array Value) (below : List Frame) (meth : Method) (c : Code) (Q : State → Prop) (A : Nat → Prop) (dC : Nat → ClassId) (dI : Nat → Nat → Nat) (a : Nat → Nat) (ac : Nat → ClassId) (g : (Unit) → Option (Int32 × (Unit))) (r : Int32 × (Unit)) : Prop := ∀ (s0 : Unit) (H : Heap) (locs : List Loc) (ls : Array Slot), g s0 = some r → va_P (dC, dI) vwCl (dw_P a ac s0) H → va_D A (dw_P a ac s0) → va_S A s.heap H locs → lv_has ls 1 [] → W p l e (headSpec ow_dm_X2_isDigit ({ frames := 0, cells := 0, slots := 0, locals := 0 })).room s m args below meth c H locs 0 0 Q (F0 m 16 ls [])
def dj_X2_isDigit_0 (p : Program) (l : Launch) (e : Env) (s : State) (m : MethodId) (args : Array Value) (below : List Frame) (meth : Method) (c : Code) (Q : State → Prop) (A : Nat → Prop) (dC : Nat → ClassId) (dI : Nat → Nat → Nat) (a : Nat → Nat) (ac : Nat → ClassId) (g : Int32 → (Unit) → Option (Int32 × (Unit))) (r : Int32 × (Unit)) : Prop := ∀ (v0 : Int32) (s0 : Unit) (H : Heap) (locs : List Loc) (ls : Array Slot), g v0 s0 = some r → va_P (dC, dI) vwCl (dw_P a ac s0) H → va_D A (dw_P a ac s0) → va_S A s.heap H locs → lv_has ls 1 [(0, .int v0)] → W p l e (headSpec ow_dm_X2_isDigit ({ frames := 0, cells := 0, slots := 0, locals := 0 })).room s m args below meth c H locs 0 0 Q (F0 m 0 ls [])
set_option maxHeartbeats 40000000 in
set_option maxRecDepth 100000 in
theorem db_X2_isDigit_17 {p : Program} {l : Launch} {e : Env} {s : State} {m : MethodId} {args : Array Value} {below : List Frame} {meth : Method} {c : Code} {Q : State → Prop} {A : Nat → Prop} {dC : Nat → ClassId} {dI : Nat → Nat → Nat} {a : Nat → Nat} {ac : Nat → ClassId} {n : Nat} {r : Int32 × (Unit)} (C : nd_C p l s m args c A (dC, dI) cX2_isDigit 1 RX2 ow_dm_X2_isDigit (dk_P ac)) (K : nd_Ki p l e (headSpec ow_dm_X2_isDigit ({ frames := 0, cells := 0, slots := 0, locals := 0 })).room s m args below meth c Q A (dC, dI) cX2_isDigit .boolean (Unit) (dw_P a ac) r) : dj_X2_isDigit_17 p l e s m args below meth c Q A dC dI a ac (df_X2_isDigit_17 n) r := by
  obtain ⟨hlt, hx, hb, hml, hown, hts, hN, hA, hK⟩ := id C
  intro y0 s0 H locs ls h hP hD hS hl
  unfold df_X2_isDigit_17 at h
  obtain ⟨n2, h⟩ := nd_z_e ⟨_, rfl⟩ h
  exact K _ _ _ _ _ _ dX2_isDigit_17 n2 (Option.some.inj h).symm hP hD hS
set_option maxHeartbeats 40000000 in
set_option maxRecDepth 100000 in
theorem db_X2_isDigit_16 {p : Program} {l : Launch} {e : Env} {s : State} {m : MethodId} {args : Array Value} {below : List Frame} {meth : Method} {c : Code} {Q : State → Prop} {A : Nat → Prop} {dC : Nat → ClassId} {dI : Nat → Nat → Nat} {a : Nat → Nat} {ac : Nat → ClassId} {n : Nat} {r : Int32 × (Unit)} (C : nd_C p l s m args c A (dC, dI) cX2_isDigit 1 RX2 ow_dm_X2_isDigit (dk_P ac)) (K : nd_Ki p l e (headSpec ow_dm_X2_isDigit ({ frames := 0, cells := 0, slots := 0, locals := 0 })).room s m args below meth c Q A (dC, dI) cX2_isDigit .boolean (Unit) (dw_P a ac) r) : dj_X2_isDigit_16 p l e s m args below meth c Q A dC dI a ac (df_X2_isDigit_16 n) r := by
  obtain ⟨hlt, hx, hb, hml, hown, hts, hN, hA, hK⟩ := id C
  intro s0 H locs ls h hP hD hS hl
  unfold df_X2_isDigit_16 at h
  refine lv_iconst (v := 0) hx hb dX2_isDigit_16 (by decide) ?_
  exact (db_X2_isDigit_17 C K) (0) s0 _ _ _ h hP hD hS (lv_sub hl [] rfl)
set_option maxHeartbeats 40000000 in
set_option maxRecDepth 100000 in
theorem db_X2_isDigit_0 {p : Program} {l : Launch} {e : Env} {s : State} {m : MethodId} {args : Array Value} {below : List Frame} {meth : Method} {c : Code} {Q : State → Prop} {A : Nat → Prop} {dC : Nat → ClassId} {dI : Nat → Nat → Nat} {a : Nat → Nat} {ac : Nat → ClassId} {n : Nat} {r : Int32 × (Unit)} (C : nd_C p l s m args c A (dC, dI) cX2_isDigit 1 RX2 ow_dm_X2_isDigit (dk_P ac)) (K : nd_Ki p l e (headSpec ow_dm_X2_isDigit ({ frames := 0, cells := 0, slots := 0, locals := 0 })).room s m args below meth c Q A (dC, dI) cX2_isDigit .boolean (Unit) (dw_P a ac) r) : dj_X2_isDigit_0 p l e s m args below meth c Q A dC dI a ac (df_X2_isDigit_0 n) r := by
  obtain ⟨hlt, hx, hb, hml, hown, hts, hN, hA, hK⟩ := id C
  intro v0 s0 H locs ls h hP hD hS hl
  unfold df_X2_isDigit_0 at h
  refine lv_iload_n hx hb dX2_isDigit_0 rfl (lv_at hl 0 rfl) ?_
  refine lv_bipush (v := 48) hx hb dX2_isDigit_1 (by decide) ?_
  refine lv_icmp_lt (tgt := 16) hx hb dX2_isDigit_3 (by decide) (fun c1 => ?_) (fun c1 => ?_)
  · have h := nd_pos h c1
    exact (db_X2_isDigit_16 C K)  s0 _ _ _ h hP hD hS (lv_sub hl [] rfl)
  · have h := nd_neg h c1
    refine lv_iload_n hx hb dX2_isDigit_6 rfl (lv_at hl 0 rfl) ?_
    refine lv_bipush (v := 57) hx hb dX2_isDigit_7 (by decide) ?_
    refine lv_icmp_gt (tgt := 16) hx hb dX2_isDigit_9 (by decide) (fun c3 => ?_) (fun c3 => ?_)
    · have h := nd_pos h c3
      exact (db_X2_isDigit_16 C K)  s0 _ _ _ h hP hD hS (lv_sub hl [] rfl)
    · have h := nd_neg h c3
      refine lv_iconst (v := 1) hx hb dX2_isDigit_12 (by decide) ?_
      refine lv_goto (tgt := 17) hx hb dX2_isDigit_13 (by decide) ?_
      exact (db_X2_isDigit_17 C K) (1) s0 _ _ _ h hP hD hS (lv_sub hl [] rfl)
set_option maxHeartbeats 40000000 in
set_option maxRecDepth 100000 in
theorem dm_X2_isDigit (l : Launch) (hlt : l.stackTraces = false) (dC : Nat → ClassId) (dI : Nat → Nat → Nat) (a : Nat → Nat) (ac : Nat → ClassId) (n : Nat) (v0 : Int32) (s0 : Unit) {r : Int32 × (Unit)} (h : df_X2_isDigit n v0 s0 = some r) (sz : Nat) : Met l yX2_isDigit ow_dm_X2_isDigit ({ frames := 0, cells := 0, slots := 0, locals := 0 }) (va_Pc [.int v0] (fun U => U.heap.size = sz ∧ va_P (dC, dI) vwCl (dw_P a ac s0) U.heap ∧ va_K (dC, dI) vwCl (dk_P ac) U ∧ va_D (fun _ => True) (dw_P a ac s0) ∧ nv_E dI (va_A (dw_P a ac s0) sz) U)) (va_Qi (fun x _ => x = r.1) (fun (_ : Unit) t => va_P (dC, dI) vwCl (dw_P a ac r.2) t.heap ∧ va_K (dC, dI) vwCl (dk_P ac) t ∧ va_D (va_A (dw_P a ac s0) sz) (dw_P a ac r.2)) (va_A (dw_P a ac s0) sz)) 0 0 (va_A (dw_P a ac s0) sz) := by
  refine Met.ofW (cc := cX2_isDigit) (maxL := 1) (ret := (some .boolean)) (by decide) rfl ?_
  intro p e s m args below meth c s₁ B hml hv
  obtain ⟨rfl, hsz, hP, hK, hD0, hN⟩ := hv
  have hx := B.exec
  have hb := B.bytes
  have hr := B.returns
  have hts := atoms_spec (ws := ow_dm_X2_isDigit) B.pre
  have hown : s.vm.findClass RX2 = some m.cls := findClass_of_methodNamed B.named
  have hlocks := B.notSynchronized
  subst hsz
  have hD := hD0.self (sz := s.heap.size)
  generalize hAe : va_A (dw_P a ac s0) s.heap.size = A at hD hN ⊢
  have hA : ∀ q : Nat, s.heap.size ≤ q → A q := fun q h => by rw [← hAe]; exact Or.inr h
  have hl := lv_entry ([.int v0]) (n := 1) (Nat.le_of_ble_eq_true rfl)
  rw [lg_entry_eq]
  generalize (lg_sl ([.int v0]) ++ List.replicate (1 - (lg_sl ([.int v0])).length) Slot.unset).toArray = ls at hl ⊢
  have hl : lv_has ls 1 [(0, .int v0)] := hl
  exact db_X2_isDigit_0 (dC := dC) (dI := dI) (a := a) (ac := ac) (n := n) (r := r) ⟨hlt, hx, hb, hml, hown, hts, hN, hA, hK⟩ (fun pc v τ H locs ls d z er hP hD hS => by subst er; exact W.zret (v := v) hx hb hr z (fun t ht hW => ⟨⟨v, (), rfl, rfl, by rw [ht]; exact hP, va_K.moved hW.alike hK, hD⟩, hS.F ht⟩) hS.2.2 d) v0 s0 _ _ _ h hP hD va_S.rf (lv_sub hl [0] rfl)
def ow_dm_X2_readNumber : List Cond := Cond.code yX2_readNumber cX2_readNumber 5 none :: ([Cond.fieldLink RX2 49 "TimeMachine$Condition" "at" "I", Cond.fieldLink RX2 90 "TimeMachine$Condition" "from" "I", Cond.fieldLink RX2 110 "TimeMachine$Condition" "number" "J", Cond.fieldLink RX2 35 "TimeMachine$Condition" "source" "[B", Cond.methodLink RX2 97 yX2_isDigit, Cond.static yX2_isDigit, Cond.initialized RX2, Cond.fieldLink RX2 77 "TimeMachine$Condition" "kind" "I", Cond.constantLong RX2 114 (4294967295)] ++ (u_ws RX2 TX2 20 ++ (ow_dm_X2_isDigit ++ [])))
theorem gd_dm_X2_readNumber : ∀ w ∈ ow_dm_X2_readNumber, (w.onTables && w.keeps) = true ∨ ∃ ty, w = Cond.arrayClass ty := List.forall_mem_cons.mpr ⟨good_of_word rfl, List.forall_mem_append.mpr ⟨fun w h => good_of_word (List.all_eq_true.mp (by decide +kernel) w h), List.forall_mem_append.mpr ⟨gu_X2, List.forall_mem_append.mpr ⟨gd_dm_X2_isDigit, fun _ h => nomatch h⟩⟩⟩⟩
theorem hi_dm_X2_readNumber_X2 : ∀ w ∈ u_ws RX2 TX2 20, w ∈ ow_dm_X2_readNumber := fun w h => List.mem_cons_of_mem _ (List.mem_append_right _ (List.mem_append_left _ h))
theorem gi_dm_X2_readNumber_0 : GoodIn ow_dm_X2_readNumber (wsS RX2 97 yX2_isDigit ow_dm_X2_isDigit) := goodIn_app (goodIn_of _ (by decide +kernel)) (fun w h => ⟨List.mem_cons_of_mem _ (List.mem_append_right _ (List.mem_append_right _ (List.mem_append_left _ h))), gd_dm_X2_isDigit w h⟩)
def dj_X2_readNumber_171 (p : Program) (l : Launch) (e : Env) (s : State) (m : MethodId) (args : Array Value) (below : List Frame) (meth : Method) (c : Code) (Q : State → Prop) (A : Nat → Prop) (dC : Nat → ClassId) (dI : Nat → Nat → Nat) (a : Nat → Nat) (ac : Nat → ClassId) (g : (St × (St)) → Option (St × (St))) (r : St × (St)) : Prop := ∀ (s0 : St × (St)) (H : Heap) (locs : List Loc) (ls : Array Slot), g s0 = some r → va_P (dC, dI) vwCl (dw_X2s a ac s0) H → va_D A (dw_X2s a ac s0) → va_S A s.heap H locs → lv_has ls 5 [(0, .ref (a 1))] → W p l e (headSpec ow_dm_X2_readNumber ({ frames := 1, cells := 0, slots := 0, locals := 20 })).room s m args below meth c H locs 0 0 Q (F0 m 171 ls [])
def dj_X2_readNumber_146 (p : Program) (l : Launch) (e : Env) (s : State) (m : MethodId) (args : Array Value) (below : List Frame) (meth : Method) (c : Code) (Q : State → Prop) (A : Nat → Prop) (dC : Nat → ClassId) (dI : Nat → Nat → Nat) (a : Nat → Nat) (ac : Nat → ClassId) (g : Int32 → Int32 → Int32 → Int64 → Int32 → (St × (St)) → Option (St × (St))) (r : St × (St)) : Prop := ∀ (x1 : Int32) (x2 : Int32) (x4 : Int32) (y1 : Int64) (y2 : Int32) (s0 : St × (St)) (H : Heap) (locs : List Loc) (ls : Array Slot), g x1 x2 x4 y1 y2 s0 = some r → va_P (dC, dI) vwCl (dw_X2s a ac s0) H → va_D A (dw_X2s a ac s0) → va_S A s.heap H locs → lv_has ls 5 [(0, .ref (a 1)), (1, .int x1), (2, .int x2), (4, .int x4)] → W p l e (headSpec ow_dm_X2_readNumber ({ frames := 1, cells := 0, slots := 0, locals := 20 })).room s m args below meth c H locs 0 0 Q (F0 m 146 ls [.int y2, .long y1, .ref (a 1)])
def dj_X2_readNumber_128 (p : Program) (l : Launch) (e : Env) (s : State) (m : MethodId) (args : Array Value) (below : List Frame) (meth : Method) (c : Code) (Q : State → Prop) (A : Nat → Prop) (dC : Nat → ClassId) (dI : Nat → Nat → Nat) (a : Nat → Nat) (ac : Nat → ClassId) (g : Int32 → Int32 → Int32 → (St × (St)) → Option (St × (St))) (r : St × (St)) : Prop := ∀ (x1 : Int32) (x2 : Int32) (y0 : Int32) (s0 : St × (St)) (H : Heap) (locs : List Loc) (ls : Array Slot), g x1 x2 y0 s0 = some r → va_P (dC, dI) vwCl (dw_X2s a ac s0) H → va_D A (dw_X2s a ac s0) → va_S A s.heap H locs → lv_has ls 5 [(0, .ref (a 1)), (1, .int x1), (2, .int x2)] → W p l e (headSpec ow_dm_X2_readNumber ({ frames := 1, cells := 0, slots := 0, locals := 20 })).room s m args below meth c H locs 0 0 Q (F0 m 128 ls [.int y0])
def dj_X2_readNumber_127 (p : Program) (l : Launch) (e : Env) (s : State) (m : MethodId) (args : Array Value) (below : List Frame) (meth : Method) (c : Code) (Q : State → Prop) (A : Nat → Prop) (dC : Nat → ClassId) (dI : Nat → Nat → Nat) (a : Nat → Nat) (ac : Nat → ClassId) (g : Int32 → Int32 → (St × (St)) → Option (St × (St))) (r : St × (St)) : Prop := ∀ (x1 : Int32) (x2 : Int32) (s0 : St × (St)) (H : Heap) (locs : List Loc) (ls : Array Slot), g x1 x2 s0 = some r → va_P (dC, dI) vwCl (dw_X2s a ac s0) H → va_D A (dw_X2s a ac s0) → va_S A s.heap H locs → lv_has ls 5 [(0, .ref (a 1)), (1, .int x1), (2, .int x2)] → W p l e (headSpec ow_dm_X2_readNumber ({ frames := 1, cells := 0, slots := 0, locals := 20 })).room s m args below meth c H locs 0 0 Q (F0 m 127 ls [])
def dj_X2_readNumber_72 (p : Program) (l : Launch) (e : Env) (s : State) (m : MethodId) (args : Array Value) (below : List Frame) (meth : Method) (c : Code) (Q : State → Prop) (A : Nat → Prop) (dC : Nat → ClassId) (dI : Nat → Nat → Nat) (a : Nat → Nat) (ac : Nat → ClassId) (g : Int32 → Int32 → (St × (St)) → Option (St × (St))) (r : St × (St)) : Prop := ∀ (x1 : Int32) (x2 : Int32) (s0 : St × (St)) (H : Heap) (locs : List Loc) (ls : Array Slot), g x1 x2 s0 = some r → va_P (dC, dI) vwCl (dw_X2s a ac s0) H → va_D A (dw_X2s a ac s0) → va_S A s.heap H locs → lv_has ls 5 [(0, .ref (a 1)), (1, .int x1), (2, .int x2)] → W p l e (headSpec ow_dm_X2_readNumber ({ frames := 1, cells := 0, slots := 0, locals := 20 })).room s m args below meth c H locs 0 0 Q (F0 m 72 ls [])
def dj_X2_readNumber_71 (p : Program) (l : Launch) (e : Env) (s : State) (m : MethodId) (args : Array Value) (below : List Frame) (meth : Method) (c : Code) (Q : State → Prop) (A : Nat → Prop) (dC : Nat → ClassId) (dI : Nat → Nat → Nat) (a : Nat → Nat) (ac : Nat → ClassId) (g : Int32 → Int32 → (St × (St)) → Option (St × (St))) (r : St × (St)) : Prop := ∀ (x1 : Int32) (y0 : Int32) (s0 : St × (St)) (H : Heap) (locs : List Loc) (ls : Array Slot), g x1 y0 s0 = some r → va_P (dC, dI) vwCl (dw_X2s a ac s0) H → va_D A (dw_X2s a ac s0) → va_S A s.heap H locs → lv_has ls 5 [(0, .ref (a 1)), (1, .int x1)] → W p l e (headSpec ow_dm_X2_readNumber ({ frames := 1, cells := 0, slots := 0, locals := 20 })).room s m args below meth c H locs 0 0 Q (F0 m 71 ls [.int y0])
def dj_X2_readNumber_48 (p : Program) (l : Launch) (e : Env) (s : State) (m : MethodId) (args : Array Value) (below : List Frame) (meth : Method) (c : Code) (Q : State → Prop) (A : Nat → Prop) (dC : Nat → ClassId) (dI : Nat → Nat → Nat) (a : Nat → Nat) (ac : Nat → ClassId) (g : Int32 → (St × (St)) → Option (St × (St))) (r : St × (St)) : Prop := ∀ (y0 : Int32) (s0 : St × (St)) (H : Heap) (locs : List Loc) (ls : Array Slot), g y0 s0 = some r → va_P (dC, dI) vwCl (dw_X2s a ac s0) H → va_D A (dw_X2s a ac s0) → va_S A s.heap H locs → lv_has ls 5 [(0, .ref (a 1))] → W p l e (headSpec ow_dm_X2_readNumber ({ frames := 1, cells := 0, slots := 0, locals := 20 })).room s m args below meth c H locs 0 0 Q (F0 m 48 ls [.int y0])
def dj_X2_readNumber_47 (p : Program) (l : Launch) (e : Env) (s : State) (m : MethodId) (args : Array Value) (below : List Frame) (meth : Method) (c : Code) (Q : State → Prop) (A : Nat → Prop) (dC : Nat → ClassId) (dI : Nat → Nat → Nat) (a : Nat → Nat) (ac : Nat → ClassId) (g : (St × (St)) → Option (St × (St))) (r : St × (St)) : Prop := ∀ (s0 : St × (St)) (H : Heap) (locs : List Loc) (ls : Array Slot), g s0 = some r → va_P (dC, dI) vwCl (dw_X2s a ac s0) H → va_D A (dw_X2s a ac s0) → va_S A s.heap H locs → lv_has ls 5 [(0, .ref (a 1))] → W p l e (headSpec ow_dm_X2_readNumber ({ frames := 1, cells := 0, slots := 0, locals := 20 })).room s m args below meth c H locs 0 0 Q (F0 m 47 ls [])
def dj_X2_readNumber_0 (p : Program) (l : Launch) (e : Env) (s : State) (m : MethodId) (args : Array Value) (below : List Frame) (meth : Method) (c : Code) (Q : State → Prop) (A : Nat → Prop) (dC : Nat → ClassId) (dI : Nat → Nat → Nat) (a : Nat → Nat) (ac : Nat → ClassId) (g : (St × (St)) → Option (St × (St))) (r : St × (St)) : Prop := ∀ (s0 : St × (St)) (H : Heap) (locs : List Loc) (ls : Array Slot), g s0 = some r → va_P (dC, dI) vwCl (dw_X2s a ac s0) H → va_D A (dw_X2s a ac s0) → va_S A s.heap H locs → lv_has ls 5 [(0, .ref (a 1))] → W p l e (headSpec ow_dm_X2_readNumber ({ frames := 1, cells := 0, slots := 0, locals := 20 })).room s m args below meth c H locs 0 0 Q (F0 m 0 ls [])
set_option maxHeartbeats 40000000 in
set_option maxRecDepth 100000 in
theorem db_X2_readNumber_171 {p : Program} {l : Launch} {e : Env} {s : State} {m : MethodId} {args : Array Value} {below : List Frame} {meth : Method} {c : Code} {Q : State → Prop} {A : Nat → Prop} {dC : Nat → ClassId} {dI : Nat → Nat → Nat} {a : Nat → Nat} {ac : Nat → ClassId} {n : Nat} {r : St × (St)} (C : nd_C p l s m args c A (dC, dI) cX2_readNumber 5 RX2 ow_dm_X2_readNumber (dk_X2s ac)) (K : nd_Kv p l e (headSpec ow_dm_X2_readNumber ({ frames := 1, cells := 0, slots := 0, locals := 20 })).room s m args below meth c Q A (dC, dI) cX2_readNumber (St × (St)) (dw_X2s a ac) r) : dj_X2_readNumber_171 p l e s m args below meth c Q A dC dI a ac (df_X2_readNumber_171 n (a 0)) r := by
  obtain ⟨hlt, hx, hb, hml, hown, hts, hN, hA, hK⟩ := id C
  intro s0 H locs ls h hP hD hS hl
  unfold df_X2_readNumber_171 at h
  refine lv_aload_n hx hb dX2_readNumber_171 rfl (lv_at hl 0 rfl) ?_
  refine lv_iconst (v := 4) hx hb dX2_readNumber_172 (by decide) ?_
  refine va_put (D := (dC, dI)) (ci := 3) (v := .int 4) (ty := .int) (C := RX2) (T := TX2) (N := 20) hx hb hts hi_dm_X2_readNumber_X2 tyX2 tyX2_ok nmX2 hown hK hP hD hS 1 rfl rfl 15 (by decide) (hts (.fieldLink RX2 77 "TimeMachine$Condition" "kind" "I") (List.mem_of_getElem? (i := 8) rfl)) (fun _ h9 => h9) rfl (by decide +kernel) rfl rfl (Nat.le_of_ble_eq_true rfl) dX2_readNumber_173 (fun H locs hP hD hS => ?_)
  obtain ⟨s16, es16, h⟩ := nd_let_e h
  have hP : va_P (dC, dI) vwCl (dw_X2s a ac s16) H := by rw [es16]; exact hP
  have hD : va_D A (dw_X2s a ac s16) := by rw [es16]; exact hD
  exact K _ _ _ _ _ dX2_readNumber_176 (Option.some.inj h).symm hP hD hS
set_option maxHeartbeats 40000000 in
set_option maxRecDepth 100000 in
theorem db_X2_readNumber_146 {p : Program} {l : Launch} {e : Env} {s : State} {m : MethodId} {args : Array Value} {below : List Frame} {meth : Method} {c : Code} {Q : State → Prop} {A : Nat → Prop} {dC : Nat → ClassId} {dI : Nat → Nat → Nat} {a : Nat → Nat} {ac : Nat → ClassId} {n : Nat} {r : St × (St)} (C : nd_C p l s m args c A (dC, dI) cX2_readNumber 5 RX2 ow_dm_X2_readNumber (dk_X2s ac)) (K : nd_Kv p l e (headSpec ow_dm_X2_readNumber ({ frames := 1, cells := 0, slots := 0, locals := 20 })).room s m args below meth c Q A (dC, dI) cX2_readNumber (St × (St)) (dw_X2s a ac) r) {g72 : Int32 → Int32 → (St × (St)) → Option (St × (St))} (J72 : dj_X2_readNumber_72 p l e s m args below meth c Q A dC dI a ac g72 r) : dj_X2_readNumber_146 p l e s m args below meth c Q A dC dI a ac (df_X2_readNumber_146 n (a 0) g72) r := by
  obtain ⟨hlt, hx, hb, hml, hown, hts, hN, hA, hK⟩ := id C
  intro x1 x2 x4 y1 y2 s0 H locs ls h hP hD hS hl
  unfold df_X2_readNumber_146 at h
  refine lv_i2l hx hb dX2_readNumber_146 rfl ?_
  refine lv_lmul hx hb dX2_readNumber_147 ?_
  refine lv_iload hx hb dX2_readNumber_148 (lv_at hl 3 rfl) ?_
  refine lv_i2l hx hb dX2_readNumber_150 rfl ?_
  refine lv_ladd hx hb dX2_readNumber_151 ?_
  refine va_put (D := (dC, dI)) (ci := 3) (v := .long ((((y1 : Int64) * (y2.toInt64)) : Int64) + (x4.toInt64))) (ty := .long) (C := RX2) (T := TX2) (N := 20) hx hb hts hi_dm_X2_readNumber_X2 tyX2 tyX2_ok nmX2 hown hK hP hD hS 1 rfl rfl 17 (by decide) (hts (.fieldLink RX2 110 "TimeMachine$Condition" "number" "J") (List.mem_of_getElem? (i := 3) rfl)) (fun _ h9 => h9) rfl (by decide +kernel) rfl rfl (Nat.le_of_ble_eq_true rfl) dX2_readNumber_152 (fun H locs hP hD hS => ?_)
  obtain ⟨s14, es14, h⟩ := nd_let_e h
  have hP : va_P (dC, dI) vwCl (dw_X2s a ac s14) H := by rw [es14]; exact hP
  have hD : va_D A (dw_X2s a ac s14) := by rw [es14]; exact hD
  refine lv_iload hx hb dX2_readNumber_155 (lv_at hl 3 rfl) ?_
  refine lv_if_lt (tgt := 171) hx hb dX2_readNumber_157 (by decide) (fun c15 => ?_) (fun c15 => ?_)
  · have h := nd_pos h c15
    exact (db_X2_readNumber_171 C K)  s14 _ _ _ h hP hD hS (lv_sub hl [0] rfl)
  · have h := nd_neg h c15
    refine lv_aload_n hx hb dX2_readNumber_160 rfl (lv_at hl 0 rfl) ?_
    refine va_get (D := (dC, dI)) (ci := 3) (v := .long (sL s14.2 0)) (C := RX2) (T := TX2) (N := 20) hx hb hts hi_dm_X2_readNumber_X2 hown hK hP 1 rfl rfl 17 (by decide) (hts (.fieldLink RX2 110 "TimeMachine$Condition" "number" "J") (List.mem_of_getElem? (i := 3) rfl)) (fun _ h9 => h9) rfl dX2_readNumber_161 ?_
    refine lv_ldc2 hx hb hown (hts (.constantLong RX2 114 (4294967295)) (List.mem_of_getElem? (i := 9) rfl)) dX2_readNumber_164 ?_
    refine W.lcmp hx hb dX2_readNumber_167 ?_
    refine lv_if_le (tgt := 177) hx hb dX2_readNumber_168 (by decide) (fun c17 => ?_) (fun c17 => ?_)
    · have h := nd_pos h c17
      obtain ⟨z18, ez18, h⟩ := nd_let_e h
      refine lv_iinc (v := z18) (lv' := [(2, .int z18), (0, .ref (a 1)), (1, .int x1), (4, .int x4)]) hx hb dX2_readNumber_177 hl (k := 2) rfl (by rw [ez18]) (by decide) rfl (fun ls hl => ?_)
      refine lv_goto (tgt := 72) hx hb dX2_readNumber_180 (by decide) ?_
      exact (J72) (x1) (z18) s14 _ _ _ h hP hD hS (lv_sub hl [1, 2, 0] rfl)
    · have h := nd_neg h c17
      exact (db_X2_readNumber_171 C K)  s14 _ _ _ h hP hD hS (lv_sub hl [0] rfl)
set_option maxHeartbeats 40000000 in
set_option maxRecDepth 100000 in
theorem db_X2_readNumber_128 {p : Program} {l : Launch} {e : Env} {s : State} {m : MethodId} {args : Array Value} {below : List Frame} {meth : Method} {c : Code} {Q : State → Prop} {A : Nat → Prop} {dC : Nat → ClassId} {dI : Nat → Nat → Nat} {a : Nat → Nat} {ac : Nat → ClassId} {n : Nat} {r : St × (St)} (C : nd_C p l s m args c A (dC, dI) cX2_readNumber 5 RX2 ow_dm_X2_readNumber (dk_X2s ac)) (K : nd_Kv p l e (headSpec ow_dm_X2_readNumber ({ frames := 1, cells := 0, slots := 0, locals := 20 })).room s m args below meth c Q A (dC, dI) cX2_readNumber (St × (St)) (dw_X2s a ac) r) {g72 : Int32 → Int32 → (St × (St)) → Option (St × (St))} (J72 : dj_X2_readNumber_72 p l e s m args below meth c Q A dC dI a ac g72 r) : dj_X2_readNumber_128 p l e s m args below meth c Q A dC dI a ac (df_X2_readNumber_128 n (a 0) g72) r := by
  obtain ⟨hlt, hx, hb, hml, hown, hts, hN, hA, hK⟩ := id C
  intro x1 x2 y0 s0 H locs ls h hP hD hS hl
  unfold df_X2_readNumber_128 at h
  refine lv_istore (lv' := [(4, .int y0), (0, .ref (a 1)), (1, .int x1), (2, .int x2)]) hx hb dX2_readNumber_128 hl (by decide) rfl (fun ls hl => ?_)
  refine lv_aload_n hx hb dX2_readNumber_130 rfl (lv_at hl 1 rfl) ?_
  refine lv_aload_n hx hb dX2_readNumber_131 rfl (lv_at hl 1 rfl) ?_
  refine va_get (D := (dC, dI)) (ci := 3) (v := .long (sL s0.2 0)) (C := RX2) (T := TX2) (N := 20) hx hb hts hi_dm_X2_readNumber_X2 hown hK hP 1 rfl rfl 17 (by decide) (hts (.fieldLink RX2 110 "TimeMachine$Condition" "number" "J") (List.mem_of_getElem? (i := 3) rfl)) (fun _ h9 => h9) rfl dX2_readNumber_132 ?_
  refine lv_iload_n hx hb dX2_readNumber_135 rfl (lv_at hl 2 rfl) ?_
  refine lv_if_eq (tgt := 144) hx hb dX2_readNumber_136 (by decide) (fun c13 => ?_) (fun c13 => ?_)
  · have h := nd_pos h c13
    refine lv_bipush (v := 10) hx hb dX2_readNumber_144 (by decide) ?_
    exact (db_X2_readNumber_146 C K J72) (x1) (x2) (y0) ((sL s0.2 0)) (10) s0 _ _ _ h hP hD hS (lv_sub hl [1, 2, 3, 0] rfl)
  · have h := nd_neg h c13
    refine lv_bipush (v := 16) hx hb dX2_readNumber_139 (by decide) ?_
    refine lv_goto (tgt := 146) hx hb dX2_readNumber_141 (by decide) ?_
    exact (db_X2_readNumber_146 C K J72) (x1) (x2) (y0) ((sL s0.2 0)) (16) s0 _ _ _ h hP hD hS (lv_sub hl [1, 2, 3, 0] rfl)
set_option maxHeartbeats 40000000 in
set_option maxRecDepth 100000 in
theorem db_X2_readNumber_127 {p : Program} {l : Launch} {e : Env} {s : State} {m : MethodId} {args : Array Value} {below : List Frame} {meth : Method} {c : Code} {Q : State → Prop} {A : Nat → Prop} {dC : Nat → ClassId} {dI : Nat → Nat → Nat} {a : Nat → Nat} {ac : Nat → ClassId} {n : Nat} {r : St × (St)} (C : nd_C p l s m args c A (dC, dI) cX2_readNumber 5 RX2 ow_dm_X2_readNumber (dk_X2s ac)) (K : nd_Kv p l e (headSpec ow_dm_X2_readNumber ({ frames := 1, cells := 0, slots := 0, locals := 20 })).room s m args below meth c Q A (dC, dI) cX2_readNumber (St × (St)) (dw_X2s a ac) r) {g72 : Int32 → Int32 → (St × (St)) → Option (St × (St))} (J72 : dj_X2_readNumber_72 p l e s m args below meth c Q A dC dI a ac g72 r) : dj_X2_readNumber_127 p l e s m args below meth c Q A dC dI a ac (df_X2_readNumber_127 n (a 0) g72) r := by
  obtain ⟨hlt, hx, hb, hml, hown, hts, hN, hA, hK⟩ := id C
  intro x1 x2 s0 H locs ls h hP hD hS hl
  unfold df_X2_readNumber_127 at h
  refine lv_iconst (v := (-1)) hx hb dX2_readNumber_127 (by decide) ?_
  exact (db_X2_readNumber_128 C K J72) (x1) (x2) ((-1)) s0 _ _ _ h hP hD hS (lv_sub hl [0, 1, 2] rfl)
set_option maxHeartbeats 40000000 in
set_option maxRecDepth 100000 in
theorem dB_X2_readNumber_72 {p : Program} {l : Launch} {e : Env} {s : State} {m : MethodId} {args : Array Value} {below : List Frame} {meth : Method} {c : Code} {Q : State → Prop} {A : Nat → Prop} {dC : Nat → ClassId} {dI : Nat → Nat → Nat} {a : Nat → Nat} {ac : Nat → ClassId} {n : Nat} {r : St × (St)} (C : nd_C p l s m args c A (dC, dI) cX2_readNumber 5 RX2 ow_dm_X2_readNumber (dk_X2s ac)) (K : nd_Kv p l e (headSpec ow_dm_X2_readNumber ({ frames := 1, cells := 0, slots := 0, locals := 20 })).room s m args below meth c Q A (dC, dI) cX2_readNumber (St × (St)) (dw_X2s a ac) r) {g72 : Int32 → Int32 → (St × (St)) → Option (St × (St))} (J72 : dj_X2_readNumber_72 p l e s m args below meth c Q A dC dI a ac g72 r) : dj_X2_readNumber_72 p l e s m args below meth c Q A dC dI a ac (dF_X2_readNumber_72 n (a 0) g72) r := by
  obtain ⟨hlt, hx, hb, hml, hown, hts, hN, hA, hK⟩ := id C
  intro x1 x2 s0 H locs ls h hP hD hS hl
  unfold dF_X2_readNumber_72 at h
  refine lv_iload_n hx hb dX2_readNumber_72 rfl (lv_at hl 2 rfl) ?_
  refine lv_aload_n hx hb dX2_readNumber_73 rfl (lv_at hl 0 rfl) ?_
  refine va_get (D := (dC, dI)) (ci := 3) (v := .int (sI s0.2 5)) (C := RX2) (T := TX2) (N := 20) hx hb hts hi_dm_X2_readNumber_X2 hown hK hP 1 rfl rfl 14 (by decide) (hts (.fieldLink RX2 49 "TimeMachine$Condition" "at" "I") (List.mem_of_getElem? (i := 1) rfl)) (fun _ h9 => h9) rfl dX2_readNumber_74 ?_
  refine lv_icmp_ge (tgt := 183) hx hb dX2_readNumber_77 (by decide) (fun c4 => ?_) (fun c4 => ?_)
  · have h := nd_pos h c4
    exact K _ _ _ _ _ dX2_readNumber_183 (Option.some.inj h).symm hP hD hS
  · have h := nd_neg h c4
    refine lv_aload_n hx hb dX2_readNumber_80 rfl (lv_at hl 0 rfl) ?_
    obtain ⟨o5, h⟩ := nd_o_e h
    refine va_get (D := (dC, dI)) (ci := 3) (v := .ref (a 0)) (C := RX2) (T := TX2) (N := 20) hx hb hts hi_dm_X2_readNumber_X2 hown hK hP 1 rfl rfl 12 (by decide) (hts (.fieldLink RX2 35 "TimeMachine$Condition" "source" "[B") (List.mem_of_getElem? (i := 4) rfl)) (fun _ h9 => h9) (congrArg (fun z => some (va_rf z)) o5) dX2_readNumber_81 ?_
    refine lv_iload_n hx hb dX2_readNumber_84 rfl (lv_at hl 2 rfl) ?_
    obtain ⟨i6, h⟩ := nd_ck_e h
    refine va_bald (i := x2) hx hb hK hP 0 0 rfl rfl i6 dX2_readNumber_85 ?_
    refine lv_topi (fun z7 ez7 => ?_)
    have h := nd_at h ez7
    refine lv_istore_n (lv' := [(3, .int z7), (0, .ref (a 1)), (1, .int x1), (2, .int x2)]) hx hb dX2_readNumber_86 rfl hl (by decide) rfl (fun ls hl => ?_)
    refine lv_iload_n hx hb dX2_readNumber_87 rfl (lv_at hl 0 rfl) ?_
    obtain ⟨q8, s9, hq, h⟩ := nd_b2_e h
    have hPc : va_P (dC, dI) vwCl (dw_P a ac ()) H := nd_p0
    have hDc : va_D A (dw_P a ac ()) := nd_d0
    have hKc : va_K (dC, dI) vwCl (dk_P ac) s := nd_y0 hK
    have hFc : ∀ q, va_A (dw_P a ac ()) H.size q → A q := nd_r0 hS hA
    refine nd_cSi (As := [.int z7]) (rest := []) (q := q8) (w' := dw_P a ac s9) ⟨hx, hb, hml, hown, hts⟩ (fun sz => dm_X2_isDigit l hlt dC dI a ac n (z7) () hq sz) (cwS 1 hts gi_dm_X2_readNumber_0 rfl rfl rfl (by decide +kernel) ⟨Nat.le_of_ble_eq_true rfl, Nat.le_of_ble_eq_true rfl⟩) hPc hDc hKc hS hA hN rfl hl.1 rfl (Nat.le_of_ble_eq_true rfl) dX2_readNumber_88 (fun H locs hP1 hD1 hk1 hS => ?_)
    have hP := nd_n0 hP hk1
    refine lv_if_eq (tgt := 101) hx hb dX2_readNumber_91 (by decide) (fun c11 => ?_) (fun c11 => ?_)
    · have h := nd_pos h c11
      refine lv_iload_n hx hb dX2_readNumber_101 rfl (lv_at hl 2 rfl) ?_
      refine lv_if_eq (tgt := 127) hx hb dX2_readNumber_102 (by decide) (fun c12 => ?_) (fun c12 => ?_)
      · have h := nd_pos h c12
        exact (db_X2_readNumber_127 C K J72) (x1) (x2) s0 _ _ _ h hP hD hS (lv_sub hl [1, 2, 3] rfl)
      · have h := nd_neg h c12
        refine lv_iload_n hx hb dX2_readNumber_105 rfl (lv_at hl 0 rfl) ?_
        refine lv_bipush (v := 97) hx hb dX2_readNumber_106 (by decide) ?_
        refine lv_icmp_lt (tgt := 127) hx hb dX2_readNumber_108 (by decide) (fun c19 => ?_) (fun c19 => ?_)
        · have h := nd_pos h c19
          exact (db_X2_readNumber_127 C K J72) (x1) (x2) s0 _ _ _ h hP hD hS (lv_sub hl [1, 2, 3] rfl)
        · have h := nd_neg h c19
          refine lv_iload_n hx hb dX2_readNumber_111 rfl (lv_at hl 0 rfl) ?_
          refine lv_bipush (v := 102) hx hb dX2_readNumber_112 (by decide) ?_
          refine lv_icmp_gt (tgt := 127) hx hb dX2_readNumber_114 (by decide) (fun c20 => ?_) (fun c20 => ?_)
          · have h := nd_pos h c20
            exact (db_X2_readNumber_127 C K J72) (x1) (x2) s0 _ _ _ h hP hD hS (lv_sub hl [1, 2, 3] rfl)
          · have h := nd_neg h c20
            refine lv_iload_n hx hb dX2_readNumber_117 rfl (lv_at hl 0 rfl) ?_
            refine lv_bipush (v := 97) hx hb dX2_readNumber_118 (by decide) ?_
            refine lv_isub hx hb dX2_readNumber_120 ?_
            refine lv_bipush (v := 10) hx hb dX2_readNumber_121 (by decide) ?_
            refine lv_iadd hx hb dX2_readNumber_123 ?_
            refine lv_goto (tgt := 128) hx hb dX2_readNumber_124 (by decide) ?_
            exact (db_X2_readNumber_128 C K J72) (x1) (x2) (((z7 - 97) + 10)) s0 _ _ _ h hP hD hS (lv_sub hl [1, 2, 3] rfl)
    · have h := nd_neg h c11
      refine lv_iload_n hx hb dX2_readNumber_94 rfl (lv_at hl 0 rfl) ?_
      refine lv_bipush (v := 48) hx hb dX2_readNumber_95 (by decide) ?_
      refine lv_isub hx hb dX2_readNumber_97 ?_
      refine lv_goto (tgt := 128) hx hb dX2_readNumber_98 (by decide) ?_
      exact (db_X2_readNumber_128 C K J72) (x1) (x2) ((z7 - 48)) s0 _ _ _ h hP hD hS (lv_sub hl [1, 2, 3] rfl)
set_option maxHeartbeats 40000000 in
set_option maxRecDepth 100000 in
theorem db_X2_readNumber_72 {p : Program} {l : Launch} {e : Env} {s : State} {m : MethodId} {args : Array Value} {below : List Frame} {meth : Method} {c : Code} {Q : State → Prop} {A : Nat → Prop} {dC : Nat → ClassId} {dI : Nat → Nat → Nat} {a : Nat → Nat} {ac : Nat → ClassId} {n : Nat} {r : St × (St)} (C : nd_C p l s m args c A (dC, dI) cX2_readNumber 5 RX2 ow_dm_X2_readNumber (dk_X2s ac)) (K : nd_Kv p l e (headSpec ow_dm_X2_readNumber ({ frames := 1, cells := 0, slots := 0, locals := 20 })).room s m args below meth c Q A (dC, dI) cX2_readNumber (St × (St)) (dw_X2s a ac) r) (k : Nat) : dj_X2_readNumber_72 p l e s m args below meth c Q A dC dI a ac (df_X2_readNumber_72 n (a 0) k) r := by
  induction k with
  | zero => intro x1 x2 s0 H locs ls h; exact nomatch (show (none : Option (St × (St))) = some r from h)
  | succ k ih => exact dB_X2_readNumber_72 C K ih
set_option maxHeartbeats 40000000 in
set_option maxRecDepth 100000 in
theorem db_X2_readNumber_71 {p : Program} {l : Launch} {e : Env} {s : State} {m : MethodId} {args : Array Value} {below : List Frame} {meth : Method} {c : Code} {Q : State → Prop} {A : Nat → Prop} {dC : Nat → ClassId} {dI : Nat → Nat → Nat} {a : Nat → Nat} {ac : Nat → ClassId} {n : Nat} {r : St × (St)} (C : nd_C p l s m args c A (dC, dI) cX2_readNumber 5 RX2 ow_dm_X2_readNumber (dk_X2s ac)) (K : nd_Kv p l e (headSpec ow_dm_X2_readNumber ({ frames := 1, cells := 0, slots := 0, locals := 20 })).room s m args below meth c Q A (dC, dI) cX2_readNumber (St × (St)) (dw_X2s a ac) r) : dj_X2_readNumber_71 p l e s m args below meth c Q A dC dI a ac (df_X2_readNumber_71 n (a 0)) r := by
  obtain ⟨hlt, hx, hb, hml, hown, hts, hN, hA, hK⟩ := id C
  intro x1 y0 s0 H locs ls h hP hD hS hl
  unfold df_X2_readNumber_71 at h
  refine lv_istore_n (lv' := [(2, .int y0), (0, .ref (a 1)), (1, .int x1)]) hx hb dX2_readNumber_71 rfl hl (by decide) rfl (fun ls hl => ?_)
  exact (db_X2_readNumber_72 C K n) (x1) (y0) s0 _ _ _ h hP hD hS (lv_sub hl [1, 2, 0] rfl)
set_option maxHeartbeats 40000000 in
set_option maxRecDepth 100000 in
theorem db_X2_readNumber_48 {p : Program} {l : Launch} {e : Env} {s : State} {m : MethodId} {args : Array Value} {below : List Frame} {meth : Method} {c : Code} {Q : State → Prop} {A : Nat → Prop} {dC : Nat → ClassId} {dI : Nat → Nat → Nat} {a : Nat → Nat} {ac : Nat → ClassId} {n : Nat} {r : St × (St)} (C : nd_C p l s m args c A (dC, dI) cX2_readNumber 5 RX2 ow_dm_X2_readNumber (dk_X2s ac)) (K : nd_Kv p l e (headSpec ow_dm_X2_readNumber ({ frames := 1, cells := 0, slots := 0, locals := 20 })).room s m args below meth c Q A (dC, dI) cX2_readNumber (St × (St)) (dw_X2s a ac) r) : dj_X2_readNumber_48 p l e s m args below meth c Q A dC dI a ac (df_X2_readNumber_48 n (a 0)) r := by
  obtain ⟨hlt, hx, hb, hml, hown, hts, hN, hA, hK⟩ := id C
  intro y0 s0 H locs ls h hP hD hS hl
  unfold df_X2_readNumber_48 at h
  refine lv_istore_n (lv' := [(1, .int y0), (0, .ref (a 1))]) hx hb dX2_readNumber_48 rfl hl (by decide) rfl (fun ls hl => ?_)
  refine lv_aload_n hx hb dX2_readNumber_49 rfl (lv_at hl 1 rfl) ?_
  refine lv_lconst (v := 0) hx hb dX2_readNumber_50 (by decide) ?_
  refine va_put (D := (dC, dI)) (ci := 3) (v := .long 0) (ty := .long) (C := RX2) (T := TX2) (N := 20) hx hb hts hi_dm_X2_readNumber_X2 tyX2 tyX2_ok nmX2 hown hK hP hD hS 1 rfl rfl 17 (by decide) (hts (.fieldLink RX2 110 "TimeMachine$Condition" "number" "J") (List.mem_of_getElem? (i := 3) rfl)) (fun _ h9 => h9) rfl (by decide +kernel) rfl rfl (Nat.le_of_ble_eq_true rfl) dX2_readNumber_51 (fun H locs hP hD hS => ?_)
  obtain ⟨s2, es2, h⟩ := nd_let_e h
  have hP : va_P (dC, dI) vwCl (dw_X2s a ac s2) H := by rw [es2]; exact hP
  have hD : va_D A (dw_X2s a ac s2) := by rw [es2]; exact hD
  refine lv_iload_n hx hb dX2_readNumber_54 rfl (lv_at hl 0 rfl) ?_
  refine lv_if_eq (tgt := 67) hx hb dX2_readNumber_55 (by decide) (fun c3 => ?_) (fun c3 => ?_)
  · have h := nd_pos h c3
    refine lv_aload_n hx hb dX2_readNumber_67 rfl (lv_at hl 1 rfl) ?_
    refine va_get (D := (dC, dI)) (ci := 3) (v := .int (sI s2.2 7)) (C := RX2) (T := TX2) (N := 20) hx hb hts hi_dm_X2_readNumber_X2 hown hK hP 1 rfl rfl 16 (by decide) (hts (.fieldLink RX2 90 "TimeMachine$Condition" "from" "I") (List.mem_of_getElem? (i := 2) rfl)) (fun _ h9 => h9) rfl dX2_readNumber_68 ?_
    exact (db_X2_readNumber_71 C K) (y0) ((sI s2.2 7)) s2 _ _ _ h hP hD hS (lv_sub hl [1, 0] rfl)
  · have h := nd_neg h c3
    refine lv_aload_n hx hb dX2_readNumber_58 rfl (lv_at hl 1 rfl) ?_
    refine va_get (D := (dC, dI)) (ci := 3) (v := .int (sI s2.2 7)) (C := RX2) (T := TX2) (N := 20) hx hb hts hi_dm_X2_readNumber_X2 hown hK hP 1 rfl rfl 16 (by decide) (hts (.fieldLink RX2 90 "TimeMachine$Condition" "from" "I") (List.mem_of_getElem? (i := 2) rfl)) (fun _ h9 => h9) rfl dX2_readNumber_59 ?_
    refine lv_iconst (v := 2) hx hb dX2_readNumber_62 (by decide) ?_
    refine lv_iadd hx hb dX2_readNumber_63 ?_
    refine lv_goto (tgt := 71) hx hb dX2_readNumber_64 (by decide) ?_
    exact (db_X2_readNumber_71 C K) (y0) (((sI s2.2 7) + 2)) s2 _ _ _ h hP hD hS (lv_sub hl [1, 0] rfl)
set_option maxHeartbeats 40000000 in
set_option maxRecDepth 100000 in
theorem db_X2_readNumber_47 {p : Program} {l : Launch} {e : Env} {s : State} {m : MethodId} {args : Array Value} {below : List Frame} {meth : Method} {c : Code} {Q : State → Prop} {A : Nat → Prop} {dC : Nat → ClassId} {dI : Nat → Nat → Nat} {a : Nat → Nat} {ac : Nat → ClassId} {n : Nat} {r : St × (St)} (C : nd_C p l s m args c A (dC, dI) cX2_readNumber 5 RX2 ow_dm_X2_readNumber (dk_X2s ac)) (K : nd_Kv p l e (headSpec ow_dm_X2_readNumber ({ frames := 1, cells := 0, slots := 0, locals := 20 })).room s m args below meth c Q A (dC, dI) cX2_readNumber (St × (St)) (dw_X2s a ac) r) : dj_X2_readNumber_47 p l e s m args below meth c Q A dC dI a ac (df_X2_readNumber_47 n (a 0)) r := by
  obtain ⟨hlt, hx, hb, hml, hown, hts, hN, hA, hK⟩ := id C
  intro s0 H locs ls h hP hD hS hl
  unfold df_X2_readNumber_47 at h
  refine lv_iconst (v := 0) hx hb dX2_readNumber_47 (by decide) ?_
  exact (db_X2_readNumber_48 C K) (0) s0 _ _ _ h hP hD hS (lv_sub hl [0] rfl)
set_option maxHeartbeats 40000000 in
set_option maxRecDepth 100000 in
theorem db_X2_readNumber_0 {p : Program} {l : Launch} {e : Env} {s : State} {m : MethodId} {args : Array Value} {below : List Frame} {meth : Method} {c : Code} {Q : State → Prop} {A : Nat → Prop} {dC : Nat → ClassId} {dI : Nat → Nat → Nat} {a : Nat → Nat} {ac : Nat → ClassId} {n : Nat} {r : St × (St)} (C : nd_C p l s m args c A (dC, dI) cX2_readNumber 5 RX2 ow_dm_X2_readNumber (dk_X2s ac)) (K : nd_Kv p l e (headSpec ow_dm_X2_readNumber ({ frames := 1, cells := 0, slots := 0, locals := 20 })).room s m args below meth c Q A (dC, dI) cX2_readNumber (St × (St)) (dw_X2s a ac) r) : dj_X2_readNumber_0 p l e s m args below meth c Q A dC dI a ac (df_X2_readNumber_0 n (a 0)) r := by
  obtain ⟨hlt, hx, hb, hml, hown, hts, hN, hA, hK⟩ := id C
  intro s0 H locs ls h hP hD hS hl
  unfold df_X2_readNumber_0 at h
  refine lv_aload_n hx hb dX2_readNumber_0 rfl (lv_at hl 0 rfl) ?_
  refine va_get (D := (dC, dI)) (ci := 3) (v := .int (sI s0.2 5)) (C := RX2) (T := TX2) (N := 20) hx hb hts hi_dm_X2_readNumber_X2 hown hK hP 1 rfl rfl 14 (by decide) (hts (.fieldLink RX2 49 "TimeMachine$Condition" "at" "I") (List.mem_of_getElem? (i := 1) rfl)) (fun _ h9 => h9) rfl dX2_readNumber_1 ?_
  refine lv_aload_n hx hb dX2_readNumber_4 rfl (lv_at hl 0 rfl) ?_
  refine va_get (D := (dC, dI)) (ci := 3) (v := .int (sI s0.2 7)) (C := RX2) (T := TX2) (N := 20) hx hb hts hi_dm_X2_readNumber_X2 hown hK hP 1 rfl rfl 16 (by decide) (hts (.fieldLink RX2 90 "TimeMachine$Condition" "from" "I") (List.mem_of_getElem? (i := 2) rfl)) (fun _ h9 => h9) rfl dX2_readNumber_5 ?_
  refine lv_isub hx hb dX2_readNumber_8 ?_
  refine lv_iconst (v := 2) hx hb dX2_readNumber_9 (by decide) ?_
  refine lv_icmp_le (tgt := 47) hx hb dX2_readNumber_10 (by decide) (fun c1 => ?_) (fun c1 => ?_)
  · have h := nd_pos h c1
    exact (db_X2_readNumber_47 C K)  s0 _ _ _ h hP hD hS (lv_sub hl [0] rfl)
  · have h := nd_neg h c1
    refine lv_aload_n hx hb dX2_readNumber_13 rfl (lv_at hl 0 rfl) ?_
    obtain ⟨o21, h⟩ := nd_o_e h
    refine va_get (D := (dC, dI)) (ci := 3) (v := .ref (a 0)) (C := RX2) (T := TX2) (N := 20) hx hb hts hi_dm_X2_readNumber_X2 hown hK hP 1 rfl rfl 12 (by decide) (hts (.fieldLink RX2 35 "TimeMachine$Condition" "source" "[B") (List.mem_of_getElem? (i := 4) rfl)) (fun _ h9 => h9) (congrArg (fun z => some (va_rf z)) o21) dX2_readNumber_14 ?_
    refine lv_aload_n hx hb dX2_readNumber_17 rfl (lv_at hl 0 rfl) ?_
    refine va_get (D := (dC, dI)) (ci := 3) (v := .int (sI s0.2 7)) (C := RX2) (T := TX2) (N := 20) hx hb hts hi_dm_X2_readNumber_X2 hown hK hP 1 rfl rfl 16 (by decide) (hts (.fieldLink RX2 90 "TimeMachine$Condition" "from" "I") (List.mem_of_getElem? (i := 2) rfl)) (fun _ h9 => h9) rfl dX2_readNumber_18 ?_
    obtain ⟨i22, h⟩ := nd_ck_e h
    refine va_bald (i := (sI s0.2 7)) hx hb hK hP 0 0 rfl rfl i22 dX2_readNumber_21 ?_
    refine lv_bipush (v := 48) hx hb dX2_readNumber_22 (by decide) ?_
    refine lv_icmp_ne (tgt := 47) hx hb dX2_readNumber_24 (by decide) (fun c23 => ?_) (fun c23 => ?_)
    · have h := nd_neg h c23
      exact (db_X2_readNumber_47 C K)  s0 _ _ _ h hP hD hS (lv_sub hl [0] rfl)
    · have h := nd_pos h c23
      refine lv_aload_n hx hb dX2_readNumber_27 rfl (lv_at hl 0 rfl) ?_
      obtain ⟨o24, h⟩ := nd_o_e h
      refine va_get (D := (dC, dI)) (ci := 3) (v := .ref (a 0)) (C := RX2) (T := TX2) (N := 20) hx hb hts hi_dm_X2_readNumber_X2 hown hK hP 1 rfl rfl 12 (by decide) (hts (.fieldLink RX2 35 "TimeMachine$Condition" "source" "[B") (List.mem_of_getElem? (i := 4) rfl)) (fun _ h9 => h9) (congrArg (fun z => some (va_rf z)) o24) dX2_readNumber_28 ?_
      refine lv_aload_n hx hb dX2_readNumber_31 rfl (lv_at hl 0 rfl) ?_
      refine va_get (D := (dC, dI)) (ci := 3) (v := .int (sI s0.2 7)) (C := RX2) (T := TX2) (N := 20) hx hb hts hi_dm_X2_readNumber_X2 hown hK hP 1 rfl rfl 16 (by decide) (hts (.fieldLink RX2 90 "TimeMachine$Condition" "from" "I") (List.mem_of_getElem? (i := 2) rfl)) (fun _ h9 => h9) rfl dX2_readNumber_32 ?_
      refine lv_iconst (v := 1) hx hb dX2_readNumber_35 (by decide) ?_
      refine lv_iadd hx hb dX2_readNumber_36 ?_
      obtain ⟨i25, h⟩ := nd_ck_e h
      refine va_bald (i := ((sI s0.2 7) + 1)) hx hb hK hP 0 0 rfl rfl i25 dX2_readNumber_37 ?_
      refine lv_bipush (v := 120) hx hb dX2_readNumber_38 (by decide) ?_
      refine lv_icmp_ne (tgt := 47) hx hb dX2_readNumber_40 (by decide) (fun c26 => ?_) (fun c26 => ?_)
      · have h := nd_neg h c26
        exact (db_X2_readNumber_47 C K)  s0 _ _ _ h hP hD hS (lv_sub hl [0] rfl)
      · have h := nd_pos h c26
        refine lv_iconst (v := 1) hx hb dX2_readNumber_43 (by decide) ?_
        refine lv_goto (tgt := 48) hx hb dX2_readNumber_44 (by decide) ?_
        exact (db_X2_readNumber_48 C K) (1) s0 _ _ _ h hP hD hS (lv_sub hl [0] rfl)
set_option maxHeartbeats 40000000 in
set_option maxRecDepth 100000 in
theorem dm_X2_readNumber (l : Launch) (hlt : l.stackTraces = false) (dC : Nat → ClassId) (dI : Nat → Nat → Nat) (a : Nat → Nat) (ac : Nat → ClassId) (n : Nat) (s0 : St × (St)) {r : St × (St)} (h : df_X2_readNumber n (a 0) s0 = some r) (sz : Nat) : Met l yX2_readNumber ow_dm_X2_readNumber ({ frames := 1, cells := 0, slots := 0, locals := 20 }) (va_Pc [.ref (a 1)] (fun U => U.heap.size = sz ∧ va_P (dC, dI) vwCl (dw_X2s a ac s0) U.heap ∧ va_K (dC, dI) vwCl (dk_X2s ac) U ∧ va_D (fun _ => True) (dw_X2s a ac s0) ∧ nv_E dI (va_A (dw_X2s a ac s0) sz) U)) (va_Qv (fun _ => True) (fun (_ : Unit) t => va_P (dC, dI) vwCl (dw_X2s a ac r) t.heap ∧ va_K (dC, dI) vwCl (dk_X2s ac) t ∧ va_D (va_A (dw_X2s a ac s0) sz) (dw_X2s a ac r)) (va_A (dw_X2s a ac s0) sz)) 0 0 (va_A (dw_X2s a ac s0) sz) := by
  refine Met.ofW (cc := cX2_readNumber) (maxL := 5) (ret := none) (by decide) rfl ?_
  intro p e s m args below meth c s₁ B hml hv
  obtain ⟨rfl, hsz, hP, hK, hD0, hN⟩ := hv
  have hx := B.exec
  have hb := B.bytes
  have hr := B.returns
  have hts := atoms_spec (ws := ow_dm_X2_readNumber) B.pre
  have hown : s.vm.findClass RX2 = some m.cls := findClass_of_methodNamed B.named
  have hlocks := B.notSynchronized
  subst hsz
  have hD := hD0.self (sz := s.heap.size)
  generalize hAe : va_A (dw_X2s a ac s0) s.heap.size = A at hD hN ⊢
  have hA : ∀ q : Nat, s.heap.size ≤ q → A q := fun q h => by rw [← hAe]; exact Or.inr h
  have hl := lv_entry ([.ref (a 1)]) (n := 5) (Nat.le_of_ble_eq_true rfl)
  rw [lg_entry_eq]
  generalize (lg_sl ([.ref (a 1)]) ++ List.replicate (5 - (lg_sl ([.ref (a 1)])).length) Slot.unset).toArray = ls at hl ⊢
  have hl : lv_has ls 5 [(0, .ref (a 1))] := hl
  exact db_X2_readNumber_0 (dC := dC) (dI := dI) (a := a) (ac := ac) (n := n) (r := r) ⟨hlt, hx, hb, hml, hown, hts, hN, hA, hK⟩ (fun pc τ H locs ls d er hP hD hS => by subst er; exact W.vret hx hb hr (fun t ht hW => ⟨⟨(), rfl, trivial, by rw [ht]; exact hP, va_K.moved hW.alike hK, hD⟩, hS.F ht⟩) hS.2.2 d) s0 _ _ _ h hP hD va_S.rf (lv_sub hl [0] rfl)
def ow_dm_X2_pair : List Cond := Cond.code yX2_pair cX2_pair 2 (some .int) :: ([] ++ [])
theorem gd_dm_X2_pair : ∀ w ∈ ow_dm_X2_pair, (w.onTables && w.keeps) = true ∨ ∃ ty, w = Cond.arrayClass ty := List.forall_mem_cons.mpr ⟨good_of_word rfl, List.forall_mem_append.mpr ⟨fun w h => good_of_word (List.all_eq_true.mp (by decide +kernel) w h), fun _ h => nomatch h⟩⟩
def dj_X2_pair_100 (p : Program) (l : Launch) (e : Env) (s : State) (m : MethodId) (args : Array Value) (below : List Frame) (meth : Method) (c : Code) (Q : State → Prop) (A : Nat → Prop) (dC : Nat → ClassId) (dI : Nat → Nat → Nat) (a : Nat → Nat) (ac : Nat → ClassId) (g : Int32 → (Unit) → Option (Int32 × (Unit))) (r : Int32 × (Unit)) : Prop := ∀ (y0 : Int32) (s0 : Unit) (H : Heap) (locs : List Loc) (ls : Array Slot), g y0 s0 = some r → va_P (dC, dI) vwCl (dw_P a ac s0) H → va_D A (dw_P a ac s0) → va_S A s.heap H locs → lv_has ls 2 [] → W p l e (headSpec ow_dm_X2_pair ({ frames := 0, cells := 0, slots := 0, locals := 0 })).room s m args below meth c H locs 0 0 Q (F0 m 100 ls [.int y0])
def dj_X2_pair_49 (p : Program) (l : Launch) (e : Env) (s : State) (m : MethodId) (args : Array Value) (below : List Frame) (meth : Method) (c : Code) (Q : State → Prop) (A : Nat → Prop) (dC : Nat → ClassId) (dI : Nat → Nat → Nat) (a : Nat → Nat) (ac : Nat → ClassId) (g : Int32 → (Unit) → Option (Int32 × (Unit))) (r : Int32 × (Unit)) : Prop := ∀ (y0 : Int32) (s0 : Unit) (H : Heap) (locs : List Loc) (ls : Array Slot), g y0 s0 = some r → va_P (dC, dI) vwCl (dw_P a ac s0) H → va_D A (dw_P a ac s0) → va_S A s.heap H locs → lv_has ls 2 [] → W p l e (headSpec ow_dm_X2_pair ({ frames := 0, cells := 0, slots := 0, locals := 0 })).room s m args below meth c H locs 0 0 Q (F0 m 49 ls [.int y0])
def dj_X2_pair_0 (p : Program) (l : Launch) (e : Env) (s : State) (m : MethodId) (args : Array Value) (below : List Frame) (meth : Method) (c : Code) (Q : State → Prop) (A : Nat → Prop) (dC : Nat → ClassId) (dI : Nat → Nat → Nat) (a : Nat → Nat) (ac : Nat → ClassId) (g : Int32 → Int32 → (Unit) → Option (Int32 × (Unit))) (r : Int32 × (Unit)) : Prop := ∀ (v0 : Int32) (v1 : Int32) (s0 : Unit) (H : Heap) (locs : List Loc) (ls : Array Slot), g v0 v1 s0 = some r → va_P (dC, dI) vwCl (dw_P a ac s0) H → va_D A (dw_P a ac s0) → va_S A s.heap H locs → lv_has ls 2 [(0, .int v0), (1, .int v1)] → W p l e (headSpec ow_dm_X2_pair ({ frames := 0, cells := 0, slots := 0, locals := 0 })).room s m args below meth c H locs 0 0 Q (F0 m 0 ls [])
set_option maxHeartbeats 40000000 in
set_option maxRecDepth 100000 in
theorem db_X2_pair_100 {p : Program} {l : Launch} {e : Env} {s : State} {m : MethodId} {args : Array Value} {below : List Frame} {meth : Method} {c : Code} {Q : State → Prop} {A : Nat → Prop} {dC : Nat → ClassId} {dI : Nat → Nat → Nat} {a : Nat → Nat} {ac : Nat → ClassId} {n : Nat} {r : Int32 × (Unit)} (C : nd_C p l s m args c A (dC, dI) cX2_pair 2 RX2 ow_dm_X2_pair (dk_P ac)) (K : nd_Ki p l e (headSpec ow_dm_X2_pair ({ frames := 0, cells := 0, slots := 0, locals := 0 })).room s m args below meth c Q A (dC, dI) cX2_pair .int (Unit) (dw_P a ac) r) : dj_X2_pair_100 p l e s m args below meth c Q A dC dI a ac (df_X2_pair_100 n) r := by
  obtain ⟨hlt, hx, hb, hml, hown, hts, hN, hA, hK⟩ := id C
  intro y0 s0 H locs ls h hP hD hS hl
  unfold df_X2_pair_100 at h
  exact K _ _ _ _ _ _ dX2_pair_100 rfl (Option.some.inj h).symm hP hD hS
set_option maxHeartbeats 40000000 in
set_option maxRecDepth 100000 in
theorem db_X2_pair_49 {p : Program} {l : Launch} {e : Env} {s : State} {m : MethodId} {args : Array Value} {below : List Frame} {meth : Method} {c : Code} {Q : State → Prop} {A : Nat → Prop} {dC : Nat → ClassId} {dI : Nat → Nat → Nat} {a : Nat → Nat} {ac : Nat → ClassId} {n : Nat} {r : Int32 × (Unit)} (C : nd_C p l s m args c A (dC, dI) cX2_pair 2 RX2 ow_dm_X2_pair (dk_P ac)) (K : nd_Ki p l e (headSpec ow_dm_X2_pair ({ frames := 0, cells := 0, slots := 0, locals := 0 })).room s m args below meth c Q A (dC, dI) cX2_pair .int (Unit) (dw_P a ac) r) : dj_X2_pair_49 p l e s m args below meth c Q A dC dI a ac (df_X2_pair_49 n) r := by
  obtain ⟨hlt, hx, hb, hml, hown, hts, hN, hA, hK⟩ := id C
  intro y0 s0 H locs ls h hP hD hS hl
  unfold df_X2_pair_49 at h
  exact K _ _ _ _ _ _ dX2_pair_49 rfl (Option.some.inj h).symm hP hD hS
set_option maxHeartbeats 40000000 in
set_option maxRecDepth 100000 in
theorem db_X2_pair_0 {p : Program} {l : Launch} {e : Env} {s : State} {m : MethodId} {args : Array Value} {below : List Frame} {meth : Method} {c : Code} {Q : State → Prop} {A : Nat → Prop} {dC : Nat → ClassId} {dI : Nat → Nat → Nat} {a : Nat → Nat} {ac : Nat → ClassId} {n : Nat} {r : Int32 × (Unit)} (C : nd_C p l s m args c A (dC, dI) cX2_pair 2 RX2 ow_dm_X2_pair (dk_P ac)) (K : nd_Ki p l e (headSpec ow_dm_X2_pair ({ frames := 0, cells := 0, slots := 0, locals := 0 })).room s m args below meth c Q A (dC, dI) cX2_pair .int (Unit) (dw_P a ac) r) : dj_X2_pair_0 p l e s m args below meth c Q A dC dI a ac (df_X2_pair_0 n) r := by
  obtain ⟨hlt, hx, hb, hml, hown, hts, hN, hA, hK⟩ := id C
  intro v0 v1 s0 H locs ls h hP hD hS hl
  unfold df_X2_pair_0 at h
  refine lv_iload_n hx hb dX2_pair_0 rfl (lv_at hl 1 rfl) ?_
  refine lv_bipush (v := 61) hx hb dX2_pair_1 (by decide) ?_
  refine lv_icmp_ne (tgt := 50) hx hb dX2_pair_3 (by decide) (fun c1 => ?_) (fun c1 => ?_)
  · have h := nd_neg h c1
    refine lv_iload_n hx hb dX2_pair_50 rfl (lv_at hl 0 rfl) ?_
    refine lv_iload_n hx hb dX2_pair_51 rfl (lv_at hl 1 rfl) ?_
    refine lv_icmp_eq (tgt := 57) hx hb dX2_pair_52 (by decide) (fun c2 => ?_) (fun c2 => ?_)
    · have h := nd_pos h c2
      refine lv_iload_n hx hb dX2_pair_57 rfl (lv_at hl 0 rfl) ?_
      refine lv_bipush (v := 124) hx hb dX2_pair_58 (by decide) ?_
      refine lv_icmp_ne (tgt := 67) hx hb dX2_pair_60 (by decide) (fun c3 => ?_) (fun c3 => ?_)
      · have h := nd_neg h c3
        refine lv_iload_n hx hb dX2_pair_67 rfl (lv_at hl 0 rfl) ?_
        refine lv_bipush (v := 38) hx hb dX2_pair_68 (by decide) ?_
        refine lv_icmp_ne (tgt := 77) hx hb dX2_pair_70 (by decide) (fun c4 => ?_) (fun c4 => ?_)
        · have h := nd_neg h c4
          refine lv_iload_n hx hb dX2_pair_77 rfl (lv_at hl 0 rfl) ?_
          refine lv_bipush (v := 60) hx hb dX2_pair_78 (by decide) ?_
          refine lv_icmp_ne (tgt := 88) hx hb dX2_pair_80 (by decide) (fun c5 => ?_) (fun c5 => ?_)
          · have h := nd_neg h c5
            refine lv_iload_n hx hb dX2_pair_88 rfl (lv_at hl 0 rfl) ?_
            refine lv_bipush (v := 62) hx hb dX2_pair_89 (by decide) ?_
            refine lv_icmp_ne (tgt := 99) hx hb dX2_pair_91 (by decide) (fun c6 => ?_) (fun c6 => ?_)
            · have h := nd_neg h c6
              refine lv_iconst (v := 0) hx hb dX2_pair_99 (by decide) ?_
              exact (db_X2_pair_100 C K) (0) s0 _ _ _ h hP hD hS (lv_sub hl [] rfl)
            · have h := nd_pos h c6
              refine lv_bipush (v := 13) hx hb dX2_pair_94 (by decide) ?_
              refine lv_goto (tgt := 100) hx hb dX2_pair_96 (by decide) ?_
              exact (db_X2_pair_100 C K) (13) s0 _ _ _ h hP hD hS (lv_sub hl [] rfl)
          · have h := nd_pos h c5
            refine lv_bipush (v := 12) hx hb dX2_pair_83 (by decide) ?_
            refine lv_goto (tgt := 100) hx hb dX2_pair_85 (by decide) ?_
            exact (db_X2_pair_100 C K) (12) s0 _ _ _ h hP hD hS (lv_sub hl [] rfl)
        · have h := nd_pos h c4
          refine lv_iconst (v := 2) hx hb dX2_pair_73 (by decide) ?_
          refine lv_goto (tgt := 100) hx hb dX2_pair_74 (by decide) ?_
          exact (db_X2_pair_100 C K) (2) s0 _ _ _ h hP hD hS (lv_sub hl [] rfl)
      · have h := nd_pos h c3
        refine lv_iconst (v := 1) hx hb dX2_pair_63 (by decide) ?_
        refine lv_goto (tgt := 100) hx hb dX2_pair_64 (by decide) ?_
        exact (db_X2_pair_100 C K) (1) s0 _ _ _ h hP hD hS (lv_sub hl [] rfl)
    · have h := nd_neg h c2
      refine lv_iconst (v := 0) hx hb dX2_pair_55 (by decide) ?_
      exact K _ _ _ _ _ _ dX2_pair_56 rfl (Option.some.inj h).symm hP hD hS
  · have h := nd_pos h c1
    refine lv_iload_n hx hb dX2_pair_6 rfl (lv_at hl 0 rfl) ?_
    refine lv_bipush (v := 61) hx hb dX2_pair_7 (by decide) ?_
    refine lv_icmp_ne (tgt := 16) hx hb dX2_pair_9 (by decide) (fun c7 => ?_) (fun c7 => ?_)
    · have h := nd_neg h c7
      refine lv_iload_n hx hb dX2_pair_16 rfl (lv_at hl 0 rfl) ?_
      refine lv_bipush (v := 33) hx hb dX2_pair_17 (by decide) ?_
      refine lv_icmp_ne (tgt := 26) hx hb dX2_pair_19 (by decide) (fun c8 => ?_) (fun c8 => ?_)
      · have h := nd_neg h c8
        refine lv_iload_n hx hb dX2_pair_26 rfl (lv_at hl 0 rfl) ?_
        refine lv_bipush (v := 60) hx hb dX2_pair_27 (by decide) ?_
        refine lv_icmp_ne (tgt := 37) hx hb dX2_pair_29 (by decide) (fun c9 => ?_) (fun c9 => ?_)
        · have h := nd_neg h c9
          refine lv_iload_n hx hb dX2_pair_37 rfl (lv_at hl 0 rfl) ?_
          refine lv_bipush (v := 62) hx hb dX2_pair_38 (by decide) ?_
          refine lv_icmp_ne (tgt := 48) hx hb dX2_pair_40 (by decide) (fun c10 => ?_) (fun c10 => ?_)
          · have h := nd_neg h c10
            refine lv_iconst (v := 0) hx hb dX2_pair_48 (by decide) ?_
            exact (db_X2_pair_49 C K) (0) s0 _ _ _ h hP hD hS (lv_sub hl [] rfl)
          · have h := nd_pos h c10
            refine lv_bipush (v := 8) hx hb dX2_pair_43 (by decide) ?_
            refine lv_goto (tgt := 49) hx hb dX2_pair_45 (by decide) ?_
            exact (db_X2_pair_49 C K) (8) s0 _ _ _ h hP hD hS (lv_sub hl [] rfl)
        · have h := nd_pos h c9
          refine lv_bipush (v := 6) hx hb dX2_pair_32 (by decide) ?_
          refine lv_goto (tgt := 49) hx hb dX2_pair_34 (by decide) ?_
          exact (db_X2_pair_49 C K) (6) s0 _ _ _ h hP hD hS (lv_sub hl [] rfl)
      · have h := nd_pos h c8
        refine lv_iconst (v := 4) hx hb dX2_pair_22 (by decide) ?_
        refine lv_goto (tgt := 49) hx hb dX2_pair_23 (by decide) ?_
        exact (db_X2_pair_49 C K) (4) s0 _ _ _ h hP hD hS (lv_sub hl [] rfl)
    · have h := nd_pos h c7
      refine lv_iconst (v := 3) hx hb dX2_pair_12 (by decide) ?_
      refine lv_goto (tgt := 49) hx hb dX2_pair_13 (by decide) ?_
      exact (db_X2_pair_49 C K) (3) s0 _ _ _ h hP hD hS (lv_sub hl [] rfl)
set_option maxHeartbeats 40000000 in
set_option maxRecDepth 100000 in
theorem dm_X2_pair (l : Launch) (hlt : l.stackTraces = false) (dC : Nat → ClassId) (dI : Nat → Nat → Nat) (a : Nat → Nat) (ac : Nat → ClassId) (n : Nat) (v0 : Int32) (v1 : Int32) (s0 : Unit) {r : Int32 × (Unit)} (h : df_X2_pair n v0 v1 s0 = some r) (sz : Nat) : Met l yX2_pair ow_dm_X2_pair ({ frames := 0, cells := 0, slots := 0, locals := 0 }) (va_Pc [.int v0, .int v1] (fun U => U.heap.size = sz ∧ va_P (dC, dI) vwCl (dw_P a ac s0) U.heap ∧ va_K (dC, dI) vwCl (dk_P ac) U ∧ va_D (fun _ => True) (dw_P a ac s0) ∧ nv_E dI (va_A (dw_P a ac s0) sz) U)) (va_Qi (fun x _ => x = r.1) (fun (_ : Unit) t => va_P (dC, dI) vwCl (dw_P a ac r.2) t.heap ∧ va_K (dC, dI) vwCl (dk_P ac) t ∧ va_D (va_A (dw_P a ac s0) sz) (dw_P a ac r.2)) (va_A (dw_P a ac s0) sz)) 0 0 (va_A (dw_P a ac s0) sz) := by
  refine Met.ofW (cc := cX2_pair) (maxL := 2) (ret := (some .int)) (by decide) rfl ?_
  intro p e s m args below meth c s₁ B hml hv
  obtain ⟨rfl, hsz, hP, hK, hD0, hN⟩ := hv
  have hx := B.exec
  have hb := B.bytes
  have hr := B.returns
  have hts := atoms_spec (ws := ow_dm_X2_pair) B.pre
  have hown : s.vm.findClass RX2 = some m.cls := findClass_of_methodNamed B.named
  have hlocks := B.notSynchronized
  subst hsz
  have hD := hD0.self (sz := s.heap.size)
  generalize hAe : va_A (dw_P a ac s0) s.heap.size = A at hD hN ⊢
  have hA : ∀ q : Nat, s.heap.size ≤ q → A q := fun q h => by rw [← hAe]; exact Or.inr h
  have hl := lv_entry ([.int v0, .int v1]) (n := 2) (Nat.le_of_ble_eq_true rfl)
  rw [lg_entry_eq]
  generalize (lg_sl ([.int v0, .int v1]) ++ List.replicate (2 - (lg_sl ([.int v0, .int v1])).length) Slot.unset).toArray = ls at hl ⊢
  have hl : lv_has ls 2 [(0, .int v0), (1, .int v1)] := hl
  exact db_X2_pair_0 (dC := dC) (dI := dI) (a := a) (ac := ac) (n := n) (r := r) ⟨hlt, hx, hb, hml, hown, hts, hN, hA, hK⟩ (fun pc v τ H locs ls d z er hP hD hS => by subst er; exact W.zret (v := v) hx hb hr z (fun t ht hW => ⟨⟨v, (), rfl, rfl, by rw [ht]; exact hP, va_K.moved hW.alike hK, hD⟩, hS.F ht⟩) hS.2.2 d) v0 v1 s0 _ _ _ h hP hD va_S.rf (lv_sub hl [0, 1] rfl)
def ow_dm_X2_alone : List Cond := Cond.code yX2_alone cX2_alone 1 (some .int) :: ([] ++ [])
theorem gd_dm_X2_alone : ∀ w ∈ ow_dm_X2_alone, (w.onTables && w.keeps) = true ∨ ∃ ty, w = Cond.arrayClass ty := List.forall_mem_cons.mpr ⟨good_of_word rfl, List.forall_mem_append.mpr ⟨fun w h => good_of_word (List.all_eq_true.mp (by decide +kernel) w h), fun _ h => nomatch h⟩⟩
def dj_X2_alone_0 (p : Program) (l : Launch) (e : Env) (s : State) (m : MethodId) (args : Array Value) (below : List Frame) (meth : Method) (c : Code) (Q : State → Prop) (A : Nat → Prop) (dC : Nat → ClassId) (dI : Nat → Nat → Nat) (a : Nat → Nat) (ac : Nat → ClassId) (g : Int32 → (Unit) → Option (Int32 × (Unit))) (r : Int32 × (Unit)) : Prop := ∀ (v0 : Int32) (s0 : Unit) (H : Heap) (locs : List Loc) (ls : Array Slot), g v0 s0 = some r → va_P (dC, dI) vwCl (dw_P a ac s0) H → va_D A (dw_P a ac s0) → va_S A s.heap H locs → lv_has ls 1 [(0, .int v0)] → W p l e (headSpec ow_dm_X2_alone ({ frames := 0, cells := 0, slots := 0, locals := 0 })).room s m args below meth c H locs 0 0 Q (F0 m 0 ls [])
set_option maxHeartbeats 40000000 in
set_option maxRecDepth 100000 in
theorem db_X2_alone_0 {p : Program} {l : Launch} {e : Env} {s : State} {m : MethodId} {args : Array Value} {below : List Frame} {meth : Method} {c : Code} {Q : State → Prop} {A : Nat → Prop} {dC : Nat → ClassId} {dI : Nat → Nat → Nat} {a : Nat → Nat} {ac : Nat → ClassId} {n : Nat} {r : Int32 × (Unit)} (C : nd_C p l s m args c A (dC, dI) cX2_alone 1 RX2 ow_dm_X2_alone (dk_P ac)) (K : nd_Ki p l e (headSpec ow_dm_X2_alone ({ frames := 0, cells := 0, slots := 0, locals := 0 })).room s m args below meth c Q A (dC, dI) cX2_alone .int (Unit) (dw_P a ac) r) : dj_X2_alone_0 p l e s m args below meth c Q A dC dI a ac (df_X2_alone_0 n) r := by
  obtain ⟨hlt, hx, hb, hml, hown, hts, hN, hA, hK⟩ := id C
  intro v0 s0 H locs ls h hP hD hS hl
  unfold df_X2_alone_0 at h
  refine lv_iload_n hx hb dX2_alone_0 rfl (lv_at hl 0 rfl) ?_
  by_cases c1 : v0 = 33
  · have h := nd_pos h c1
    refine lv_lookup (off := 168) (tgt := 169) hx hb dX2_alone_1 (by decide) (by rw [c1]; decide) (by decide) ?_
    refine lv_bipush (v := 19) hx hb dX2_alone_169 (by decide) ?_
    exact K _ _ _ _ _ _ dX2_alone_171 rfl (Option.some.inj h).symm hP hD hS
  have h := nd_neg h c1
  by_cases c2 : v0 = 37
  · have h := nd_pos h c2
    refine lv_lookup (off := 165) (tgt := 166) hx hb dX2_alone_1 (by decide) (by rw [c2]; decide) (by decide) ?_
    refine lv_bipush (v := 18) hx hb dX2_alone_166 (by decide) ?_
    exact K _ _ _ _ _ _ dX2_alone_168 rfl (Option.some.inj h).symm hP hD hS
  have h := nd_neg h c2
  by_cases c3 : v0 = 38
  · have h := nd_pos h c3
    refine lv_lookup (off := 150) (tgt := 151) hx hb dX2_alone_1 (by decide) (by rw [c3]; decide) (by decide) ?_
    refine lv_bipush (v := 11) hx hb dX2_alone_151 (by decide) ?_
    exact K _ _ _ _ _ _ dX2_alone_153 rfl (Option.some.inj h).symm hP hD hS
  have h := nd_neg h c3
  by_cases c4 : v0 = 40
  · have h := nd_pos h c4
    refine lv_lookup (off := 174) (tgt := 175) hx hb dX2_alone_1 (by decide) (by rw [c4]; decide) (by decide) ?_
    refine lv_bipush (v := 22) hx hb dX2_alone_175 (by decide) ?_
    exact K _ _ _ _ _ _ dX2_alone_177 rfl (Option.some.inj h).symm hP hD hS
  have h := nd_neg h c4
  by_cases c5 : v0 = 41
  · have h := nd_pos h c5
    refine lv_lookup (off := 177) (tgt := 178) hx hb dX2_alone_1 (by decide) (by rw [c5]; decide) (by decide) ?_
    refine lv_bipush (v := 28) hx hb dX2_alone_178 (by decide) ?_
    exact K _ _ _ _ _ _ dX2_alone_180 rfl (Option.some.inj h).symm hP hD hS
  have h := nd_neg h c5
  by_cases c6 : v0 = 42
  · have h := nd_pos h c6
    refine lv_lookup (off := 159) (tgt := 160) hx hb dX2_alone_1 (by decide) (by rw [c6]; decide) (by decide) ?_
    refine lv_bipush (v := 16) hx hb dX2_alone_160 (by decide) ?_
    exact K _ _ _ _ _ _ dX2_alone_162 rfl (Option.some.inj h).symm hP hD hS
  have h := nd_neg h c6
  by_cases c7 : v0 = 43
  · have h := nd_pos h c7
    refine lv_lookup (off := 153) (tgt := 154) hx hb dX2_alone_1 (by decide) (by rw [c7]; decide) (by decide) ?_
    refine lv_bipush (v := 14) hx hb dX2_alone_154 (by decide) ?_
    exact K _ _ _ _ _ _ dX2_alone_156 rfl (Option.some.inj h).symm hP hD hS
  have h := nd_neg h c7
  by_cases c8 : v0 = 45
  · have h := nd_pos h c8
    refine lv_lookup (off := 156) (tgt := 157) hx hb dX2_alone_1 (by decide) (by rw [c8]; decide) (by decide) ?_
    refine lv_bipush (v := 15) hx hb dX2_alone_157 (by decide) ?_
    exact K _ _ _ _ _ _ dX2_alone_159 rfl (Option.some.inj h).symm hP hD hS
  have h := nd_neg h c8
  by_cases c9 : v0 = 47
  · have h := nd_pos h c9
    refine lv_lookup (off := 162) (tgt := 163) hx hb dX2_alone_1 (by decide) (by rw [c9]; decide) (by decide) ?_
    refine lv_bipush (v := 17) hx hb dX2_alone_163 (by decide) ?_
    exact K _ _ _ _ _ _ dX2_alone_165 rfl (Option.some.inj h).symm hP hD hS
  have h := nd_neg h c9
  by_cases c10 : v0 = 60
  · have h := nd_pos h c10
    refine lv_lookup (off := 139) (tgt := 140) hx hb dX2_alone_1 (by decide) (by rw [c10]; decide) (by decide) ?_
    refine lv_iconst (v := 5) hx hb dX2_alone_140 (by decide) ?_
    exact K _ _ _ _ _ _ dX2_alone_141 rfl (Option.some.inj h).symm hP hD hS
  have h := nd_neg h c10
  by_cases c11 : v0 = 62
  · have h := nd_pos h c11
    refine lv_lookup (off := 141) (tgt := 142) hx hb dX2_alone_1 (by decide) (by rw [c11]; decide) (by decide) ?_
    refine lv_bipush (v := 7) hx hb dX2_alone_142 (by decide) ?_
    exact K _ _ _ _ _ _ dX2_alone_144 rfl (Option.some.inj h).symm hP hD hS
  have h := nd_neg h c11
  by_cases c12 : v0 = 91
  · have h := nd_pos h c12
    refine lv_lookup (off := 180) (tgt := 181) hx hb dX2_alone_1 (by decide) (by rw [c12]; decide) (by decide) ?_
    refine lv_bipush (v := 25) hx hb dX2_alone_181 (by decide) ?_
    exact K _ _ _ _ _ _ dX2_alone_183 rfl (Option.some.inj h).symm hP hD hS
  have h := nd_neg h c12
  by_cases c13 : v0 = 93
  · have h := nd_pos h c13
    refine lv_lookup (off := 183) (tgt := 184) hx hb dX2_alone_1 (by decide) (by rw [c13]; decide) (by decide) ?_
    refine lv_bipush (v := 29) hx hb dX2_alone_184 (by decide) ?_
    exact K _ _ _ _ _ _ dX2_alone_186 rfl (Option.some.inj h).symm hP hD hS
  have h := nd_neg h c13
  by_cases c14 : v0 = 94
  · have h := nd_pos h c14
    refine lv_lookup (off := 147) (tgt := 148) hx hb dX2_alone_1 (by decide) (by rw [c14]; decide) (by decide) ?_
    refine lv_bipush (v := 10) hx hb dX2_alone_148 (by decide) ?_
    exact K _ _ _ _ _ _ dX2_alone_150 rfl (Option.some.inj h).symm hP hD hS
  have h := nd_neg h c14
  by_cases c15 : v0 = 124
  · have h := nd_pos h c15
    refine lv_lookup (off := 144) (tgt := 145) hx hb dX2_alone_1 (by decide) (by rw [c15]; decide) (by decide) ?_
    refine lv_bipush (v := 9) hx hb dX2_alone_145 (by decide) ?_
    exact K _ _ _ _ _ _ dX2_alone_147 rfl (Option.some.inj h).symm hP hD hS
  have h := nd_neg h c15
  by_cases c16 : v0 = 126
  · have h := nd_pos h c16
    refine lv_lookup (off := 171) (tgt := 172) hx hb dX2_alone_1 (by decide) (by rw [c16]; decide) (by decide) ?_
    refine lv_bipush (v := 21) hx hb dX2_alone_172 (by decide) ?_
    exact K _ _ _ _ _ _ dX2_alone_174 rfl (Option.some.inj h).symm hP hD hS
  have h := nd_neg h c16
  refine lv_lookup (off := 186) (tgt := 187) hx hb dX2_alone_1 (by decide) (show Op.lookupswitch.offset [(33, 168), (37, 165), (38, 150), (40, 174), (41, 177), (42, 159), (43, 153), (45, 156), (47, 162), (60, 139), (62, 141), (91, 180), (93, 183), (94, 147), (124, 144), (126, 171)] 186 (v0 : Int32).toInt = 186 by rw [lv_osw c1 (by decide), lv_osw c2 (by decide), lv_osw c3 (by decide), lv_osw c4 (by decide), lv_osw c5 (by decide), lv_osw c6 (by decide), lv_osw c7 (by decide), lv_osw c8 (by decide), lv_osw c9 (by decide), lv_osw c10 (by decide), lv_osw c11 (by decide), lv_osw c12 (by decide), lv_osw c13 (by decide), lv_osw c14 (by decide), lv_osw c15 (by decide), lv_osw c16 (by decide)] <;> rfl) (by decide) ?_
  refine lv_iconst (v := 0) hx hb dX2_alone_187 (by decide) ?_
  exact K _ _ _ _ _ _ dX2_alone_188 rfl (Option.some.inj h).symm hP hD hS
set_option maxHeartbeats 40000000 in
set_option maxRecDepth 100000 in
theorem dm_X2_alone (l : Launch) (hlt : l.stackTraces = false) (dC : Nat → ClassId) (dI : Nat → Nat → Nat) (a : Nat → Nat) (ac : Nat → ClassId) (n : Nat) (v0 : Int32) (s0 : Unit) {r : Int32 × (Unit)} (h : df_X2_alone n v0 s0 = some r) (sz : Nat) : Met l yX2_alone ow_dm_X2_alone ({ frames := 0, cells := 0, slots := 0, locals := 0 }) (va_Pc [.int v0] (fun U => U.heap.size = sz ∧ va_P (dC, dI) vwCl (dw_P a ac s0) U.heap ∧ va_K (dC, dI) vwCl (dk_P ac) U ∧ va_D (fun _ => True) (dw_P a ac s0) ∧ nv_E dI (va_A (dw_P a ac s0) sz) U)) (va_Qi (fun x _ => x = r.1) (fun (_ : Unit) t => va_P (dC, dI) vwCl (dw_P a ac r.2) t.heap ∧ va_K (dC, dI) vwCl (dk_P ac) t ∧ va_D (va_A (dw_P a ac s0) sz) (dw_P a ac r.2)) (va_A (dw_P a ac s0) sz)) 0 0 (va_A (dw_P a ac s0) sz) := by
  refine Met.ofW (cc := cX2_alone) (maxL := 1) (ret := (some .int)) (by decide) rfl ?_
  intro p e s m args below meth c s₁ B hml hv
  obtain ⟨rfl, hsz, hP, hK, hD0, hN⟩ := hv
  have hx := B.exec
  have hb := B.bytes
  have hr := B.returns
  have hts := atoms_spec (ws := ow_dm_X2_alone) B.pre
  have hown : s.vm.findClass RX2 = some m.cls := findClass_of_methodNamed B.named
  have hlocks := B.notSynchronized
  subst hsz
  have hD := hD0.self (sz := s.heap.size)
  generalize hAe : va_A (dw_P a ac s0) s.heap.size = A at hD hN ⊢
  have hA : ∀ q : Nat, s.heap.size ≤ q → A q := fun q h => by rw [← hAe]; exact Or.inr h
  have hl := lv_entry ([.int v0]) (n := 1) (Nat.le_of_ble_eq_true rfl)
  rw [lg_entry_eq]
  generalize (lg_sl ([.int v0]) ++ List.replicate (1 - (lg_sl ([.int v0])).length) Slot.unset).toArray = ls at hl ⊢
  have hl : lv_has ls 1 [(0, .int v0)] := hl
  exact db_X2_alone_0 (dC := dC) (dI := dI) (a := a) (ac := ac) (n := n) (r := r) ⟨hlt, hx, hb, hml, hown, hts, hN, hA, hK⟩ (fun pc v τ H locs ls d z er hP hD hS => by subst er; exact W.zret (v := v) hx hb hr z (fun t ht hW => ⟨⟨v, (), rfl, rfl, by rw [ht]; exact hP, va_K.moved hW.alike hK, hD⟩, hS.F ht⟩) hS.2.2 d) v0 s0 _ _ _ h hP hD va_S.rf (lv_sub hl [0] rfl)
def ow_dm_X2_next : List Cond := Cond.code yX2_next cX2_next 4 none :: ([Cond.fieldLink RX2 49 "TimeMachine$Condition" "at" "I", Cond.fieldLink RX2 45 "TimeMachine$Condition" "stop" "I", Cond.fieldLink RX2 90 "TimeMachine$Condition" "from" "I", Cond.fieldLink RX2 35 "TimeMachine$Condition" "source" "[B", Cond.methodLink RX2 93 yX2_isLetter, Cond.static yX2_isLetter, Cond.initialized RX2, Cond.fieldLink RX2 77 "TimeMachine$Condition" "kind" "I", Cond.methodLink RX2 100 yX2_readNumber, Cond.instanceMethod yX2_readNumber, Cond.selects RX2 yX2_readNumber yX2_readNumber, Cond.methodLink RX2 97 yX2_isDigit, Cond.static yX2_isDigit, Cond.methodLink RX2 103 yX2_pair, Cond.static yX2_pair, Cond.methodLink RX2 106 yX2_alone, Cond.static yX2_alone, Cond.fieldLink RX2 110 "TimeMachine$Condition" "number" "J"] ++ (u_ws RX2 TX2 20 ++ (ow_dm_X2_isLetter ++ (ow_dm_X2_readNumber ++ (ow_dm_X2_isDigit ++ (ow_dm_X2_pair ++ (ow_dm_X2_alone ++ [])))))))
theorem gd_dm_X2_next : ∀ w ∈ ow_dm_X2_next, (w.onTables && w.keeps) = true ∨ ∃ ty, w = Cond.arrayClass ty := List.forall_mem_cons.mpr ⟨good_of_word rfl, List.forall_mem_append.mpr ⟨fun w h => good_of_word (List.all_eq_true.mp (by decide +kernel) w h), List.forall_mem_append.mpr ⟨gu_X2, List.forall_mem_append.mpr ⟨gd_dm_X2_isLetter, List.forall_mem_append.mpr ⟨gd_dm_X2_readNumber, List.forall_mem_append.mpr ⟨gd_dm_X2_isDigit, List.forall_mem_append.mpr ⟨gd_dm_X2_pair, List.forall_mem_append.mpr ⟨gd_dm_X2_alone, fun _ h => nomatch h⟩⟩⟩⟩⟩⟩⟩⟩
theorem hi_dm_X2_next_X2 : ∀ w ∈ u_ws RX2 TX2 20, w ∈ ow_dm_X2_next := fun w h => List.mem_cons_of_mem _ (List.mem_append_right _ (List.mem_append_left _ h))
theorem gi_dm_X2_next_0 : GoodIn ow_dm_X2_next (wsS RX2 93 yX2_isLetter ow_dm_X2_isLetter) := goodIn_app (goodIn_of _ (by decide +kernel)) (fun w h => ⟨List.mem_cons_of_mem _ (List.mem_append_right _ (List.mem_append_right _ (List.mem_append_left _ h))), gd_dm_X2_isLetter w h⟩)
theorem gi_dm_X2_next_1 : GoodIn ow_dm_X2_next (wsV RX2 100 RX2 yX2_readNumber ow_dm_X2_readNumber) := goodIn_app (goodIn_of _ (by decide +kernel)) (fun w h => ⟨List.mem_cons_of_mem _ (List.mem_append_right _ (List.mem_append_right _ (List.mem_append_right _ (List.mem_append_left _ h)))), gd_dm_X2_readNumber w h⟩)
theorem gi_dm_X2_next_2 : GoodIn ow_dm_X2_next (wsS RX2 97 yX2_isDigit ow_dm_X2_isDigit) := goodIn_app (goodIn_of _ (by decide +kernel)) (fun w h => ⟨List.mem_cons_of_mem _ (List.mem_append_right _ (List.mem_append_right _ (List.mem_append_right _ (List.mem_append_right _ (List.mem_append_left _ h))))), gd_dm_X2_isDigit w h⟩)
theorem gi_dm_X2_next_3 : GoodIn ow_dm_X2_next (wsS RX2 103 yX2_pair ow_dm_X2_pair) := goodIn_app (goodIn_of _ (by decide +kernel)) (fun w h => ⟨List.mem_cons_of_mem _ (List.mem_append_right _ (List.mem_append_right _ (List.mem_append_right _ (List.mem_append_right _ (List.mem_append_right _ (List.mem_append_left _ h)))))), gd_dm_X2_pair w h⟩)
theorem gi_dm_X2_next_4 : GoodIn ow_dm_X2_next (wsS RX2 106 yX2_alone ow_dm_X2_alone) := goodIn_app (goodIn_of _ (by decide +kernel)) (fun w h => ⟨List.mem_cons_of_mem _ (List.mem_append_right _ (List.mem_append_right _ (List.mem_append_right _ (List.mem_append_right _ (List.mem_append_right _ (List.mem_append_right _ (List.mem_append_left _ h))))))), gd_dm_X2_alone w h⟩)
def dj_X2_next_169 (p : Program) (l : Launch) (e : Env) (s : State) (m : MethodId) (args : Array Value) (below : List Frame) (meth : Method) (c : Code) (Q : State → Prop) (A : Nat → Prop) (dC : Nat → ClassId) (dI : Nat → Nat → Nat) (a : Nat → Nat) (ac : Nat → ClassId) (g : (St × (St)) → Option (St × (St))) (r : St × (St)) : Prop := ∀ (s0 : St × (St)) (H : Heap) (locs : List Loc) (ls : Array Slot), g s0 = some r → va_P (dC, dI) vwCl (dw_X2s a ac s0) H → va_D A (dw_X2s a ac s0) → va_S A s.heap H locs → lv_has ls 4 [] → W p l e (headSpec ow_dm_X2_next ({ frames := 2, cells := 0, slots := 0, locals := 44 })).room s m args below meth c H locs 0 0 Q (F0 m 169 ls [])
def dj_X2_next_154 (p : Program) (l : Launch) (e : Env) (s : State) (m : MethodId) (args : Array Value) (below : List Frame) (meth : Method) (c : Code) (Q : State → Prop) (A : Nat → Prop) (dC : Nat → ClassId) (dI : Nat → Nat → Nat) (a : Nat → Nat) (ac : Nat → ClassId) (g : Int32 → (St × (St)) → Option (St × (St))) (r : St × (St)) : Prop := ∀ (y1 : Int32) (s0 : St × (St)) (H : Heap) (locs : List Loc) (ls : Array Slot), g y1 s0 = some r → va_P (dC, dI) vwCl (dw_X2s a ac s0) H → va_D A (dw_X2s a ac s0) → va_S A s.heap H locs → lv_has ls 4 [(0, .ref (a 1))] → W p l e (headSpec ow_dm_X2_next ({ frames := 2, cells := 0, slots := 0, locals := 44 })).room s m args below meth c H locs 0 0 Q (F0 m 154 ls [.int y1, .ref (a 1)])
def dj_X2_next_141 (p : Program) (l : Launch) (e : Env) (s : State) (m : MethodId) (args : Array Value) (below : List Frame) (meth : Method) (c : Code) (Q : State → Prop) (A : Nat → Prop) (dC : Nat → ClassId) (dI : Nat → Nat → Nat) (a : Nat → Nat) (ac : Nat → ClassId) (g : Int32 → (St × (St)) → Option (St × (St))) (r : St × (St)) : Prop := ∀ (x1 : Int32) (s0 : St × (St)) (H : Heap) (locs : List Loc) (ls : Array Slot), g x1 s0 = some r → va_P (dC, dI) vwCl (dw_X2s a ac s0) H → va_D A (dw_X2s a ac s0) → va_S A s.heap H locs → lv_has ls 4 [(0, .ref (a 1)), (1, .int x1)] → W p l e (headSpec ow_dm_X2_next ({ frames := 2, cells := 0, slots := 0, locals := 44 })).room s m args below meth c H locs 0 0 Q (F0 m 141 ls [])
def dj_X2_next_128 (p : Program) (l : Launch) (e : Env) (s : State) (m : MethodId) (args : Array Value) (below : List Frame) (meth : Method) (c : Code) (Q : State → Prop) (A : Nat → Prop) (dC : Nat → ClassId) (dI : Nat → Nat → Nat) (a : Nat → Nat) (ac : Nat → ClassId) (g : Int32 → (St × (St)) → Option (St × (St))) (r : St × (St)) : Prop := ∀ (x1 : Int32) (s0 : St × (St)) (H : Heap) (locs : List Loc) (ls : Array Slot), g x1 s0 = some r → va_P (dC, dI) vwCl (dw_X2s a ac s0) H → va_D A (dw_X2s a ac s0) → va_S A s.heap H locs → lv_has ls 4 [(0, .ref (a 1)), (1, .int x1)] → W p l e (headSpec ow_dm_X2_next ({ frames := 2, cells := 0, slots := 0, locals := 44 })).room s m args below meth c H locs 0 0 Q (F0 m 128 ls [])
def dj_X2_next_87 (p : Program) (l : Launch) (e : Env) (s : State) (m : MethodId) (args : Array Value) (below : List Frame) (meth : Method) (c : Code) (Q : State → Prop) (A : Nat → Prop) (dC : Nat → ClassId) (dI : Nat → Nat → Nat) (a : Nat → Nat) (ac : Nat → ClassId) (g : Int32 → (St × (St)) → Option (St × (St))) (r : St × (St)) : Prop := ∀ (x1 : Int32) (s0 : St × (St)) (H : Heap) (locs : List Loc) (ls : Array Slot), g x1 s0 = some r → va_P (dC, dI) vwCl (dw_X2s a ac s0) H → va_D A (dw_X2s a ac s0) → va_S A s.heap H locs → lv_has ls 4 [(0, .ref (a 1)), (1, .int x1)] → W p l e (headSpec ow_dm_X2_next ({ frames := 2, cells := 0, slots := 0, locals := 44 })).room s m args below meth c H locs 0 0 Q (F0 m 87 ls [])
def dj_X2_next_255 (p : Program) (l : Launch) (e : Env) (s : State) (m : MethodId) (args : Array Value) (below : List Frame) (meth : Method) (c : Code) (Q : State → Prop) (A : Nat → Prop) (dC : Nat → ClassId) (dI : Nat → Nat → Nat) (a : Nat → Nat) (ac : Nat → ClassId) (g : Int32 → Int32 → (St × (St)) → Option (St × (St))) (r : St × (St)) : Prop := ∀ (y1 : Int32) (y2 : Int32) (s0 : St × (St)) (H : Heap) (locs : List Loc) (ls : Array Slot), g y1 y2 s0 = some r → va_P (dC, dI) vwCl (dw_X2s a ac s0) H → va_D A (dw_X2s a ac s0) → va_S A s.heap H locs → lv_has ls 4 [] → W p l e (headSpec ow_dm_X2_next ({ frames := 2, cells := 0, slots := 0, locals := 44 })).room s m args below meth c H locs 0 0 Q (F0 m 255 ls [.int y2, .int y1, .ref (a 1)])
def dj_X2_next_238 (p : Program) (l : Launch) (e : Env) (s : State) (m : MethodId) (args : Array Value) (below : List Frame) (meth : Method) (c : Code) (Q : State → Prop) (A : Nat → Prop) (dC : Nat → ClassId) (dI : Nat → Nat → Nat) (a : Nat → Nat) (ac : Nat → ClassId) (g : Int32 → Int32 → (St × (St)) → Option (St × (St))) (r : St × (St)) : Prop := ∀ (x3 : Int32) (y1 : Int32) (s0 : St × (St)) (H : Heap) (locs : List Loc) (ls : Array Slot), g x3 y1 s0 = some r → va_P (dC, dI) vwCl (dw_X2s a ac s0) H → va_D A (dw_X2s a ac s0) → va_S A s.heap H locs → lv_has ls 4 [(0, .ref (a 1)), (3, .int x3)] → W p l e (headSpec ow_dm_X2_next ({ frames := 2, cells := 0, slots := 0, locals := 44 })).room s m args below meth c H locs 0 0 Q (F0 m 238 ls [.int y1, .ref (a 1)])
def dj_X2_next_220 (p : Program) (l : Launch) (e : Env) (s : State) (m : MethodId) (args : Array Value) (below : List Frame) (meth : Method) (c : Code) (Q : State → Prop) (A : Nat → Prop) (dC : Nat → ClassId) (dI : Nat → Nat → Nat) (a : Nat → Nat) (ac : Nat → ClassId) (g : Int32 → Int64 → (St × (St)) → Option (St × (St))) (r : St × (St)) : Prop := ∀ (x3 : Int32) (y1 : Int64) (s0 : St × (St)) (H : Heap) (locs : List Loc) (ls : Array Slot), g x3 y1 s0 = some r → va_P (dC, dI) vwCl (dw_X2s a ac s0) H → va_D A (dw_X2s a ac s0) → va_S A s.heap H locs → lv_has ls 4 [(0, .ref (a 1)), (3, .int x3)] → W p l e (headSpec ow_dm_X2_next ({ frames := 2, cells := 0, slots := 0, locals := 44 })).room s m args below meth c H locs 0 0 Q (F0 m 220 ls [.long y1, .ref (a 1)])
def dj_X2_next_198 (p : Program) (l : Launch) (e : Env) (s : State) (m : MethodId) (args : Array Value) (below : List Frame) (meth : Method) (c : Code) (Q : State → Prop) (A : Nat → Prop) (dC : Nat → ClassId) (dI : Nat → Nat → Nat) (a : Nat → Nat) (ac : Nat → ClassId) (g : Int32 → Int32 → (St × (St)) → Option (St × (St))) (r : St × (St)) : Prop := ∀ (x1 : Int32) (y0 : Int32) (s0 : St × (St)) (H : Heap) (locs : List Loc) (ls : Array Slot), g x1 y0 s0 = some r → va_P (dC, dI) vwCl (dw_X2s a ac s0) H → va_D A (dw_X2s a ac s0) → va_S A s.heap H locs → lv_has ls 4 [(0, .ref (a 1)), (1, .int x1)] → W p l e (headSpec ow_dm_X2_next ({ frames := 2, cells := 0, slots := 0, locals := 44 })).room s m args below meth c H locs 0 0 Q (F0 m 198 ls [.int y0])
def dj_X2_next_38 (p : Program) (l : Launch) (e : Env) (s : State) (m : MethodId) (args : Array Value) (below : List Frame) (meth : Method) (c : Code) (Q : State → Prop) (A : Nat → Prop) (dC : Nat → ClassId) (dI : Nat → Nat → Nat) (a : Nat → Nat) (ac : Nat → ClassId) (g : (St × (St)) → Option (St × (St))) (r : St × (St)) : Prop := ∀ (s0 : St × (St)) (H : Heap) (locs : List Loc) (ls : Array Slot), g s0 = some r → va_P (dC, dI) vwCl (dw_X2s a ac s0) H → va_D A (dw_X2s a ac s0) → va_S A s.heap H locs → lv_has ls 4 [(0, .ref (a 1))] → W p l e (headSpec ow_dm_X2_next ({ frames := 2, cells := 0, slots := 0, locals := 44 })).room s m args below meth c H locs 0 0 Q (F0 m 38 ls [])
def dj_X2_next_0 (p : Program) (l : Launch) (e : Env) (s : State) (m : MethodId) (args : Array Value) (below : List Frame) (meth : Method) (c : Code) (Q : State → Prop) (A : Nat → Prop) (dC : Nat → ClassId) (dI : Nat → Nat → Nat) (a : Nat → Nat) (ac : Nat → ClassId) (g : (St × (St)) → Option (St × (St))) (r : St × (St)) : Prop := ∀ (s0 : St × (St)) (H : Heap) (locs : List Loc) (ls : Array Slot), g s0 = some r → va_P (dC, dI) vwCl (dw_X2s a ac s0) H → va_D A (dw_X2s a ac s0) → va_S A s.heap H locs → lv_has ls 4 [(0, .ref (a 1))] → W p l e (headSpec ow_dm_X2_next ({ frames := 2, cells := 0, slots := 0, locals := 44 })).room s m args below meth c H locs 0 0 Q (F0 m 0 ls [])
set_option maxHeartbeats 40000000 in
set_option maxRecDepth 100000 in
theorem db_X2_next_169 {p : Program} {l : Launch} {e : Env} {s : State} {m : MethodId} {args : Array Value} {below : List Frame} {meth : Method} {c : Code} {Q : State → Prop} {A : Nat → Prop} {dC : Nat → ClassId} {dI : Nat → Nat → Nat} {a : Nat → Nat} {ac : Nat → ClassId} {n : Nat} {r : St × (St)} (C : nd_C p l s m args c A (dC, dI) cX2_next 4 RX2 ow_dm_X2_next (dk_X2s ac)) (K : nd_Kv p l e (headSpec ow_dm_X2_next ({ frames := 2, cells := 0, slots := 0, locals := 44 })).room s m args below meth c Q A (dC, dI) cX2_next (St × (St)) (dw_X2s a ac) r) : dj_X2_next_169 p l e s m args below meth c Q A dC dI a ac (df_X2_next_169 n (a 0)) r := by
  obtain ⟨hlt, hx, hb, hml, hown, hts, hN, hA, hK⟩ := id C
  intro s0 H locs ls h hP hD hS hl
  unfold df_X2_next_169 at h
  exact K _ _ _ _ _ dX2_next_169 (Option.some.inj h).symm hP hD hS
set_option maxHeartbeats 40000000 in
set_option maxRecDepth 100000 in
theorem db_X2_next_154 {p : Program} {l : Launch} {e : Env} {s : State} {m : MethodId} {args : Array Value} {below : List Frame} {meth : Method} {c : Code} {Q : State → Prop} {A : Nat → Prop} {dC : Nat → ClassId} {dI : Nat → Nat → Nat} {a : Nat → Nat} {ac : Nat → ClassId} {n : Nat} {r : St × (St)} (C : nd_C p l s m args c A (dC, dI) cX2_next 4 RX2 ow_dm_X2_next (dk_X2s ac)) (K : nd_Kv p l e (headSpec ow_dm_X2_next ({ frames := 2, cells := 0, slots := 0, locals := 44 })).room s m args below meth c Q A (dC, dI) cX2_next (St × (St)) (dw_X2s a ac) r) : dj_X2_next_154 p l e s m args below meth c Q A dC dI a ac (df_X2_next_154 n (a 0)) r := by
  obtain ⟨hlt, hx, hb, hml, hown, hts, hN, hA, hK⟩ := id C
  intro y1 s0 H locs ls h hP hD hS hl
  unfold df_X2_next_154 at h
  refine va_put (D := (dC, dI)) (ci := 3) (v := .int y1) (ty := .int) (C := RX2) (T := TX2) (N := 20) hx hb hts hi_dm_X2_next_X2 tyX2 tyX2_ok nmX2 hown hK hP hD hS 1 rfl rfl 15 (by decide) (hts (.fieldLink RX2 77 "TimeMachine$Condition" "kind" "I") (List.mem_of_getElem? (i := 8) rfl)) (fun _ h9 => h9) rfl (by decide +kernel) rfl rfl (Nat.le_of_ble_eq_true rfl) dX2_next_154 (fun H locs hP hD hS => ?_)
  obtain ⟨s16, es16, h⟩ := nd_let_e h
  have hP : va_P (dC, dI) vwCl (dw_X2s a ac s16) H := by rw [es16]; exact hP
  have hD : va_D A (dw_X2s a ac s16) := by rw [es16]; exact hD
  refine lv_aload_n hx hb dX2_next_157 rfl (lv_at hl 0 rfl) ?_
  refine va_get (D := (dC, dI)) (ci := 3) (v := .int (sI s16.2 6)) (C := RX2) (T := TX2) (N := 20) hx hb hts hi_dm_X2_next_X2 hown hK hP 1 rfl rfl 15 (by decide) (hts (.fieldLink RX2 77 "TimeMachine$Condition" "kind" "I") (List.mem_of_getElem? (i := 8) rfl)) (fun _ h9 => h9) rfl dX2_next_158 ?_
  refine lv_iconst (v := 1) hx hb dX2_next_161 (by decide) ?_
  refine lv_icmp_ne (tgt := 169) hx hb dX2_next_162 (by decide) (fun c17 => ?_) (fun c17 => ?_)
  · have h := nd_neg h c17
    exact (db_X2_next_169 C K)  s16 _ _ _ h hP hD hS (lv_sub hl [] rfl)
  · have h := nd_pos h c17
    refine lv_aload_n hx hb dX2_next_165 rfl (lv_at hl 0 rfl) ?_
    obtain ⟨s19, hq, h⟩ := nd_b1_e h
    have hPc := hP
    have hDc := hD
    have hKc := hK
    have hFc := nd_rs hD hS hA
    refine nd_cVv (As := []) (rest := []) (w' := dw_X2s a ac s19) ⟨hx, hb, hml, hown, hts⟩ (fun sz => dm_X2_readNumber l hlt dC dI a ac n  s16 hq sz) (cwV 0 hts gi_dm_X2_next_1 rfl rfl rfl (by decide +kernel) ⟨Nat.le_of_ble_eq_true rfl, Nat.le_of_ble_eq_true rfl⟩) hPc hDc hKc hS hA hN (va_recv hKc hPc (ci := 3) (q0 := 1) rfl rfl) rfl hl.1 rfl (Nat.le_of_ble_eq_true rfl) dX2_next_166 (fun H locs hP1 hD1 hk1 hS => ?_)
    have hP := hP1
    have hD := hD1.weaken (fun k q _ h => hFc q.1 h)
    exact (db_X2_next_169 C K)  s19 _ _ _ h hP hD hS (lv_sub hl [] rfl)
set_option maxHeartbeats 40000000 in
set_option maxRecDepth 100000 in
theorem db_X2_next_141 {p : Program} {l : Launch} {e : Env} {s : State} {m : MethodId} {args : Array Value} {below : List Frame} {meth : Method} {c : Code} {Q : State → Prop} {A : Nat → Prop} {dC : Nat → ClassId} {dI : Nat → Nat → Nat} {a : Nat → Nat} {ac : Nat → ClassId} {n : Nat} {r : St × (St)} (C : nd_C p l s m args c A (dC, dI) cX2_next 4 RX2 ow_dm_X2_next (dk_X2s ac)) (K : nd_Kv p l e (headSpec ow_dm_X2_next ({ frames := 2, cells := 0, slots := 0, locals := 44 })).room s m args below meth c Q A (dC, dI) cX2_next (St × (St)) (dw_X2s a ac) r) : dj_X2_next_141 p l e s m args below meth c Q A dC dI a ac (df_X2_next_141 n (a 0)) r := by
  obtain ⟨hlt, hx, hb, hml, hown, hts, hN, hA, hK⟩ := id C
  intro x1 s0 H locs ls h hP hD hS hl
  unfold df_X2_next_141 at h
  refine lv_aload_n hx hb dX2_next_141 rfl (lv_at hl 0 rfl) ?_
  refine lv_iload_n hx hb dX2_next_142 rfl (lv_at hl 1 rfl) ?_
  obtain ⟨q12, s13, hq, h⟩ := nd_b2_e h
  have hPc : va_P (dC, dI) vwCl (dw_P a ac ()) H := nd_p0
  have hDc : va_D A (dw_P a ac ()) := nd_d0
  have hKc : va_K (dC, dI) vwCl (dk_P ac) s := nd_y0 hK
  have hFc : ∀ q, va_A (dw_P a ac ()) H.size q → A q := nd_r0 hS hA
  refine nd_cSi (As := [.int x1]) (rest := [.ref (a 1)]) (q := q12) (w' := dw_P a ac s13) ⟨hx, hb, hml, hown, hts⟩ (fun sz => dm_X2_isLetter l hlt dC dI a ac n (x1) () hq sz) (cwS 1 hts gi_dm_X2_next_0 rfl rfl rfl (by decide +kernel) ⟨Nat.le_of_ble_eq_true rfl, Nat.le_of_ble_eq_true rfl⟩) hPc hDc hKc hS hA hN rfl hl.1 rfl (Nat.le_of_ble_eq_true rfl) dX2_next_143 (fun H locs hP1 hD1 hk1 hS => ?_)
  have hP := nd_n0 hP hk1
  refine lv_if_eq (tgt := 153) hx hb dX2_next_146 (by decide) (fun c15 => ?_) (fun c15 => ?_)
  · have h := nd_pos h c15
    refine lv_iconst (v := 1) hx hb dX2_next_153 (by decide) ?_
    exact (db_X2_next_154 C K) (1) s0 _ _ _ h hP hD hS (lv_sub hl [0] rfl)
  · have h := nd_neg h c15
    refine lv_iconst (v := 2) hx hb dX2_next_149 (by decide) ?_
    refine lv_goto (tgt := 154) hx hb dX2_next_150 (by decide) ?_
    exact (db_X2_next_154 C K) (2) s0 _ _ _ h hP hD hS (lv_sub hl [0] rfl)
set_option maxHeartbeats 40000000 in
set_option maxRecDepth 100000 in
theorem db_X2_next_128 {p : Program} {l : Launch} {e : Env} {s : State} {m : MethodId} {args : Array Value} {below : List Frame} {meth : Method} {c : Code} {Q : State → Prop} {A : Nat → Prop} {dC : Nat → ClassId} {dI : Nat → Nat → Nat} {a : Nat → Nat} {ac : Nat → ClassId} {n : Nat} {r : St × (St)} (C : nd_C p l s m args c A (dC, dI) cX2_next 4 RX2 ow_dm_X2_next (dk_X2s ac)) (K : nd_Kv p l e (headSpec ow_dm_X2_next ({ frames := 2, cells := 0, slots := 0, locals := 44 })).room s m args below meth c Q A (dC, dI) cX2_next (St × (St)) (dw_X2s a ac) r) {g87 : Int32 → (St × (St)) → Option (St × (St))} (J87 : dj_X2_next_87 p l e s m args below meth c Q A dC dI a ac g87 r) : dj_X2_next_128 p l e s m args below meth c Q A dC dI a ac (df_X2_next_128 n (a 0) g87) r := by
  obtain ⟨hlt, hx, hb, hml, hown, hts, hN, hA, hK⟩ := id C
  intro x1 s0 H locs ls h hP hD hS hl
  unfold df_X2_next_128 at h
  refine lv_aload_n hx hb dX2_next_128 rfl (lv_at hl 0 rfl) ?_
  refine lv_dup hx hb dX2_next_129 rfl ?_
  refine va_get (D := (dC, dI)) (ci := 3) (v := .int (sI s0.2 5)) (C := RX2) (T := TX2) (N := 20) hx hb hts hi_dm_X2_next_X2 hown hK hP 1 rfl rfl 14 (by decide) (hts (.fieldLink RX2 49 "TimeMachine$Condition" "at" "I") (List.mem_of_getElem? (i := 1) rfl)) (fun _ h9 => h9) rfl dX2_next_130 ?_
  refine lv_iconst (v := 1) hx hb dX2_next_133 (by decide) ?_
  refine lv_iadd hx hb dX2_next_134 ?_
  refine va_put (D := (dC, dI)) (ci := 3) (v := .int ((sI s0.2 5) + 1)) (ty := .int) (C := RX2) (T := TX2) (N := 20) hx hb hts hi_dm_X2_next_X2 tyX2 tyX2_ok nmX2 hown hK hP hD hS 1 rfl rfl 14 (by decide) (hts (.fieldLink RX2 49 "TimeMachine$Condition" "at" "I") (List.mem_of_getElem? (i := 1) rfl)) (fun _ h9 => h9) rfl (by decide +kernel) rfl rfl (Nat.le_of_ble_eq_true rfl) dX2_next_135 (fun H locs hP hD hS => ?_)
  obtain ⟨s27, es27, h⟩ := nd_let_e h
  have hP : va_P (dC, dI) vwCl (dw_X2s a ac s27) H := by rw [es27]; exact hP
  have hD : va_D A (dw_X2s a ac s27) := by rw [es27]; exact hD
  refine lv_goto (tgt := 87) hx hb dX2_next_138 (by decide) ?_
  exact (J87) (x1) s27 _ _ _ h hP hD hS (lv_sub hl [0, 1] rfl)
set_option maxHeartbeats 40000000 in
set_option maxRecDepth 100000 in
theorem dB_X2_next_87 {p : Program} {l : Launch} {e : Env} {s : State} {m : MethodId} {args : Array Value} {below : List Frame} {meth : Method} {c : Code} {Q : State → Prop} {A : Nat → Prop} {dC : Nat → ClassId} {dI : Nat → Nat → Nat} {a : Nat → Nat} {ac : Nat → ClassId} {n : Nat} {r : St × (St)} (C : nd_C p l s m args c A (dC, dI) cX2_next 4 RX2 ow_dm_X2_next (dk_X2s ac)) (K : nd_Kv p l e (headSpec ow_dm_X2_next ({ frames := 2, cells := 0, slots := 0, locals := 44 })).room s m args below meth c Q A (dC, dI) cX2_next (St × (St)) (dw_X2s a ac) r) {g87 : Int32 → (St × (St)) → Option (St × (St))} (J87 : dj_X2_next_87 p l e s m args below meth c Q A dC dI a ac g87 r) : dj_X2_next_87 p l e s m args below meth c Q A dC dI a ac (dF_X2_next_87 n (a 0) g87) r := by
  obtain ⟨hlt, hx, hb, hml, hown, hts, hN, hA, hK⟩ := id C
  intro x1 s0 H locs ls h hP hD hS hl
  unfold dF_X2_next_87 at h
  refine lv_aload_n hx hb dX2_next_87 rfl (lv_at hl 0 rfl) ?_
  refine va_get (D := (dC, dI)) (ci := 3) (v := .int (sI s0.2 5)) (C := RX2) (T := TX2) (N := 20) hx hb hts hi_dm_X2_next_X2 hown hK hP 1 rfl rfl 14 (by decide) (hts (.fieldLink RX2 49 "TimeMachine$Condition" "at" "I") (List.mem_of_getElem? (i := 1) rfl)) (fun _ h9 => h9) rfl dX2_next_88 ?_
  refine lv_aload_n hx hb dX2_next_91 rfl (lv_at hl 0 rfl) ?_
  refine va_get (D := (dC, dI)) (ci := 3) (v := .int (sI s0.2 4)) (C := RX2) (T := TX2) (N := 20) hx hb hts hi_dm_X2_next_X2 hown hK hP 1 rfl rfl 13 (by decide) (hts (.fieldLink RX2 45 "TimeMachine$Condition" "stop" "I") (List.mem_of_getElem? (i := 2) rfl)) (fun _ h9 => h9) rfl dX2_next_92 ?_
  refine lv_icmp_ge (tgt := 141) hx hb dX2_next_95 (by decide) (fun c11 => ?_) (fun c11 => ?_)
  · have h := nd_pos h c11
    exact (db_X2_next_141 C K) (x1) s0 _ _ _ h hP hD hS (lv_sub hl [0, 1] rfl)
  · have h := nd_neg h c11
    refine lv_aload_n hx hb dX2_next_98 rfl (lv_at hl 0 rfl) ?_
    obtain ⟨o21, h⟩ := nd_o_e h
    refine va_get (D := (dC, dI)) (ci := 3) (v := .ref (a 0)) (C := RX2) (T := TX2) (N := 20) hx hb hts hi_dm_X2_next_X2 hown hK hP 1 rfl rfl 12 (by decide) (hts (.fieldLink RX2 35 "TimeMachine$Condition" "source" "[B") (List.mem_of_getElem? (i := 4) rfl)) (fun _ h9 => h9) (congrArg (fun z => some (va_rf z)) o21) dX2_next_99 ?_
    refine lv_aload_n hx hb dX2_next_102 rfl (lv_at hl 0 rfl) ?_
    refine va_get (D := (dC, dI)) (ci := 3) (v := .int (sI s0.2 5)) (C := RX2) (T := TX2) (N := 20) hx hb hts hi_dm_X2_next_X2 hown hK hP 1 rfl rfl 14 (by decide) (hts (.fieldLink RX2 49 "TimeMachine$Condition" "at" "I") (List.mem_of_getElem? (i := 1) rfl)) (fun _ h9 => h9) rfl dX2_next_103 ?_
    obtain ⟨i22, h⟩ := nd_ck_e h
    refine va_bald (i := (sI s0.2 5)) hx hb hK hP 0 0 rfl rfl i22 dX2_next_106 ?_
    obtain ⟨q23, s24, hq, h⟩ := nd_b2_e h
    have hPc : va_P (dC, dI) vwCl (dw_P a ac ()) H := nd_p0
    have hDc : va_D A (dw_P a ac ()) := nd_d0
    have hKc : va_K (dC, dI) vwCl (dk_P ac) s := nd_y0 hK
    have hFc : ∀ q, va_A (dw_P a ac ()) H.size q → A q := nd_r0 hS hA
    refine nd_cSi (As := [.int (sR s0.1 0 (Int32.toNatClampNeg (sI s0.2 5)))]) (rest := []) (q := q23) (w' := dw_P a ac s24) ⟨hx, hb, hml, hown, hts⟩ (fun sz => dm_X2_isLetter l hlt dC dI a ac n ((sR s0.1 0 (Int32.toNatClampNeg (sI s0.2 5)))) () hq sz) (cwS 1 hts gi_dm_X2_next_0 rfl rfl rfl (by decide +kernel) ⟨Nat.le_of_ble_eq_true rfl, Nat.le_of_ble_eq_true rfl⟩) hPc hDc hKc hS hA hN rfl hl.1 rfl (Nat.le_of_ble_eq_true rfl) dX2_next_107 (fun H locs hP1 hD1 hk1 hS => ?_)
    have hP := nd_n0 hP hk1
    refine lv_if_ne (tgt := 128) hx hb dX2_next_110 (by decide) (fun c26 => ?_) (fun c26 => ?_)
    · have h := nd_neg h c26
      exact (db_X2_next_128 C K J87) (x1) s0 _ _ _ h hP hD hS (lv_sub hl [0, 1] rfl)
    · have h := nd_pos h c26
      refine lv_aload_n hx hb dX2_next_113 rfl (lv_at hl 0 rfl) ?_
      obtain ⟨o28, h⟩ := nd_o_e h
      refine va_get (D := (dC, dI)) (ci := 3) (v := .ref (a 0)) (C := RX2) (T := TX2) (N := 20) hx hb hts hi_dm_X2_next_X2 hown hK hP 1 rfl rfl 12 (by decide) (hts (.fieldLink RX2 35 "TimeMachine$Condition" "source" "[B") (List.mem_of_getElem? (i := 4) rfl)) (fun _ h9 => h9) (congrArg (fun z => some (va_rf z)) o28) dX2_next_114 ?_
      refine lv_aload_n hx hb dX2_next_117 rfl (lv_at hl 0 rfl) ?_
      refine va_get (D := (dC, dI)) (ci := 3) (v := .int (sI s0.2 5)) (C := RX2) (T := TX2) (N := 20) hx hb hts hi_dm_X2_next_X2 hown hK hP 1 rfl rfl 14 (by decide) (hts (.fieldLink RX2 49 "TimeMachine$Condition" "at" "I") (List.mem_of_getElem? (i := 1) rfl)) (fun _ h9 => h9) rfl dX2_next_118 ?_
      obtain ⟨i29, h⟩ := nd_ck_e h
      refine va_bald (i := (sI s0.2 5)) hx hb hK hP 0 0 rfl rfl i29 dX2_next_121 ?_
      obtain ⟨q30, s31, hq, h⟩ := nd_b2_e h
      have hPc : va_P (dC, dI) vwCl (dw_P a ac ()) H := nd_p0
      have hDc : va_D A (dw_P a ac ()) := nd_d0
      have hKc : va_K (dC, dI) vwCl (dk_P ac) s := nd_y0 hK
      have hFc : ∀ q, va_A (dw_P a ac ()) H.size q → A q := nd_r0 hS hA
      refine nd_cSi (As := [.int (sR s0.1 0 (Int32.toNatClampNeg (sI s0.2 5)))]) (rest := []) (q := q30) (w' := dw_P a ac s31) ⟨hx, hb, hml, hown, hts⟩ (fun sz => dm_X2_isDigit l hlt dC dI a ac n ((sR s0.1 0 (Int32.toNatClampNeg (sI s0.2 5)))) () hq sz) (cwS 1 hts gi_dm_X2_next_2 rfl rfl rfl (by decide +kernel) ⟨Nat.le_of_ble_eq_true rfl, Nat.le_of_ble_eq_true rfl⟩) hPc hDc hKc hS hA hN rfl hl.1 rfl (Nat.le_of_ble_eq_true rfl) dX2_next_122 (fun H locs hP1 hD1 hk1 hS => ?_)
      have hP := nd_n0 hP hk1
      refine lv_if_eq (tgt := 141) hx hb dX2_next_125 (by decide) (fun c33 => ?_) (fun c33 => ?_)
      · have h := nd_pos h c33
        exact (db_X2_next_141 C K) (x1) s0 _ _ _ h hP hD hS (lv_sub hl [0, 1] rfl)
      · have h := nd_neg h c33
        exact (db_X2_next_128 C K J87) (x1) s0 _ _ _ h hP hD hS (lv_sub hl [0, 1] rfl)
set_option maxHeartbeats 40000000 in
set_option maxRecDepth 100000 in
theorem db_X2_next_87 {p : Program} {l : Launch} {e : Env} {s : State} {m : MethodId} {args : Array Value} {below : List Frame} {meth : Method} {c : Code} {Q : State → Prop} {A : Nat → Prop} {dC : Nat → ClassId} {dI : Nat → Nat → Nat} {a : Nat → Nat} {ac : Nat → ClassId} {n : Nat} {r : St × (St)} (C : nd_C p l s m args c A (dC, dI) cX2_next 4 RX2 ow_dm_X2_next (dk_X2s ac)) (K : nd_Kv p l e (headSpec ow_dm_X2_next ({ frames := 2, cells := 0, slots := 0, locals := 44 })).room s m args below meth c Q A (dC, dI) cX2_next (St × (St)) (dw_X2s a ac) r) (k : Nat) : dj_X2_next_87 p l e s m args below meth c Q A dC dI a ac (df_X2_next_87 n (a 0) k) r := by
  induction k with
  | zero => intro x1 s0 H locs ls h; exact nomatch (show (none : Option (St × (St))) = some r from h)
  | succ k ih => exact dB_X2_next_87 C K ih
set_option maxHeartbeats 40000000 in
set_option maxRecDepth 100000 in
theorem db_X2_next_255 {p : Program} {l : Launch} {e : Env} {s : State} {m : MethodId} {args : Array Value} {below : List Frame} {meth : Method} {c : Code} {Q : State → Prop} {A : Nat → Prop} {dC : Nat → ClassId} {dI : Nat → Nat → Nat} {a : Nat → Nat} {ac : Nat → ClassId} {n : Nat} {r : St × (St)} (C : nd_C p l s m args c A (dC, dI) cX2_next 4 RX2 ow_dm_X2_next (dk_X2s ac)) (K : nd_Kv p l e (headSpec ow_dm_X2_next ({ frames := 2, cells := 0, slots := 0, locals := 44 })).room s m args below meth c Q A (dC, dI) cX2_next (St × (St)) (dw_X2s a ac) r) : dj_X2_next_255 p l e s m args below meth c Q A dC dI a ac (df_X2_next_255 n (a 0)) r := by
  obtain ⟨hlt, hx, hb, hml, hown, hts, hN, hA, hK⟩ := id C
  intro y1 y2 s0 H locs ls h hP hD hS hl
  unfold df_X2_next_255 at h
  refine lv_iadd hx hb dX2_next_255 ?_
  refine va_put (D := (dC, dI)) (ci := 3) (v := .int (y1 + y2)) (ty := .int) (C := RX2) (T := TX2) (N := 20) hx hb hts hi_dm_X2_next_X2 tyX2 tyX2_ok nmX2 hown hK hP hD hS 1 rfl rfl 14 (by decide) (hts (.fieldLink RX2 49 "TimeMachine$Condition" "at" "I") (List.mem_of_getElem? (i := 1) rfl)) (fun _ h9 => h9) rfl (by decide +kernel) rfl rfl (Nat.le_of_ble_eq_true rfl) dX2_next_256 (fun H locs hP hD hS => ?_)
  obtain ⟨s50, es50, h⟩ := nd_let_e h
  have hP : va_P (dC, dI) vwCl (dw_X2s a ac s50) H := by rw [es50]; exact hP
  have hD : va_D A (dw_X2s a ac s50) := by rw [es50]; exact hD
  exact K _ _ _ _ _ dX2_next_259 (Option.some.inj h).symm hP hD hS
set_option maxHeartbeats 40000000 in
set_option maxRecDepth 100000 in
theorem db_X2_next_238 {p : Program} {l : Launch} {e : Env} {s : State} {m : MethodId} {args : Array Value} {below : List Frame} {meth : Method} {c : Code} {Q : State → Prop} {A : Nat → Prop} {dC : Nat → ClassId} {dI : Nat → Nat → Nat} {a : Nat → Nat} {ac : Nat → ClassId} {n : Nat} {r : St × (St)} (C : nd_C p l s m args c A (dC, dI) cX2_next 4 RX2 ow_dm_X2_next (dk_X2s ac)) (K : nd_Kv p l e (headSpec ow_dm_X2_next ({ frames := 2, cells := 0, slots := 0, locals := 44 })).room s m args below meth c Q A (dC, dI) cX2_next (St × (St)) (dw_X2s a ac) r) : dj_X2_next_238 p l e s m args below meth c Q A dC dI a ac (df_X2_next_238 n (a 0)) r := by
  obtain ⟨hlt, hx, hb, hml, hown, hts, hN, hA, hK⟩ := id C
  intro x3 y1 s0 H locs ls h hP hD hS hl
  unfold df_X2_next_238 at h
  refine va_put (D := (dC, dI)) (ci := 3) (v := .int y1) (ty := .int) (C := RX2) (T := TX2) (N := 20) hx hb hts hi_dm_X2_next_X2 tyX2 tyX2_ok nmX2 hown hK hP hD hS 1 rfl rfl 15 (by decide) (hts (.fieldLink RX2 77 "TimeMachine$Condition" "kind" "I") (List.mem_of_getElem? (i := 8) rfl)) (fun _ h9 => h9) rfl (by decide +kernel) rfl rfl (Nat.le_of_ble_eq_true rfl) dX2_next_238 (fun H locs hP hD hS => ?_)
  obtain ⟨s48, es48, h⟩ := nd_let_e h
  have hP : va_P (dC, dI) vwCl (dw_X2s a ac s48) H := by rw [es48]; exact hP
  have hD : va_D A (dw_X2s a ac s48) := by rw [es48]; exact hD
  refine lv_aload_n hx hb dX2_next_241 rfl (lv_at hl 0 rfl) ?_
  refine lv_dup hx hb dX2_next_242 rfl ?_
  refine va_get (D := (dC, dI)) (ci := 3) (v := .int (sI s48.2 5)) (C := RX2) (T := TX2) (N := 20) hx hb hts hi_dm_X2_next_X2 hown hK hP 1 rfl rfl 14 (by decide) (hts (.fieldLink RX2 49 "TimeMachine$Condition" "at" "I") (List.mem_of_getElem? (i := 1) rfl)) (fun _ h9 => h9) rfl dX2_next_243 ?_
  refine lv_iload_n hx hb dX2_next_246 rfl (lv_at hl 1 rfl) ?_
  refine lv_if_eq (tgt := 254) hx hb dX2_next_247 (by decide) (fun c49 => ?_) (fun c49 => ?_)
  · have h := nd_pos h c49
    refine lv_iconst (v := 1) hx hb dX2_next_254 (by decide) ?_
    exact (db_X2_next_255 C K) ((sI s48.2 5)) (1) s48 _ _ _ h hP hD hS (lv_sub hl [] rfl)
  · have h := nd_neg h c49
    refine lv_iconst (v := 2) hx hb dX2_next_250 (by decide) ?_
    refine lv_goto (tgt := 255) hx hb dX2_next_251 (by decide) ?_
    exact (db_X2_next_255 C K) ((sI s48.2 5)) (2) s48 _ _ _ h hP hD hS (lv_sub hl [] rfl)
set_option maxHeartbeats 40000000 in
set_option maxRecDepth 100000 in
theorem db_X2_next_220 {p : Program} {l : Launch} {e : Env} {s : State} {m : MethodId} {args : Array Value} {below : List Frame} {meth : Method} {c : Code} {Q : State → Prop} {A : Nat → Prop} {dC : Nat → ClassId} {dI : Nat → Nat → Nat} {a : Nat → Nat} {ac : Nat → ClassId} {n : Nat} {r : St × (St)} (C : nd_C p l s m args c A (dC, dI) cX2_next 4 RX2 ow_dm_X2_next (dk_X2s ac)) (K : nd_Kv p l e (headSpec ow_dm_X2_next ({ frames := 2, cells := 0, slots := 0, locals := 44 })).room s m args below meth c Q A (dC, dI) cX2_next (St × (St)) (dw_X2s a ac) r) : dj_X2_next_220 p l e s m args below meth c Q A dC dI a ac (df_X2_next_220 n (a 0)) r := by
  obtain ⟨hlt, hx, hb, hml, hown, hts, hN, hA, hK⟩ := id C
  intro x3 y1 s0 H locs ls h hP hD hS hl
  unfold df_X2_next_220 at h
  refine va_put (D := (dC, dI)) (ci := 3) (v := .long y1) (ty := .long) (C := RX2) (T := TX2) (N := 20) hx hb hts hi_dm_X2_next_X2 tyX2 tyX2_ok nmX2 hown hK hP hD hS 1 rfl rfl 17 (by decide) (hts (.fieldLink RX2 110 "TimeMachine$Condition" "number" "J") (List.mem_of_getElem? (i := 18) rfl)) (fun _ h9 => h9) rfl (by decide +kernel) rfl rfl (Nat.le_of_ble_eq_true rfl) dX2_next_220 (fun H locs hP hD hS => ?_)
  obtain ⟨s46, es46, h⟩ := nd_let_e h
  have hP : va_P (dC, dI) vwCl (dw_X2s a ac s46) H := by rw [es46]; exact hP
  have hD : va_D A (dw_X2s a ac s46) := by rw [es46]; exact hD
  refine lv_aload_n hx hb dX2_next_223 rfl (lv_at hl 0 rfl) ?_
  refine lv_aload_n hx hb dX2_next_224 rfl (lv_at hl 0 rfl) ?_
  refine va_get (D := (dC, dI)) (ci := 3) (v := .long (sL s46.2 0)) (C := RX2) (T := TX2) (N := 20) hx hb hts hi_dm_X2_next_X2 hown hK hP 1 rfl rfl 17 (by decide) (hts (.fieldLink RX2 110 "TimeMachine$Condition" "number" "J") (List.mem_of_getElem? (i := 18) rfl)) (fun _ h9 => h9) rfl dX2_next_225 ?_
  refine lv_lconst (v := 0) hx hb dX2_next_228 (by decide) ?_
  refine W.lcmp hx hb dX2_next_229 ?_
  refine lv_if_eq (tgt := 237) hx hb dX2_next_230 (by decide) (fun c47 => ?_) (fun c47 => ?_)
  · have h := nd_pos h c47
    refine lv_iconst (v := 4) hx hb dX2_next_237 (by decide) ?_
    exact (db_X2_next_238 C K) (x3) (4) s46 _ _ _ h hP hD hS (lv_sub hl [0, 1] rfl)
  · have h := nd_neg h c47
    refine lv_iconst (v := 3) hx hb dX2_next_233 (by decide) ?_
    refine lv_goto (tgt := 238) hx hb dX2_next_234 (by decide) ?_
    exact (db_X2_next_238 C K) (x3) (3) s46 _ _ _ h hP hD hS (lv_sub hl [0, 1] rfl)
set_option maxHeartbeats 40000000 in
set_option maxRecDepth 100000 in
theorem db_X2_next_198 {p : Program} {l : Launch} {e : Env} {s : State} {m : MethodId} {args : Array Value} {below : List Frame} {meth : Method} {c : Code} {Q : State → Prop} {A : Nat → Prop} {dC : Nat → ClassId} {dI : Nat → Nat → Nat} {a : Nat → Nat} {ac : Nat → ClassId} {n : Nat} {r : St × (St)} (C : nd_C p l s m args c A (dC, dI) cX2_next 4 RX2 ow_dm_X2_next (dk_X2s ac)) (K : nd_Kv p l e (headSpec ow_dm_X2_next ({ frames := 2, cells := 0, slots := 0, locals := 44 })).room s m args below meth c Q A (dC, dI) cX2_next (St × (St)) (dw_X2s a ac) r) : dj_X2_next_198 p l e s m args below meth c Q A dC dI a ac (df_X2_next_198 n (a 0)) r := by
  obtain ⟨hlt, hx, hb, hml, hown, hts, hN, hA, hK⟩ := id C
  intro x1 y0 s0 H locs ls h hP hD hS hl
  unfold df_X2_next_198 at h
  refine lv_istore_n (lv' := [(2, .int y0), (0, .ref (a 1)), (1, .int x1)]) hx hb dX2_next_198 rfl hl (by decide) rfl (fun ls hl => ?_)
  refine lv_iload_n hx hb dX2_next_199 rfl (lv_at hl 2 rfl) ?_
  refine lv_iload_n hx hb dX2_next_200 rfl (lv_at hl 0 rfl) ?_
  obtain ⟨q39, s40, hq, h⟩ := nd_b2_e h
  have hPc : va_P (dC, dI) vwCl (dw_P a ac ()) H := nd_p0
  have hDc : va_D A (dw_P a ac ()) := nd_d0
  have hKc : va_K (dC, dI) vwCl (dk_P ac) s := nd_y0 hK
  have hFc : ∀ q, va_A (dw_P a ac ()) H.size q → A q := nd_r0 hS hA
  refine nd_cSi (As := [.int x1, .int y0]) (rest := []) (q := q39) (w' := dw_P a ac s40) ⟨hx, hb, hml, hown, hts⟩ (fun sz => dm_X2_pair l hlt dC dI a ac n (x1) (y0) () hq sz) (cwS 2 hts gi_dm_X2_next_3 rfl rfl rfl (by decide +kernel) ⟨Nat.le_of_ble_eq_true rfl, Nat.le_of_ble_eq_true rfl⟩) hPc hDc hKc hS hA hN rfl hl.1 rfl (Nat.le_of_ble_eq_true rfl) dX2_next_201 (fun H locs hP1 hD1 hk1 hS => ?_)
  have hP := nd_n0 hP hk1
  refine lv_istore_n (lv' := [(3, .int q39), (2, .int y0), (0, .ref (a 1)), (1, .int x1)]) hx hb dX2_next_204 rfl hl (by decide) rfl (fun ls hl => ?_)
  refine lv_aload_n hx hb dX2_next_205 rfl (lv_at hl 2 rfl) ?_
  refine lv_iload_n hx hb dX2_next_206 rfl (lv_at hl 0 rfl) ?_
  refine lv_if_eq (tgt := 215) hx hb dX2_next_207 (by decide) (fun c42 => ?_) (fun c42 => ?_)
  · have h := nd_pos h c42
    refine lv_iload_n hx hb dX2_next_215 rfl (lv_at hl 3 rfl) ?_
    obtain ⟨q43, s44, hq, h⟩ := nd_b2_e h
    have hPc : va_P (dC, dI) vwCl (dw_P a ac ()) H := nd_p0
    have hDc : va_D A (dw_P a ac ()) := nd_d0
    have hKc : va_K (dC, dI) vwCl (dk_P ac) s := nd_y0 hK
    have hFc : ∀ q, va_A (dw_P a ac ()) H.size q → A q := nd_r0 hS hA
    refine nd_cSi (As := [.int x1]) (rest := [.ref (a 1)]) (q := q43) (w' := dw_P a ac s44) ⟨hx, hb, hml, hown, hts⟩ (fun sz => dm_X2_alone l hlt dC dI a ac n (x1) () hq sz) (cwS 1 hts gi_dm_X2_next_4 rfl rfl rfl (by decide +kernel) ⟨Nat.le_of_ble_eq_true rfl, Nat.le_of_ble_eq_true rfl⟩) hPc hDc hKc hS hA hN rfl hl.1 rfl (Nat.le_of_ble_eq_true rfl) dX2_next_216 (fun H locs hP1 hD1 hk1 hS => ?_)
    have hP := nd_n0 hP hk1
    refine lv_i2l hx hb dX2_next_219 rfl ?_
    exact (db_X2_next_220 C K) (q39) ((q43.toInt64)) s0 _ _ _ h hP hD hS (lv_sub hl [2, 0] rfl)
  · have h := nd_neg h c42
    refine lv_iload_n hx hb dX2_next_210 rfl (lv_at hl 0 rfl) ?_
    refine lv_i2l hx hb dX2_next_211 rfl ?_
    refine lv_goto (tgt := 220) hx hb dX2_next_212 (by decide) ?_
    exact (db_X2_next_220 C K) (q39) ((q39.toInt64)) s0 _ _ _ h hP hD hS (lv_sub hl [2, 0] rfl)
set_option maxHeartbeats 40000000 in
set_option maxRecDepth 100000 in
theorem db_X2_next_38 {p : Program} {l : Launch} {e : Env} {s : State} {m : MethodId} {args : Array Value} {below : List Frame} {meth : Method} {c : Code} {Q : State → Prop} {A : Nat → Prop} {dC : Nat → ClassId} {dI : Nat → Nat → Nat} {a : Nat → Nat} {ac : Nat → ClassId} {n : Nat} {r : St × (St)} (C : nd_C p l s m args c A (dC, dI) cX2_next 4 RX2 ow_dm_X2_next (dk_X2s ac)) (K : nd_Kv p l e (headSpec ow_dm_X2_next ({ frames := 2, cells := 0, slots := 0, locals := 44 })).room s m args below meth c Q A (dC, dI) cX2_next (St × (St)) (dw_X2s a ac) r) : dj_X2_next_38 p l e s m args below meth c Q A dC dI a ac (df_X2_next_38 n (a 0)) r := by
  obtain ⟨hlt, hx, hb, hml, hown, hts, hN, hA, hK⟩ := id C
  intro s0 H locs ls h hP hD hS hl
  unfold df_X2_next_38 at h
  refine lv_aload_n hx hb dX2_next_38 rfl (lv_at hl 0 rfl) ?_
  refine lv_aload_n hx hb dX2_next_39 rfl (lv_at hl 0 rfl) ?_
  refine va_get (D := (dC, dI)) (ci := 3) (v := .int (sI s0.2 5)) (C := RX2) (T := TX2) (N := 20) hx hb hts hi_dm_X2_next_X2 hown hK hP 1 rfl rfl 14 (by decide) (hts (.fieldLink RX2 49 "TimeMachine$Condition" "at" "I") (List.mem_of_getElem? (i := 1) rfl)) (fun _ h9 => h9) rfl dX2_next_40 ?_
  refine va_put (D := (dC, dI)) (ci := 3) (v := .int (sI s0.2 5)) (ty := .int) (C := RX2) (T := TX2) (N := 20) hx hb hts hi_dm_X2_next_X2 tyX2 tyX2_ok nmX2 hown hK hP hD hS 1 rfl rfl 16 (by decide) (hts (.fieldLink RX2 90 "TimeMachine$Condition" "from" "I") (List.mem_of_getElem? (i := 3) rfl)) (fun _ h9 => h9) rfl (by decide +kernel) rfl rfl (Nat.le_of_ble_eq_true rfl) dX2_next_43 (fun H locs hP hD hS => ?_)
  obtain ⟨s2, es2, h⟩ := nd_let_e h
  have hP : va_P (dC, dI) vwCl (dw_X2s a ac s2) H := by rw [es2]; exact hP
  have hD : va_D A (dw_X2s a ac s2) := by rw [es2]; exact hD
  refine lv_aload_n hx hb dX2_next_46 rfl (lv_at hl 0 rfl) ?_
  refine va_get (D := (dC, dI)) (ci := 3) (v := .int (sI s2.2 5)) (C := RX2) (T := TX2) (N := 20) hx hb hts hi_dm_X2_next_X2 hown hK hP 1 rfl rfl 14 (by decide) (hts (.fieldLink RX2 49 "TimeMachine$Condition" "at" "I") (List.mem_of_getElem? (i := 1) rfl)) (fun _ h9 => h9) rfl dX2_next_47 ?_
  refine lv_aload_n hx hb dX2_next_50 rfl (lv_at hl 0 rfl) ?_
  refine va_get (D := (dC, dI)) (ci := 3) (v := .int (sI s2.2 4)) (C := RX2) (T := TX2) (N := 20) hx hb hts hi_dm_X2_next_X2 hown hK hP 1 rfl rfl 13 (by decide) (hts (.fieldLink RX2 45 "TimeMachine$Condition" "stop" "I") (List.mem_of_getElem? (i := 2) rfl)) (fun _ h9 => h9) rfl dX2_next_51 ?_
  refine lv_icmp_lt (tgt := 63) hx hb dX2_next_54 (by decide) (fun c3 => ?_) (fun c3 => ?_)
  · have h := nd_pos h c3
    refine lv_aload_n hx hb dX2_next_63 rfl (lv_at hl 0 rfl) ?_
    obtain ⟨o4, h⟩ := nd_o_e h
    refine va_get (D := (dC, dI)) (ci := 3) (v := .ref (a 0)) (C := RX2) (T := TX2) (N := 20) hx hb hts hi_dm_X2_next_X2 hown hK hP 1 rfl rfl 12 (by decide) (hts (.fieldLink RX2 35 "TimeMachine$Condition" "source" "[B") (List.mem_of_getElem? (i := 4) rfl)) (fun _ h9 => h9) (congrArg (fun z => some (va_rf z)) o4) dX2_next_64 ?_
    refine lv_aload_n hx hb dX2_next_67 rfl (lv_at hl 0 rfl) ?_
    refine va_get (D := (dC, dI)) (ci := 3) (v := .int (sI s2.2 5)) (C := RX2) (T := TX2) (N := 20) hx hb hts hi_dm_X2_next_X2 hown hK hP 1 rfl rfl 14 (by decide) (hts (.fieldLink RX2 49 "TimeMachine$Condition" "at" "I") (List.mem_of_getElem? (i := 1) rfl)) (fun _ h9 => h9) rfl dX2_next_68 ?_
    obtain ⟨i5, h⟩ := nd_ck_e h
    refine va_bald (i := (sI s2.2 5)) hx hb hK hP 0 0 rfl rfl i5 dX2_next_71 ?_
    refine lv_topi (fun z6 ez6 => ?_)
    have h := nd_at h ez6
    refine lv_istore_n (lv' := [(1, .int z6), (0, .ref (a 1))]) hx hb dX2_next_72 rfl hl (by decide) rfl (fun ls hl => ?_)
    refine lv_iload_n hx hb dX2_next_73 rfl (lv_at hl 0 rfl) ?_
    obtain ⟨q7, s8, hq, h⟩ := nd_b2_e h
    have hPc : va_P (dC, dI) vwCl (dw_P a ac ()) H := nd_p0
    have hDc : va_D A (dw_P a ac ()) := nd_d0
    have hKc : va_K (dC, dI) vwCl (dk_P ac) s := nd_y0 hK
    have hFc : ∀ q, va_A (dw_P a ac ()) H.size q → A q := nd_r0 hS hA
    refine nd_cSi (As := [.int z6]) (rest := []) (q := q7) (w' := dw_P a ac s8) ⟨hx, hb, hml, hown, hts⟩ (fun sz => dm_X2_isLetter l hlt dC dI a ac n (z6) () hq sz) (cwS 1 hts gi_dm_X2_next_0 rfl rfl rfl (by decide +kernel) ⟨Nat.le_of_ble_eq_true rfl, Nat.le_of_ble_eq_true rfl⟩) hPc hDc hKc hS hA hN rfl hl.1 rfl (Nat.le_of_ble_eq_true rfl) dX2_next_74 (fun H locs hP1 hD1 hk1 hS => ?_)
    have hP := nd_n0 hP hk1
    refine lv_if_ne (tgt := 87) hx hb dX2_next_77 (by decide) (fun c10 => ?_) (fun c10 => ?_)
    · have h := nd_neg h c10
      exact (db_X2_next_87 C K n) (z6) s2 _ _ _ h hP hD hS (lv_sub hl [1, 0] rfl)
    · have h := nd_pos h c10
      refine lv_iload_n hx hb dX2_next_80 rfl (lv_at hl 0 rfl) ?_
      obtain ⟨q34, s35, hq, h⟩ := nd_b2_e h
      have hPc : va_P (dC, dI) vwCl (dw_P a ac ()) H := nd_p0
      have hDc : va_D A (dw_P a ac ()) := nd_d0
      have hKc : va_K (dC, dI) vwCl (dk_P ac) s := nd_y0 hK
      have hFc : ∀ q, va_A (dw_P a ac ()) H.size q → A q := nd_r0 hS hA
      refine nd_cSi (As := [.int z6]) (rest := []) (q := q34) (w' := dw_P a ac s35) ⟨hx, hb, hml, hown, hts⟩ (fun sz => dm_X2_isDigit l hlt dC dI a ac n (z6) () hq sz) (cwS 1 hts gi_dm_X2_next_2 rfl rfl rfl (by decide +kernel) ⟨Nat.le_of_ble_eq_true rfl, Nat.le_of_ble_eq_true rfl⟩) hPc hDc hKc hS hA hN rfl hl.1 rfl (Nat.le_of_ble_eq_true rfl) dX2_next_81 (fun H locs hP1 hD1 hk1 hS => ?_)
      have hP := nd_n0 hP hk1
      refine lv_if_eq (tgt := 170) hx hb dX2_next_84 (by decide) (fun c37 => ?_) (fun c37 => ?_)
      · have h := nd_pos h c37
        refine lv_aload_n hx hb dX2_next_170 rfl (lv_at hl 1 rfl) ?_
        refine va_get (D := (dC, dI)) (ci := 3) (v := .int (sI s2.2 5)) (C := RX2) (T := TX2) (N := 20) hx hb hts hi_dm_X2_next_X2 hown hK hP 1 rfl rfl 14 (by decide) (hts (.fieldLink RX2 49 "TimeMachine$Condition" "at" "I") (List.mem_of_getElem? (i := 1) rfl)) (fun _ h9 => h9) rfl dX2_next_171 ?_
        refine lv_iconst (v := 1) hx hb dX2_next_174 (by decide) ?_
        refine lv_iadd hx hb dX2_next_175 ?_
        refine lv_aload_n hx hb dX2_next_176 rfl (lv_at hl 1 rfl) ?_
        refine va_get (D := (dC, dI)) (ci := 3) (v := .int (sI s2.2 4)) (C := RX2) (T := TX2) (N := 20) hx hb hts hi_dm_X2_next_X2 hown hK hP 1 rfl rfl 13 (by decide) (hts (.fieldLink RX2 45 "TimeMachine$Condition" "stop" "I") (List.mem_of_getElem? (i := 2) rfl)) (fun _ h9 => h9) rfl dX2_next_177 ?_
        refine lv_icmp_ge (tgt := 197) hx hb dX2_next_180 (by decide) (fun c38 => ?_) (fun c38 => ?_)
        · have h := nd_pos h c38
          refine lv_iconst (v := 0) hx hb dX2_next_197 (by decide) ?_
          exact (db_X2_next_198 C K) (z6) (0) s2 _ _ _ h hP hD hS (lv_sub hl [1, 0] rfl)
        · have h := nd_neg h c38
          refine lv_aload_n hx hb dX2_next_183 rfl (lv_at hl 1 rfl) ?_
          obtain ⟨o51, h⟩ := nd_o_e h
          refine va_get (D := (dC, dI)) (ci := 3) (v := .ref (a 0)) (C := RX2) (T := TX2) (N := 20) hx hb hts hi_dm_X2_next_X2 hown hK hP 1 rfl rfl 12 (by decide) (hts (.fieldLink RX2 35 "TimeMachine$Condition" "source" "[B") (List.mem_of_getElem? (i := 4) rfl)) (fun _ h9 => h9) (congrArg (fun z => some (va_rf z)) o51) dX2_next_184 ?_
          refine lv_aload_n hx hb dX2_next_187 rfl (lv_at hl 1 rfl) ?_
          refine va_get (D := (dC, dI)) (ci := 3) (v := .int (sI s2.2 5)) (C := RX2) (T := TX2) (N := 20) hx hb hts hi_dm_X2_next_X2 hown hK hP 1 rfl rfl 14 (by decide) (hts (.fieldLink RX2 49 "TimeMachine$Condition" "at" "I") (List.mem_of_getElem? (i := 1) rfl)) (fun _ h9 => h9) rfl dX2_next_188 ?_
          refine lv_iconst (v := 1) hx hb dX2_next_191 (by decide) ?_
          refine lv_iadd hx hb dX2_next_192 ?_
          obtain ⟨i52, h⟩ := nd_ck_e h
          refine va_bald (i := ((sI s2.2 5) + 1)) hx hb hK hP 0 0 rfl rfl i52 dX2_next_193 ?_
          refine lv_goto (tgt := 198) hx hb dX2_next_194 (by decide) ?_
          exact (db_X2_next_198 C K) (z6) ((sR s2.1 0 (Int32.toNatClampNeg ((sI s2.2 5) + 1)))) s2 _ _ _ h hP hD hS (lv_sub hl [1, 0] rfl)
      · have h := nd_neg h c37
        exact (db_X2_next_87 C K n) (z6) s2 _ _ _ h hP hD hS (lv_sub hl [1, 0] rfl)
  · have h := nd_neg h c3
    refine lv_aload_n hx hb dX2_next_57 rfl (lv_at hl 0 rfl) ?_
    refine lv_iconst (v := 0) hx hb dX2_next_58 (by decide) ?_
    refine va_put (D := (dC, dI)) (ci := 3) (v := .int 0) (ty := .int) (C := RX2) (T := TX2) (N := 20) hx hb hts hi_dm_X2_next_X2 tyX2 tyX2_ok nmX2 hown hK hP hD hS 1 rfl rfl 15 (by decide) (hts (.fieldLink RX2 77 "TimeMachine$Condition" "kind" "I") (List.mem_of_getElem? (i := 8) rfl)) (fun _ h9 => h9) rfl (by decide +kernel) rfl rfl (Nat.le_of_ble_eq_true rfl) dX2_next_59 (fun H locs hP hD hS => ?_)
    obtain ⟨s53, es53, h⟩ := nd_let_e h
    have hP : va_P (dC, dI) vwCl (dw_X2s a ac s53) H := by rw [es53]; exact hP
    have hD : va_D A (dw_X2s a ac s53) := by rw [es53]; exact hD
    exact K _ _ _ _ _ dX2_next_62 (Option.some.inj h).symm hP hD hS
set_option maxHeartbeats 40000000 in
set_option maxRecDepth 100000 in
theorem dB_X2_next_0 {p : Program} {l : Launch} {e : Env} {s : State} {m : MethodId} {args : Array Value} {below : List Frame} {meth : Method} {c : Code} {Q : State → Prop} {A : Nat → Prop} {dC : Nat → ClassId} {dI : Nat → Nat → Nat} {a : Nat → Nat} {ac : Nat → ClassId} {n : Nat} {r : St × (St)} (C : nd_C p l s m args c A (dC, dI) cX2_next 4 RX2 ow_dm_X2_next (dk_X2s ac)) (K : nd_Kv p l e (headSpec ow_dm_X2_next ({ frames := 2, cells := 0, slots := 0, locals := 44 })).room s m args below meth c Q A (dC, dI) cX2_next (St × (St)) (dw_X2s a ac) r) {g0 : (St × (St)) → Option (St × (St))} (J0 : dj_X2_next_0 p l e s m args below meth c Q A dC dI a ac g0 r) : dj_X2_next_0 p l e s m args below meth c Q A dC dI a ac (dF_X2_next_0 n (a 0) g0) r := by
  obtain ⟨hlt, hx, hb, hml, hown, hts, hN, hA, hK⟩ := id C
  intro s0 H locs ls h hP hD hS hl
  unfold dF_X2_next_0 at h
  refine lv_aload_n hx hb dX2_next_0 rfl (lv_at hl 0 rfl) ?_
  refine va_get (D := (dC, dI)) (ci := 3) (v := .int (sI s0.2 5)) (C := RX2) (T := TX2) (N := 20) hx hb hts hi_dm_X2_next_X2 hown hK hP 1 rfl rfl 14 (by decide) (hts (.fieldLink RX2 49 "TimeMachine$Condition" "at" "I") (List.mem_of_getElem? (i := 1) rfl)) (fun _ h9 => h9) rfl dX2_next_1 ?_
  refine lv_aload_n hx hb dX2_next_4 rfl (lv_at hl 0 rfl) ?_
  refine va_get (D := (dC, dI)) (ci := 3) (v := .int (sI s0.2 4)) (C := RX2) (T := TX2) (N := 20) hx hb hts hi_dm_X2_next_X2 hown hK hP 1 rfl rfl 13 (by decide) (hts (.fieldLink RX2 45 "TimeMachine$Condition" "stop" "I") (List.mem_of_getElem? (i := 2) rfl)) (fun _ h9 => h9) rfl dX2_next_5 ?_
  refine lv_icmp_ge (tgt := 38) hx hb dX2_next_8 (by decide) (fun c1 => ?_) (fun c1 => ?_)
  · have h := nd_pos h c1
    exact (db_X2_next_38 C K)  s0 _ _ _ h hP hD hS (lv_sub hl [0] rfl)
  · have h := nd_neg h c1
    refine lv_aload_n hx hb dX2_next_11 rfl (lv_at hl 0 rfl) ?_
    obtain ⟨o54, h⟩ := nd_o_e h
    refine va_get (D := (dC, dI)) (ci := 3) (v := .ref (a 0)) (C := RX2) (T := TX2) (N := 20) hx hb hts hi_dm_X2_next_X2 hown hK hP 1 rfl rfl 12 (by decide) (hts (.fieldLink RX2 35 "TimeMachine$Condition" "source" "[B") (List.mem_of_getElem? (i := 4) rfl)) (fun _ h9 => h9) (congrArg (fun z => some (va_rf z)) o54) dX2_next_12 ?_
    refine lv_aload_n hx hb dX2_next_15 rfl (lv_at hl 0 rfl) ?_
    refine va_get (D := (dC, dI)) (ci := 3) (v := .int (sI s0.2 5)) (C := RX2) (T := TX2) (N := 20) hx hb hts hi_dm_X2_next_X2 hown hK hP 1 rfl rfl 14 (by decide) (hts (.fieldLink RX2 49 "TimeMachine$Condition" "at" "I") (List.mem_of_getElem? (i := 1) rfl)) (fun _ h9 => h9) rfl dX2_next_16 ?_
    obtain ⟨i55, h⟩ := nd_ck_e h
    refine va_bald (i := (sI s0.2 5)) hx hb hK hP 0 0 rfl rfl i55 dX2_next_19 ?_
    refine lv_bipush (v := 32) hx hb dX2_next_20 (by decide) ?_
    refine lv_icmp_ne (tgt := 38) hx hb dX2_next_22 (by decide) (fun c56 => ?_) (fun c56 => ?_)
    · have h := nd_neg h c56
      exact (db_X2_next_38 C K)  s0 _ _ _ h hP hD hS (lv_sub hl [0] rfl)
    · have h := nd_pos h c56
      refine lv_aload_n hx hb dX2_next_25 rfl (lv_at hl 0 rfl) ?_
      refine lv_dup hx hb dX2_next_26 rfl ?_
      refine va_get (D := (dC, dI)) (ci := 3) (v := .int (sI s0.2 5)) (C := RX2) (T := TX2) (N := 20) hx hb hts hi_dm_X2_next_X2 hown hK hP 1 rfl rfl 14 (by decide) (hts (.fieldLink RX2 49 "TimeMachine$Condition" "at" "I") (List.mem_of_getElem? (i := 1) rfl)) (fun _ h9 => h9) rfl dX2_next_27 ?_
      refine lv_iconst (v := 1) hx hb dX2_next_30 (by decide) ?_
      refine lv_iadd hx hb dX2_next_31 ?_
      refine va_put (D := (dC, dI)) (ci := 3) (v := .int ((sI s0.2 5) + 1)) (ty := .int) (C := RX2) (T := TX2) (N := 20) hx hb hts hi_dm_X2_next_X2 tyX2 tyX2_ok nmX2 hown hK hP hD hS 1 rfl rfl 14 (by decide) (hts (.fieldLink RX2 49 "TimeMachine$Condition" "at" "I") (List.mem_of_getElem? (i := 1) rfl)) (fun _ h9 => h9) rfl (by decide +kernel) rfl rfl (Nat.le_of_ble_eq_true rfl) dX2_next_32 (fun H locs hP hD hS => ?_)
      obtain ⟨s57, es57, h⟩ := nd_let_e h
      have hP : va_P (dC, dI) vwCl (dw_X2s a ac s57) H := by rw [es57]; exact hP
      have hD : va_D A (dw_X2s a ac s57) := by rw [es57]; exact hD
      refine lv_goto (tgt := 0) hx hb dX2_next_35 (by decide) ?_
      exact (J0)  s57 _ _ _ h hP hD hS (lv_sub hl [0] rfl)
set_option maxHeartbeats 40000000 in
set_option maxRecDepth 100000 in
theorem db_X2_next_0 {p : Program} {l : Launch} {e : Env} {s : State} {m : MethodId} {args : Array Value} {below : List Frame} {meth : Method} {c : Code} {Q : State → Prop} {A : Nat → Prop} {dC : Nat → ClassId} {dI : Nat → Nat → Nat} {a : Nat → Nat} {ac : Nat → ClassId} {n : Nat} {r : St × (St)} (C : nd_C p l s m args c A (dC, dI) cX2_next 4 RX2 ow_dm_X2_next (dk_X2s ac)) (K : nd_Kv p l e (headSpec ow_dm_X2_next ({ frames := 2, cells := 0, slots := 0, locals := 44 })).room s m args below meth c Q A (dC, dI) cX2_next (St × (St)) (dw_X2s a ac) r) (k : Nat) : dj_X2_next_0 p l e s m args below meth c Q A dC dI a ac (df_X2_next_0 n (a 0) k) r := by
  induction k with
  | zero => intro s0 H locs ls h; exact nomatch (show (none : Option (St × (St))) = some r from h)
  | succ k ih => exact dB_X2_next_0 C K ih
set_option maxHeartbeats 40000000 in
set_option maxRecDepth 100000 in
theorem dm_X2_next (l : Launch) (hlt : l.stackTraces = false) (dC : Nat → ClassId) (dI : Nat → Nat → Nat) (a : Nat → Nat) (ac : Nat → ClassId) (n : Nat) (s0 : St × (St)) {r : St × (St)} (h : df_X2_next n (a 0) s0 = some r) (sz : Nat) : Met l yX2_next ow_dm_X2_next ({ frames := 2, cells := 0, slots := 0, locals := 44 }) (va_Pc [.ref (a 1)] (fun U => U.heap.size = sz ∧ va_P (dC, dI) vwCl (dw_X2s a ac s0) U.heap ∧ va_K (dC, dI) vwCl (dk_X2s ac) U ∧ va_D (fun _ => True) (dw_X2s a ac s0) ∧ nv_E dI (va_A (dw_X2s a ac s0) sz) U)) (va_Qv (fun _ => True) (fun (_ : Unit) t => va_P (dC, dI) vwCl (dw_X2s a ac r) t.heap ∧ va_K (dC, dI) vwCl (dk_X2s ac) t ∧ va_D (va_A (dw_X2s a ac s0) sz) (dw_X2s a ac r)) (va_A (dw_X2s a ac s0) sz)) 0 0 (va_A (dw_X2s a ac s0) sz) := by
  refine Met.ofW (cc := cX2_next) (maxL := 4) (ret := none) (by decide) rfl ?_
  intro p e s m args below meth c s₁ B hml hv
  obtain ⟨rfl, hsz, hP, hK, hD0, hN⟩ := hv
  have hx := B.exec
  have hb := B.bytes
  have hr := B.returns
  have hts := atoms_spec (ws := ow_dm_X2_next) B.pre
  have hown : s.vm.findClass RX2 = some m.cls := findClass_of_methodNamed B.named
  have hlocks := B.notSynchronized
  subst hsz
  have hD := hD0.self (sz := s.heap.size)
  generalize hAe : va_A (dw_X2s a ac s0) s.heap.size = A at hD hN ⊢
  have hA : ∀ q : Nat, s.heap.size ≤ q → A q := fun q h => by rw [← hAe]; exact Or.inr h
  have hl := lv_entry ([.ref (a 1)]) (n := 4) (Nat.le_of_ble_eq_true rfl)
  rw [lg_entry_eq]
  generalize (lg_sl ([.ref (a 1)]) ++ List.replicate (4 - (lg_sl ([.ref (a 1)])).length) Slot.unset).toArray = ls at hl ⊢
  have hl : lv_has ls 4 [(0, .ref (a 1))] := hl
  exact db_X2_next_0 (dC := dC) (dI := dI) (a := a) (ac := ac) (n := n) (r := r) ⟨hlt, hx, hb, hml, hown, hts, hN, hA, hK⟩ (fun pc τ H locs ls d er hP hD hS => by subst er; exact W.vret hx hb hr (fun t ht hW => ⟨⟨(), rfl, trivial, by rw [ht]; exact hP, va_K.moved hW.alike hK, hD⟩, hS.F ht⟩) hS.2.2 d) n s0 _ _ _ h hP hD va_S.rf (lv_sub hl [0] rfl)
def ow_dm_X2_blame : List Cond := Cond.code yX2_blame cX2_blame 2 none :: ([Cond.fieldLink RX2 64 "TimeMachine$Condition" "fault" "I", Cond.fieldLink RX2 90 "TimeMachine$Condition" "from" "I"] ++ (u_ws RX2 TX2 20 ++ []))
theorem gd_dm_X2_blame : ∀ w ∈ ow_dm_X2_blame, (w.onTables && w.keeps) = true ∨ ∃ ty, w = Cond.arrayClass ty := List.forall_mem_cons.mpr ⟨good_of_word rfl, List.forall_mem_append.mpr ⟨fun w h => good_of_word (List.all_eq_true.mp (by decide +kernel) w h), List.forall_mem_append.mpr ⟨gu_X2, fun _ h => nomatch h⟩⟩⟩
theorem hi_dm_X2_blame_X2 : ∀ w ∈ u_ws RX2 TX2 20, w ∈ ow_dm_X2_blame := fun w h => List.mem_cons_of_mem _ (List.mem_append_right _ (List.mem_append_left _ h))
def dj_X2_blame_20 (p : Program) (l : Launch) (e : Env) (s : State) (m : MethodId) (args : Array Value) (below : List Frame) (meth : Method) (c : Code) (Q : State → Prop) (A : Nat → Prop) (dC : Nat → ClassId) (dI : Nat → Nat → Nat) (a : Nat → Nat) (ac : Nat → ClassId) (g : (St) → Option (St)) (r : St) : Prop := ∀ (s0 : St) (H : Heap) (locs : List Loc) (ls : Array Slot), g s0 = some r → va_P (dC, dI) vwCl (dw_X2c a ac s0) H → va_D A (dw_X2c a ac s0) → va_S A s.heap H locs → lv_has ls 2 [] → W p l e (headSpec ow_dm_X2_blame ({ frames := 0, cells := 0, slots := 0, locals := 0 })).room s m args below meth c H locs 0 0 Q (F0 m 20 ls [])
def dj_X2_blame_0 (p : Program) (l : Launch) (e : Env) (s : State) (m : MethodId) (args : Array Value) (below : List Frame) (meth : Method) (c : Code) (Q : State → Prop) (A : Nat → Prop) (dC : Nat → ClassId) (dI : Nat → Nat → Nat) (a : Nat → Nat) (ac : Nat → ClassId) (g : Int32 → (St) → Option (St)) (r : St) : Prop := ∀ (v0 : Int32) (s0 : St) (H : Heap) (locs : List Loc) (ls : Array Slot), g v0 s0 = some r → va_P (dC, dI) vwCl (dw_X2c a ac s0) H → va_D A (dw_X2c a ac s0) → va_S A s.heap H locs → lv_has ls 2 [(0, .ref (a 0)), (1, .int v0)] → W p l e (headSpec ow_dm_X2_blame ({ frames := 0, cells := 0, slots := 0, locals := 0 })).room s m args below meth c H locs 0 0 Q (F0 m 0 ls [])
set_option maxHeartbeats 40000000 in
set_option maxRecDepth 100000 in
theorem db_X2_blame_20 {p : Program} {l : Launch} {e : Env} {s : State} {m : MethodId} {args : Array Value} {below : List Frame} {meth : Method} {c : Code} {Q : State → Prop} {A : Nat → Prop} {dC : Nat → ClassId} {dI : Nat → Nat → Nat} {a : Nat → Nat} {ac : Nat → ClassId} {n : Nat} {r : St} (C : nd_C p l s m args c A (dC, dI) cX2_blame 2 RX2 ow_dm_X2_blame (dk_X2c ac)) (K : nd_Kv p l e (headSpec ow_dm_X2_blame ({ frames := 0, cells := 0, slots := 0, locals := 0 })).room s m args below meth c Q A (dC, dI) cX2_blame (St) (dw_X2c a ac) r) : dj_X2_blame_20 p l e s m args below meth c Q A dC dI a ac (df_X2_blame_20 n) r := by
  obtain ⟨hlt, hx, hb, hml, hown, hts, hN, hA, hK⟩ := id C
  intro s0 H locs ls h hP hD hS hl
  unfold df_X2_blame_20 at h
  exact K _ _ _ _ _ dX2_blame_20 (Option.some.inj h).symm hP hD hS
set_option maxHeartbeats 40000000 in
set_option maxRecDepth 100000 in
theorem db_X2_blame_0 {p : Program} {l : Launch} {e : Env} {s : State} {m : MethodId} {args : Array Value} {below : List Frame} {meth : Method} {c : Code} {Q : State → Prop} {A : Nat → Prop} {dC : Nat → ClassId} {dI : Nat → Nat → Nat} {a : Nat → Nat} {ac : Nat → ClassId} {n : Nat} {r : St} (C : nd_C p l s m args c A (dC, dI) cX2_blame 2 RX2 ow_dm_X2_blame (dk_X2c ac)) (K : nd_Kv p l e (headSpec ow_dm_X2_blame ({ frames := 0, cells := 0, slots := 0, locals := 0 })).room s m args below meth c Q A (dC, dI) cX2_blame (St) (dw_X2c a ac) r) : dj_X2_blame_0 p l e s m args below meth c Q A dC dI a ac (df_X2_blame_0 n) r := by
  obtain ⟨hlt, hx, hb, hml, hown, hts, hN, hA, hK⟩ := id C
  intro v0 s0 H locs ls h hP hD hS hl
  unfold df_X2_blame_0 at h
  refine lv_aload_n hx hb dX2_blame_0 rfl (lv_at hl 0 rfl) ?_
  refine va_get (D := (dC, dI)) (ci := 3) (v := .int (sI s0 8)) (C := RX2) (T := TX2) (N := 20) hx hb hts hi_dm_X2_blame_X2 hown hK hP 0 rfl rfl 18 (by decide) (hts (.fieldLink RX2 64 "TimeMachine$Condition" "fault" "I") (List.mem_of_getElem? (i := 1) rfl)) (fun _ h9 => h9) rfl dX2_blame_1 ?_
  refine lv_if_ne (tgt := 20) hx hb dX2_blame_4 (by decide) (fun c1 => ?_) (fun c1 => ?_)
  · have h := nd_neg h c1
    exact (db_X2_blame_20 C K)  s0 _ _ _ h hP hD hS (lv_sub hl [] rfl)
  · have h := nd_pos h c1
    refine lv_aload_n hx hb dX2_blame_7 rfl (lv_at hl 0 rfl) ?_
    refine lv_iload_n hx hb dX2_blame_8 rfl (lv_at hl 1 rfl) ?_
    refine lv_bipush (v := 8) hx hb dX2_blame_9 (by decide) ?_
    refine lv_aload_n hx hb dX2_blame_11 rfl (lv_at hl 0 rfl) ?_
    refine va_get (D := (dC, dI)) (ci := 3) (v := .int (sI s0 7)) (C := RX2) (T := TX2) (N := 20) hx hb hts hi_dm_X2_blame_X2 hown hK hP 0 rfl rfl 16 (by decide) (hts (.fieldLink RX2 90 "TimeMachine$Condition" "from" "I") (List.mem_of_getElem? (i := 2) rfl)) (fun _ h9 => h9) rfl dX2_blame_12 ?_
    refine lv_imul hx hb dX2_blame_15 ?_
    refine lv_iadd hx hb dX2_blame_16 ?_
    refine va_put (D := (dC, dI)) (ci := 3) (v := .int (v0 + (8 * (sI s0 7)))) (ty := .int) (C := RX2) (T := TX2) (N := 20) hx hb hts hi_dm_X2_blame_X2 tyX2 tyX2_ok nmX2 hown hK hP hD hS 0 rfl rfl 18 (by decide) (hts (.fieldLink RX2 64 "TimeMachine$Condition" "fault" "I") (List.mem_of_getElem? (i := 1) rfl)) (fun _ h9 => h9) rfl (by decide +kernel) rfl rfl (Nat.le_of_ble_eq_true rfl) dX2_blame_17 (fun H locs hP hD hS => ?_)
    obtain ⟨s2, es2, h⟩ := nd_let_e h
    have hP : va_P (dC, dI) vwCl (dw_X2c a ac s2) H := by rw [es2]; exact hP
    have hD : va_D A (dw_X2c a ac s2) := by rw [es2]; exact hD
    exact (db_X2_blame_20 C K)  s2 _ _ _ h hP hD hS (lv_sub hl [] rfl)
set_option maxHeartbeats 40000000 in
set_option maxRecDepth 100000 in
theorem dm_X2_blame (l : Launch) (hlt : l.stackTraces = false) (dC : Nat → ClassId) (dI : Nat → Nat → Nat) (a : Nat → Nat) (ac : Nat → ClassId) (n : Nat) (v0 : Int32) (s0 : St) {r : St} (h : df_X2_blame n v0 s0 = some r) (sz : Nat) : Met l yX2_blame ow_dm_X2_blame ({ frames := 0, cells := 0, slots := 0, locals := 0 }) (va_Pc [.ref (a 0), .int v0] (fun U => U.heap.size = sz ∧ va_P (dC, dI) vwCl (dw_X2c a ac s0) U.heap ∧ va_K (dC, dI) vwCl (dk_X2c ac) U ∧ va_D (fun _ => True) (dw_X2c a ac s0) ∧ nv_E dI (va_A (dw_X2c a ac s0) sz) U)) (va_Qv (fun _ => True) (fun (_ : Unit) t => va_P (dC, dI) vwCl (dw_X2c a ac r) t.heap ∧ va_K (dC, dI) vwCl (dk_X2c ac) t ∧ va_D (va_A (dw_X2c a ac s0) sz) (dw_X2c a ac r)) (va_A (dw_X2c a ac s0) sz)) 0 0 (va_A (dw_X2c a ac s0) sz) := by
  refine Met.ofW (cc := cX2_blame) (maxL := 2) (ret := none) (by decide) rfl ?_
  intro p e s m args below meth c s₁ B hml hv
  obtain ⟨rfl, hsz, hP, hK, hD0, hN⟩ := hv
  have hx := B.exec
  have hb := B.bytes
  have hr := B.returns
  have hts := atoms_spec (ws := ow_dm_X2_blame) B.pre
  have hown : s.vm.findClass RX2 = some m.cls := findClass_of_methodNamed B.named
  have hlocks := B.notSynchronized
  subst hsz
  have hD := hD0.self (sz := s.heap.size)
  generalize hAe : va_A (dw_X2c a ac s0) s.heap.size = A at hD hN ⊢
  have hA : ∀ q : Nat, s.heap.size ≤ q → A q := fun q h => by rw [← hAe]; exact Or.inr h
  have hl := lv_entry ([.ref (a 0), .int v0]) (n := 2) (Nat.le_of_ble_eq_true rfl)
  rw [lg_entry_eq]
  generalize (lg_sl ([.ref (a 0), .int v0]) ++ List.replicate (2 - (lg_sl ([.ref (a 0), .int v0])).length) Slot.unset).toArray = ls at hl ⊢
  have hl : lv_has ls 2 [(0, .ref (a 0)), (1, .int v0)] := hl
  exact db_X2_blame_0 (dC := dC) (dI := dI) (a := a) (ac := ac) (n := n) (r := r) ⟨hlt, hx, hb, hml, hown, hts, hN, hA, hK⟩ (fun pc τ H locs ls d er hP hD hS => by subst er; exact W.vret hx hb hr (fun t ht hW => ⟨⟨(), rfl, trivial, by rw [ht]; exact hP, va_K.moved hW.alike hK, hD⟩, hS.F ht⟩) hS.2.2 d) v0 s0 _ _ _ h hP hD va_S.rf (lv_sub hl [0, 1] rfl)
def ow_dm_X2_emit : List Cond := Cond.code yX2_emit cX2_emit 4 none :: ([Cond.fieldLink RX2 64 "TimeMachine$Condition" "fault" "I", Cond.fieldLink RX2 52 "TimeMachine$Condition" "codes" "I", Cond.fieldLink RX2 9 "TimeMachine$Condition" "code" "[I", Cond.fieldLink RX2 13 "TimeMachine$Condition" "argument" "[J"] ++ (u_ws RX2 TX2 20 ++ []))
theorem gd_dm_X2_emit : ∀ w ∈ ow_dm_X2_emit, (w.onTables && w.keeps) = true ∨ ∃ ty, w = Cond.arrayClass ty := List.forall_mem_cons.mpr ⟨good_of_word rfl, List.forall_mem_append.mpr ⟨fun w h => good_of_word (List.all_eq_true.mp (by decide +kernel) w h), List.forall_mem_append.mpr ⟨gu_X2, fun _ h => nomatch h⟩⟩⟩
theorem hi_dm_X2_emit_X2 : ∀ w ∈ u_ws RX2 TX2 20, w ∈ ow_dm_X2_emit := fun w h => List.mem_cons_of_mem _ (List.mem_append_right _ (List.mem_append_left _ h))
def dj_X2_emit_49 (p : Program) (l : Launch) (e : Env) (s : State) (m : MethodId) (args : Array Value) (below : List Frame) (meth : Method) (c : Code) (Q : State → Prop) (A : Nat → Prop) (dC : Nat → ClassId) (dI : Nat → Nat → Nat) (a : Nat → Nat) (ac : Nat → ClassId) (g : (St) → Option (St)) (r : St) : Prop := ∀ (s0 : St) (H : Heap) (locs : List Loc) (ls : Array Slot), g s0 = some r → va_P (dC, dI) vwCl (dw_X2c a ac s0) H → va_D A (dw_X2c a ac s0) → va_S A s.heap H locs → lv_has ls 4 [] → W p l e (headSpec ow_dm_X2_emit ({ frames := 0, cells := 0, slots := 0, locals := 0 })).room s m args below meth c H locs 0 0 Q (F0 m 49 ls [])
def dj_X2_emit_0 (p : Program) (l : Launch) (e : Env) (s : State) (m : MethodId) (args : Array Value) (below : List Frame) (meth : Method) (c : Code) (Q : State → Prop) (A : Nat → Prop) (dC : Nat → ClassId) (dI : Nat → Nat → Nat) (a : Nat → Nat) (ac : Nat → ClassId) (g : Int32 → Int64 → (St) → Option (St)) (r : St) : Prop := ∀ (v0 : Int32) (v1 : Int64) (s0 : St) (H : Heap) (locs : List Loc) (ls : Array Slot), g v0 v1 s0 = some r → va_P (dC, dI) vwCl (dw_X2c a ac s0) H → va_D A (dw_X2c a ac s0) → va_S A s.heap H locs → lv_has ls 4 [(0, .ref (a 0)), (1, .int v0), (2, .long v1)] → W p l e (headSpec ow_dm_X2_emit ({ frames := 0, cells := 0, slots := 0, locals := 0 })).room s m args below meth c H locs 0 0 Q (F0 m 0 ls [])
set_option maxHeartbeats 40000000 in
set_option maxRecDepth 100000 in
theorem db_X2_emit_49 {p : Program} {l : Launch} {e : Env} {s : State} {m : MethodId} {args : Array Value} {below : List Frame} {meth : Method} {c : Code} {Q : State → Prop} {A : Nat → Prop} {dC : Nat → ClassId} {dI : Nat → Nat → Nat} {a : Nat → Nat} {ac : Nat → ClassId} {n : Nat} {r : St} (C : nd_C p l s m args c A (dC, dI) cX2_emit 4 RX2 ow_dm_X2_emit (dk_X2c ac)) (K : nd_Kv p l e (headSpec ow_dm_X2_emit ({ frames := 0, cells := 0, slots := 0, locals := 0 })).room s m args below meth c Q A (dC, dI) cX2_emit (St) (dw_X2c a ac) r) : dj_X2_emit_49 p l e s m args below meth c Q A dC dI a ac (df_X2_emit_49 n) r := by
  obtain ⟨hlt, hx, hb, hml, hown, hts, hN, hA, hK⟩ := id C
  intro s0 H locs ls h hP hD hS hl
  unfold df_X2_emit_49 at h
  exact K _ _ _ _ _ dX2_emit_49 (Option.some.inj h).symm hP hD hS
set_option maxHeartbeats 40000000 in
set_option maxRecDepth 100000 in
theorem db_X2_emit_0 {p : Program} {l : Launch} {e : Env} {s : State} {m : MethodId} {args : Array Value} {below : List Frame} {meth : Method} {c : Code} {Q : State → Prop} {A : Nat → Prop} {dC : Nat → ClassId} {dI : Nat → Nat → Nat} {a : Nat → Nat} {ac : Nat → ClassId} {n : Nat} {r : St} (C : nd_C p l s m args c A (dC, dI) cX2_emit 4 RX2 ow_dm_X2_emit (dk_X2c ac)) (K : nd_Kv p l e (headSpec ow_dm_X2_emit ({ frames := 0, cells := 0, slots := 0, locals := 0 })).room s m args below meth c Q A (dC, dI) cX2_emit (St) (dw_X2c a ac) r) : dj_X2_emit_0 p l e s m args below meth c Q A dC dI a ac (df_X2_emit_0 n) r := by
  obtain ⟨hlt, hx, hb, hml, hown, hts, hN, hA, hK⟩ := id C
  intro v0 v1 s0 H locs ls h hP hD hS hl
  unfold df_X2_emit_0 at h
  refine lv_aload_n hx hb dX2_emit_0 rfl (lv_at hl 0 rfl) ?_
  refine va_get (D := (dC, dI)) (ci := 3) (v := .int (sI s0 8)) (C := RX2) (T := TX2) (N := 20) hx hb hts hi_dm_X2_emit_X2 hown hK hP 0 rfl rfl 18 (by decide) (hts (.fieldLink RX2 64 "TimeMachine$Condition" "fault" "I") (List.mem_of_getElem? (i := 1) rfl)) (fun _ h9 => h9) rfl dX2_emit_1 ?_
  refine lv_if_ne (tgt := 49) hx hb dX2_emit_4 (by decide) (fun c1 => ?_) (fun c1 => ?_)
  · have h := nd_neg h c1
    exact (db_X2_emit_49 C K)  s0 _ _ _ h hP hD hS (lv_sub hl [] rfl)
  · have h := nd_pos h c1
    refine lv_aload_n hx hb dX2_emit_7 rfl (lv_at hl 0 rfl) ?_
    refine va_get (D := (dC, dI)) (ci := 3) (v := .int (sI s0 0)) (C := RX2) (T := TX2) (N := 20) hx hb hts hi_dm_X2_emit_X2 hown hK hP 0 rfl rfl 2 (by decide) (hts (.fieldLink RX2 52 "TimeMachine$Condition" "codes" "I") (List.mem_of_getElem? (i := 2) rfl)) (fun _ h9 => h9) rfl dX2_emit_8 ?_
    refine lv_aload_n hx hb dX2_emit_11 rfl (lv_at hl 0 rfl) ?_
    refine va_get (D := (dC, dI)) (ci := 3) (v := .ref (a 1)) (C := RX2) (T := TX2) (N := 20) hx hb hts hi_dm_X2_emit_X2 hown hK hP 0 rfl rfl 0 (by decide) (hts (.fieldLink RX2 9 "TimeMachine$Condition" "code" "[I") (List.mem_of_getElem? (i := 3) rfl)) (fun _ h9 => h9) rfl dX2_emit_12 ?_
    refine va_alen (v := 160) hx hb hK hP 1 0 rfl rfl (show Int32.ofNat 160 = 160 by decide) dX2_emit_15 ?_
    refine lv_icmp_ge (tgt := 49) hx hb dX2_emit_16 (by decide) (fun c2 => ?_) (fun c2 => ?_)
    · have h := nd_pos h c2
      exact (db_X2_emit_49 C K)  s0 _ _ _ h hP hD hS (lv_sub hl [] rfl)
    · have h := nd_neg h c2
      refine lv_aload_n hx hb dX2_emit_19 rfl (lv_at hl 0 rfl) ?_
      refine va_get (D := (dC, dI)) (ci := 3) (v := .ref (a 1)) (C := RX2) (T := TX2) (N := 20) hx hb hts hi_dm_X2_emit_X2 hown hK hP 0 rfl rfl 0 (by decide) (hts (.fieldLink RX2 9 "TimeMachine$Condition" "code" "[I") (List.mem_of_getElem? (i := 3) rfl)) (fun _ h9 => h9) rfl dX2_emit_20 ?_
      refine lv_aload_n hx hb dX2_emit_23 rfl (lv_at hl 0 rfl) ?_
      refine va_get (D := (dC, dI)) (ci := 3) (v := .int (sI s0 0)) (C := RX2) (T := TX2) (N := 20) hx hb hts hi_dm_X2_emit_X2 hown hK hP 0 rfl rfl 2 (by decide) (hts (.fieldLink RX2 52 "TimeMachine$Condition" "codes" "I") (List.mem_of_getElem? (i := 2) rfl)) (fun _ h9 => h9) rfl dX2_emit_24 ?_
      refine lv_iload_n hx hb dX2_emit_27 rfl (lv_at hl 1 rfl) ?_
      obtain ⟨i3, h⟩ := nd_ck_e h
      refine va_iast (i := (sI s0 0)) (x := v0) hx hb hK hP hD hS 1 0 rfl rfl i3 dX2_emit_28 (fun H locs hP hD hS => ?_)
      obtain ⟨s4, es4, h⟩ := nd_let_e h
      have hP : va_P (dC, dI) vwCl (dw_X2c a ac s4) H := by rw [es4]; exact hP
      have hD : va_D A (dw_X2c a ac s4) := by rw [es4]; exact hD
      refine lv_aload_n hx hb dX2_emit_29 rfl (lv_at hl 0 rfl) ?_
      refine va_get (D := (dC, dI)) (ci := 3) (v := .ref (a 2)) (C := RX2) (T := TX2) (N := 20) hx hb hts hi_dm_X2_emit_X2 hown hK hP 0 rfl rfl 1 (by decide) (hts (.fieldLink RX2 13 "TimeMachine$Condition" "argument" "[J") (List.mem_of_getElem? (i := 4) rfl)) (fun _ h9 => h9) rfl dX2_emit_30 ?_
      refine lv_aload_n hx hb dX2_emit_33 rfl (lv_at hl 0 rfl) ?_
      refine va_get (D := (dC, dI)) (ci := 3) (v := .int (sI s4 0)) (C := RX2) (T := TX2) (N := 20) hx hb hts hi_dm_X2_emit_X2 hown hK hP 0 rfl rfl 2 (by decide) (hts (.fieldLink RX2 52 "TimeMachine$Condition" "codes" "I") (List.mem_of_getElem? (i := 2) rfl)) (fun _ h9 => h9) rfl dX2_emit_34 ?_
      refine lv_lload_n hx hb dX2_emit_37 rfl (lv_at hl 2 rfl) ?_
      obtain ⟨i5, h⟩ := nd_ck_e h
      refine va_last (i := (sI s4 0)) (x := v1) hx hb hK hP hD hS 2 1 rfl rfl i5 dX2_emit_38 (fun H locs hP hD hS => ?_)
      obtain ⟨s6, es6, h⟩ := nd_let_e h
      have hP : va_P (dC, dI) vwCl (dw_X2c a ac s6) H := by rw [es6]; exact hP
      have hD : va_D A (dw_X2c a ac s6) := by rw [es6]; exact hD
      refine lv_aload_n hx hb dX2_emit_39 rfl (lv_at hl 0 rfl) ?_
      refine lv_dup hx hb dX2_emit_40 rfl ?_
      refine va_get (D := (dC, dI)) (ci := 3) (v := .int (sI s6 0)) (C := RX2) (T := TX2) (N := 20) hx hb hts hi_dm_X2_emit_X2 hown hK hP 0 rfl rfl 2 (by decide) (hts (.fieldLink RX2 52 "TimeMachine$Condition" "codes" "I") (List.mem_of_getElem? (i := 2) rfl)) (fun _ h9 => h9) rfl dX2_emit_41 ?_
      refine lv_iconst (v := 1) hx hb dX2_emit_44 (by decide) ?_
      refine lv_iadd hx hb dX2_emit_45 ?_
      refine va_put (D := (dC, dI)) (ci := 3) (v := .int ((sI s6 0) + 1)) (ty := .int) (C := RX2) (T := TX2) (N := 20) hx hb hts hi_dm_X2_emit_X2 tyX2 tyX2_ok nmX2 hown hK hP hD hS 0 rfl rfl 2 (by decide) (hts (.fieldLink RX2 52 "TimeMachine$Condition" "codes" "I") (List.mem_of_getElem? (i := 2) rfl)) (fun _ h9 => h9) rfl (by decide +kernel) rfl rfl (Nat.le_of_ble_eq_true rfl) dX2_emit_46 (fun H locs hP hD hS => ?_)
      obtain ⟨s7, es7, h⟩ := nd_let_e h
      have hP : va_P (dC, dI) vwCl (dw_X2c a ac s7) H := by rw [es7]; exact hP
      have hD : va_D A (dw_X2c a ac s7) := by rw [es7]; exact hD
      exact (db_X2_emit_49 C K)  s7 _ _ _ h hP hD hS (lv_sub hl [] rfl)
set_option maxHeartbeats 40000000 in
set_option maxRecDepth 100000 in
theorem dm_X2_emit (l : Launch) (hlt : l.stackTraces = false) (dC : Nat → ClassId) (dI : Nat → Nat → Nat) (a : Nat → Nat) (ac : Nat → ClassId) (n : Nat) (v0 : Int32) (v1 : Int64) (s0 : St) {r : St} (h : df_X2_emit n v0 v1 s0 = some r) (sz : Nat) : Met l yX2_emit ow_dm_X2_emit ({ frames := 0, cells := 0, slots := 0, locals := 0 }) (va_Pc [.ref (a 0), .int v0, .long v1] (fun U => U.heap.size = sz ∧ va_P (dC, dI) vwCl (dw_X2c a ac s0) U.heap ∧ va_K (dC, dI) vwCl (dk_X2c ac) U ∧ va_D (fun _ => True) (dw_X2c a ac s0) ∧ nv_E dI (va_A (dw_X2c a ac s0) sz) U)) (va_Qv (fun _ => True) (fun (_ : Unit) t => va_P (dC, dI) vwCl (dw_X2c a ac r) t.heap ∧ va_K (dC, dI) vwCl (dk_X2c ac) t ∧ va_D (va_A (dw_X2c a ac s0) sz) (dw_X2c a ac r)) (va_A (dw_X2c a ac s0) sz)) 0 0 (va_A (dw_X2c a ac s0) sz) := by
  refine Met.ofW (cc := cX2_emit) (maxL := 4) (ret := none) (by decide) rfl ?_
  intro p e s m args below meth c s₁ B hml hv
  obtain ⟨rfl, hsz, hP, hK, hD0, hN⟩ := hv
  have hx := B.exec
  have hb := B.bytes
  have hr := B.returns
  have hts := atoms_spec (ws := ow_dm_X2_emit) B.pre
  have hown : s.vm.findClass RX2 = some m.cls := findClass_of_methodNamed B.named
  have hlocks := B.notSynchronized
  subst hsz
  have hD := hD0.self (sz := s.heap.size)
  generalize hAe : va_A (dw_X2c a ac s0) s.heap.size = A at hD hN ⊢
  have hA : ∀ q : Nat, s.heap.size ≤ q → A q := fun q h => by rw [← hAe]; exact Or.inr h
  have hl := lv_entry ([.ref (a 0), .int v0, .long v1]) (n := 4) (Nat.le_of_ble_eq_true rfl)
  rw [lg_entry_eq]
  generalize (lg_sl ([.ref (a 0), .int v0, .long v1]) ++ List.replicate (4 - (lg_sl ([.ref (a 0), .int v0, .long v1])).length) Slot.unset).toArray = ls at hl ⊢
  have hl : lv_has ls 4 [(0, .ref (a 0)), (1, .int v0), (2, .long v1)] := hl
  exact db_X2_emit_0 (dC := dC) (dI := dI) (a := a) (ac := ac) (n := n) (r := r) ⟨hlt, hx, hb, hml, hown, hts, hN, hA, hK⟩ (fun pc τ H locs ls d er hP hD hS => by subst er; exact W.vret hx hb hr (fun t ht hW => ⟨⟨(), rfl, trivial, by rw [ht]; exact hP, va_K.moved hW.alike hK, hD⟩, hS.F ht⟩) hS.2.2 d) v0 v1 s0 _ _ _ h hP hD va_S.rf (lv_sub hl [0, 1, 2] rfl)
def ow_dm_X2_popTo : List Cond := Cond.code yX2_popTo cX2_popTo 3 none :: ([Cond.fieldLink RX2 55 "TimeMachine$Condition" "top" "I", Cond.fieldLink RX2 20 "TimeMachine$Condition" "sign" "[I", Cond.fieldLink RX2 184 "TimeMachine$Condition" "RANK" "[I", Cond.methodLink RX2 158 yX2_emit, Cond.instanceMethod yX2_emit, Cond.selects RX2 yX2_emit yX2_emit, Cond.initialized RX2, Cond.fieldLink RX2 13 "TimeMachine$Condition" "argument" "[J", Cond.fieldLink RX2 23 "TimeMachine$Condition" "signAt" "[I", Cond.fieldLink RX2 52 "TimeMachine$Condition" "codes" "I"] ++ (u_ws RX2 TX2 20 ++ (ow_dm_X2_emit ++ [])))
theorem gd_dm_X2_popTo : ∀ w ∈ ow_dm_X2_popTo, (w.onTables && w.keeps) = true ∨ ∃ ty, w = Cond.arrayClass ty := List.forall_mem_cons.mpr ⟨good_of_word rfl, List.forall_mem_append.mpr ⟨fun w h => good_of_word (List.all_eq_true.mp (by decide +kernel) w h), List.forall_mem_append.mpr ⟨gu_X2, List.forall_mem_append.mpr ⟨gd_dm_X2_emit, fun _ h => nomatch h⟩⟩⟩⟩
theorem hi_dm_X2_popTo_X2 : ∀ w ∈ u_ws RX2 TX2 20, w ∈ ow_dm_X2_popTo := fun w h => List.mem_cons_of_mem _ (List.mem_append_right _ (List.mem_append_left _ h))
theorem gi_dm_X2_popTo_0 : GoodIn ow_dm_X2_popTo (wsV RX2 158 RX2 yX2_emit ow_dm_X2_emit) := goodIn_app (goodIn_of _ (by decide +kernel)) (fun w h => ⟨List.mem_cons_of_mem _ (List.mem_append_right _ (List.mem_append_right _ (List.mem_append_left _ h))), gd_dm_X2_emit w h⟩)
def dj_X2_popTo_110 (p : Program) (l : Launch) (e : Env) (s : State) (m : MethodId) (args : Array Value) (below : List Frame) (meth : Method) (c : Code) (Q : State → Prop) (A : Nat → Prop) (dC : Nat → ClassId) (dI : Nat → Nat → Nat) (a : Nat → Nat) (ac : Nat → ClassId) (g : (St) → Option (St)) (r : St) : Prop := ∀ (s0 : St) (H : Heap) (locs : List Loc) (ls : Array Slot), g s0 = some r → va_P (dC, dI) vwCl (dw_X2c a ac s0) H → va_D A (dw_X2c a ac s0) → va_S A s.heap H locs → lv_has ls 3 [] → W p l e (headSpec ow_dm_X2_popTo ({ frames := 1, cells := 0, slots := 0, locals := 23 })).room s m args below meth c H locs 0 0 Q (F0 m 110 ls [])
def dj_X2_popTo_107 (p : Program) (l : Launch) (e : Env) (s : State) (m : MethodId) (args : Array Value) (below : List Frame) (meth : Method) (c : Code) (Q : State → Prop) (A : Nat → Prop) (dC : Nat → ClassId) (dI : Nat → Nat → Nat) (a : Nat → Nat) (ac : Nat → ClassId) (g : Int32 → (St) → Option (St)) (r : St) : Prop := ∀ (x1 : Int32) (s0 : St) (H : Heap) (locs : List Loc) (ls : Array Slot), g x1 s0 = some r → va_P (dC, dI) vwCl (dw_X2c a ac s0) H → va_D A (dw_X2c a ac s0) → va_S A s.heap H locs → lv_has ls 3 [(0, .ref (a 0)), (1, .int x1)] → W p l e (headSpec ow_dm_X2_popTo ({ frames := 1, cells := 0, slots := 0, locals := 23 })).room s m args below meth c H locs 0 0 Q (F0 m 107 ls [])
def dj_X2_popTo_72 (p : Program) (l : Launch) (e : Env) (s : State) (m : MethodId) (args : Array Value) (below : List Frame) (meth : Method) (c : Code) (Q : State → Prop) (A : Nat → Prop) (dC : Nat → ClassId) (dI : Nat → Nat → Nat) (a : Nat → Nat) (ac : Nat → ClassId) (g : Int32 → (St) → Option (St)) (r : St) : Prop := ∀ (x1 : Int32) (s0 : St) (H : Heap) (locs : List Loc) (ls : Array Slot), g x1 s0 = some r → va_P (dC, dI) vwCl (dw_X2c a ac s0) H → va_D A (dw_X2c a ac s0) → va_S A s.heap H locs → lv_has ls 3 [(0, .ref (a 0)), (1, .int x1)] → W p l e (headSpec ow_dm_X2_popTo ({ frames := 1, cells := 0, slots := 0, locals := 23 })).room s m args below meth c H locs 0 0 Q (F0 m 72 ls [])
def dj_X2_popTo_0 (p : Program) (l : Launch) (e : Env) (s : State) (m : MethodId) (args : Array Value) (below : List Frame) (meth : Method) (c : Code) (Q : State → Prop) (A : Nat → Prop) (dC : Nat → ClassId) (dI : Nat → Nat → Nat) (a : Nat → Nat) (ac : Nat → ClassId) (g : Int32 → (St) → Option (St)) (r : St) : Prop := ∀ (x1 : Int32) (s0 : St) (H : Heap) (locs : List Loc) (ls : Array Slot), g x1 s0 = some r → va_P (dC, dI) vwCl (dw_X2c a ac s0) H → va_D A (dw_X2c a ac s0) → va_S A s.heap H locs → lv_has ls 3 [(0, .ref (a 0)), (1, .int x1)] → W p l e (headSpec ow_dm_X2_popTo ({ frames := 1, cells := 0, slots := 0, locals := 23 })).room s m args below meth c H locs 0 0 Q (F0 m 0 ls [])
set_option maxHeartbeats 40000000 in
set_option maxRecDepth 100000 in
theorem db_X2_popTo_110 {p : Program} {l : Launch} {e : Env} {s : State} {m : MethodId} {args : Array Value} {below : List Frame} {meth : Method} {c : Code} {Q : State → Prop} {A : Nat → Prop} {dC : Nat → ClassId} {dI : Nat → Nat → Nat} {a : Nat → Nat} {ac : Nat → ClassId} {n : Nat} {r : St} (C : nd_C p l s m args c A (dC, dI) cX2_popTo 3 RX2 ow_dm_X2_popTo (dk_X2c ac)) (K : nd_Kv p l e (headSpec ow_dm_X2_popTo ({ frames := 1, cells := 0, slots := 0, locals := 23 })).room s m args below meth c Q A (dC, dI) cX2_popTo (St) (dw_X2c a ac) r) : dj_X2_popTo_110 p l e s m args below meth c Q A dC dI a ac (df_X2_popTo_110 n) r := by
  obtain ⟨hlt, hx, hb, hml, hown, hts, hN, hA, hK⟩ := id C
  intro s0 H locs ls h hP hD hS hl
  unfold df_X2_popTo_110 at h
  exact K _ _ _ _ _ dX2_popTo_110 (Option.some.inj h).symm hP hD hS
set_option maxHeartbeats 40000000 in
set_option maxRecDepth 100000 in
theorem db_X2_popTo_107 {p : Program} {l : Launch} {e : Env} {s : State} {m : MethodId} {args : Array Value} {below : List Frame} {meth : Method} {c : Code} {Q : State → Prop} {A : Nat → Prop} {dC : Nat → ClassId} {dI : Nat → Nat → Nat} {a : Nat → Nat} {ac : Nat → ClassId} {n : Nat} {r : St} (C : nd_C p l s m args c A (dC, dI) cX2_popTo 3 RX2 ow_dm_X2_popTo (dk_X2c ac)) (K : nd_Kv p l e (headSpec ow_dm_X2_popTo ({ frames := 1, cells := 0, slots := 0, locals := 23 })).room s m args below meth c Q A (dC, dI) cX2_popTo (St) (dw_X2c a ac) r) {g0 : Int32 → (St) → Option (St)} (J0 : dj_X2_popTo_0 p l e s m args below meth c Q A dC dI a ac g0 r) : dj_X2_popTo_107 p l e s m args below meth c Q A dC dI a ac (df_X2_popTo_107 n g0) r := by
  obtain ⟨hlt, hx, hb, hml, hown, hts, hN, hA, hK⟩ := id C
  intro x1 s0 H locs ls h hP hD hS hl
  unfold df_X2_popTo_107 at h
  refine lv_goto (tgt := 0) hx hb dX2_popTo_107 (by decide) ?_
  exact (J0) (x1) s0 _ _ _ h hP hD hS (lv_sub hl [0, 1] rfl)
set_option maxHeartbeats 40000000 in
set_option maxRecDepth 100000 in
theorem db_X2_popTo_72 {p : Program} {l : Launch} {e : Env} {s : State} {m : MethodId} {args : Array Value} {below : List Frame} {meth : Method} {c : Code} {Q : State → Prop} {A : Nat → Prop} {dC : Nat → ClassId} {dI : Nat → Nat → Nat} {a : Nat → Nat} {ac : Nat → ClassId} {n : Nat} {r : St} (C : nd_C p l s m args c A (dC, dI) cX2_popTo 3 RX2 ow_dm_X2_popTo (dk_X2c ac)) (K : nd_Kv p l e (headSpec ow_dm_X2_popTo ({ frames := 1, cells := 0, slots := 0, locals := 23 })).room s m args below meth c Q A (dC, dI) cX2_popTo (St) (dw_X2c a ac) r) {g0 : Int32 → (St) → Option (St)} (J0 : dj_X2_popTo_0 p l e s m args below meth c Q A dC dI a ac g0 r) : dj_X2_popTo_72 p l e s m args below meth c Q A dC dI a ac (df_X2_popTo_72 n g0) r := by
  obtain ⟨hlt, hx, hb, hml, hown, hts, hN, hA, hK⟩ := id C
  intro x1 s0 H locs ls h hP hD hS hl
  unfold df_X2_popTo_72 at h
  refine lv_aload_n hx hb dX2_popTo_72 rfl (lv_at hl 0 rfl) ?_
  refine lv_bipush (v := 36) hx hb dX2_popTo_73 (by decide) ?_
  refine lv_lconst (v := 0) hx hb dX2_popTo_75 (by decide) ?_
  obtain ⟨s13, hq, h⟩ := nd_b1_e h
  have hPc := hP
  have hDc := hD
  have hKc := hK
  have hFc := nd_rs hD hS hA
  refine nd_cVv (As := [.int 36, .long 0]) (rest := []) (w' := dw_X2c a ac s13) ⟨hx, hb, hml, hown, hts⟩ (fun sz => dm_X2_emit l hlt dC dI a ac n (36) (0) s0 hq sz) (cwV 2 hts gi_dm_X2_popTo_0 rfl rfl rfl (by decide +kernel) ⟨Nat.le_of_ble_eq_true rfl, Nat.le_of_ble_eq_true rfl⟩) hPc hDc hKc hS hA hN (va_recv hKc hPc (ci := 3) (q0 := 0) rfl rfl) rfl hl.1 rfl (Nat.le_of_ble_eq_true rfl) dX2_popTo_76 (fun H locs hP1 hD1 hk1 hS => ?_)
  have hP := hP1
  have hD := hD1.weaken (fun k q _ h => hFc q.1 h)
  refine lv_aload_n hx hb dX2_popTo_79 rfl (lv_at hl 0 rfl) ?_
  refine va_get (D := (dC, dI)) (ci := 3) (v := .ref (a 2)) (C := RX2) (T := TX2) (N := 20) hx hb hts hi_dm_X2_popTo_X2 hown hK hP 0 rfl rfl 1 (by decide) (hts (.fieldLink RX2 13 "TimeMachine$Condition" "argument" "[J") (List.mem_of_getElem? (i := 8) rfl)) (fun _ h9 => h9) rfl dX2_popTo_80 ?_
  refine lv_aload_n hx hb dX2_popTo_83 rfl (lv_at hl 0 rfl) ?_
  refine va_get (D := (dC, dI)) (ci := 3) (v := .ref (a 5)) (C := RX2) (T := TX2) (N := 20) hx hb hts hi_dm_X2_popTo_X2 hown hK hP 0 rfl rfl 6 (by decide) (hts (.fieldLink RX2 23 "TimeMachine$Condition" "signAt" "[I") (List.mem_of_getElem? (i := 9) rfl)) (fun _ h9 => h9) rfl dX2_popTo_84 ?_
  refine lv_aload_n hx hb dX2_popTo_87 rfl (lv_at hl 0 rfl) ?_
  refine va_get (D := (dC, dI)) (ci := 3) (v := .int (sI s13 1)) (C := RX2) (T := TX2) (N := 20) hx hb hts hi_dm_X2_popTo_X2 hown hK hP 0 rfl rfl 4 (by decide) (hts (.fieldLink RX2 55 "TimeMachine$Condition" "top" "I") (List.mem_of_getElem? (i := 1) rfl)) (fun _ h9 => h9) rfl dX2_popTo_88 ?_
  obtain ⟨i15, h⟩ := nd_ck_e h
  refine va_iald (i := (sI s13 1)) hx hb hK hP 5 4 rfl rfl i15 dX2_popTo_91 ?_
  refine lv_aload_n hx hb dX2_popTo_92 rfl (lv_at hl 0 rfl) ?_
  refine va_get (D := (dC, dI)) (ci := 3) (v := .int (sI s13 0)) (C := RX2) (T := TX2) (N := 20) hx hb hts hi_dm_X2_popTo_X2 hown hK hP 0 rfl rfl 2 (by decide) (hts (.fieldLink RX2 52 "TimeMachine$Condition" "codes" "I") (List.mem_of_getElem? (i := 10) rfl)) (fun _ h9 => h9) rfl dX2_popTo_93 ?_
  refine lv_i2l hx hb dX2_popTo_96 rfl ?_
  obtain ⟨i16, h⟩ := nd_ck_e h
  refine va_last (i := (sR s13 2 (Int32.toNatClampNeg (sI s13 1)))) (x := (((sI s13 0) : Int32).toInt64)) hx hb hK hP hD hS 2 1 rfl rfl i16 dX2_popTo_97 (fun H locs hP hD hS => ?_)
  obtain ⟨s17, es17, h⟩ := nd_let_e h
  have hP : va_P (dC, dI) vwCl (dw_X2c a ac s17) H := by rw [es17]; exact hP
  have hD : va_D A (dw_X2c a ac s17) := by rw [es17]; exact hD
  refine lv_goto (tgt := 107) hx hb dX2_popTo_98 (by decide) ?_
  exact (db_X2_popTo_107 C K J0) (x1) s17 _ _ _ h hP hD hS (lv_sub hl [0, 1] rfl)
set_option maxHeartbeats 40000000 in
set_option maxRecDepth 100000 in
theorem dB_X2_popTo_0 {p : Program} {l : Launch} {e : Env} {s : State} {m : MethodId} {args : Array Value} {below : List Frame} {meth : Method} {c : Code} {Q : State → Prop} {A : Nat → Prop} {dC : Nat → ClassId} {dI : Nat → Nat → Nat} {a : Nat → Nat} {ac : Nat → ClassId} {n : Nat} {r : St} (C : nd_C p l s m args c A (dC, dI) cX2_popTo 3 RX2 ow_dm_X2_popTo (dk_X2c ac)) (K : nd_Kv p l e (headSpec ow_dm_X2_popTo ({ frames := 1, cells := 0, slots := 0, locals := 23 })).room s m args below meth c Q A (dC, dI) cX2_popTo (St) (dw_X2c a ac) r) {g0 : Int32 → (St) → Option (St)} (J0 : dj_X2_popTo_0 p l e s m args below meth c Q A dC dI a ac g0 r) : dj_X2_popTo_0 p l e s m args below meth c Q A dC dI a ac (dF_X2_popTo_0 n g0) r := by
  obtain ⟨hlt, hx, hb, hml, hown, hts, hN, hA, hK⟩ := id C
  intro x1 s0 H locs ls h hP hD hS hl
  unfold dF_X2_popTo_0 at h
  refine lv_aload_n hx hb dX2_popTo_0 rfl (lv_at hl 0 rfl) ?_
  refine va_get (D := (dC, dI)) (ci := 3) (v := .int (sI s0 1)) (C := RX2) (T := TX2) (N := 20) hx hb hts hi_dm_X2_popTo_X2 hown hK hP 0 rfl rfl 4 (by decide) (hts (.fieldLink RX2 55 "TimeMachine$Condition" "top" "I") (List.mem_of_getElem? (i := 1) rfl)) (fun _ h9 => h9) rfl dX2_popTo_1 ?_
  refine lv_if_le (tgt := 110) hx hb dX2_popTo_4 (by decide) (fun c1 => ?_) (fun c1 => ?_)
  · have h := nd_pos h c1
    exact (db_X2_popTo_110 C K)  s0 _ _ _ h hP hD hS (lv_sub hl [] rfl)
  · have h := nd_neg h c1
    refine lv_aload_n hx hb dX2_popTo_7 rfl (lv_at hl 0 rfl) ?_
    refine va_get (D := (dC, dI)) (ci := 3) (v := .ref (a 4)) (C := RX2) (T := TX2) (N := 20) hx hb hts hi_dm_X2_popTo_X2 hown hK hP 0 rfl rfl 5 (by decide) (hts (.fieldLink RX2 20 "TimeMachine$Condition" "sign" "[I") (List.mem_of_getElem? (i := 2) rfl)) (fun _ h9 => h9) rfl dX2_popTo_8 ?_
    refine lv_aload_n hx hb dX2_popTo_11 rfl (lv_at hl 0 rfl) ?_
    refine va_get (D := (dC, dI)) (ci := 3) (v := .int (sI s0 1)) (C := RX2) (T := TX2) (N := 20) hx hb hts hi_dm_X2_popTo_X2 hown hK hP 0 rfl rfl 4 (by decide) (hts (.fieldLink RX2 55 "TimeMachine$Condition" "top" "I") (List.mem_of_getElem? (i := 1) rfl)) (fun _ h9 => h9) rfl dX2_popTo_12 ?_
    refine lv_iconst (v := 1) hx hb dX2_popTo_15 (by decide) ?_
    refine lv_isub hx hb dX2_popTo_16 ?_
    obtain ⟨i2, h⟩ := nd_ck_e h
    refine va_iald (i := ((sI s0 1) - 1)) hx hb hK hP 4 3 rfl rfl i2 dX2_popTo_17 ?_
    refine lv_bipush (v := 22) hx hb dX2_popTo_18 (by decide) ?_
    refine lv_icmp_ge (tgt := 110) hx hb dX2_popTo_20 (by decide) (fun c3 => ?_) (fun c3 => ?_)
    · have h := nd_pos h c3
      exact (db_X2_popTo_110 C K)  s0 _ _ _ h hP hD hS (lv_sub hl [] rfl)
    · have h := nd_neg h c3
      obtain ⟨b4, zb4, xb4, lb4, wb4⟩ := hN.2.2.2.2.2.2.2.2.2.2.1 nv_A1 (List.mem_of_getElem? (i := 1) rfl)
      have zb4 : va_Z "TimeMachine$Condition" "RANK" "[I" (.ref b4) A s s.heap := zb4
      have xb4 : va_X b4 22 tb_1 s s.heap := xb4
      refine va_gets (v := .ref b4) hx hb zb4 hS hown (hts (.fieldLink RX2 184 "TimeMachine$Condition" "RANK" "[I") (List.mem_of_getElem? (i := 3) rfl)) (fun _ h9 => h9) dX2_popTo_23 ?_
      refine lv_aload_n hx hb dX2_popTo_26 rfl (lv_at hl 0 rfl) ?_
      refine va_get (D := (dC, dI)) (ci := 3) (v := .ref (a 4)) (C := RX2) (T := TX2) (N := 20) hx hb hts hi_dm_X2_popTo_X2 hown hK hP 0 rfl rfl 5 (by decide) (hts (.fieldLink RX2 20 "TimeMachine$Condition" "sign" "[I") (List.mem_of_getElem? (i := 2) rfl)) (fun _ h9 => h9) rfl dX2_popTo_27 ?_
      refine lv_aload_n hx hb dX2_popTo_30 rfl (lv_at hl 0 rfl) ?_
      refine va_get (D := (dC, dI)) (ci := 3) (v := .int (sI s0 1)) (C := RX2) (T := TX2) (N := 20) hx hb hts hi_dm_X2_popTo_X2 hown hK hP 0 rfl rfl 4 (by decide) (hts (.fieldLink RX2 55 "TimeMachine$Condition" "top" "I") (List.mem_of_getElem? (i := 1) rfl)) (fun _ h9 => h9) rfl dX2_popTo_31 ?_
      refine lv_iconst (v := 1) hx hb dX2_popTo_34 (by decide) ?_
      refine lv_isub hx hb dX2_popTo_35 ?_
      obtain ⟨i5, h⟩ := nd_ck_e h
      refine va_iald (i := ((sI s0 1) - 1)) hx hb hK hP 4 3 rfl rfl i5 dX2_popTo_36 ?_
      obtain ⟨i6, h⟩ := nd_ck_e h
      refine va_sld (i := (sR s0 1 (Int32.toNatClampNeg ((sI s0 1) - 1)))) hx hb xb4 lb4 wb4 hS i6 dX2_popTo_37 ?_
      refine lv_iload_n hx hb dX2_popTo_38 rfl (lv_at hl 1 rfl) ?_
      refine lv_icmp_lt (tgt := 110) hx hb dX2_popTo_39 (by decide) (fun c7 => ?_) (fun c7 => ?_)
      · have h := nd_pos h c7
        exact (db_X2_popTo_110 C K)  s0 _ _ _ h hP hD hS (lv_sub hl [] rfl)
      · have h := nd_neg h c7
        refine lv_aload_n hx hb dX2_popTo_42 rfl (lv_at hl 0 rfl) ?_
        refine lv_dup hx hb dX2_popTo_43 rfl ?_
        refine va_get (D := (dC, dI)) (ci := 3) (v := .int (sI s0 1)) (C := RX2) (T := TX2) (N := 20) hx hb hts hi_dm_X2_popTo_X2 hown hK hP 0 rfl rfl 4 (by decide) (hts (.fieldLink RX2 55 "TimeMachine$Condition" "top" "I") (List.mem_of_getElem? (i := 1) rfl)) (fun _ h9 => h9) rfl dX2_popTo_44 ?_
        refine lv_iconst (v := 1) hx hb dX2_popTo_47 (by decide) ?_
        refine lv_isub hx hb dX2_popTo_48 ?_
        refine va_put (D := (dC, dI)) (ci := 3) (v := .int ((sI s0 1) - 1)) (ty := .int) (C := RX2) (T := TX2) (N := 20) hx hb hts hi_dm_X2_popTo_X2 tyX2 tyX2_ok nmX2 hown hK hP hD hS 0 rfl rfl 4 (by decide) (hts (.fieldLink RX2 55 "TimeMachine$Condition" "top" "I") (List.mem_of_getElem? (i := 1) rfl)) (fun _ h9 => h9) rfl (by decide +kernel) rfl rfl (Nat.le_of_ble_eq_true rfl) dX2_popTo_49 (fun H locs hP hD hS => ?_)
        obtain ⟨s8, es8, h⟩ := nd_let_e h
        have hP : va_P (dC, dI) vwCl (dw_X2c a ac s8) H := by rw [es8]; exact hP
        have hD : va_D A (dw_X2c a ac s8) := by rw [es8]; exact hD
        refine lv_aload_n hx hb dX2_popTo_52 rfl (lv_at hl 0 rfl) ?_
        refine va_get (D := (dC, dI)) (ci := 3) (v := .ref (a 4)) (C := RX2) (T := TX2) (N := 20) hx hb hts hi_dm_X2_popTo_X2 hown hK hP 0 rfl rfl 5 (by decide) (hts (.fieldLink RX2 20 "TimeMachine$Condition" "sign" "[I") (List.mem_of_getElem? (i := 2) rfl)) (fun _ h9 => h9) rfl dX2_popTo_53 ?_
        refine lv_aload_n hx hb dX2_popTo_56 rfl (lv_at hl 0 rfl) ?_
        refine va_get (D := (dC, dI)) (ci := 3) (v := .int (sI s8 1)) (C := RX2) (T := TX2) (N := 20) hx hb hts hi_dm_X2_popTo_X2 hown hK hP 0 rfl rfl 4 (by decide) (hts (.fieldLink RX2 55 "TimeMachine$Condition" "top" "I") (List.mem_of_getElem? (i := 1) rfl)) (fun _ h9 => h9) rfl dX2_popTo_57 ?_
        obtain ⟨i9, h⟩ := nd_ck_e h
        refine va_iald (i := (sI s8 1)) hx hb hK hP 4 3 rfl rfl i9 dX2_popTo_60 ?_
        refine lv_topi (fun z10 ez10 => ?_)
        have h := nd_at h ez10
        refine lv_istore_n (lv' := [(2, .int z10), (0, .ref (a 0)), (1, .int x1)]) hx hb dX2_popTo_61 rfl hl (by decide) rfl (fun ls hl => ?_)
        refine lv_iload_n hx hb dX2_popTo_62 rfl (lv_at hl 0 rfl) ?_
        refine lv_iconst (v := 1) hx hb dX2_popTo_63 (by decide) ?_
        refine lv_icmp_eq (tgt := 72) hx hb dX2_popTo_64 (by decide) (fun c11 => ?_) (fun c11 => ?_)
        · have h := nd_pos h c11
          exact (db_X2_popTo_72 C K J0) (x1) s8 _ _ _ h hP hD hS (lv_sub hl [1, 2] rfl)
        · have h := nd_neg h c11
          refine lv_iload_n hx hb dX2_popTo_67 rfl (lv_at hl 0 rfl) ?_
          refine lv_iconst (v := 2) hx hb dX2_popTo_68 (by decide) ?_
          refine lv_icmp_ne (tgt := 101) hx hb dX2_popTo_69 (by decide) (fun c18 => ?_) (fun c18 => ?_)
          · have h := nd_neg h c18
            refine lv_aload_n hx hb dX2_popTo_101 rfl (lv_at hl 1 rfl) ?_
            refine lv_iload_n hx hb dX2_popTo_102 rfl (lv_at hl 0 rfl) ?_
            refine lv_lconst (v := 0) hx hb dX2_popTo_103 (by decide) ?_
            obtain ⟨s20, hq, h⟩ := nd_b1_e h
            have hPc := hP
            have hDc := hD
            have hKc := hK
            have hFc := nd_rs hD hS hA
            refine nd_cVv (As := [.int z10, .long 0]) (rest := []) (w' := dw_X2c a ac s20) ⟨hx, hb, hml, hown, hts⟩ (fun sz => dm_X2_emit l hlt dC dI a ac n (z10) (0) s8 hq sz) (cwV 2 hts gi_dm_X2_popTo_0 rfl rfl rfl (by decide +kernel) ⟨Nat.le_of_ble_eq_true rfl, Nat.le_of_ble_eq_true rfl⟩) hPc hDc hKc hS hA hN (va_recv hKc hPc (ci := 3) (q0 := 0) rfl rfl) rfl hl.1 rfl (Nat.le_of_ble_eq_true rfl) dX2_popTo_104 (fun H locs hP1 hD1 hk1 hS => ?_)
            have hP := hP1
            have hD := hD1.weaken (fun k q _ h => hFc q.1 h)
            exact (db_X2_popTo_107 C K J0) (x1) s20 _ _ _ h hP hD hS (lv_sub hl [1, 2] rfl)
          · have h := nd_pos h c18
            exact (db_X2_popTo_72 C K J0) (x1) s8 _ _ _ h hP hD hS (lv_sub hl [1, 2] rfl)
set_option maxHeartbeats 40000000 in
set_option maxRecDepth 100000 in
theorem db_X2_popTo_0 {p : Program} {l : Launch} {e : Env} {s : State} {m : MethodId} {args : Array Value} {below : List Frame} {meth : Method} {c : Code} {Q : State → Prop} {A : Nat → Prop} {dC : Nat → ClassId} {dI : Nat → Nat → Nat} {a : Nat → Nat} {ac : Nat → ClassId} {n : Nat} {r : St} (C : nd_C p l s m args c A (dC, dI) cX2_popTo 3 RX2 ow_dm_X2_popTo (dk_X2c ac)) (K : nd_Kv p l e (headSpec ow_dm_X2_popTo ({ frames := 1, cells := 0, slots := 0, locals := 23 })).room s m args below meth c Q A (dC, dI) cX2_popTo (St) (dw_X2c a ac) r) (k : Nat) : dj_X2_popTo_0 p l e s m args below meth c Q A dC dI a ac (df_X2_popTo_0 n k) r := by
  induction k with
  | zero => intro x1 s0 H locs ls h; exact nomatch (show (none : Option (St)) = some r from h)
  | succ k ih => exact dB_X2_popTo_0 C K ih
set_option maxHeartbeats 40000000 in
set_option maxRecDepth 100000 in
theorem dm_X2_popTo (l : Launch) (hlt : l.stackTraces = false) (dC : Nat → ClassId) (dI : Nat → Nat → Nat) (a : Nat → Nat) (ac : Nat → ClassId) (n : Nat) (v0 : Int32) (s0 : St) {r : St} (h : df_X2_popTo n v0 s0 = some r) (sz : Nat) : Met l yX2_popTo ow_dm_X2_popTo ({ frames := 1, cells := 0, slots := 0, locals := 23 }) (va_Pc [.ref (a 0), .int v0] (fun U => U.heap.size = sz ∧ va_P (dC, dI) vwCl (dw_X2c a ac s0) U.heap ∧ va_K (dC, dI) vwCl (dk_X2c ac) U ∧ va_D (fun _ => True) (dw_X2c a ac s0) ∧ nv_E dI (va_A (dw_X2c a ac s0) sz) U)) (va_Qv (fun _ => True) (fun (_ : Unit) t => va_P (dC, dI) vwCl (dw_X2c a ac r) t.heap ∧ va_K (dC, dI) vwCl (dk_X2c ac) t ∧ va_D (va_A (dw_X2c a ac s0) sz) (dw_X2c a ac r)) (va_A (dw_X2c a ac s0) sz)) 0 0 (va_A (dw_X2c a ac s0) sz) := by
  refine Met.ofW (cc := cX2_popTo) (maxL := 3) (ret := none) (by decide) rfl ?_
  intro p e s m args below meth c s₁ B hml hv
  obtain ⟨rfl, hsz, hP, hK, hD0, hN⟩ := hv
  have hx := B.exec
  have hb := B.bytes
  have hr := B.returns
  have hts := atoms_spec (ws := ow_dm_X2_popTo) B.pre
  have hown : s.vm.findClass RX2 = some m.cls := findClass_of_methodNamed B.named
  have hlocks := B.notSynchronized
  subst hsz
  have hD := hD0.self (sz := s.heap.size)
  generalize hAe : va_A (dw_X2c a ac s0) s.heap.size = A at hD hN ⊢
  have hA : ∀ q : Nat, s.heap.size ≤ q → A q := fun q h => by rw [← hAe]; exact Or.inr h
  have hl := lv_entry ([.ref (a 0), .int v0]) (n := 3) (Nat.le_of_ble_eq_true rfl)
  rw [lg_entry_eq]
  generalize (lg_sl ([.ref (a 0), .int v0]) ++ List.replicate (3 - (lg_sl ([.ref (a 0), .int v0])).length) Slot.unset).toArray = ls at hl ⊢
  have hl : lv_has ls 3 [(0, .ref (a 0)), (1, .int v0)] := hl
  exact db_X2_popTo_0 (dC := dC) (dI := dI) (a := a) (ac := ac) (n := n) (r := r) ⟨hlt, hx, hb, hml, hown, hts, hN, hA, hK⟩ (fun pc τ H locs ls d er hP hD hS => by subst er; exact W.vret hx hb hr (fun t ht hW => ⟨⟨(), rfl, trivial, by rw [ht]; exact hP, va_K.moved hW.alike hK, hD⟩, hS.F ht⟩) hS.2.2 d) n v0 s0 _ _ _ h hP hD va_S.rf (lv_sub hl [0, 1] rfl)
def ow_dm_X2_takeClose : List Cond := Cond.code yX2_takeClose cX2_takeClose 3 none :: ([Cond.methodLink RX2 80 yX2_popTo, Cond.instanceMethod yX2_popTo, Cond.selects RX2 yX2_popTo yX2_popTo, Cond.initialized RX2, Cond.fieldLink RX2 55 "TimeMachine$Condition" "top" "I", Cond.methodLink RX2 84 yX2_blame, Cond.instanceMethod yX2_blame, Cond.selects RX2 yX2_blame yX2_blame, Cond.fieldLink RX2 20 "TimeMachine$Condition" "sign" "[I", Cond.fieldLink RX2 29 "TimeMachine$Condition" "oldTo" "[I", Cond.fieldLink RX2 23 "TimeMachine$Condition" "signAt" "[I", Cond.fieldLink RX2 52 "TimeMachine$Condition" "codes" "I", Cond.methodLink RX2 158 yX2_emit, Cond.instanceMethod yX2_emit, Cond.selects RX2 yX2_emit yX2_emit] ++ (u_ws RX2 TX2 20 ++ (ow_dm_X2_popTo ++ (ow_dm_X2_blame ++ (ow_dm_X2_emit ++ [])))))
theorem gd_dm_X2_takeClose : ∀ w ∈ ow_dm_X2_takeClose, (w.onTables && w.keeps) = true ∨ ∃ ty, w = Cond.arrayClass ty := List.forall_mem_cons.mpr ⟨good_of_word rfl, List.forall_mem_append.mpr ⟨fun w h => good_of_word (List.all_eq_true.mp (by decide +kernel) w h), List.forall_mem_append.mpr ⟨gu_X2, List.forall_mem_append.mpr ⟨gd_dm_X2_popTo, List.forall_mem_append.mpr ⟨gd_dm_X2_blame, List.forall_mem_append.mpr ⟨gd_dm_X2_emit, fun _ h => nomatch h⟩⟩⟩⟩⟩⟩
theorem hi_dm_X2_takeClose_X2 : ∀ w ∈ u_ws RX2 TX2 20, w ∈ ow_dm_X2_takeClose := fun w h => List.mem_cons_of_mem _ (List.mem_append_right _ (List.mem_append_left _ h))
theorem gi_dm_X2_takeClose_0 : GoodIn ow_dm_X2_takeClose (wsV RX2 80 RX2 yX2_popTo ow_dm_X2_popTo) := goodIn_app (goodIn_of _ (by decide +kernel)) (fun w h => ⟨List.mem_cons_of_mem _ (List.mem_append_right _ (List.mem_append_right _ (List.mem_append_left _ h))), gd_dm_X2_popTo w h⟩)
theorem gi_dm_X2_takeClose_1 : GoodIn ow_dm_X2_takeClose (wsV RX2 84 RX2 yX2_blame ow_dm_X2_blame) := goodIn_app (goodIn_of _ (by decide +kernel)) (fun w h => ⟨List.mem_cons_of_mem _ (List.mem_append_right _ (List.mem_append_right _ (List.mem_append_right _ (List.mem_append_left _ h)))), gd_dm_X2_blame w h⟩)
theorem gi_dm_X2_takeClose_2 : GoodIn ow_dm_X2_takeClose (wsV RX2 158 RX2 yX2_emit ow_dm_X2_emit) := goodIn_app (goodIn_of _ (by decide +kernel)) (fun w h => ⟨List.mem_cons_of_mem _ (List.mem_append_right _ (List.mem_append_right _ (List.mem_append_right _ (List.mem_append_right _ (List.mem_append_left _ h))))), gd_dm_X2_emit w h⟩)
def dj_X2_takeClose_37 (p : Program) (l : Launch) (e : Env) (s : State) (m : MethodId) (args : Array Value) (below : List Frame) (meth : Method) (c : Code) (Q : State → Prop) (A : Nat → Prop) (dC : Nat → ClassId) (dI : Nat → Nat → Nat) (a : Nat → Nat) (ac : Nat → ClassId) (g : (St) → Option (St)) (r : St) : Prop := ∀ (s0 : St) (H : Heap) (locs : List Loc) (ls : Array Slot), g s0 = some r → va_P (dC, dI) vwCl (dw_X2c a ac s0) H → va_D A (dw_X2c a ac s0) → va_S A s.heap H locs → lv_has ls 3 [(0, .ref (a 0))] → W p l e (headSpec ow_dm_X2_takeClose ({ frames := 2, cells := 0, slots := 0, locals := 45 })).room s m args below meth c H locs 0 0 Q (F0 m 37 ls [])
def dj_X2_takeClose_120 (p : Program) (l : Launch) (e : Env) (s : State) (m : MethodId) (args : Array Value) (below : List Frame) (meth : Method) (c : Code) (Q : State → Prop) (A : Nat → Prop) (dC : Nat → ClassId) (dI : Nat → Nat → Nat) (a : Nat → Nat) (ac : Nat → ClassId) (g : (St) → Option (St)) (r : St) : Prop := ∀ (s0 : St) (H : Heap) (locs : List Loc) (ls : Array Slot), g s0 = some r → va_P (dC, dI) vwCl (dw_X2c a ac s0) H → va_D A (dw_X2c a ac s0) → va_S A s.heap H locs → lv_has ls 3 [] → W p l e (headSpec ow_dm_X2_takeClose ({ frames := 2, cells := 0, slots := 0, locals := 45 })).room s m args below meth c H locs 0 0 Q (F0 m 120 ls [])
def dj_X2_takeClose_93 (p : Program) (l : Launch) (e : Env) (s : State) (m : MethodId) (args : Array Value) (below : List Frame) (meth : Method) (c : Code) (Q : State → Prop) (A : Nat → Prop) (dC : Nat → ClassId) (dI : Nat → Nat → Nat) (a : Nat → Nat) (ac : Nat → ClassId) (g : Int32 → (St) → Option (St)) (r : St) : Prop := ∀ (x2 : Int32) (s0 : St) (H : Heap) (locs : List Loc) (ls : Array Slot), g x2 s0 = some r → va_P (dC, dI) vwCl (dw_X2c a ac s0) H → va_D A (dw_X2c a ac s0) → va_S A s.heap H locs → lv_has ls 3 [(0, .ref (a 0)), (2, .int x2)] → W p l e (headSpec ow_dm_X2_takeClose ({ frames := 2, cells := 0, slots := 0, locals := 45 })).room s m args below meth c H locs 0 0 Q (F0 m 93 ls [])
def dj_X2_takeClose_75 (p : Program) (l : Launch) (e : Env) (s : State) (m : MethodId) (args : Array Value) (below : List Frame) (meth : Method) (c : Code) (Q : State → Prop) (A : Nat → Prop) (dC : Nat → ClassId) (dI : Nat → Nat → Nat) (a : Nat → Nat) (ac : Nat → ClassId) (g : Int32 → (St) → Option (St)) (r : St) : Prop := ∀ (x2 : Int32) (s0 : St) (H : Heap) (locs : List Loc) (ls : Array Slot), g x2 s0 = some r → va_P (dC, dI) vwCl (dw_X2c a ac s0) H → va_D A (dw_X2c a ac s0) → va_S A s.heap H locs → lv_has ls 3 [(0, .ref (a 0)), (2, .int x2)] → W p l e (headSpec ow_dm_X2_takeClose ({ frames := 2, cells := 0, slots := 0, locals := 45 })).room s m args below meth c H locs 0 0 Q (F0 m 75 ls [])
def dj_X2_takeClose_33 (p : Program) (l : Launch) (e : Env) (s : State) (m : MethodId) (args : Array Value) (below : List Frame) (meth : Method) (c : Code) (Q : State → Prop) (A : Nat → Prop) (dC : Nat → ClassId) (dI : Nat → Nat → Nat) (a : Nat → Nat) (ac : Nat → ClassId) (g : Int32 → Int32 → (St) → Option (St)) (r : St) : Prop := ∀ (x1 : Int32) (y0 : Int32) (s0 : St) (H : Heap) (locs : List Loc) (ls : Array Slot), g x1 y0 s0 = some r → va_P (dC, dI) vwCl (dw_X2c a ac s0) H → va_D A (dw_X2c a ac s0) → va_S A s.heap H locs → lv_has ls 3 [(0, .ref (a 0)), (1, .int x1)] → W p l e (headSpec ow_dm_X2_takeClose ({ frames := 2, cells := 0, slots := 0, locals := 45 })).room s m args below meth c H locs 0 0 Q (F0 m 33 ls [.int y0])
def dj_X2_takeClose_0 (p : Program) (l : Launch) (e : Env) (s : State) (m : MethodId) (args : Array Value) (below : List Frame) (meth : Method) (c : Code) (Q : State → Prop) (A : Nat → Prop) (dC : Nat → ClassId) (dI : Nat → Nat → Nat) (a : Nat → Nat) (ac : Nat → ClassId) (g : Int32 → (St) → Option (St)) (r : St) : Prop := ∀ (v0 : Int32) (s0 : St) (H : Heap) (locs : List Loc) (ls : Array Slot), g v0 s0 = some r → va_P (dC, dI) vwCl (dw_X2c a ac s0) H → va_D A (dw_X2c a ac s0) → va_S A s.heap H locs → lv_has ls 3 [(0, .ref (a 0)), (1, .int v0)] → W p l e (headSpec ow_dm_X2_takeClose ({ frames := 2, cells := 0, slots := 0, locals := 45 })).room s m args below meth c H locs 0 0 Q (F0 m 0 ls [])
set_option maxHeartbeats 40000000 in
set_option maxRecDepth 100000 in
theorem db_X2_takeClose_37 {p : Program} {l : Launch} {e : Env} {s : State} {m : MethodId} {args : Array Value} {below : List Frame} {meth : Method} {c : Code} {Q : State → Prop} {A : Nat → Prop} {dC : Nat → ClassId} {dI : Nat → Nat → Nat} {a : Nat → Nat} {ac : Nat → ClassId} {n : Nat} {r : St} (C : nd_C p l s m args c A (dC, dI) cX2_takeClose 3 RX2 ow_dm_X2_takeClose (dk_X2c ac)) (K : nd_Kv p l e (headSpec ow_dm_X2_takeClose ({ frames := 2, cells := 0, slots := 0, locals := 45 })).room s m args below meth c Q A (dC, dI) cX2_takeClose (St) (dw_X2c a ac) r) : dj_X2_takeClose_37 p l e s m args below meth c Q A dC dI a ac (df_X2_takeClose_37 n) r := by
  obtain ⟨hlt, hx, hb, hml, hown, hts, hN, hA, hK⟩ := id C
  intro s0 H locs ls h hP hD hS hl
  unfold df_X2_takeClose_37 at h
  refine lv_aload_n hx hb dX2_takeClose_37 rfl (lv_at hl 0 rfl) ?_
  refine lv_iconst (v := 1) hx hb dX2_takeClose_38 (by decide) ?_
  obtain ⟨s6, hq, h⟩ := nd_b1_e h
  have hPc := hP
  have hDc := hD
  have hKc := hK
  have hFc := nd_rs hD hS hA
  refine nd_cVv (As := [.int 1]) (rest := []) (w' := dw_X2c a ac s6) ⟨hx, hb, hml, hown, hts⟩ (fun sz => dm_X2_blame l hlt dC dI a ac n (1) s0 hq sz) (cwV 1 hts gi_dm_X2_takeClose_1 rfl rfl rfl (by decide +kernel) ⟨Nat.le_of_ble_eq_true rfl, Nat.le_of_ble_eq_true rfl⟩) hPc hDc hKc hS hA hN (va_recv hKc hPc (ci := 3) (q0 := 0) rfl rfl) rfl hl.1 rfl (Nat.le_of_ble_eq_true rfl) dX2_takeClose_39 (fun H locs hP1 hD1 hk1 hS => ?_)
  have hP := hP1
  have hD := hD1.weaken (fun k q _ h => hFc q.1 h)
  exact K _ _ _ _ _ dX2_takeClose_42 (Option.some.inj h).symm hP hD hS
set_option maxHeartbeats 40000000 in
set_option maxRecDepth 100000 in
theorem db_X2_takeClose_120 {p : Program} {l : Launch} {e : Env} {s : State} {m : MethodId} {args : Array Value} {below : List Frame} {meth : Method} {c : Code} {Q : State → Prop} {A : Nat → Prop} {dC : Nat → ClassId} {dI : Nat → Nat → Nat} {a : Nat → Nat} {ac : Nat → ClassId} {n : Nat} {r : St} (C : nd_C p l s m args c A (dC, dI) cX2_takeClose 3 RX2 ow_dm_X2_takeClose (dk_X2c ac)) (K : nd_Kv p l e (headSpec ow_dm_X2_takeClose ({ frames := 2, cells := 0, slots := 0, locals := 45 })).room s m args below meth c Q A (dC, dI) cX2_takeClose (St) (dw_X2c a ac) r) : dj_X2_takeClose_120 p l e s m args below meth c Q A dC dI a ac (df_X2_takeClose_120 n) r := by
  obtain ⟨hlt, hx, hb, hml, hown, hts, hN, hA, hK⟩ := id C
  intro s0 H locs ls h hP hD hS hl
  unfold df_X2_takeClose_120 at h
  exact K _ _ _ _ _ dX2_takeClose_120 (Option.some.inj h).symm hP hD hS
set_option maxHeartbeats 40000000 in
set_option maxRecDepth 100000 in
theorem db_X2_takeClose_93 {p : Program} {l : Launch} {e : Env} {s : State} {m : MethodId} {args : Array Value} {below : List Frame} {meth : Method} {c : Code} {Q : State → Prop} {A : Nat → Prop} {dC : Nat → ClassId} {dI : Nat → Nat → Nat} {a : Nat → Nat} {ac : Nat → ClassId} {n : Nat} {r : St} (C : nd_C p l s m args c A (dC, dI) cX2_takeClose 3 RX2 ow_dm_X2_takeClose (dk_X2c ac)) (K : nd_Kv p l e (headSpec ow_dm_X2_takeClose ({ frames := 2, cells := 0, slots := 0, locals := 45 })).room s m args below meth c Q A (dC, dI) cX2_takeClose (St) (dw_X2c a ac) r) : dj_X2_takeClose_93 p l e s m args below meth c Q A dC dI a ac (df_X2_takeClose_93 n) r := by
  obtain ⟨hlt, hx, hb, hml, hown, hts, hN, hA, hK⟩ := id C
  intro x2 s0 H locs ls h hP hD hS hl
  unfold df_X2_takeClose_93 at h
  refine lv_iload_n hx hb dX2_takeClose_93 rfl (lv_at hl 1 rfl) ?_
  refine lv_bipush (v := 22) hx hb dX2_takeClose_94 (by decide) ?_
  refine lv_icmp_eq (tgt := 120) hx hb dX2_takeClose_96 (by decide) (fun c18 => ?_) (fun c18 => ?_)
  · have h := nd_pos h c18
    exact (db_X2_takeClose_120 C K)  s0 _ _ _ h hP hD hS (lv_sub hl [] rfl)
  · have h := nd_neg h c18
    refine lv_iload_n hx hb dX2_takeClose_99 rfl (lv_at hl 1 rfl) ?_
    refine lv_bipush (v := 23) hx hb dX2_takeClose_100 (by decide) ?_
    refine lv_icmp_eq (tgt := 120) hx hb dX2_takeClose_102 (by decide) (fun c19 => ?_) (fun c19 => ?_)
    · have h := nd_pos h c19
      exact (db_X2_takeClose_120 C K)  s0 _ _ _ h hP hD hS (lv_sub hl [] rfl)
    · have h := nd_neg h c19
      refine lv_aload_n hx hb dX2_takeClose_105 rfl (lv_at hl 0 rfl) ?_
      refine lv_iload_n hx hb dX2_takeClose_106 rfl (lv_at hl 1 rfl) ?_
      refine lv_aload_n hx hb dX2_takeClose_107 rfl (lv_at hl 0 rfl) ?_
      refine va_get (D := (dC, dI)) (ci := 3) (v := .ref (a 5)) (C := RX2) (T := TX2) (N := 20) hx hb hts hi_dm_X2_takeClose_X2 hown hK hP 0 rfl rfl 6 (by decide) (hts (.fieldLink RX2 23 "TimeMachine$Condition" "signAt" "[I") (List.mem_of_getElem? (i := 11) rfl)) (fun _ h9 => h9) rfl dX2_takeClose_108 ?_
      refine lv_aload_n hx hb dX2_takeClose_111 rfl (lv_at hl 0 rfl) ?_
      refine va_get (D := (dC, dI)) (ci := 3) (v := .int (sI s0 1)) (C := RX2) (T := TX2) (N := 20) hx hb hts hi_dm_X2_takeClose_X2 hown hK hP 0 rfl rfl 4 (by decide) (hts (.fieldLink RX2 55 "TimeMachine$Condition" "top" "I") (List.mem_of_getElem? (i := 5) rfl)) (fun _ h9 => h9) rfl dX2_takeClose_112 ?_
      obtain ⟨i20, h⟩ := nd_ck_e h
      refine va_iald (i := (sI s0 1)) hx hb hK hP 5 4 rfl rfl i20 dX2_takeClose_115 ?_
      refine lv_i2l hx hb dX2_takeClose_116 rfl ?_
      obtain ⟨s22, hq, h⟩ := nd_b1_e h
      have hPc := hP
      have hDc := hD
      have hKc := hK
      have hFc := nd_rs hD hS hA
      refine nd_cVv (As := [.int x2, .long (((sR s0 2 (Int32.toNatClampNeg (sI s0 1))) : Int32).toInt64)]) (rest := []) (w' := dw_X2c a ac s22) ⟨hx, hb, hml, hown, hts⟩ (fun sz => dm_X2_emit l hlt dC dI a ac n (x2) ((((sR s0 2 (Int32.toNatClampNeg (sI s0 1))) : Int32).toInt64)) s0 hq sz) (cwV 2 hts gi_dm_X2_takeClose_2 rfl rfl rfl (by decide +kernel) ⟨Nat.le_of_ble_eq_true rfl, Nat.le_of_ble_eq_true rfl⟩) hPc hDc hKc hS hA hN (va_recv hKc hPc (ci := 3) (q0 := 0) rfl rfl) rfl hl.1 rfl (Nat.le_of_ble_eq_true rfl) dX2_takeClose_117 (fun H locs hP1 hD1 hk1 hS => ?_)
      have hP := hP1
      have hD := hD1.weaken (fun k q _ h => hFc q.1 h)
      exact (db_X2_takeClose_120 C K)  s22 _ _ _ h hP hD hS (lv_sub hl [] rfl)
set_option maxHeartbeats 40000000 in
set_option maxRecDepth 100000 in
theorem db_X2_takeClose_75 {p : Program} {l : Launch} {e : Env} {s : State} {m : MethodId} {args : Array Value} {below : List Frame} {meth : Method} {c : Code} {Q : State → Prop} {A : Nat → Prop} {dC : Nat → ClassId} {dI : Nat → Nat → Nat} {a : Nat → Nat} {ac : Nat → ClassId} {n : Nat} {r : St} (C : nd_C p l s m args c A (dC, dI) cX2_takeClose 3 RX2 ow_dm_X2_takeClose (dk_X2c ac)) (K : nd_Kv p l e (headSpec ow_dm_X2_takeClose ({ frames := 2, cells := 0, slots := 0, locals := 45 })).room s m args below meth c Q A (dC, dI) cX2_takeClose (St) (dw_X2c a ac) r) : dj_X2_takeClose_75 p l e s m args below meth c Q A dC dI a ac (df_X2_takeClose_75 n) r := by
  obtain ⟨hlt, hx, hb, hml, hown, hts, hN, hA, hK⟩ := id C
  intro x2 s0 H locs ls h hP hD hS hl
  unfold df_X2_takeClose_75 at h
  refine lv_aload_n hx hb dX2_takeClose_75 rfl (lv_at hl 0 rfl) ?_
  refine va_get (D := (dC, dI)) (ci := 3) (v := .ref (a 7)) (C := RX2) (T := TX2) (N := 20) hx hb hts hi_dm_X2_takeClose_X2 hown hK hP 0 rfl rfl 8 (by decide) (hts (.fieldLink RX2 29 "TimeMachine$Condition" "oldTo" "[I") (List.mem_of_getElem? (i := 10) rfl)) (fun _ h9 => h9) rfl dX2_takeClose_76 ?_
  refine lv_aload_n hx hb dX2_takeClose_79 rfl (lv_at hl 0 rfl) ?_
  refine va_get (D := (dC, dI)) (ci := 3) (v := .ref (a 5)) (C := RX2) (T := TX2) (N := 20) hx hb hts hi_dm_X2_takeClose_X2 hown hK hP 0 rfl rfl 6 (by decide) (hts (.fieldLink RX2 23 "TimeMachine$Condition" "signAt" "[I") (List.mem_of_getElem? (i := 11) rfl)) (fun _ h9 => h9) rfl dX2_takeClose_80 ?_
  refine lv_aload_n hx hb dX2_takeClose_83 rfl (lv_at hl 0 rfl) ?_
  refine va_get (D := (dC, dI)) (ci := 3) (v := .int (sI s0 1)) (C := RX2) (T := TX2) (N := 20) hx hb hts hi_dm_X2_takeClose_X2 hown hK hP 0 rfl rfl 4 (by decide) (hts (.fieldLink RX2 55 "TimeMachine$Condition" "top" "I") (List.mem_of_getElem? (i := 5) rfl)) (fun _ h9 => h9) rfl dX2_takeClose_84 ?_
  obtain ⟨i15, h⟩ := nd_ck_e h
  refine va_iald (i := (sI s0 1)) hx hb hK hP 5 4 rfl rfl i15 dX2_takeClose_87 ?_
  refine lv_aload_n hx hb dX2_takeClose_88 rfl (lv_at hl 0 rfl) ?_
  refine va_get (D := (dC, dI)) (ci := 3) (v := .int (sI s0 0)) (C := RX2) (T := TX2) (N := 20) hx hb hts hi_dm_X2_takeClose_X2 hown hK hP 0 rfl rfl 2 (by decide) (hts (.fieldLink RX2 52 "TimeMachine$Condition" "codes" "I") (List.mem_of_getElem? (i := 12) rfl)) (fun _ h9 => h9) rfl dX2_takeClose_89 ?_
  obtain ⟨i16, h⟩ := nd_ck_e h
  refine va_iast (i := (sR s0 2 (Int32.toNatClampNeg (sI s0 1)))) (x := (sI s0 0)) hx hb hK hP hD hS 7 6 rfl rfl i16 dX2_takeClose_92 (fun H locs hP hD hS => ?_)
  obtain ⟨s17, es17, h⟩ := nd_let_e h
  have hP : va_P (dC, dI) vwCl (dw_X2c a ac s17) H := by rw [es17]; exact hP
  have hD : va_D A (dw_X2c a ac s17) := by rw [es17]; exact hD
  exact (db_X2_takeClose_93 C K) (x2) s17 _ _ _ h hP hD hS (lv_sub hl [0, 1] rfl)
set_option maxHeartbeats 40000000 in
set_option maxRecDepth 100000 in
theorem db_X2_takeClose_33 {p : Program} {l : Launch} {e : Env} {s : State} {m : MethodId} {args : Array Value} {below : List Frame} {meth : Method} {c : Code} {Q : State → Prop} {A : Nat → Prop} {dC : Nat → ClassId} {dI : Nat → Nat → Nat} {a : Nat → Nat} {ac : Nat → ClassId} {n : Nat} {r : St} (C : nd_C p l s m args c A (dC, dI) cX2_takeClose 3 RX2 ow_dm_X2_takeClose (dk_X2c ac)) (K : nd_Kv p l e (headSpec ow_dm_X2_takeClose ({ frames := 2, cells := 0, slots := 0, locals := 45 })).room s m args below meth c Q A (dC, dI) cX2_takeClose (St) (dw_X2c a ac) r) : dj_X2_takeClose_33 p l e s m args below meth c Q A dC dI a ac (df_X2_takeClose_33 n) r := by
  obtain ⟨hlt, hx, hb, hml, hown, hts, hN, hA, hK⟩ := id C
  intro x1 y0 s0 H locs ls h hP hD hS hl
  unfold df_X2_takeClose_33 at h
  refine lv_iload_n hx hb dX2_takeClose_33 rfl (lv_at hl 1 rfl) ?_
  refine lv_icmp_eq (tgt := 43) hx hb dX2_takeClose_34 (by decide) (fun c10 => ?_) (fun c10 => ?_)
  · have h := nd_pos h c10
    refine lv_aload_n hx hb dX2_takeClose_43 rfl (lv_at hl 0 rfl) ?_
    refine lv_dup hx hb dX2_takeClose_44 rfl ?_
    refine va_get (D := (dC, dI)) (ci := 3) (v := .int (sI s0 1)) (C := RX2) (T := TX2) (N := 20) hx hb hts hi_dm_X2_takeClose_X2 hown hK hP 0 rfl rfl 4 (by decide) (hts (.fieldLink RX2 55 "TimeMachine$Condition" "top" "I") (List.mem_of_getElem? (i := 5) rfl)) (fun _ h9 => h9) rfl dX2_takeClose_45 ?_
    refine lv_iconst (v := 1) hx hb dX2_takeClose_48 (by decide) ?_
    refine lv_isub hx hb dX2_takeClose_49 ?_
    refine va_put (D := (dC, dI)) (ci := 3) (v := .int ((sI s0 1) - 1)) (ty := .int) (C := RX2) (T := TX2) (N := 20) hx hb hts hi_dm_X2_takeClose_X2 tyX2 tyX2_ok nmX2 hown hK hP hD hS 0 rfl rfl 4 (by decide) (hts (.fieldLink RX2 55 "TimeMachine$Condition" "top" "I") (List.mem_of_getElem? (i := 5) rfl)) (fun _ h9 => h9) rfl (by decide +kernel) rfl rfl (Nat.le_of_ble_eq_true rfl) dX2_takeClose_50 (fun H locs hP hD hS => ?_)
    obtain ⟨s11, es11, h⟩ := nd_let_e h
    have hP : va_P (dC, dI) vwCl (dw_X2c a ac s11) H := by rw [es11]; exact hP
    have hD : va_D A (dw_X2c a ac s11) := by rw [es11]; exact hD
    refine lv_aload_n hx hb dX2_takeClose_53 rfl (lv_at hl 0 rfl) ?_
    refine va_get (D := (dC, dI)) (ci := 3) (v := .ref (a 4)) (C := RX2) (T := TX2) (N := 20) hx hb hts hi_dm_X2_takeClose_X2 hown hK hP 0 rfl rfl 5 (by decide) (hts (.fieldLink RX2 20 "TimeMachine$Condition" "sign" "[I") (List.mem_of_getElem? (i := 9) rfl)) (fun _ h9 => h9) rfl dX2_takeClose_54 ?_
    refine lv_aload_n hx hb dX2_takeClose_57 rfl (lv_at hl 0 rfl) ?_
    refine va_get (D := (dC, dI)) (ci := 3) (v := .int (sI s11 1)) (C := RX2) (T := TX2) (N := 20) hx hb hts hi_dm_X2_takeClose_X2 hown hK hP 0 rfl rfl 4 (by decide) (hts (.fieldLink RX2 55 "TimeMachine$Condition" "top" "I") (List.mem_of_getElem? (i := 5) rfl)) (fun _ h9 => h9) rfl dX2_takeClose_58 ?_
    obtain ⟨i12, h⟩ := nd_ck_e h
    refine va_iald (i := (sI s11 1)) hx hb hK hP 4 3 rfl rfl i12 dX2_takeClose_61 ?_
    refine lv_topi (fun z13 ez13 => ?_)
    have h := nd_at h ez13
    refine lv_istore_n (lv' := [(2, .int z13), (0, .ref (a 0)), (1, .int x1)]) hx hb dX2_takeClose_62 rfl hl (by decide) rfl (fun ls hl => ?_)
    refine lv_iload_n hx hb dX2_takeClose_63 rfl (lv_at hl 0 rfl) ?_
    refine lv_bipush (v := 23) hx hb dX2_takeClose_64 (by decide) ?_
    refine lv_icmp_eq (tgt := 75) hx hb dX2_takeClose_66 (by decide) (fun c14 => ?_) (fun c14 => ?_)
    · have h := nd_pos h c14
      exact (db_X2_takeClose_75 C K) (z13) s11 _ _ _ h hP hD hS (lv_sub hl [1, 0] rfl)
    · have h := nd_neg h c14
      refine lv_iload_n hx hb dX2_takeClose_69 rfl (lv_at hl 0 rfl) ?_
      refine lv_bipush (v := 24) hx hb dX2_takeClose_70 (by decide) ?_
      refine lv_icmp_ne (tgt := 93) hx hb dX2_takeClose_72 (by decide) (fun c24 => ?_) (fun c24 => ?_)
      · have h := nd_neg h c24
        exact (db_X2_takeClose_93 C K) (z13) s11 _ _ _ h hP hD hS (lv_sub hl [1, 0] rfl)
      · have h := nd_pos h c24
        exact (db_X2_takeClose_75 C K) (z13) s11 _ _ _ h hP hD hS (lv_sub hl [1, 0] rfl)
  · have h := nd_neg h c10
    exact (db_X2_takeClose_37 C K)  s0 _ _ _ h hP hD hS (lv_sub hl [0] rfl)
set_option maxHeartbeats 40000000 in
set_option maxRecDepth 100000 in
theorem db_X2_takeClose_0 {p : Program} {l : Launch} {e : Env} {s : State} {m : MethodId} {args : Array Value} {below : List Frame} {meth : Method} {c : Code} {Q : State → Prop} {A : Nat → Prop} {dC : Nat → ClassId} {dI : Nat → Nat → Nat} {a : Nat → Nat} {ac : Nat → ClassId} {n : Nat} {r : St} (C : nd_C p l s m args c A (dC, dI) cX2_takeClose 3 RX2 ow_dm_X2_takeClose (dk_X2c ac)) (K : nd_Kv p l e (headSpec ow_dm_X2_takeClose ({ frames := 2, cells := 0, slots := 0, locals := 45 })).room s m args below meth c Q A (dC, dI) cX2_takeClose (St) (dw_X2c a ac) r) : dj_X2_takeClose_0 p l e s m args below meth c Q A dC dI a ac (df_X2_takeClose_0 n) r := by
  obtain ⟨hlt, hx, hb, hml, hown, hts, hN, hA, hK⟩ := id C
  intro v0 s0 H locs ls h hP hD hS hl
  unfold df_X2_takeClose_0 at h
  refine lv_aload_n hx hb dX2_takeClose_0 rfl (lv_at hl 0 rfl) ?_
  refine lv_iconst (v := 0) hx hb dX2_takeClose_1 (by decide) ?_
  obtain ⟨s2, hq, h⟩ := nd_b1_e h
  have hPc := hP
  have hDc := hD
  have hKc := hK
  have hFc := nd_rs hD hS hA
  refine nd_cVv (As := [.int 0]) (rest := []) (w' := dw_X2c a ac s2) ⟨hx, hb, hml, hown, hts⟩ (fun sz => dm_X2_popTo l hlt dC dI a ac n (0) s0 hq sz) (cwV 1 hts gi_dm_X2_takeClose_0 rfl rfl rfl (by decide +kernel) ⟨Nat.le_of_ble_eq_true rfl, Nat.le_of_ble_eq_true rfl⟩) hPc hDc hKc hS hA hN (va_recv hKc hPc (ci := 3) (q0 := 0) rfl rfl) rfl hl.1 rfl (Nat.le_of_ble_eq_true rfl) dX2_takeClose_2 (fun H locs hP1 hD1 hk1 hS => ?_)
  have hP := hP1
  have hD := hD1.weaken (fun k q _ h => hFc q.1 h)
  refine lv_aload_n hx hb dX2_takeClose_5 rfl (lv_at hl 0 rfl) ?_
  refine va_get (D := (dC, dI)) (ci := 3) (v := .int (sI s2 1)) (C := RX2) (T := TX2) (N := 20) hx hb hts hi_dm_X2_takeClose_X2 hown hK hP 0 rfl rfl 4 (by decide) (hts (.fieldLink RX2 55 "TimeMachine$Condition" "top" "I") (List.mem_of_getElem? (i := 5) rfl)) (fun _ h9 => h9) rfl dX2_takeClose_6 ?_
  refine lv_if_eq (tgt := 37) hx hb dX2_takeClose_9 (by decide) (fun c4 => ?_) (fun c4 => ?_)
  · have h := nd_pos h c4
    exact (db_X2_takeClose_37 C K)  s2 _ _ _ h hP hD hS (lv_sub hl [0] rfl)
  · have h := nd_neg h c4
    refine lv_aload_n hx hb dX2_takeClose_12 rfl (lv_at hl 0 rfl) ?_
    refine va_get (D := (dC, dI)) (ci := 3) (v := .ref (a 4)) (C := RX2) (T := TX2) (N := 20) hx hb hts hi_dm_X2_takeClose_X2 hown hK hP 0 rfl rfl 5 (by decide) (hts (.fieldLink RX2 20 "TimeMachine$Condition" "sign" "[I") (List.mem_of_getElem? (i := 9) rfl)) (fun _ h9 => h9) rfl dX2_takeClose_13 ?_
    refine lv_aload_n hx hb dX2_takeClose_16 rfl (lv_at hl 0 rfl) ?_
    refine va_get (D := (dC, dI)) (ci := 3) (v := .int (sI s2 1)) (C := RX2) (T := TX2) (N := 20) hx hb hts hi_dm_X2_takeClose_X2 hown hK hP 0 rfl rfl 4 (by decide) (hts (.fieldLink RX2 55 "TimeMachine$Condition" "top" "I") (List.mem_of_getElem? (i := 5) rfl)) (fun _ h9 => h9) rfl dX2_takeClose_17 ?_
    refine lv_iconst (v := 1) hx hb dX2_takeClose_20 (by decide) ?_
    refine lv_isub hx hb dX2_takeClose_21 ?_
    obtain ⟨i8, h⟩ := nd_ck_e h
    refine va_iald (i := ((sI s2 1) - 1)) hx hb hK hP 4 3 rfl rfl i8 dX2_takeClose_22 ?_
    refine lv_bipush (v := 25) hx hb dX2_takeClose_23 (by decide) ?_
    refine lv_icmp_lt (tgt := 32) hx hb dX2_takeClose_25 (by decide) (fun c9 => ?_) (fun c9 => ?_)
    · have h := nd_pos h c9
      refine lv_iconst (v := 0) hx hb dX2_takeClose_32 (by decide) ?_
      exact (db_X2_takeClose_33 C K) (v0) (0) s2 _ _ _ h hP hD hS (lv_sub hl [0, 1] rfl)
    · have h := nd_neg h c9
      refine lv_iconst (v := 1) hx hb dX2_takeClose_28 (by decide) ?_
      refine lv_goto (tgt := 33) hx hb dX2_takeClose_29 (by decide) ?_
      exact (db_X2_takeClose_33 C K) (v0) (1) s2 _ _ _ h hP hD hS (lv_sub hl [0, 1] rfl)
set_option maxHeartbeats 40000000 in
set_option maxRecDepth 100000 in
theorem dm_X2_takeClose (l : Launch) (hlt : l.stackTraces = false) (dC : Nat → ClassId) (dI : Nat → Nat → Nat) (a : Nat → Nat) (ac : Nat → ClassId) (n : Nat) (v0 : Int32) (s0 : St) {r : St} (h : df_X2_takeClose n v0 s0 = some r) (sz : Nat) : Met l yX2_takeClose ow_dm_X2_takeClose ({ frames := 2, cells := 0, slots := 0, locals := 45 }) (va_Pc [.ref (a 0), .int v0] (fun U => U.heap.size = sz ∧ va_P (dC, dI) vwCl (dw_X2c a ac s0) U.heap ∧ va_K (dC, dI) vwCl (dk_X2c ac) U ∧ va_D (fun _ => True) (dw_X2c a ac s0) ∧ nv_E dI (va_A (dw_X2c a ac s0) sz) U)) (va_Qv (fun _ => True) (fun (_ : Unit) t => va_P (dC, dI) vwCl (dw_X2c a ac r) t.heap ∧ va_K (dC, dI) vwCl (dk_X2c ac) t ∧ va_D (va_A (dw_X2c a ac s0) sz) (dw_X2c a ac r)) (va_A (dw_X2c a ac s0) sz)) 0 0 (va_A (dw_X2c a ac s0) sz) := by
  refine Met.ofW (cc := cX2_takeClose) (maxL := 3) (ret := none) (by decide) rfl ?_
  intro p e s m args below meth c s₁ B hml hv
  obtain ⟨rfl, hsz, hP, hK, hD0, hN⟩ := hv
  have hx := B.exec
  have hb := B.bytes
  have hr := B.returns
  have hts := atoms_spec (ws := ow_dm_X2_takeClose) B.pre
  have hown : s.vm.findClass RX2 = some m.cls := findClass_of_methodNamed B.named
  have hlocks := B.notSynchronized
  subst hsz
  have hD := hD0.self (sz := s.heap.size)
  generalize hAe : va_A (dw_X2c a ac s0) s.heap.size = A at hD hN ⊢
  have hA : ∀ q : Nat, s.heap.size ≤ q → A q := fun q h => by rw [← hAe]; exact Or.inr h
  have hl := lv_entry ([.ref (a 0), .int v0]) (n := 3) (Nat.le_of_ble_eq_true rfl)
  rw [lg_entry_eq]
  generalize (lg_sl ([.ref (a 0), .int v0]) ++ List.replicate (3 - (lg_sl ([.ref (a 0), .int v0])).length) Slot.unset).toArray = ls at hl ⊢
  have hl : lv_has ls 3 [(0, .ref (a 0)), (1, .int v0)] := hl
  exact db_X2_takeClose_0 (dC := dC) (dI := dI) (a := a) (ac := ac) (n := n) (r := r) ⟨hlt, hx, hb, hml, hown, hts, hN, hA, hK⟩ (fun pc τ H locs ls d er hP hD hS => by subst er; exact W.vret hx hb hr (fun t ht hW => ⟨⟨(), rfl, trivial, by rw [ht]; exact hP, va_K.moved hW.alike hK, hD⟩, hS.F ht⟩) hS.2.2 d) v0 s0 _ _ _ h hP hD va_S.rf (lv_sub hl [0, 1] rfl)
def ow_dm_X2_part : List Cond := Cond.code yX2_part cX2_part 1 none :: ([Cond.fieldLink RX2 61 "TimeMachine$Condition" "parts" "I", Cond.methodLink RX2 84 yX2_blame, Cond.instanceMethod yX2_blame, Cond.selects RX2 yX2_blame yX2_blame, Cond.initialized RX2] ++ (u_ws RX2 TX2 20 ++ (ow_dm_X2_blame ++ [])))
theorem gd_dm_X2_part : ∀ w ∈ ow_dm_X2_part, (w.onTables && w.keeps) = true ∨ ∃ ty, w = Cond.arrayClass ty := List.forall_mem_cons.mpr ⟨good_of_word rfl, List.forall_mem_append.mpr ⟨fun w h => good_of_word (List.all_eq_true.mp (by decide +kernel) w h), List.forall_mem_append.mpr ⟨gu_X2, List.forall_mem_append.mpr ⟨gd_dm_X2_blame, fun _ h => nomatch h⟩⟩⟩⟩
theorem hi_dm_X2_part_X2 : ∀ w ∈ u_ws RX2 TX2 20, w ∈ ow_dm_X2_part := fun w h => List.mem_cons_of_mem _ (List.mem_append_right _ (List.mem_append_left _ h))
theorem gi_dm_X2_part_0 : GoodIn ow_dm_X2_part (wsV RX2 84 RX2 yX2_blame ow_dm_X2_blame) := goodIn_app (goodIn_of _ (by decide +kernel)) (fun w h => ⟨List.mem_cons_of_mem _ (List.mem_append_right _ (List.mem_append_right _ (List.mem_append_left _ h))), gd_dm_X2_blame w h⟩)
def dj_X2_part_24 (p : Program) (l : Launch) (e : Env) (s : State) (m : MethodId) (args : Array Value) (below : List Frame) (meth : Method) (c : Code) (Q : State → Prop) (A : Nat → Prop) (dC : Nat → ClassId) (dI : Nat → Nat → Nat) (a : Nat → Nat) (ac : Nat → ClassId) (g : (St) → Option (St)) (r : St) : Prop := ∀ (s0 : St) (H : Heap) (locs : List Loc) (ls : Array Slot), g s0 = some r → va_P (dC, dI) vwCl (dw_X2c a ac s0) H → va_D A (dw_X2c a ac s0) → va_S A s.heap H locs → lv_has ls 1 [] → W p l e (headSpec ow_dm_X2_part ({ frames := 1, cells := 0, slots := 0, locals := 21 })).room s m args below meth c H locs 0 0 Q (F0 m 24 ls [])
def dj_X2_part_0 (p : Program) (l : Launch) (e : Env) (s : State) (m : MethodId) (args : Array Value) (below : List Frame) (meth : Method) (c : Code) (Q : State → Prop) (A : Nat → Prop) (dC : Nat → ClassId) (dI : Nat → Nat → Nat) (a : Nat → Nat) (ac : Nat → ClassId) (g : (St) → Option (St)) (r : St) : Prop := ∀ (s0 : St) (H : Heap) (locs : List Loc) (ls : Array Slot), g s0 = some r → va_P (dC, dI) vwCl (dw_X2c a ac s0) H → va_D A (dw_X2c a ac s0) → va_S A s.heap H locs → lv_has ls 1 [(0, .ref (a 0))] → W p l e (headSpec ow_dm_X2_part ({ frames := 1, cells := 0, slots := 0, locals := 21 })).room s m args below meth c H locs 0 0 Q (F0 m 0 ls [])
set_option maxHeartbeats 40000000 in
set_option maxRecDepth 100000 in
theorem db_X2_part_24 {p : Program} {l : Launch} {e : Env} {s : State} {m : MethodId} {args : Array Value} {below : List Frame} {meth : Method} {c : Code} {Q : State → Prop} {A : Nat → Prop} {dC : Nat → ClassId} {dI : Nat → Nat → Nat} {a : Nat → Nat} {ac : Nat → ClassId} {n : Nat} {r : St} (C : nd_C p l s m args c A (dC, dI) cX2_part 1 RX2 ow_dm_X2_part (dk_X2c ac)) (K : nd_Kv p l e (headSpec ow_dm_X2_part ({ frames := 1, cells := 0, slots := 0, locals := 21 })).room s m args below meth c Q A (dC, dI) cX2_part (St) (dw_X2c a ac) r) : dj_X2_part_24 p l e s m args below meth c Q A dC dI a ac (df_X2_part_24 n) r := by
  obtain ⟨hlt, hx, hb, hml, hown, hts, hN, hA, hK⟩ := id C
  intro s0 H locs ls h hP hD hS hl
  unfold df_X2_part_24 at h
  exact K _ _ _ _ _ dX2_part_24 (Option.some.inj h).symm hP hD hS
set_option maxHeartbeats 40000000 in
set_option maxRecDepth 100000 in
theorem db_X2_part_0 {p : Program} {l : Launch} {e : Env} {s : State} {m : MethodId} {args : Array Value} {below : List Frame} {meth : Method} {c : Code} {Q : State → Prop} {A : Nat → Prop} {dC : Nat → ClassId} {dI : Nat → Nat → Nat} {a : Nat → Nat} {ac : Nat → ClassId} {n : Nat} {r : St} (C : nd_C p l s m args c A (dC, dI) cX2_part 1 RX2 ow_dm_X2_part (dk_X2c ac)) (K : nd_Kv p l e (headSpec ow_dm_X2_part ({ frames := 1, cells := 0, slots := 0, locals := 21 })).room s m args below meth c Q A (dC, dI) cX2_part (St) (dw_X2c a ac) r) : dj_X2_part_0 p l e s m args below meth c Q A dC dI a ac (df_X2_part_0 n) r := by
  obtain ⟨hlt, hx, hb, hml, hown, hts, hN, hA, hK⟩ := id C
  intro s0 H locs ls h hP hD hS hl
  unfold df_X2_part_0 at h
  refine lv_aload_n hx hb dX2_part_0 rfl (lv_at hl 0 rfl) ?_
  refine lv_dup hx hb dX2_part_1 rfl ?_
  refine va_get (D := (dC, dI)) (ci := 3) (v := .int (sI s0 9)) (C := RX2) (T := TX2) (N := 20) hx hb hts hi_dm_X2_part_X2 hown hK hP 0 rfl rfl 19 (by decide) (hts (.fieldLink RX2 61 "TimeMachine$Condition" "parts" "I") (List.mem_of_getElem? (i := 1) rfl)) (fun _ h9 => h9) rfl dX2_part_2 ?_
  refine lv_iconst (v := 1) hx hb dX2_part_5 (by decide) ?_
  refine lv_iadd hx hb dX2_part_6 ?_
  refine va_put (D := (dC, dI)) (ci := 3) (v := .int ((sI s0 9) + 1)) (ty := .int) (C := RX2) (T := TX2) (N := 20) hx hb hts hi_dm_X2_part_X2 tyX2 tyX2_ok nmX2 hown hK hP hD hS 0 rfl rfl 19 (by decide) (hts (.fieldLink RX2 61 "TimeMachine$Condition" "parts" "I") (List.mem_of_getElem? (i := 1) rfl)) (fun _ h9 => h9) rfl (by decide +kernel) rfl rfl (Nat.le_of_ble_eq_true rfl) dX2_part_7 (fun H locs hP hD hS => ?_)
  obtain ⟨s1, es1, h⟩ := nd_let_e h
  have hP : va_P (dC, dI) vwCl (dw_X2c a ac s1) H := by rw [es1]; exact hP
  have hD : va_D A (dw_X2c a ac s1) := by rw [es1]; exact hD
  refine lv_aload_n hx hb dX2_part_10 rfl (lv_at hl 0 rfl) ?_
  refine va_get (D := (dC, dI)) (ci := 3) (v := .int (sI s1 9)) (C := RX2) (T := TX2) (N := 20) hx hb hts hi_dm_X2_part_X2 hown hK hP 0 rfl rfl 19 (by decide) (hts (.fieldLink RX2 61 "TimeMachine$Condition" "parts" "I") (List.mem_of_getElem? (i := 1) rfl)) (fun _ h9 => h9) rfl dX2_part_11 ?_
  refine lv_bipush (v := 40) hx hb dX2_part_14 (by decide) ?_
  refine lv_icmp_le (tgt := 24) hx hb dX2_part_16 (by decide) (fun c2 => ?_) (fun c2 => ?_)
  · have h := nd_pos h c2
    exact (db_X2_part_24 C K)  s1 _ _ _ h hP hD hS (lv_sub hl [] rfl)
  · have h := nd_neg h c2
    refine lv_aload_n hx hb dX2_part_19 rfl (lv_at hl 0 rfl) ?_
    refine lv_iconst (v := 3) hx hb dX2_part_20 (by decide) ?_
    obtain ⟨s4, hq, h⟩ := nd_b1_e h
    have hPc := hP
    have hDc := hD
    have hKc := hK
    have hFc := nd_rs hD hS hA
    refine nd_cVv (As := [.int 3]) (rest := []) (w' := dw_X2c a ac s4) ⟨hx, hb, hml, hown, hts⟩ (fun sz => dm_X2_blame l hlt dC dI a ac n (3) s1 hq sz) (cwV 1 hts gi_dm_X2_part_0 rfl rfl rfl (by decide +kernel) ⟨Nat.le_of_ble_eq_true rfl, Nat.le_of_ble_eq_true rfl⟩) hPc hDc hKc hS hA hN (va_recv hKc hPc (ci := 3) (q0 := 0) rfl rfl) rfl hl.1 rfl (Nat.le_of_ble_eq_true rfl) dX2_part_21 (fun H locs hP1 hD1 hk1 hS => ?_)
    have hP := hP1
    have hD := hD1.weaken (fun k q _ h => hFc q.1 h)
    exact (db_X2_part_24 C K)  s4 _ _ _ h hP hD hS (lv_sub hl [] rfl)
set_option maxHeartbeats 40000000 in
set_option maxRecDepth 100000 in
theorem dm_X2_part (l : Launch) (hlt : l.stackTraces = false) (dC : Nat → ClassId) (dI : Nat → Nat → Nat) (a : Nat → Nat) (ac : Nat → ClassId) (n : Nat) (s0 : St) {r : St} (h : df_X2_part n s0 = some r) (sz : Nat) : Met l yX2_part ow_dm_X2_part ({ frames := 1, cells := 0, slots := 0, locals := 21 }) (va_Pc [.ref (a 0)] (fun U => U.heap.size = sz ∧ va_P (dC, dI) vwCl (dw_X2c a ac s0) U.heap ∧ va_K (dC, dI) vwCl (dk_X2c ac) U ∧ va_D (fun _ => True) (dw_X2c a ac s0) ∧ nv_E dI (va_A (dw_X2c a ac s0) sz) U)) (va_Qv (fun _ => True) (fun (_ : Unit) t => va_P (dC, dI) vwCl (dw_X2c a ac r) t.heap ∧ va_K (dC, dI) vwCl (dk_X2c ac) t ∧ va_D (va_A (dw_X2c a ac s0) sz) (dw_X2c a ac r)) (va_A (dw_X2c a ac s0) sz)) 0 0 (va_A (dw_X2c a ac s0) sz) := by
  refine Met.ofW (cc := cX2_part) (maxL := 1) (ret := none) (by decide) rfl ?_
  intro p e s m args below meth c s₁ B hml hv
  obtain ⟨rfl, hsz, hP, hK, hD0, hN⟩ := hv
  have hx := B.exec
  have hb := B.bytes
  have hr := B.returns
  have hts := atoms_spec (ws := ow_dm_X2_part) B.pre
  have hown : s.vm.findClass RX2 = some m.cls := findClass_of_methodNamed B.named
  have hlocks := B.notSynchronized
  subst hsz
  have hD := hD0.self (sz := s.heap.size)
  generalize hAe : va_A (dw_X2c a ac s0) s.heap.size = A at hD hN ⊢
  have hA : ∀ q : Nat, s.heap.size ≤ q → A q := fun q h => by rw [← hAe]; exact Or.inr h
  have hl := lv_entry ([.ref (a 0)]) (n := 1) (Nat.le_of_ble_eq_true rfl)
  rw [lg_entry_eq]
  generalize (lg_sl ([.ref (a 0)]) ++ List.replicate (1 - (lg_sl ([.ref (a 0)])).length) Slot.unset).toArray = ls at hl ⊢
  have hl : lv_has ls 1 [(0, .ref (a 0))] := hl
  exact db_X2_part_0 (dC := dC) (dI := dI) (a := a) (ac := ac) (n := n) (r := r) ⟨hlt, hx, hb, hml, hown, hts, hN, hA, hK⟩ (fun pc τ H locs ls d er hP hD hS => by subst er; exact W.vret hx hb hr (fun t ht hW => ⟨⟨(), rfl, trivial, by rw [ht]; exact hP, va_K.moved hW.alike hK, hD⟩, hS.F ht⟩) hS.2.2 d) s0 _ _ _ h hP hD va_S.rf (lv_sub hl [0] rfl)
def ow_dm_X2_push : List Cond := Cond.code yX2_push cX2_push 3 none :: ([Cond.fieldLink RX2 64 "TimeMachine$Condition" "fault" "I", Cond.fieldLink RX2 55 "TimeMachine$Condition" "top" "I", Cond.fieldLink RX2 20 "TimeMachine$Condition" "sign" "[I", Cond.fieldLink RX2 23 "TimeMachine$Condition" "signAt" "[I"] ++ (u_ws RX2 TX2 20 ++ []))
theorem gd_dm_X2_push : ∀ w ∈ ow_dm_X2_push, (w.onTables && w.keeps) = true ∨ ∃ ty, w = Cond.arrayClass ty := List.forall_mem_cons.mpr ⟨good_of_word rfl, List.forall_mem_append.mpr ⟨fun w h => good_of_word (List.all_eq_true.mp (by decide +kernel) w h), List.forall_mem_append.mpr ⟨gu_X2, fun _ h => nomatch h⟩⟩⟩
theorem hi_dm_X2_push_X2 : ∀ w ∈ u_ws RX2 TX2 20, w ∈ ow_dm_X2_push := fun w h => List.mem_cons_of_mem _ (List.mem_append_right _ (List.mem_append_left _ h))
def dj_X2_push_49 (p : Program) (l : Launch) (e : Env) (s : State) (m : MethodId) (args : Array Value) (below : List Frame) (meth : Method) (c : Code) (Q : State → Prop) (A : Nat → Prop) (dC : Nat → ClassId) (dI : Nat → Nat → Nat) (a : Nat → Nat) (ac : Nat → ClassId) (g : (St) → Option (St)) (r : St) : Prop := ∀ (s0 : St) (H : Heap) (locs : List Loc) (ls : Array Slot), g s0 = some r → va_P (dC, dI) vwCl (dw_X2c a ac s0) H → va_D A (dw_X2c a ac s0) → va_S A s.heap H locs → lv_has ls 3 [] → W p l e (headSpec ow_dm_X2_push ({ frames := 0, cells := 0, slots := 0, locals := 0 })).room s m args below meth c H locs 0 0 Q (F0 m 49 ls [])
def dj_X2_push_0 (p : Program) (l : Launch) (e : Env) (s : State) (m : MethodId) (args : Array Value) (below : List Frame) (meth : Method) (c : Code) (Q : State → Prop) (A : Nat → Prop) (dC : Nat → ClassId) (dI : Nat → Nat → Nat) (a : Nat → Nat) (ac : Nat → ClassId) (g : Int32 → Int32 → (St) → Option (St)) (r : St) : Prop := ∀ (v0 : Int32) (v1 : Int32) (s0 : St) (H : Heap) (locs : List Loc) (ls : Array Slot), g v0 v1 s0 = some r → va_P (dC, dI) vwCl (dw_X2c a ac s0) H → va_D A (dw_X2c a ac s0) → va_S A s.heap H locs → lv_has ls 3 [(0, .ref (a 0)), (1, .int v0), (2, .int v1)] → W p l e (headSpec ow_dm_X2_push ({ frames := 0, cells := 0, slots := 0, locals := 0 })).room s m args below meth c H locs 0 0 Q (F0 m 0 ls [])
set_option maxHeartbeats 40000000 in
set_option maxRecDepth 100000 in
theorem db_X2_push_49 {p : Program} {l : Launch} {e : Env} {s : State} {m : MethodId} {args : Array Value} {below : List Frame} {meth : Method} {c : Code} {Q : State → Prop} {A : Nat → Prop} {dC : Nat → ClassId} {dI : Nat → Nat → Nat} {a : Nat → Nat} {ac : Nat → ClassId} {n : Nat} {r : St} (C : nd_C p l s m args c A (dC, dI) cX2_push 3 RX2 ow_dm_X2_push (dk_X2c ac)) (K : nd_Kv p l e (headSpec ow_dm_X2_push ({ frames := 0, cells := 0, slots := 0, locals := 0 })).room s m args below meth c Q A (dC, dI) cX2_push (St) (dw_X2c a ac) r) : dj_X2_push_49 p l e s m args below meth c Q A dC dI a ac (df_X2_push_49 n) r := by
  obtain ⟨hlt, hx, hb, hml, hown, hts, hN, hA, hK⟩ := id C
  intro s0 H locs ls h hP hD hS hl
  unfold df_X2_push_49 at h
  exact K _ _ _ _ _ dX2_push_49 (Option.some.inj h).symm hP hD hS
set_option maxHeartbeats 40000000 in
set_option maxRecDepth 100000 in
theorem db_X2_push_0 {p : Program} {l : Launch} {e : Env} {s : State} {m : MethodId} {args : Array Value} {below : List Frame} {meth : Method} {c : Code} {Q : State → Prop} {A : Nat → Prop} {dC : Nat → ClassId} {dI : Nat → Nat → Nat} {a : Nat → Nat} {ac : Nat → ClassId} {n : Nat} {r : St} (C : nd_C p l s m args c A (dC, dI) cX2_push 3 RX2 ow_dm_X2_push (dk_X2c ac)) (K : nd_Kv p l e (headSpec ow_dm_X2_push ({ frames := 0, cells := 0, slots := 0, locals := 0 })).room s m args below meth c Q A (dC, dI) cX2_push (St) (dw_X2c a ac) r) : dj_X2_push_0 p l e s m args below meth c Q A dC dI a ac (df_X2_push_0 n) r := by
  obtain ⟨hlt, hx, hb, hml, hown, hts, hN, hA, hK⟩ := id C
  intro v0 v1 s0 H locs ls h hP hD hS hl
  unfold df_X2_push_0 at h
  refine lv_aload_n hx hb dX2_push_0 rfl (lv_at hl 0 rfl) ?_
  refine va_get (D := (dC, dI)) (ci := 3) (v := .int (sI s0 8)) (C := RX2) (T := TX2) (N := 20) hx hb hts hi_dm_X2_push_X2 hown hK hP 0 rfl rfl 18 (by decide) (hts (.fieldLink RX2 64 "TimeMachine$Condition" "fault" "I") (List.mem_of_getElem? (i := 1) rfl)) (fun _ h9 => h9) rfl dX2_push_1 ?_
  refine lv_if_ne (tgt := 49) hx hb dX2_push_4 (by decide) (fun c1 => ?_) (fun c1 => ?_)
  · have h := nd_neg h c1
    exact (db_X2_push_49 C K)  s0 _ _ _ h hP hD hS (lv_sub hl [] rfl)
  · have h := nd_pos h c1
    refine lv_aload_n hx hb dX2_push_7 rfl (lv_at hl 0 rfl) ?_
    refine va_get (D := (dC, dI)) (ci := 3) (v := .int (sI s0 1)) (C := RX2) (T := TX2) (N := 20) hx hb hts hi_dm_X2_push_X2 hown hK hP 0 rfl rfl 4 (by decide) (hts (.fieldLink RX2 55 "TimeMachine$Condition" "top" "I") (List.mem_of_getElem? (i := 2) rfl)) (fun _ h9 => h9) rfl dX2_push_8 ?_
    refine lv_aload_n hx hb dX2_push_11 rfl (lv_at hl 0 rfl) ?_
    refine va_get (D := (dC, dI)) (ci := 3) (v := .ref (a 4)) (C := RX2) (T := TX2) (N := 20) hx hb hts hi_dm_X2_push_X2 hown hK hP 0 rfl rfl 5 (by decide) (hts (.fieldLink RX2 20 "TimeMachine$Condition" "sign" "[I") (List.mem_of_getElem? (i := 3) rfl)) (fun _ h9 => h9) rfl dX2_push_12 ?_
    refine va_alen (v := 41) hx hb hK hP 4 3 rfl rfl (show Int32.ofNat 41 = 41 by decide) dX2_push_15 ?_
    refine lv_icmp_ge (tgt := 49) hx hb dX2_push_16 (by decide) (fun c2 => ?_) (fun c2 => ?_)
    · have h := nd_pos h c2
      exact (db_X2_push_49 C K)  s0 _ _ _ h hP hD hS (lv_sub hl [] rfl)
    · have h := nd_neg h c2
      refine lv_aload_n hx hb dX2_push_19 rfl (lv_at hl 0 rfl) ?_
      refine va_get (D := (dC, dI)) (ci := 3) (v := .ref (a 4)) (C := RX2) (T := TX2) (N := 20) hx hb hts hi_dm_X2_push_X2 hown hK hP 0 rfl rfl 5 (by decide) (hts (.fieldLink RX2 20 "TimeMachine$Condition" "sign" "[I") (List.mem_of_getElem? (i := 3) rfl)) (fun _ h9 => h9) rfl dX2_push_20 ?_
      refine lv_aload_n hx hb dX2_push_23 rfl (lv_at hl 0 rfl) ?_
      refine va_get (D := (dC, dI)) (ci := 3) (v := .int (sI s0 1)) (C := RX2) (T := TX2) (N := 20) hx hb hts hi_dm_X2_push_X2 hown hK hP 0 rfl rfl 4 (by decide) (hts (.fieldLink RX2 55 "TimeMachine$Condition" "top" "I") (List.mem_of_getElem? (i := 2) rfl)) (fun _ h9 => h9) rfl dX2_push_24 ?_
      refine lv_iload_n hx hb dX2_push_27 rfl (lv_at hl 1 rfl) ?_
      obtain ⟨i3, h⟩ := nd_ck_e h
      refine va_iast (i := (sI s0 1)) (x := v0) hx hb hK hP hD hS 4 3 rfl rfl i3 dX2_push_28 (fun H locs hP hD hS => ?_)
      obtain ⟨s4, es4, h⟩ := nd_let_e h
      have hP : va_P (dC, dI) vwCl (dw_X2c a ac s4) H := by rw [es4]; exact hP
      have hD : va_D A (dw_X2c a ac s4) := by rw [es4]; exact hD
      refine lv_aload_n hx hb dX2_push_29 rfl (lv_at hl 0 rfl) ?_
      refine va_get (D := (dC, dI)) (ci := 3) (v := .ref (a 5)) (C := RX2) (T := TX2) (N := 20) hx hb hts hi_dm_X2_push_X2 hown hK hP 0 rfl rfl 6 (by decide) (hts (.fieldLink RX2 23 "TimeMachine$Condition" "signAt" "[I") (List.mem_of_getElem? (i := 4) rfl)) (fun _ h9 => h9) rfl dX2_push_30 ?_
      refine lv_aload_n hx hb dX2_push_33 rfl (lv_at hl 0 rfl) ?_
      refine va_get (D := (dC, dI)) (ci := 3) (v := .int (sI s4 1)) (C := RX2) (T := TX2) (N := 20) hx hb hts hi_dm_X2_push_X2 hown hK hP 0 rfl rfl 4 (by decide) (hts (.fieldLink RX2 55 "TimeMachine$Condition" "top" "I") (List.mem_of_getElem? (i := 2) rfl)) (fun _ h9 => h9) rfl dX2_push_34 ?_
      refine lv_iload_n hx hb dX2_push_37 rfl (lv_at hl 2 rfl) ?_
      obtain ⟨i5, h⟩ := nd_ck_e h
      refine va_iast (i := (sI s4 1)) (x := v1) hx hb hK hP hD hS 5 4 rfl rfl i5 dX2_push_38 (fun H locs hP hD hS => ?_)
      obtain ⟨s6, es6, h⟩ := nd_let_e h
      have hP : va_P (dC, dI) vwCl (dw_X2c a ac s6) H := by rw [es6]; exact hP
      have hD : va_D A (dw_X2c a ac s6) := by rw [es6]; exact hD
      refine lv_aload_n hx hb dX2_push_39 rfl (lv_at hl 0 rfl) ?_
      refine lv_dup hx hb dX2_push_40 rfl ?_
      refine va_get (D := (dC, dI)) (ci := 3) (v := .int (sI s6 1)) (C := RX2) (T := TX2) (N := 20) hx hb hts hi_dm_X2_push_X2 hown hK hP 0 rfl rfl 4 (by decide) (hts (.fieldLink RX2 55 "TimeMachine$Condition" "top" "I") (List.mem_of_getElem? (i := 2) rfl)) (fun _ h9 => h9) rfl dX2_push_41 ?_
      refine lv_iconst (v := 1) hx hb dX2_push_44 (by decide) ?_
      refine lv_iadd hx hb dX2_push_45 ?_
      refine va_put (D := (dC, dI)) (ci := 3) (v := .int ((sI s6 1) + 1)) (ty := .int) (C := RX2) (T := TX2) (N := 20) hx hb hts hi_dm_X2_push_X2 tyX2 tyX2_ok nmX2 hown hK hP hD hS 0 rfl rfl 4 (by decide) (hts (.fieldLink RX2 55 "TimeMachine$Condition" "top" "I") (List.mem_of_getElem? (i := 2) rfl)) (fun _ h9 => h9) rfl (by decide +kernel) rfl rfl (Nat.le_of_ble_eq_true rfl) dX2_push_46 (fun H locs hP hD hS => ?_)
      obtain ⟨s7, es7, h⟩ := nd_let_e h
      have hP : va_P (dC, dI) vwCl (dw_X2c a ac s7) H := by rw [es7]; exact hP
      have hD : va_D A (dw_X2c a ac s7) := by rw [es7]; exact hD
      exact (db_X2_push_49 C K)  s7 _ _ _ h hP hD hS (lv_sub hl [] rfl)
set_option maxHeartbeats 40000000 in
set_option maxRecDepth 100000 in
theorem dm_X2_push (l : Launch) (hlt : l.stackTraces = false) (dC : Nat → ClassId) (dI : Nat → Nat → Nat) (a : Nat → Nat) (ac : Nat → ClassId) (n : Nat) (v0 : Int32) (v1 : Int32) (s0 : St) {r : St} (h : df_X2_push n v0 v1 s0 = some r) (sz : Nat) : Met l yX2_push ow_dm_X2_push ({ frames := 0, cells := 0, slots := 0, locals := 0 }) (va_Pc [.ref (a 0), .int v0, .int v1] (fun U => U.heap.size = sz ∧ va_P (dC, dI) vwCl (dw_X2c a ac s0) U.heap ∧ va_K (dC, dI) vwCl (dk_X2c ac) U ∧ va_D (fun _ => True) (dw_X2c a ac s0) ∧ nv_E dI (va_A (dw_X2c a ac s0) sz) U)) (va_Qv (fun _ => True) (fun (_ : Unit) t => va_P (dC, dI) vwCl (dw_X2c a ac r) t.heap ∧ va_K (dC, dI) vwCl (dk_X2c ac) t ∧ va_D (va_A (dw_X2c a ac s0) sz) (dw_X2c a ac r)) (va_A (dw_X2c a ac s0) sz)) 0 0 (va_A (dw_X2c a ac s0) sz) := by
  refine Met.ofW (cc := cX2_push) (maxL := 3) (ret := none) (by decide) rfl ?_
  intro p e s m args below meth c s₁ B hml hv
  obtain ⟨rfl, hsz, hP, hK, hD0, hN⟩ := hv
  have hx := B.exec
  have hb := B.bytes
  have hr := B.returns
  have hts := atoms_spec (ws := ow_dm_X2_push) B.pre
  have hown : s.vm.findClass RX2 = some m.cls := findClass_of_methodNamed B.named
  have hlocks := B.notSynchronized
  subst hsz
  have hD := hD0.self (sz := s.heap.size)
  generalize hAe : va_A (dw_X2c a ac s0) s.heap.size = A at hD hN ⊢
  have hA : ∀ q : Nat, s.heap.size ≤ q → A q := fun q h => by rw [← hAe]; exact Or.inr h
  have hl := lv_entry ([.ref (a 0), .int v0, .int v1]) (n := 3) (Nat.le_of_ble_eq_true rfl)
  rw [lg_entry_eq]
  generalize (lg_sl ([.ref (a 0), .int v0, .int v1]) ++ List.replicate (3 - (lg_sl ([.ref (a 0), .int v0, .int v1])).length) Slot.unset).toArray = ls at hl ⊢
  have hl : lv_has ls 3 [(0, .ref (a 0)), (1, .int v0), (2, .int v1)] := hl
  exact db_X2_push_0 (dC := dC) (dI := dI) (a := a) (ac := ac) (n := n) (r := r) ⟨hlt, hx, hb, hml, hown, hts, hN, hA, hK⟩ (fun pc τ H locs ls d er hP hD hS => by subst er; exact W.vret hx hb hr (fun t ht hW => ⟨⟨(), rfl, trivial, by rw [ht]; exact hP, va_K.moved hW.alike hK, hD⟩, hS.F ht⟩) hS.2.2 d) v0 v1 s0 _ _ _ h hP hD va_S.rf (lv_sub hl [0, 1, 2] rfl)
def ow_dm_X2_takeOperator : List Cond := Cond.code yX2_takeOperator cX2_takeOperator 3 (some .boolean) :: ([Cond.fieldLink RX2 77 "TimeMachine$Condition" "kind" "I", Cond.methodLink RX2 84 yX2_blame, Cond.instanceMethod yX2_blame, Cond.selects RX2 yX2_blame yX2_blame, Cond.initialized RX2, Cond.methodLink RX2 70 yX2_next, Cond.instanceMethod yX2_next, Cond.selects RX2 yX2_next yX2_next, Cond.fieldLink RX2 110 "TimeMachine$Condition" "number" "J", Cond.constantLong RX2 187 (28), Cond.constantLong RX2 189 (29), Cond.methodLink RX2 191 yX2_takeClose, Cond.instanceMethod yX2_takeClose, Cond.selects RX2 yX2_takeClose yX2_takeClose, Cond.constantLong RX2 182 (18), Cond.methodLink RX2 148 yX2_part, Cond.instanceMethod yX2_part, Cond.selects RX2 yX2_part yX2_part, Cond.fieldLink RX2 184 "TimeMachine$Condition" "RANK" "[I", Cond.methodLink RX2 80 yX2_popTo, Cond.instanceMethod yX2_popTo, Cond.selects RX2 yX2_popTo yX2_popTo, Cond.fieldLink RX2 52 "TimeMachine$Condition" "codes" "I", Cond.methodLink RX2 154 yX2_push, Cond.instanceMethod yX2_push, Cond.selects RX2 yX2_push yX2_push, Cond.methodLink RX2 158 yX2_emit, Cond.instanceMethod yX2_emit, Cond.selects RX2 yX2_emit yX2_emit] ++ (u_ws RX2 TX2 20 ++ (ow_dm_X2_blame ++ (ow_dm_X2_next ++ (ow_dm_X2_takeClose ++ (ow_dm_X2_part ++ (ow_dm_X2_popTo ++ (ow_dm_X2_push ++ (ow_dm_X2_emit ++ [])))))))))
theorem gd_dm_X2_takeOperator : ∀ w ∈ ow_dm_X2_takeOperator, (w.onTables && w.keeps) = true ∨ ∃ ty, w = Cond.arrayClass ty := List.forall_mem_cons.mpr ⟨good_of_word rfl, List.forall_mem_append.mpr ⟨fun w h => good_of_word (List.all_eq_true.mp (by decide +kernel) w h), List.forall_mem_append.mpr ⟨gu_X2, List.forall_mem_append.mpr ⟨gd_dm_X2_blame, List.forall_mem_append.mpr ⟨gd_dm_X2_next, List.forall_mem_append.mpr ⟨gd_dm_X2_takeClose, List.forall_mem_append.mpr ⟨gd_dm_X2_part, List.forall_mem_append.mpr ⟨gd_dm_X2_popTo, List.forall_mem_append.mpr ⟨gd_dm_X2_push, List.forall_mem_append.mpr ⟨gd_dm_X2_emit, fun _ h => nomatch h⟩⟩⟩⟩⟩⟩⟩⟩⟩⟩
theorem hi_dm_X2_takeOperator_X2 : ∀ w ∈ u_ws RX2 TX2 20, w ∈ ow_dm_X2_takeOperator := fun w h => List.mem_cons_of_mem _ (List.mem_append_right _ (List.mem_append_left _ h))
theorem gi_dm_X2_takeOperator_0 : GoodIn ow_dm_X2_takeOperator (wsV RX2 84 RX2 yX2_blame ow_dm_X2_blame) := goodIn_app (goodIn_of _ (by decide +kernel)) (fun w h => ⟨List.mem_cons_of_mem _ (List.mem_append_right _ (List.mem_append_right _ (List.mem_append_left _ h))), gd_dm_X2_blame w h⟩)
theorem gi_dm_X2_takeOperator_1 : GoodIn ow_dm_X2_takeOperator (wsV RX2 70 RX2 yX2_next ow_dm_X2_next) := goodIn_app (goodIn_of _ (by decide +kernel)) (fun w h => ⟨List.mem_cons_of_mem _ (List.mem_append_right _ (List.mem_append_right _ (List.mem_append_right _ (List.mem_append_left _ h)))), gd_dm_X2_next w h⟩)
theorem gi_dm_X2_takeOperator_2 : GoodIn ow_dm_X2_takeOperator (wsV RX2 191 RX2 yX2_takeClose ow_dm_X2_takeClose) := goodIn_app (goodIn_of _ (by decide +kernel)) (fun w h => ⟨List.mem_cons_of_mem _ (List.mem_append_right _ (List.mem_append_right _ (List.mem_append_right _ (List.mem_append_right _ (List.mem_append_left _ h))))), gd_dm_X2_takeClose w h⟩)
theorem gi_dm_X2_takeOperator_3 : GoodIn ow_dm_X2_takeOperator (wsV RX2 148 RX2 yX2_part ow_dm_X2_part) := goodIn_app (goodIn_of _ (by decide +kernel)) (fun w h => ⟨List.mem_cons_of_mem _ (List.mem_append_right _ (List.mem_append_right _ (List.mem_append_right _ (List.mem_append_right _ (List.mem_append_right _ (List.mem_append_left _ h)))))), gd_dm_X2_part w h⟩)
theorem gi_dm_X2_takeOperator_4 : GoodIn ow_dm_X2_takeOperator (wsV RX2 80 RX2 yX2_popTo ow_dm_X2_popTo) := goodIn_app (goodIn_of _ (by decide +kernel)) (fun w h => ⟨List.mem_cons_of_mem _ (List.mem_append_right _ (List.mem_append_right _ (List.mem_append_right _ (List.mem_append_right _ (List.mem_append_right _ (List.mem_append_right _ (List.mem_append_left _ h))))))), gd_dm_X2_popTo w h⟩)
theorem gi_dm_X2_takeOperator_5 : GoodIn ow_dm_X2_takeOperator (wsV RX2 154 RX2 yX2_push ow_dm_X2_push) := goodIn_app (goodIn_of _ (by decide +kernel)) (fun w h => ⟨List.mem_cons_of_mem _ (List.mem_append_right _ (List.mem_append_right _ (List.mem_append_right _ (List.mem_append_right _ (List.mem_append_right _ (List.mem_append_right _ (List.mem_append_right _ (List.mem_append_left _ h)))))))), gd_dm_X2_push w h⟩)
theorem gi_dm_X2_takeOperator_6 : GoodIn ow_dm_X2_takeOperator (wsV RX2 158 RX2 yX2_emit ow_dm_X2_emit) := goodIn_app (goodIn_of _ (by decide +kernel)) (fun w h => ⟨List.mem_cons_of_mem _ (List.mem_append_right _ (List.mem_append_right _ (List.mem_append_right _ (List.mem_append_right _ (List.mem_append_right _ (List.mem_append_right _ (List.mem_append_right _ (List.mem_append_right _ (List.mem_append_left _ h))))))))), gd_dm_X2_emit w h⟩)
def dj_X2_takeOperator_148 (p : Program) (l : Launch) (e : Env) (s : State) (m : MethodId) (args : Array Value) (below : List Frame) (meth : Method) (c : Code) (Q : State → Prop) (A : Nat → Prop) (dC : Nat → ClassId) (dI : Nat → Nat → Nat) (a : Nat → Nat) (ac : Nat → ClassId) (g : Int32 → (St × (St)) → Option (Int32 × (St × (St)))) (r : Int32 × (St × (St))) : Prop := ∀ (x1 : Int32) (s0 : St × (St)) (H : Heap) (locs : List Loc) (ls : Array Slot), g x1 s0 = some r → va_P (dC, dI) vwCl (dw_X2s a ac s0) H → va_D A (dw_X2s a ac s0) → va_S A s.heap H locs → lv_has ls 3 [(0, .ref (a 1)), (1, .int x1)] → W p l e (headSpec ow_dm_X2_takeOperator ({ frames := 3, cells := 0, slots := 0, locals := 67 })).room s m args below meth c H locs 0 0 Q (F0 m 148 ls [])
def dj_X2_takeOperator_143 (p : Program) (l : Launch) (e : Env) (s : State) (m : MethodId) (args : Array Value) (below : List Frame) (meth : Method) (c : Code) (Q : State → Prop) (A : Nat → Prop) (dC : Nat → ClassId) (dI : Nat → Nat → Nat) (a : Nat → Nat) (ac : Nat → ClassId) (g : Int32 → (St × (St)) → Option (Int32 × (St × (St)))) (r : Int32 × (St × (St))) : Prop := ∀ (x1 : Int32) (s0 : St × (St)) (H : Heap) (locs : List Loc) (ls : Array Slot), g x1 s0 = some r → va_P (dC, dI) vwCl (dw_X2s a ac s0) H → va_D A (dw_X2s a ac s0) → va_S A s.heap H locs → lv_has ls 3 [(0, .ref (a 1)), (1, .int x1)] → W p l e (headSpec ow_dm_X2_takeOperator ({ frames := 3, cells := 0, slots := 0, locals := 67 })).room s m args below meth c H locs 0 0 Q (F0 m 143 ls [])
def dj_X2_takeOperator_137 (p : Program) (l : Launch) (e : Env) (s : State) (m : MethodId) (args : Array Value) (below : List Frame) (meth : Method) (c : Code) (Q : State → Prop) (A : Nat → Prop) (dC : Nat → ClassId) (dI : Nat → Nat → Nat) (a : Nat → Nat) (ac : Nat → ClassId) (g : Int32 → Int32 → (St × (St)) → Option (Int32 × (St × (St)))) (r : Int32 × (St × (St))) : Prop := ∀ (x1 : Int32) (y1 : Int32) (s0 : St × (St)) (H : Heap) (locs : List Loc) (ls : Array Slot), g x1 y1 s0 = some r → va_P (dC, dI) vwCl (dw_X2s a ac s0) H → va_D A (dw_X2s a ac s0) → va_S A s.heap H locs → lv_has ls 3 [(0, .ref (a 1)), (1, .int x1)] → W p l e (headSpec ow_dm_X2_takeOperator ({ frames := 3, cells := 0, slots := 0, locals := 67 })).room s m args below meth c H locs 0 0 Q (F0 m 137 ls [.int y1, .ref (a 1)])
def dj_X2_takeOperator_120 (p : Program) (l : Launch) (e : Env) (s : State) (m : MethodId) (args : Array Value) (below : List Frame) (meth : Method) (c : Code) (Q : State → Prop) (A : Nat → Prop) (dC : Nat → ClassId) (dI : Nat → Nat → Nat) (a : Nat → Nat) (ac : Nat → ClassId) (g : Int32 → (St × (St)) → Option (Int32 × (St × (St)))) (r : Int32 × (St × (St))) : Prop := ∀ (x1 : Int32) (s0 : St × (St)) (H : Heap) (locs : List Loc) (ls : Array Slot), g x1 s0 = some r → va_P (dC, dI) vwCl (dw_X2s a ac s0) H → va_D A (dw_X2s a ac s0) → va_S A s.heap H locs → lv_has ls 3 [(0, .ref (a 1)), (1, .int x1)] → W p l e (headSpec ow_dm_X2_takeOperator ({ frames := 3, cells := 0, slots := 0, locals := 67 })).room s m args below meth c H locs 0 0 Q (F0 m 120 ls [])
def dj_X2_takeOperator_90 (p : Program) (l : Launch) (e : Env) (s : State) (m : MethodId) (args : Array Value) (below : List Frame) (meth : Method) (c : Code) (Q : State → Prop) (A : Nat → Prop) (dC : Nat → ClassId) (dI : Nat → Nat → Nat) (a : Nat → Nat) (ac : Nat → ClassId) (g : Int32 → (St × (St)) → Option (Int32 × (St × (St)))) (r : Int32 × (St × (St))) : Prop := ∀ (x1 : Int32) (s0 : St × (St)) (H : Heap) (locs : List Loc) (ls : Array Slot), g x1 s0 = some r → va_P (dC, dI) vwCl (dw_X2s a ac s0) H → va_D A (dw_X2s a ac s0) → va_S A s.heap H locs → lv_has ls 3 [(0, .ref (a 1)), (1, .int x1)] → W p l e (headSpec ow_dm_X2_takeOperator ({ frames := 3, cells := 0, slots := 0, locals := 67 })).room s m args below meth c H locs 0 0 Q (F0 m 90 ls [])
def dj_X2_takeOperator_85 (p : Program) (l : Launch) (e : Env) (s : State) (m : MethodId) (args : Array Value) (below : List Frame) (meth : Method) (c : Code) (Q : State → Prop) (A : Nat → Prop) (dC : Nat → ClassId) (dI : Nat → Nat → Nat) (a : Nat → Nat) (ac : Nat → ClassId) (g : (St × (St)) → Option (Int32 × (St × (St)))) (r : Int32 × (St × (St))) : Prop := ∀ (s0 : St × (St)) (H : Heap) (locs : List Loc) (ls : Array Slot), g s0 = some r → va_P (dC, dI) vwCl (dw_X2s a ac s0) H → va_D A (dw_X2s a ac s0) → va_S A s.heap H locs → lv_has ls 3 [(0, .ref (a 1))] → W p l e (headSpec ow_dm_X2_takeOperator ({ frames := 3, cells := 0, slots := 0, locals := 67 })).room s m args below meth c H locs 0 0 Q (F0 m 85 ls [])
def dj_X2_takeOperator_81 (p : Program) (l : Launch) (e : Env) (s : State) (m : MethodId) (args : Array Value) (below : List Frame) (meth : Method) (c : Code) (Q : State → Prop) (A : Nat → Prop) (dC : Nat → ClassId) (dI : Nat → Nat → Nat) (a : Nat → Nat) (ac : Nat → ClassId) (g : Int32 → (St × (St)) → Option (Int32 × (St × (St)))) (r : Int32 × (St × (St))) : Prop := ∀ (y1 : Int32) (s0 : St × (St)) (H : Heap) (locs : List Loc) (ls : Array Slot), g y1 s0 = some r → va_P (dC, dI) vwCl (dw_X2s a ac s0) H → va_D A (dw_X2s a ac s0) → va_S A s.heap H locs → lv_has ls 3 [(0, .ref (a 1))] → W p l e (headSpec ow_dm_X2_takeOperator ({ frames := 3, cells := 0, slots := 0, locals := 67 })).room s m args below meth c H locs 0 0 Q (F0 m 81 ls [.int y1, .ref (a 1)])
def dj_X2_takeOperator_68 (p : Program) (l : Launch) (e : Env) (s : State) (m : MethodId) (args : Array Value) (below : List Frame) (meth : Method) (c : Code) (Q : State → Prop) (A : Nat → Prop) (dC : Nat → ClassId) (dI : Nat → Nat → Nat) (a : Nat → Nat) (ac : Nat → ClassId) (g : Int32 → (St × (St)) → Option (Int32 × (St × (St)))) (r : Int32 × (St × (St))) : Prop := ∀ (x2 : Int32) (s0 : St × (St)) (H : Heap) (locs : List Loc) (ls : Array Slot), g x2 s0 = some r → va_P (dC, dI) vwCl (dw_X2s a ac s0) H → va_D A (dw_X2s a ac s0) → va_S A s.heap H locs → lv_has ls 3 [(0, .ref (a 1)), (2, .int x2)] → W p l e (headSpec ow_dm_X2_takeOperator ({ frames := 3, cells := 0, slots := 0, locals := 67 })).room s m args below meth c H locs 0 0 Q (F0 m 68 ls [])
def dj_X2_takeOperator_0 (p : Program) (l : Launch) (e : Env) (s : State) (m : MethodId) (args : Array Value) (below : List Frame) (meth : Method) (c : Code) (Q : State → Prop) (A : Nat → Prop) (dC : Nat → ClassId) (dI : Nat → Nat → Nat) (a : Nat → Nat) (ac : Nat → ClassId) (g : (St × (St)) → Option (Int32 × (St × (St)))) (r : Int32 × (St × (St))) : Prop := ∀ (s0 : St × (St)) (H : Heap) (locs : List Loc) (ls : Array Slot), g s0 = some r → va_P (dC, dI) vwCl (dw_X2s a ac s0) H → va_D A (dw_X2s a ac s0) → va_S A s.heap H locs → lv_has ls 3 [(0, .ref (a 1))] → W p l e (headSpec ow_dm_X2_takeOperator ({ frames := 3, cells := 0, slots := 0, locals := 67 })).room s m args below meth c H locs 0 0 Q (F0 m 0 ls [])
set_option maxHeartbeats 40000000 in
set_option maxRecDepth 100000 in
theorem db_X2_takeOperator_148 {p : Program} {l : Launch} {e : Env} {s : State} {m : MethodId} {args : Array Value} {below : List Frame} {meth : Method} {c : Code} {Q : State → Prop} {A : Nat → Prop} {dC : Nat → ClassId} {dI : Nat → Nat → Nat} {a : Nat → Nat} {ac : Nat → ClassId} {n : Nat} {r : Int32 × (St × (St))} (C : nd_C p l s m args c A (dC, dI) cX2_takeOperator 3 RX2 ow_dm_X2_takeOperator (dk_X2s ac)) (K : nd_Ki p l e (headSpec ow_dm_X2_takeOperator ({ frames := 3, cells := 0, slots := 0, locals := 67 })).room s m args below meth c Q A (dC, dI) cX2_takeOperator .boolean (St × (St)) (dw_X2s a ac) r) : dj_X2_takeOperator_148 p l e s m args below meth c Q A dC dI a ac (df_X2_takeOperator_148 n (a 0)) r := by
  obtain ⟨hlt, hx, hb, hml, hown, hts, hN, hA, hK⟩ := id C
  intro x1 s0 H locs ls h hP hD hS hl
  unfold df_X2_takeOperator_148 at h
  refine lv_aload_n hx hb dX2_takeOperator_148 rfl (lv_at hl 0 rfl) ?_
  obtain ⟨s8, hq, h⟩ := nd_b1_e h
  have hPc := hP
  have hDc := hD
  have hKc := hK
  have hFc := nd_rs hD hS hA
  refine nd_cVv (As := []) (rest := []) (w' := dw_X2s a ac s8) ⟨hx, hb, hml, hown, hts⟩ (fun sz => dm_X2_next l hlt dC dI a ac n  s0 hq sz) (cwV 0 hts gi_dm_X2_takeOperator_1 rfl rfl rfl (by decide +kernel) ⟨Nat.le_of_ble_eq_true rfl, Nat.le_of_ble_eq_true rfl⟩) hPc hDc hKc hS hA hN (va_recv hKc hPc (ci := 3) (q0 := 1) rfl rfl) rfl hl.1 rfl (Nat.le_of_ble_eq_true rfl) dX2_takeOperator_149 (fun H locs hP1 hD1 hk1 hS => ?_)
  have hP := hP1
  have hD := hD1.weaken (fun k q _ h => hFc q.1 h)
  refine lv_iload_n hx hb dX2_takeOperator_152 rfl (lv_at hl 1 rfl) ?_
  obtain ⟨n10, h⟩ := nd_z_e ⟨_, rfl⟩ h
  exact K _ _ _ _ _ _ dX2_takeOperator_153 n10 (Option.some.inj h).symm hP hD hS
set_option maxHeartbeats 40000000 in
set_option maxRecDepth 100000 in
theorem db_X2_takeOperator_143 {p : Program} {l : Launch} {e : Env} {s : State} {m : MethodId} {args : Array Value} {below : List Frame} {meth : Method} {c : Code} {Q : State → Prop} {A : Nat → Prop} {dC : Nat → ClassId} {dI : Nat → Nat → Nat} {a : Nat → Nat} {ac : Nat → ClassId} {n : Nat} {r : Int32 × (St × (St))} (C : nd_C p l s m args c A (dC, dI) cX2_takeOperator 3 RX2 ow_dm_X2_takeOperator (dk_X2s ac)) (K : nd_Ki p l e (headSpec ow_dm_X2_takeOperator ({ frames := 3, cells := 0, slots := 0, locals := 67 })).room s m args below meth c Q A (dC, dI) cX2_takeOperator .boolean (St × (St)) (dw_X2s a ac) r) : dj_X2_takeOperator_143 p l e s m args below meth c Q A dC dI a ac (df_X2_takeOperator_143 n (a 0)) r := by
  obtain ⟨hlt, hx, hb, hml, hown, hts, hN, hA, hK⟩ := id C
  intro x1 s0 H locs ls h hP hD hS hl
  unfold df_X2_takeOperator_143 at h
  refine lv_aload_n hx hb dX2_takeOperator_143 rfl (lv_at hl 0 rfl) ?_
  refine lv_iconst (v := 1) hx hb dX2_takeOperator_144 (by decide) ?_
  obtain ⟨s4, hq, h⟩ := nd_b1_e h
  have hPc := dp_X2s_1 hP
  have hDc := dd_X2s_1 hD
  have hKc := dy_X2s_1 hK
  have hFc := nd_rs hDc hS hA
  have hzA : ∀ q : Nat, H.size ≤ q → A q := fun q h => hA q (Nat.le_trans hS.1 h)
  refine nd_cVv (As := [.int 1]) (rest := []) (w' := dw_X2c (fun k => a (k + 1)) (fun k => ac (k + 1)) s4) ⟨hx, hb, hml, hown, hts⟩ (fun sz => dm_X2_blame l hlt dC dI (fun k => a (k + 1)) (fun k => ac (k + 1)) n (1) s0.2 hq sz) (cwV 1 hts gi_dm_X2_takeOperator_0 rfl rfl rfl (by decide +kernel) ⟨Nat.le_of_ble_eq_true rfl, Nat.le_of_ble_eq_true rfl⟩) hPc hDc hKc hS hA hN (va_recv hKc hPc (ci := 3) (q0 := 0) rfl rfl) rfl hl.1 rfl (Nat.le_of_ble_eq_true rfl) dX2_takeOperator_145 (fun H locs hP1 hD1 hk1 hS => ?_)
  obtain ⟨hP, hD⟩ := dn_X2s_1 hP hD hzA hk1 hP1 hD1
  obtain ⟨s6, es6, h⟩ := nd_let_e h
  have hP : va_P (dC, dI) vwCl (dw_X2s a ac s6) H := by rw [es6]; exact hP
  have hD : va_D A (dw_X2s a ac s6) := by rw [es6]; exact hD
  exact (db_X2_takeOperator_148 C K) (x1) s6 _ _ _ h hP hD hS (lv_sub hl [0, 1] rfl)
set_option maxHeartbeats 40000000 in
set_option maxRecDepth 100000 in
theorem db_X2_takeOperator_137 {p : Program} {l : Launch} {e : Env} {s : State} {m : MethodId} {args : Array Value} {below : List Frame} {meth : Method} {c : Code} {Q : State → Prop} {A : Nat → Prop} {dC : Nat → ClassId} {dI : Nat → Nat → Nat} {a : Nat → Nat} {ac : Nat → ClassId} {n : Nat} {r : Int32 × (St × (St))} (C : nd_C p l s m args c A (dC, dI) cX2_takeOperator 3 RX2 ow_dm_X2_takeOperator (dk_X2s ac)) (K : nd_Ki p l e (headSpec ow_dm_X2_takeOperator ({ frames := 3, cells := 0, slots := 0, locals := 67 })).room s m args below meth c Q A (dC, dI) cX2_takeOperator .boolean (St × (St)) (dw_X2s a ac) r) : dj_X2_takeOperator_137 p l e s m args below meth c Q A dC dI a ac (df_X2_takeOperator_137 n (a 0)) r := by
  obtain ⟨hlt, hx, hb, hml, hown, hts, hN, hA, hK⟩ := id C
  intro x1 y1 s0 H locs ls h hP hD hS hl
  unfold df_X2_takeOperator_137 at h
  obtain ⟨s14, hq, h⟩ := nd_b1_e h
  have hPc := dp_X2s_1 hP
  have hDc := dd_X2s_1 hD
  have hKc := dy_X2s_1 hK
  have hFc := nd_rs hDc hS hA
  have hzA : ∀ q : Nat, H.size ≤ q → A q := fun q h => hA q (Nat.le_trans hS.1 h)
  refine nd_cVv (As := [.int y1]) (rest := []) (w' := dw_X2c (fun k => a (k + 1)) (fun k => ac (k + 1)) s14) ⟨hx, hb, hml, hown, hts⟩ (fun sz => dm_X2_takeClose l hlt dC dI (fun k => a (k + 1)) (fun k => ac (k + 1)) n (y1) s0.2 hq sz) (cwV 1 hts gi_dm_X2_takeOperator_2 rfl rfl rfl (by decide +kernel) ⟨Nat.le_of_ble_eq_true rfl, Nat.le_of_ble_eq_true rfl⟩) hPc hDc hKc hS hA hN (va_recv hKc hPc (ci := 3) (q0 := 0) rfl rfl) rfl hl.1 rfl (Nat.le_of_ble_eq_true rfl) dX2_takeOperator_137 (fun H locs hP1 hD1 hk1 hS => ?_)
  obtain ⟨hP, hD⟩ := dn_X2s_1 hP hD hzA hk1 hP1 hD1
  obtain ⟨s16, es16, h⟩ := nd_let_e h
  have hP : va_P (dC, dI) vwCl (dw_X2s a ac s16) H := by rw [es16]; exact hP
  have hD : va_D A (dw_X2s a ac s16) := by rw [es16]; exact hD
  refine lv_goto (tgt := 148) hx hb dX2_takeOperator_140 (by decide) ?_
  exact (db_X2_takeOperator_148 C K) (x1) s16 _ _ _ h hP hD hS (lv_sub hl [0, 1] rfl)
set_option maxHeartbeats 40000000 in
set_option maxRecDepth 100000 in
theorem db_X2_takeOperator_120 {p : Program} {l : Launch} {e : Env} {s : State} {m : MethodId} {args : Array Value} {below : List Frame} {meth : Method} {c : Code} {Q : State → Prop} {A : Nat → Prop} {dC : Nat → ClassId} {dI : Nat → Nat → Nat} {a : Nat → Nat} {ac : Nat → ClassId} {n : Nat} {r : Int32 × (St × (St))} (C : nd_C p l s m args c A (dC, dI) cX2_takeOperator 3 RX2 ow_dm_X2_takeOperator (dk_X2s ac)) (K : nd_Ki p l e (headSpec ow_dm_X2_takeOperator ({ frames := 3, cells := 0, slots := 0, locals := 67 })).room s m args below meth c Q A (dC, dI) cX2_takeOperator .boolean (St × (St)) (dw_X2s a ac) r) : dj_X2_takeOperator_120 p l e s m args below meth c Q A dC dI a ac (df_X2_takeOperator_120 n (a 0)) r := by
  obtain ⟨hlt, hx, hb, hml, hown, hts, hN, hA, hK⟩ := id C
  intro x1 s0 H locs ls h hP hD hS hl
  unfold df_X2_takeOperator_120 at h
  refine lv_aload_n hx hb dX2_takeOperator_120 rfl (lv_at hl 0 rfl) ?_
  refine lv_aload_n hx hb dX2_takeOperator_121 rfl (lv_at hl 0 rfl) ?_
  refine va_get (D := (dC, dI)) (ci := 3) (v := .long (sL s0.2 0)) (C := RX2) (T := TX2) (N := 20) hx hb hts hi_dm_X2_takeOperator_X2 hown hK hP 1 rfl rfl 17 (by decide) (hts (.fieldLink RX2 110 "TimeMachine$Condition" "number" "J") (List.mem_of_getElem? (i := 9) rfl)) (fun _ h9 => h9) rfl dX2_takeOperator_122 ?_
  refine lv_ldc2 hx hb hown (hts (.constantLong RX2 189 (29)) (List.mem_of_getElem? (i := 11) rfl)) dX2_takeOperator_125 ?_
  refine W.lcmp hx hb dX2_takeOperator_128 ?_
  refine lv_if_ne (tgt := 136) hx hb dX2_takeOperator_129 (by decide) (fun c12 => ?_) (fun c12 => ?_)
  · have h := nd_neg h c12
    refine lv_iconst (v := 0) hx hb dX2_takeOperator_136 (by decide) ?_
    exact (db_X2_takeOperator_137 C K) (x1) (0) s0 _ _ _ h hP hD hS (lv_sub hl [0, 1] rfl)
  · have h := nd_pos h c12
    refine lv_iconst (v := 1) hx hb dX2_takeOperator_132 (by decide) ?_
    refine lv_goto (tgt := 137) hx hb dX2_takeOperator_133 (by decide) ?_
    exact (db_X2_takeOperator_137 C K) (x1) (1) s0 _ _ _ h hP hD hS (lv_sub hl [0, 1] rfl)
set_option maxHeartbeats 40000000 in
set_option maxRecDepth 100000 in
theorem db_X2_takeOperator_90 {p : Program} {l : Launch} {e : Env} {s : State} {m : MethodId} {args : Array Value} {below : List Frame} {meth : Method} {c : Code} {Q : State → Prop} {A : Nat → Prop} {dC : Nat → ClassId} {dI : Nat → Nat → Nat} {a : Nat → Nat} {ac : Nat → ClassId} {n : Nat} {r : Int32 × (St × (St))} (C : nd_C p l s m args c A (dC, dI) cX2_takeOperator 3 RX2 ow_dm_X2_takeOperator (dk_X2s ac)) (K : nd_Ki p l e (headSpec ow_dm_X2_takeOperator ({ frames := 3, cells := 0, slots := 0, locals := 67 })).room s m args below meth c Q A (dC, dI) cX2_takeOperator .boolean (St × (St)) (dw_X2s a ac) r) : dj_X2_takeOperator_90 p l e s m args below meth c Q A dC dI a ac (df_X2_takeOperator_90 n (a 0)) r := by
  obtain ⟨hlt, hx, hb, hml, hown, hts, hN, hA, hK⟩ := id C
  intro x1 s0 H locs ls h hP hD hS hl
  unfold df_X2_takeOperator_90 at h
  refine lv_aload_n hx hb dX2_takeOperator_90 rfl (lv_at hl 0 rfl) ?_
  refine va_get (D := (dC, dI)) (ci := 3) (v := .int (sI s0.2 6)) (C := RX2) (T := TX2) (N := 20) hx hb hts hi_dm_X2_takeOperator_X2 hown hK hP 1 rfl rfl 15 (by decide) (hts (.fieldLink RX2 77 "TimeMachine$Condition" "kind" "I") (List.mem_of_getElem? (i := 1) rfl)) (fun _ h9 => h9) rfl dX2_takeOperator_91 ?_
  refine lv_iconst (v := 3) hx hb dX2_takeOperator_94 (by decide) ?_
  refine lv_icmp_ne (tgt := 143) hx hb dX2_takeOperator_95 (by decide) (fun c2 => ?_) (fun c2 => ?_)
  · have h := nd_neg h c2
    exact (db_X2_takeOperator_143 C K) (x1) s0 _ _ _ h hP hD hS (lv_sub hl [0, 1] rfl)
  · have h := nd_pos h c2
    refine lv_aload_n hx hb dX2_takeOperator_98 rfl (lv_at hl 0 rfl) ?_
    refine va_get (D := (dC, dI)) (ci := 3) (v := .long (sL s0.2 0)) (C := RX2) (T := TX2) (N := 20) hx hb hts hi_dm_X2_takeOperator_X2 hown hK hP 1 rfl rfl 17 (by decide) (hts (.fieldLink RX2 110 "TimeMachine$Condition" "number" "J") (List.mem_of_getElem? (i := 9) rfl)) (fun _ h9 => h9) rfl dX2_takeOperator_99 ?_
    refine lv_ldc2 hx hb hown (hts (.constantLong RX2 187 (28)) (List.mem_of_getElem? (i := 10) rfl)) dX2_takeOperator_102 ?_
    refine W.lcmp hx hb dX2_takeOperator_105 ?_
    refine lv_if_eq (tgt := 120) hx hb dX2_takeOperator_106 (by decide) (fun c11 => ?_) (fun c11 => ?_)
    · have h := nd_pos h c11
      exact (db_X2_takeOperator_120 C K) (x1) s0 _ _ _ h hP hD hS (lv_sub hl [0, 1] rfl)
    · have h := nd_neg h c11
      refine lv_aload_n hx hb dX2_takeOperator_109 rfl (lv_at hl 0 rfl) ?_
      refine va_get (D := (dC, dI)) (ci := 3) (v := .long (sL s0.2 0)) (C := RX2) (T := TX2) (N := 20) hx hb hts hi_dm_X2_takeOperator_X2 hown hK hP 1 rfl rfl 17 (by decide) (hts (.fieldLink RX2 110 "TimeMachine$Condition" "number" "J") (List.mem_of_getElem? (i := 9) rfl)) (fun _ h9 => h9) rfl dX2_takeOperator_110 ?_
      refine lv_ldc2 hx hb hown (hts (.constantLong RX2 189 (29)) (List.mem_of_getElem? (i := 11) rfl)) dX2_takeOperator_113 ?_
      refine W.lcmp hx hb dX2_takeOperator_116 ?_
      refine lv_if_ne (tgt := 143) hx hb dX2_takeOperator_117 (by decide) (fun c17 => ?_) (fun c17 => ?_)
      · have h := nd_neg h c17
        exact (db_X2_takeOperator_143 C K) (x1) s0 _ _ _ h hP hD hS (lv_sub hl [0, 1] rfl)
      · have h := nd_pos h c17
        exact (db_X2_takeOperator_120 C K) (x1) s0 _ _ _ h hP hD hS (lv_sub hl [0, 1] rfl)
set_option maxHeartbeats 40000000 in
set_option maxRecDepth 100000 in
theorem db_X2_takeOperator_85 {p : Program} {l : Launch} {e : Env} {s : State} {m : MethodId} {args : Array Value} {below : List Frame} {meth : Method} {c : Code} {Q : State → Prop} {A : Nat → Prop} {dC : Nat → ClassId} {dI : Nat → Nat → Nat} {a : Nat → Nat} {ac : Nat → ClassId} {n : Nat} {r : Int32 × (St × (St))} (C : nd_C p l s m args c A (dC, dI) cX2_takeOperator 3 RX2 ow_dm_X2_takeOperator (dk_X2s ac)) (K : nd_Ki p l e (headSpec ow_dm_X2_takeOperator ({ frames := 3, cells := 0, slots := 0, locals := 67 })).room s m args below meth c Q A (dC, dI) cX2_takeOperator .boolean (St × (St)) (dw_X2s a ac) r) : dj_X2_takeOperator_85 p l e s m args below meth c Q A dC dI a ac (df_X2_takeOperator_85 n (a 0)) r := by
  obtain ⟨hlt, hx, hb, hml, hown, hts, hN, hA, hK⟩ := id C
  intro s0 H locs ls h hP hD hS hl
  unfold df_X2_takeOperator_85 at h
  refine lv_iconst (v := 1) hx hb dX2_takeOperator_85 (by decide) ?_
  refine lv_istore_n (lv' := [(1, .int 1), (0, .ref (a 1))]) hx hb dX2_takeOperator_86 rfl hl (by decide) rfl (fun ls hl => ?_)
  refine lv_goto (tgt := 148) hx hb dX2_takeOperator_87 (by decide) ?_
  exact (db_X2_takeOperator_148 C K) (1) s0 _ _ _ h hP hD hS (lv_sub hl [1, 0] rfl)
set_option maxHeartbeats 40000000 in
set_option maxRecDepth 100000 in
theorem db_X2_takeOperator_81 {p : Program} {l : Launch} {e : Env} {s : State} {m : MethodId} {args : Array Value} {below : List Frame} {meth : Method} {c : Code} {Q : State → Prop} {A : Nat → Prop} {dC : Nat → ClassId} {dI : Nat → Nat → Nat} {a : Nat → Nat} {ac : Nat → ClassId} {n : Nat} {r : Int32 × (St × (St))} (C : nd_C p l s m args c A (dC, dI) cX2_takeOperator 3 RX2 ow_dm_X2_takeOperator (dk_X2s ac)) (K : nd_Ki p l e (headSpec ow_dm_X2_takeOperator ({ frames := 3, cells := 0, slots := 0, locals := 67 })).room s m args below meth c Q A (dC, dI) cX2_takeOperator .boolean (St × (St)) (dw_X2s a ac) r) : dj_X2_takeOperator_81 p l e s m args below meth c Q A dC dI a ac (df_X2_takeOperator_81 n (a 0)) r := by
  obtain ⟨hlt, hx, hb, hml, hown, hts, hN, hA, hK⟩ := id C
  intro y1 s0 H locs ls h hP hD hS hl
  unfold df_X2_takeOperator_81 at h
  refine lv_lconst (v := 0) hx hb dX2_takeOperator_81 (by decide) ?_
  obtain ⟨s38, hq, h⟩ := nd_b1_e h
  have hPc := dp_X2s_1 hP
  have hDc := dd_X2s_1 hD
  have hKc := dy_X2s_1 hK
  have hFc := nd_rs hDc hS hA
  have hzA : ∀ q : Nat, H.size ≤ q → A q := fun q h => hA q (Nat.le_trans hS.1 h)
  refine nd_cVv (As := [.int y1, .long 0]) (rest := []) (w' := dw_X2c (fun k => a (k + 1)) (fun k => ac (k + 1)) s38) ⟨hx, hb, hml, hown, hts⟩ (fun sz => dm_X2_emit l hlt dC dI (fun k => a (k + 1)) (fun k => ac (k + 1)) n (y1) (0) s0.2 hq sz) (cwV 2 hts gi_dm_X2_takeOperator_6 rfl rfl rfl (by decide +kernel) ⟨Nat.le_of_ble_eq_true rfl, Nat.le_of_ble_eq_true rfl⟩) hPc hDc hKc hS hA hN (va_recv hKc hPc (ci := 3) (q0 := 0) rfl rfl) rfl hl.1 rfl (Nat.le_of_ble_eq_true rfl) dX2_takeOperator_82 (fun H locs hP1 hD1 hk1 hS => ?_)
  obtain ⟨hP, hD⟩ := dn_X2s_1 hP hD hzA hk1 hP1 hD1
  obtain ⟨s40, es40, h⟩ := nd_let_e h
  have hP : va_P (dC, dI) vwCl (dw_X2s a ac s40) H := by rw [es40]; exact hP
  have hD : va_D A (dw_X2s a ac s40) := by rw [es40]; exact hD
  exact (db_X2_takeOperator_85 C K)  s40 _ _ _ h hP hD hS (lv_sub hl [0] rfl)
set_option maxHeartbeats 40000000 in
set_option maxRecDepth 100000 in
theorem db_X2_takeOperator_68 {p : Program} {l : Launch} {e : Env} {s : State} {m : MethodId} {args : Array Value} {below : List Frame} {meth : Method} {c : Code} {Q : State → Prop} {A : Nat → Prop} {dC : Nat → ClassId} {dI : Nat → Nat → Nat} {a : Nat → Nat} {ac : Nat → ClassId} {n : Nat} {r : Int32 × (St × (St))} (C : nd_C p l s m args c A (dC, dI) cX2_takeOperator 3 RX2 ow_dm_X2_takeOperator (dk_X2s ac)) (K : nd_Ki p l e (headSpec ow_dm_X2_takeOperator ({ frames := 3, cells := 0, slots := 0, locals := 67 })).room s m args below meth c Q A (dC, dI) cX2_takeOperator .boolean (St × (St)) (dw_X2s a ac) r) : dj_X2_takeOperator_68 p l e s m args below meth c Q A dC dI a ac (df_X2_takeOperator_68 n (a 0)) r := by
  obtain ⟨hlt, hx, hb, hml, hown, hts, hN, hA, hK⟩ := id C
  intro x2 s0 H locs ls h hP hD hS hl
  unfold df_X2_takeOperator_68 at h
  refine lv_aload_n hx hb dX2_takeOperator_68 rfl (lv_at hl 0 rfl) ?_
  refine lv_iload_n hx hb dX2_takeOperator_69 rfl (lv_at hl 1 rfl) ?_
  refine lv_iconst (v := 1) hx hb dX2_takeOperator_70 (by decide) ?_
  refine lv_icmp_ne (tgt := 79) hx hb dX2_takeOperator_71 (by decide) (fun c36 => ?_) (fun c36 => ?_)
  · have h := nd_neg h c36
    refine lv_bipush (v := 34) hx hb dX2_takeOperator_79 (by decide) ?_
    exact (db_X2_takeOperator_81 C K) (34) s0 _ _ _ h hP hD hS (lv_sub hl [0] rfl)
  · have h := nd_pos h c36
    refine lv_bipush (v := 35) hx hb dX2_takeOperator_74 (by decide) ?_
    refine lv_goto (tgt := 81) hx hb dX2_takeOperator_76 (by decide) ?_
    exact (db_X2_takeOperator_81 C K) (35) s0 _ _ _ h hP hD hS (lv_sub hl [0] rfl)
set_option maxHeartbeats 40000000 in
set_option maxRecDepth 100000 in
theorem db_X2_takeOperator_0 {p : Program} {l : Launch} {e : Env} {s : State} {m : MethodId} {args : Array Value} {below : List Frame} {meth : Method} {c : Code} {Q : State → Prop} {A : Nat → Prop} {dC : Nat → ClassId} {dI : Nat → Nat → Nat} {a : Nat → Nat} {ac : Nat → ClassId} {n : Nat} {r : Int32 × (St × (St))} (C : nd_C p l s m args c A (dC, dI) cX2_takeOperator 3 RX2 ow_dm_X2_takeOperator (dk_X2s ac)) (K : nd_Ki p l e (headSpec ow_dm_X2_takeOperator ({ frames := 3, cells := 0, slots := 0, locals := 67 })).room s m args below meth c Q A (dC, dI) cX2_takeOperator .boolean (St × (St)) (dw_X2s a ac) r) : dj_X2_takeOperator_0 p l e s m args below meth c Q A dC dI a ac (df_X2_takeOperator_0 n (a 0)) r := by
  obtain ⟨hlt, hx, hb, hml, hown, hts, hN, hA, hK⟩ := id C
  intro s0 H locs ls h hP hD hS hl
  unfold df_X2_takeOperator_0 at h
  refine lv_iconst (v := 0) hx hb dX2_takeOperator_0 (by decide) ?_
  refine lv_istore_n (lv' := [(1, .int 0), (0, .ref (a 1))]) hx hb dX2_takeOperator_1 rfl hl (by decide) rfl (fun ls hl => ?_)
  refine lv_aload_n hx hb dX2_takeOperator_2 rfl (lv_at hl 1 rfl) ?_
  refine va_get (D := (dC, dI)) (ci := 3) (v := .int (sI s0.2 6)) (C := RX2) (T := TX2) (N := 20) hx hb hts hi_dm_X2_takeOperator_X2 hown hK hP 1 rfl rfl 15 (by decide) (hts (.fieldLink RX2 77 "TimeMachine$Condition" "kind" "I") (List.mem_of_getElem? (i := 1) rfl)) (fun _ h9 => h9) rfl dX2_takeOperator_3 ?_
  refine lv_iconst (v := 3) hx hb dX2_takeOperator_6 (by decide) ?_
  refine lv_icmp_ne (tgt := 90) hx hb dX2_takeOperator_7 (by decide) (fun c1 => ?_) (fun c1 => ?_)
  · have h := nd_neg h c1
    exact (db_X2_takeOperator_90 C K) (0) s0 _ _ _ h hP hD hS (lv_sub hl [1, 0] rfl)
  · have h := nd_pos h c1
    refine lv_aload_n hx hb dX2_takeOperator_10 rfl (lv_at hl 1 rfl) ?_
    refine va_get (D := (dC, dI)) (ci := 3) (v := .long (sL s0.2 0)) (C := RX2) (T := TX2) (N := 20) hx hb hts hi_dm_X2_takeOperator_X2 hown hK hP 1 rfl rfl 17 (by decide) (hts (.fieldLink RX2 110 "TimeMachine$Condition" "number" "J") (List.mem_of_getElem? (i := 9) rfl)) (fun _ h9 => h9) rfl dX2_takeOperator_11 ?_
    refine lv_lconst (v := 1) hx hb dX2_takeOperator_14 (by decide) ?_
    refine W.lcmp hx hb dX2_takeOperator_15 ?_
    refine lv_if_lt (tgt := 90) hx hb dX2_takeOperator_16 (by decide) (fun c18 => ?_) (fun c18 => ?_)
    · have h := nd_pos h c18
      exact (db_X2_takeOperator_90 C K) (0) s0 _ _ _ h hP hD hS (lv_sub hl [1, 0] rfl)
    · have h := nd_neg h c18
      refine lv_aload_n hx hb dX2_takeOperator_19 rfl (lv_at hl 1 rfl) ?_
      refine va_get (D := (dC, dI)) (ci := 3) (v := .long (sL s0.2 0)) (C := RX2) (T := TX2) (N := 20) hx hb hts hi_dm_X2_takeOperator_X2 hown hK hP 1 rfl rfl 17 (by decide) (hts (.fieldLink RX2 110 "TimeMachine$Condition" "number" "J") (List.mem_of_getElem? (i := 9) rfl)) (fun _ h9 => h9) rfl dX2_takeOperator_20 ?_
      refine lv_ldc2 hx hb hown (hts (.constantLong RX2 182 (18)) (List.mem_of_getElem? (i := 15) rfl)) dX2_takeOperator_23 ?_
      refine W.lcmp hx hb dX2_takeOperator_26 ?_
      refine lv_if_gt (tgt := 90) hx hb dX2_takeOperator_27 (by decide) (fun c19 => ?_) (fun c19 => ?_)
      · have h := nd_pos h c19
        exact (db_X2_takeOperator_90 C K) (0) s0 _ _ _ h hP hD hS (lv_sub hl [1, 0] rfl)
      · have h := nd_neg h c19
        refine lv_aload_n hx hb dX2_takeOperator_30 rfl (lv_at hl 1 rfl) ?_
        refine va_get (D := (dC, dI)) (ci := 3) (v := .long (sL s0.2 0)) (C := RX2) (T := TX2) (N := 20) hx hb hts hi_dm_X2_takeOperator_X2 hown hK hP 1 rfl rfl 17 (by decide) (hts (.fieldLink RX2 110 "TimeMachine$Condition" "number" "J") (List.mem_of_getElem? (i := 9) rfl)) (fun _ h9 => h9) rfl dX2_takeOperator_31 ?_
        refine lv_l2i hx hb dX2_takeOperator_34 rfl ?_
        refine lv_topi (fun z20 ez20 => ?_)
        have h := nd_at h ez20
        refine lv_istore_n (lv' := [(2, .int z20), (1, .int 0), (0, .ref (a 1))]) hx hb dX2_takeOperator_35 rfl hl (by decide) rfl (fun ls hl => ?_)
        refine lv_aload_n hx hb dX2_takeOperator_36 rfl (lv_at hl 2 rfl) ?_
        obtain ⟨s22, hq, h⟩ := nd_b1_e h
        have hPc := dp_X2s_1 hP
        have hDc := dd_X2s_1 hD
        have hKc := dy_X2s_1 hK
        have hFc := nd_rs hDc hS hA
        have hzA : ∀ q : Nat, H.size ≤ q → A q := fun q h => hA q (Nat.le_trans hS.1 h)
        refine nd_cVv (As := []) (rest := []) (w' := dw_X2c (fun k => a (k + 1)) (fun k => ac (k + 1)) s22) ⟨hx, hb, hml, hown, hts⟩ (fun sz => dm_X2_part l hlt dC dI (fun k => a (k + 1)) (fun k => ac (k + 1)) n  s0.2 hq sz) (cwV 0 hts gi_dm_X2_takeOperator_3 rfl rfl rfl (by decide +kernel) ⟨Nat.le_of_ble_eq_true rfl, Nat.le_of_ble_eq_true rfl⟩) hPc hDc hKc hS hA hN (va_recv hKc hPc (ci := 3) (q0 := 0) rfl rfl) rfl hl.1 rfl (Nat.le_of_ble_eq_true rfl) dX2_takeOperator_37 (fun H locs hP1 hD1 hk1 hS => ?_)
        obtain ⟨hP, hD⟩ := dn_X2s_1 hP hD hzA hk1 hP1 hD1
        obtain ⟨s24, es24, h⟩ := nd_let_e h
        have hP : va_P (dC, dI) vwCl (dw_X2s a ac s24) H := by rw [es24]; exact hP
        have hD : va_D A (dw_X2s a ac s24) := by rw [es24]; exact hD
        refine lv_aload_n hx hb dX2_takeOperator_40 rfl (lv_at hl 2 rfl) ?_
        obtain ⟨b25, zb25, xb25, lb25, wb25⟩ := hN.2.2.2.2.2.2.2.2.2.2.1 nv_A1 (List.mem_of_getElem? (i := 1) rfl)
        have zb25 : va_Z "TimeMachine$Condition" "RANK" "[I" (.ref b25) A s s.heap := zb25
        have xb25 : va_X b25 22 tb_1 s s.heap := xb25
        refine va_gets (v := .ref b25) hx hb zb25 hS hown (hts (.fieldLink RX2 184 "TimeMachine$Condition" "RANK" "[I") (List.mem_of_getElem? (i := 19) rfl)) (fun _ h9 => h9) dX2_takeOperator_41 ?_
        refine lv_iload_n hx hb dX2_takeOperator_44 rfl (lv_at hl 0 rfl) ?_
        obtain ⟨i26, h⟩ := nd_ck_e h
        refine va_sld (i := z20) hx hb xb25 lb25 wb25 hS i26 dX2_takeOperator_45 ?_
        obtain ⟨s28, hq, h⟩ := nd_b1_e h
        have hPc := dp_X2s_1 hP
        have hDc := dd_X2s_1 hD
        have hKc := dy_X2s_1 hK
        have hFc := nd_rs hDc hS hA
        have hzA : ∀ q : Nat, H.size ≤ q → A q := fun q h => hA q (Nat.le_trans hS.1 h)
        refine nd_cVv (As := [.int (tb_1 (Int32.toNatClampNeg z20))]) (rest := []) (w' := dw_X2c (fun k => a (k + 1)) (fun k => ac (k + 1)) s28) ⟨hx, hb, hml, hown, hts⟩ (fun sz => dm_X2_popTo l hlt dC dI (fun k => a (k + 1)) (fun k => ac (k + 1)) n ((tb_1 (Int32.toNatClampNeg z20))) s24.2 hq sz) (cwV 1 hts gi_dm_X2_takeOperator_4 rfl rfl rfl (by decide +kernel) ⟨Nat.le_of_ble_eq_true rfl, Nat.le_of_ble_eq_true rfl⟩) hPc hDc hKc hS hA hN (va_recv hKc hPc (ci := 3) (q0 := 0) rfl rfl) rfl hl.1 rfl (Nat.le_of_ble_eq_true rfl) dX2_takeOperator_46 (fun H locs hP1 hD1 hk1 hS => ?_)
        obtain ⟨hP, hD⟩ := dn_X2s_1 hP hD hzA hk1 hP1 hD1
        obtain ⟨s30, es30, h⟩ := nd_let_e h
        have hP : va_P (dC, dI) vwCl (dw_X2s a ac s30) H := by rw [es30]; exact hP
        have hD : va_D A (dw_X2s a ac s30) := by rw [es30]; exact hD
        refine lv_aload_n hx hb dX2_takeOperator_49 rfl (lv_at hl 2 rfl) ?_
        refine lv_iload_n hx hb dX2_takeOperator_50 rfl (lv_at hl 0 rfl) ?_
        refine lv_aload_n hx hb dX2_takeOperator_51 rfl (lv_at hl 2 rfl) ?_
        refine va_get (D := (dC, dI)) (ci := 3) (v := .int (sI s30.2 0)) (C := RX2) (T := TX2) (N := 20) hx hb hts hi_dm_X2_takeOperator_X2 hown hK hP 1 rfl rfl 2 (by decide) (hts (.fieldLink RX2 52 "TimeMachine$Condition" "codes" "I") (List.mem_of_getElem? (i := 23) rfl)) (fun _ h9 => h9) rfl dX2_takeOperator_52 ?_
        obtain ⟨s32, hq, h⟩ := nd_b1_e h
        have hPc := dp_X2s_1 hP
        have hDc := dd_X2s_1 hD
        have hKc := dy_X2s_1 hK
        have hFc := nd_rs hDc hS hA
        have hzA : ∀ q : Nat, H.size ≤ q → A q := fun q h => hA q (Nat.le_trans hS.1 h)
        refine nd_cVv (As := [.int z20, .int (sI s30.2 0)]) (rest := []) (w' := dw_X2c (fun k => a (k + 1)) (fun k => ac (k + 1)) s32) ⟨hx, hb, hml, hown, hts⟩ (fun sz => dm_X2_push l hlt dC dI (fun k => a (k + 1)) (fun k => ac (k + 1)) n (z20) ((sI s30.2 0)) s30.2 hq sz) (cwV 2 hts gi_dm_X2_takeOperator_5 rfl rfl rfl (by decide +kernel) ⟨Nat.le_of_ble_eq_true rfl, Nat.le_of_ble_eq_true rfl⟩) hPc hDc hKc hS hA hN (va_recv hKc hPc (ci := 3) (q0 := 0) rfl rfl) rfl hl.1 rfl (Nat.le_of_ble_eq_true rfl) dX2_takeOperator_55 (fun H locs hP1 hD1 hk1 hS => ?_)
        obtain ⟨hP, hD⟩ := dn_X2s_1 hP hD hzA hk1 hP1 hD1
        obtain ⟨s34, es34, h⟩ := nd_let_e h
        have hP : va_P (dC, dI) vwCl (dw_X2s a ac s34) H := by rw [es34]; exact hP
        have hD : va_D A (dw_X2s a ac s34) := by rw [es34]; exact hD
        refine lv_iload_n hx hb dX2_takeOperator_58 rfl (lv_at hl 0 rfl) ?_
        refine lv_iconst (v := 1) hx hb dX2_takeOperator_59 (by decide) ?_
        refine lv_icmp_eq (tgt := 68) hx hb dX2_takeOperator_60 (by decide) (fun c35 => ?_) (fun c35 => ?_)
        · have h := nd_pos h c35
          exact (db_X2_takeOperator_68 C K) (z20) s34 _ _ _ h hP hD hS (lv_sub hl [2, 0] rfl)
        · have h := nd_neg h c35
          refine lv_iload_n hx hb dX2_takeOperator_63 rfl (lv_at hl 0 rfl) ?_
          refine lv_iconst (v := 2) hx hb dX2_takeOperator_64 (by decide) ?_
          refine lv_icmp_ne (tgt := 85) hx hb dX2_takeOperator_65 (by decide) (fun c41 => ?_) (fun c41 => ?_)
          · have h := nd_neg h c41
            exact (db_X2_takeOperator_85 C K)  s34 _ _ _ h hP hD hS (lv_sub hl [2] rfl)
          · have h := nd_pos h c41
            exact (db_X2_takeOperator_68 C K) (z20) s34 _ _ _ h hP hD hS (lv_sub hl [2, 0] rfl)
set_option maxHeartbeats 40000000 in
set_option maxRecDepth 100000 in
theorem dm_X2_takeOperator (l : Launch) (hlt : l.stackTraces = false) (dC : Nat → ClassId) (dI : Nat → Nat → Nat) (a : Nat → Nat) (ac : Nat → ClassId) (n : Nat) (s0 : St × (St)) {r : Int32 × (St × (St))} (h : df_X2_takeOperator n (a 0) s0 = some r) (sz : Nat) : Met l yX2_takeOperator ow_dm_X2_takeOperator ({ frames := 3, cells := 0, slots := 0, locals := 67 }) (va_Pc [.ref (a 1)] (fun U => U.heap.size = sz ∧ va_P (dC, dI) vwCl (dw_X2s a ac s0) U.heap ∧ va_K (dC, dI) vwCl (dk_X2s ac) U ∧ va_D (fun _ => True) (dw_X2s a ac s0) ∧ nv_E dI (va_A (dw_X2s a ac s0) sz) U)) (va_Qi (fun x _ => x = r.1) (fun (_ : Unit) t => va_P (dC, dI) vwCl (dw_X2s a ac r.2) t.heap ∧ va_K (dC, dI) vwCl (dk_X2s ac) t ∧ va_D (va_A (dw_X2s a ac s0) sz) (dw_X2s a ac r.2)) (va_A (dw_X2s a ac s0) sz)) 0 0 (va_A (dw_X2s a ac s0) sz) := by
  refine Met.ofW (cc := cX2_takeOperator) (maxL := 3) (ret := (some .boolean)) (by decide) rfl ?_
  intro p e s m args below meth c s₁ B hml hv
  obtain ⟨rfl, hsz, hP, hK, hD0, hN⟩ := hv
  have hx := B.exec
  have hb := B.bytes
  have hr := B.returns
  have hts := atoms_spec (ws := ow_dm_X2_takeOperator) B.pre
  have hown : s.vm.findClass RX2 = some m.cls := findClass_of_methodNamed B.named
  have hlocks := B.notSynchronized
  subst hsz
  have hD := hD0.self (sz := s.heap.size)
  generalize hAe : va_A (dw_X2s a ac s0) s.heap.size = A at hD hN ⊢
  have hA : ∀ q : Nat, s.heap.size ≤ q → A q := fun q h => by rw [← hAe]; exact Or.inr h
  have hl := lv_entry ([.ref (a 1)]) (n := 3) (Nat.le_of_ble_eq_true rfl)
  rw [lg_entry_eq]
  generalize (lg_sl ([.ref (a 1)]) ++ List.replicate (3 - (lg_sl ([.ref (a 1)])).length) Slot.unset).toArray = ls at hl ⊢
  have hl : lv_has ls 3 [(0, .ref (a 1))] := hl
  exact db_X2_takeOperator_0 (dC := dC) (dI := dI) (a := a) (ac := ac) (n := n) (r := r) ⟨hlt, hx, hb, hml, hown, hts, hN, hA, hK⟩ (fun pc v τ H locs ls d z er hP hD hS => by subst er; exact W.zret (v := v) hx hb hr z (fun t ht hW => ⟨⟨v, (), rfl, rfl, by rw [ht]; exact hP, va_K.moved hW.alike hK, hD⟩, hS.F ht⟩) hS.2.2 d) s0 _ _ _ h hP hD va_S.rf (lv_sub hl [0] rfl)
def ow_dm_X2_waiting : List Cond := Cond.code yX2_waiting cX2_waiting 5 (some .int) :: ([Cond.fieldLink RX2 55 "TimeMachine$Condition" "top" "I", Cond.fieldLink RX2 20 "TimeMachine$Condition" "sign" "[I"] ++ (u_ws RX2 TX2 20 ++ []))
theorem gd_dm_X2_waiting : ∀ w ∈ ow_dm_X2_waiting, (w.onTables && w.keeps) = true ∨ ∃ ty, w = Cond.arrayClass ty := List.forall_mem_cons.mpr ⟨good_of_word rfl, List.forall_mem_append.mpr ⟨fun w h => good_of_word (List.all_eq_true.mp (by decide +kernel) w h), List.forall_mem_append.mpr ⟨gu_X2, fun _ h => nomatch h⟩⟩⟩
theorem hi_dm_X2_waiting_X2 : ∀ w ∈ u_ws RX2 TX2 20, w ∈ ow_dm_X2_waiting := fun w h => List.mem_cons_of_mem _ (List.mem_append_right _ (List.mem_append_left _ h))
def dj_X2_waiting_39 (p : Program) (l : Launch) (e : Env) (s : State) (m : MethodId) (args : Array Value) (below : List Frame) (meth : Method) (c : Code) (Q : State → Prop) (A : Nat → Prop) (dC : Nat → ClassId) (dI : Nat → Nat → Nat) (a : Nat → Nat) (ac : Nat → ClassId) (g : Int32 → Int32 → Int32 → Int32 → (St) → Option (Int32 × (St))) (r : Int32 × (St)) : Prop := ∀ (x1 : Int32) (x2 : Int32) (x3 : Int32) (x4 : Int32) (s0 : St) (H : Heap) (locs : List Loc) (ls : Array Slot), g x1 x2 x3 x4 s0 = some r → va_P (dC, dI) vwCl (dw_X2c a ac s0) H → va_D A (dw_X2c a ac s0) → va_S A s.heap H locs → lv_has ls 5 [(0, .ref (a 0)), (1, .int x1), (2, .int x2), (3, .int x3), (4, .int x4)] → W p l e (headSpec ow_dm_X2_waiting ({ frames := 0, cells := 0, slots := 0, locals := 0 })).room s m args below meth c H locs 0 0 Q (F0 m 39 ls [])
def dj_X2_waiting_5 (p : Program) (l : Launch) (e : Env) (s : State) (m : MethodId) (args : Array Value) (below : List Frame) (meth : Method) (c : Code) (Q : State → Prop) (A : Nat → Prop) (dC : Nat → ClassId) (dI : Nat → Nat → Nat) (a : Nat → Nat) (ac : Nat → ClassId) (g : Int32 → Int32 → Int32 → Int32 → (St) → Option (Int32 × (St))) (r : Int32 × (St)) : Prop := ∀ (x1 : Int32) (x2 : Int32) (x3 : Int32) (x4 : Int32) (s0 : St) (H : Heap) (locs : List Loc) (ls : Array Slot), g x1 x2 x3 x4 s0 = some r → va_P (dC, dI) vwCl (dw_X2c a ac s0) H → va_D A (dw_X2c a ac s0) → va_S A s.heap H locs → lv_has ls 5 [(0, .ref (a 0)), (1, .int x1), (2, .int x2), (3, .int x3), (4, .int x4)] → W p l e (headSpec ow_dm_X2_waiting ({ frames := 0, cells := 0, slots := 0, locals := 0 })).room s m args below meth c H locs 0 0 Q (F0 m 5 ls [])
def dj_X2_waiting_0 (p : Program) (l : Launch) (e : Env) (s : State) (m : MethodId) (args : Array Value) (below : List Frame) (meth : Method) (c : Code) (Q : State → Prop) (A : Nat → Prop) (dC : Nat → ClassId) (dI : Nat → Nat → Nat) (a : Nat → Nat) (ac : Nat → ClassId) (g : Int32 → Int32 → (St) → Option (Int32 × (St))) (r : Int32 × (St)) : Prop := ∀ (v0 : Int32) (v1 : Int32) (s0 : St) (H : Heap) (locs : List Loc) (ls : Array Slot), g v0 v1 s0 = some r → va_P (dC, dI) vwCl (dw_X2c a ac s0) H → va_D A (dw_X2c a ac s0) → va_S A s.heap H locs → lv_has ls 5 [(0, .ref (a 0)), (1, .int v0), (2, .int v1)] → W p l e (headSpec ow_dm_X2_waiting ({ frames := 0, cells := 0, slots := 0, locals := 0 })).room s m args below meth c H locs 0 0 Q (F0 m 0 ls [])
set_option maxHeartbeats 40000000 in
set_option maxRecDepth 100000 in
theorem db_X2_waiting_39 {p : Program} {l : Launch} {e : Env} {s : State} {m : MethodId} {args : Array Value} {below : List Frame} {meth : Method} {c : Code} {Q : State → Prop} {A : Nat → Prop} {dC : Nat → ClassId} {dI : Nat → Nat → Nat} {a : Nat → Nat} {ac : Nat → ClassId} {n : Nat} {r : Int32 × (St)} (C : nd_C p l s m args c A (dC, dI) cX2_waiting 5 RX2 ow_dm_X2_waiting (dk_X2c ac)) (K : nd_Ki p l e (headSpec ow_dm_X2_waiting ({ frames := 0, cells := 0, slots := 0, locals := 0 })).room s m args below meth c Q A (dC, dI) cX2_waiting .int (St) (dw_X2c a ac) r) {g5 : Int32 → Int32 → Int32 → Int32 → (St) → Option (Int32 × (St))} (J5 : dj_X2_waiting_5 p l e s m args below meth c Q A dC dI a ac g5 r) : dj_X2_waiting_39 p l e s m args below meth c Q A dC dI a ac (df_X2_waiting_39 n g5) r := by
  obtain ⟨hlt, hx, hb, hml, hown, hts, hN, hA, hK⟩ := id C
  intro x1 x2 x3 x4 s0 H locs ls h hP hD hS hl
  unfold df_X2_waiting_39 at h
  obtain ⟨z4, ez4, h⟩ := nd_let_e h
  refine lv_iinc (v := z4) (lv' := [(4, .int z4), (0, .ref (a 0)), (1, .int x1), (2, .int x2), (3, .int x3)]) hx hb dX2_waiting_39 hl (k := 4) rfl (by rw [ez4]) (by decide) rfl (fun ls hl => ?_)
  refine lv_goto (tgt := 5) hx hb dX2_waiting_42 (by decide) ?_
  exact (J5) (x1) (x2) (x3) (z4) s0 _ _ _ h hP hD hS (lv_sub hl [1, 2, 3, 4, 0] rfl)
set_option maxHeartbeats 40000000 in
set_option maxRecDepth 100000 in
theorem dB_X2_waiting_5 {p : Program} {l : Launch} {e : Env} {s : State} {m : MethodId} {args : Array Value} {below : List Frame} {meth : Method} {c : Code} {Q : State → Prop} {A : Nat → Prop} {dC : Nat → ClassId} {dI : Nat → Nat → Nat} {a : Nat → Nat} {ac : Nat → ClassId} {n : Nat} {r : Int32 × (St)} (C : nd_C p l s m args c A (dC, dI) cX2_waiting 5 RX2 ow_dm_X2_waiting (dk_X2c ac)) (K : nd_Ki p l e (headSpec ow_dm_X2_waiting ({ frames := 0, cells := 0, slots := 0, locals := 0 })).room s m args below meth c Q A (dC, dI) cX2_waiting .int (St) (dw_X2c a ac) r) {g5 : Int32 → Int32 → Int32 → Int32 → (St) → Option (Int32 × (St))} (J5 : dj_X2_waiting_5 p l e s m args below meth c Q A dC dI a ac g5 r) : dj_X2_waiting_5 p l e s m args below meth c Q A dC dI a ac (dF_X2_waiting_5 n g5) r := by
  obtain ⟨hlt, hx, hb, hml, hown, hts, hN, hA, hK⟩ := id C
  intro x1 x2 x3 x4 s0 H locs ls h hP hD hS hl
  unfold dF_X2_waiting_5 at h
  refine lv_iload hx hb dX2_waiting_5 (lv_at hl 4 rfl) ?_
  refine lv_aload_n hx hb dX2_waiting_7 rfl (lv_at hl 0 rfl) ?_
  refine va_get (D := (dC, dI)) (ci := 3) (v := .int (sI s0 1)) (C := RX2) (T := TX2) (N := 20) hx hb hts hi_dm_X2_waiting_X2 hown hK hP 0 rfl rfl 4 (by decide) (hts (.fieldLink RX2 55 "TimeMachine$Condition" "top" "I") (List.mem_of_getElem? (i := 1) rfl)) (fun _ h9 => h9) rfl dX2_waiting_8 ?_
  refine lv_icmp_ge (tgt := 45) hx hb dX2_waiting_11 (by decide) (fun c1 => ?_) (fun c1 => ?_)
  · have h := nd_pos h c1
    refine lv_iload_n hx hb dX2_waiting_45 rfl (lv_at hl 3 rfl) ?_
    exact K _ _ _ _ _ _ dX2_waiting_46 rfl (Option.some.inj h).symm hP hD hS
  · have h := nd_neg h c1
    refine lv_aload_n hx hb dX2_waiting_14 rfl (lv_at hl 0 rfl) ?_
    refine va_get (D := (dC, dI)) (ci := 3) (v := .ref (a 4)) (C := RX2) (T := TX2) (N := 20) hx hb hts hi_dm_X2_waiting_X2 hown hK hP 0 rfl rfl 5 (by decide) (hts (.fieldLink RX2 20 "TimeMachine$Condition" "sign" "[I") (List.mem_of_getElem? (i := 2) rfl)) (fun _ h9 => h9) rfl dX2_waiting_15 ?_
    refine lv_iload hx hb dX2_waiting_18 (lv_at hl 4 rfl) ?_
    obtain ⟨i2, h⟩ := nd_ck_e h
    refine va_iald (i := x4) hx hb hK hP 4 3 rfl rfl i2 dX2_waiting_20 ?_
    refine lv_iload_n hx hb dX2_waiting_21 rfl (lv_at hl 1 rfl) ?_
    refine lv_icmp_lt (tgt := 39) hx hb dX2_waiting_22 (by decide) (fun c3 => ?_) (fun c3 => ?_)
    · have h := nd_pos h c3
      exact (db_X2_waiting_39 C K J5) (x1) (x2) (x3) (x4) s0 _ _ _ h hP hD hS (lv_sub hl [0, 1, 2, 3, 4] rfl)
    · have h := nd_neg h c3
      refine lv_aload_n hx hb dX2_waiting_25 rfl (lv_at hl 0 rfl) ?_
      refine va_get (D := (dC, dI)) (ci := 3) (v := .ref (a 4)) (C := RX2) (T := TX2) (N := 20) hx hb hts hi_dm_X2_waiting_X2 hown hK hP 0 rfl rfl 5 (by decide) (hts (.fieldLink RX2 20 "TimeMachine$Condition" "sign" "[I") (List.mem_of_getElem? (i := 2) rfl)) (fun _ h9 => h9) rfl dX2_waiting_26 ?_
      refine lv_iload hx hb dX2_waiting_29 (lv_at hl 4 rfl) ?_
      obtain ⟨i5, h⟩ := nd_ck_e h
      refine va_iald (i := x4) hx hb hK hP 4 3 rfl rfl i5 dX2_waiting_31 ?_
      refine lv_iload_n hx hb dX2_waiting_32 rfl (lv_at hl 2 rfl) ?_
      refine lv_icmp_gt (tgt := 39) hx hb dX2_waiting_33 (by decide) (fun c6 => ?_) (fun c6 => ?_)
      · have h := nd_pos h c6
        exact (db_X2_waiting_39 C K J5) (x1) (x2) (x3) (x4) s0 _ _ _ h hP hD hS (lv_sub hl [0, 1, 2, 3, 4] rfl)
      · have h := nd_neg h c6
        obtain ⟨z7, ez7, h⟩ := nd_let_e h
        refine lv_iinc (v := z7) (lv' := [(3, .int z7), (0, .ref (a 0)), (1, .int x1), (2, .int x2), (4, .int x4)]) hx hb dX2_waiting_36 hl (k := 3) rfl (by rw [ez7]) (by decide) rfl (fun ls hl => ?_)
        exact (db_X2_waiting_39 C K J5) (x1) (x2) (z7) (x4) s0 _ _ _ h hP hD hS (lv_sub hl [1, 2, 3, 0, 4] rfl)
set_option maxHeartbeats 40000000 in
set_option maxRecDepth 100000 in
theorem db_X2_waiting_5 {p : Program} {l : Launch} {e : Env} {s : State} {m : MethodId} {args : Array Value} {below : List Frame} {meth : Method} {c : Code} {Q : State → Prop} {A : Nat → Prop} {dC : Nat → ClassId} {dI : Nat → Nat → Nat} {a : Nat → Nat} {ac : Nat → ClassId} {n : Nat} {r : Int32 × (St)} (C : nd_C p l s m args c A (dC, dI) cX2_waiting 5 RX2 ow_dm_X2_waiting (dk_X2c ac)) (K : nd_Ki p l e (headSpec ow_dm_X2_waiting ({ frames := 0, cells := 0, slots := 0, locals := 0 })).room s m args below meth c Q A (dC, dI) cX2_waiting .int (St) (dw_X2c a ac) r) (k : Nat) : dj_X2_waiting_5 p l e s m args below meth c Q A dC dI a ac (df_X2_waiting_5 n k) r := by
  induction k with
  | zero => intro x1 x2 x3 x4 s0 H locs ls h; exact nomatch (show (none : Option (Int32 × (St))) = some r from h)
  | succ k ih => exact dB_X2_waiting_5 C K ih
set_option maxHeartbeats 40000000 in
set_option maxRecDepth 100000 in
theorem db_X2_waiting_0 {p : Program} {l : Launch} {e : Env} {s : State} {m : MethodId} {args : Array Value} {below : List Frame} {meth : Method} {c : Code} {Q : State → Prop} {A : Nat → Prop} {dC : Nat → ClassId} {dI : Nat → Nat → Nat} {a : Nat → Nat} {ac : Nat → ClassId} {n : Nat} {r : Int32 × (St)} (C : nd_C p l s m args c A (dC, dI) cX2_waiting 5 RX2 ow_dm_X2_waiting (dk_X2c ac)) (K : nd_Ki p l e (headSpec ow_dm_X2_waiting ({ frames := 0, cells := 0, slots := 0, locals := 0 })).room s m args below meth c Q A (dC, dI) cX2_waiting .int (St) (dw_X2c a ac) r) : dj_X2_waiting_0 p l e s m args below meth c Q A dC dI a ac (df_X2_waiting_0 n) r := by
  obtain ⟨hlt, hx, hb, hml, hown, hts, hN, hA, hK⟩ := id C
  intro v0 v1 s0 H locs ls h hP hD hS hl
  unfold df_X2_waiting_0 at h
  refine lv_iconst (v := 0) hx hb dX2_waiting_0 (by decide) ?_
  refine lv_istore_n (lv' := [(3, .int 0), (0, .ref (a 0)), (1, .int v0), (2, .int v1)]) hx hb dX2_waiting_1 rfl hl (by decide) rfl (fun ls hl => ?_)
  refine lv_iconst (v := 0) hx hb dX2_waiting_2 (by decide) ?_
  refine lv_istore (lv' := [(4, .int 0), (3, .int 0), (0, .ref (a 0)), (1, .int v0), (2, .int v1)]) hx hb dX2_waiting_3 hl (by decide) rfl (fun ls hl => ?_)
  exact (db_X2_waiting_5 C K n) (v0) (v1) (0) (0) s0 _ _ _ h hP hD hS (lv_sub hl [2, 3, 4, 1, 0] rfl)
set_option maxHeartbeats 40000000 in
set_option maxRecDepth 100000 in
theorem dm_X2_waiting (l : Launch) (hlt : l.stackTraces = false) (dC : Nat → ClassId) (dI : Nat → Nat → Nat) (a : Nat → Nat) (ac : Nat → ClassId) (n : Nat) (v0 : Int32) (v1 : Int32) (s0 : St) {r : Int32 × (St)} (h : df_X2_waiting n v0 v1 s0 = some r) (sz : Nat) : Met l yX2_waiting ow_dm_X2_waiting ({ frames := 0, cells := 0, slots := 0, locals := 0 }) (va_Pc [.ref (a 0), .int v0, .int v1] (fun U => U.heap.size = sz ∧ va_P (dC, dI) vwCl (dw_X2c a ac s0) U.heap ∧ va_K (dC, dI) vwCl (dk_X2c ac) U ∧ va_D (fun _ => True) (dw_X2c a ac s0) ∧ nv_E dI (va_A (dw_X2c a ac s0) sz) U)) (va_Qi (fun x _ => x = r.1) (fun (_ : Unit) t => va_P (dC, dI) vwCl (dw_X2c a ac r.2) t.heap ∧ va_K (dC, dI) vwCl (dk_X2c ac) t ∧ va_D (va_A (dw_X2c a ac s0) sz) (dw_X2c a ac r.2)) (va_A (dw_X2c a ac s0) sz)) 0 0 (va_A (dw_X2c a ac s0) sz) := by
  refine Met.ofW (cc := cX2_waiting) (maxL := 5) (ret := (some .int)) (by decide) rfl ?_
  intro p e s m args below meth c s₁ B hml hv
  obtain ⟨rfl, hsz, hP, hK, hD0, hN⟩ := hv
  have hx := B.exec
  have hb := B.bytes
  have hr := B.returns
  have hts := atoms_spec (ws := ow_dm_X2_waiting) B.pre
  have hown : s.vm.findClass RX2 = some m.cls := findClass_of_methodNamed B.named
  have hlocks := B.notSynchronized
  subst hsz
  have hD := hD0.self (sz := s.heap.size)
  generalize hAe : va_A (dw_X2c a ac s0) s.heap.size = A at hD hN ⊢
  have hA : ∀ q : Nat, s.heap.size ≤ q → A q := fun q h => by rw [← hAe]; exact Or.inr h
  have hl := lv_entry ([.ref (a 0), .int v0, .int v1]) (n := 5) (Nat.le_of_ble_eq_true rfl)
  rw [lg_entry_eq]
  generalize (lg_sl ([.ref (a 0), .int v0, .int v1]) ++ List.replicate (5 - (lg_sl ([.ref (a 0), .int v0, .int v1])).length) Slot.unset).toArray = ls at hl ⊢
  have hl : lv_has ls 5 [(0, .ref (a 0)), (1, .int v0), (2, .int v1)] := hl
  exact db_X2_waiting_0 (dC := dC) (dI := dI) (a := a) (ac := ac) (n := n) (r := r) ⟨hlt, hx, hb, hml, hown, hts, hN, hA, hK⟩ (fun pc v τ H locs ls d z er hP hD hS => by subst er; exact W.zret (v := v) hx hb hr z (fun t ht hW => ⟨⟨v, (), rfl, rfl, by rw [ht]; exact hP, va_K.moved hW.alike hK, hD⟩, hS.F ht⟩) hS.2.2 d) v0 v1 s0 _ _ _ h hP hD va_S.rf (lv_sub hl [0, 1, 2] rfl)
def ow_dm_X2_opens : List Cond := Cond.code yX2_opens cX2_opens 3 none :: ([Cond.methodLink RX2 148 yX2_part, Cond.instanceMethod yX2_part, Cond.selects RX2 yX2_part yX2_part, Cond.initialized RX2, Cond.methodLink RX2 151 yX2_waiting, Cond.instanceMethod yX2_waiting, Cond.selects RX2 yX2_waiting yX2_waiting, Cond.methodLink RX2 154 yX2_push, Cond.instanceMethod yX2_push, Cond.selects RX2 yX2_push yX2_push, Cond.methodLink RX2 84 yX2_blame, Cond.instanceMethod yX2_blame, Cond.selects RX2 yX2_blame yX2_blame] ++ (ow_dm_X2_part ++ (ow_dm_X2_waiting ++ (ow_dm_X2_push ++ (ow_dm_X2_blame ++ [])))))
theorem gd_dm_X2_opens : ∀ w ∈ ow_dm_X2_opens, (w.onTables && w.keeps) = true ∨ ∃ ty, w = Cond.arrayClass ty := List.forall_mem_cons.mpr ⟨good_of_word rfl, List.forall_mem_append.mpr ⟨fun w h => good_of_word (List.all_eq_true.mp (by decide +kernel) w h), List.forall_mem_append.mpr ⟨gd_dm_X2_part, List.forall_mem_append.mpr ⟨gd_dm_X2_waiting, List.forall_mem_append.mpr ⟨gd_dm_X2_push, List.forall_mem_append.mpr ⟨gd_dm_X2_blame, fun _ h => nomatch h⟩⟩⟩⟩⟩⟩
theorem gi_dm_X2_opens_0 : GoodIn ow_dm_X2_opens (wsV RX2 148 RX2 yX2_part ow_dm_X2_part) := goodIn_app (goodIn_of _ (by decide +kernel)) (fun w h => ⟨List.mem_cons_of_mem _ (List.mem_append_right _ (List.mem_append_left _ h)), gd_dm_X2_part w h⟩)
theorem gi_dm_X2_opens_1 : GoodIn ow_dm_X2_opens (wsV RX2 151 RX2 yX2_waiting ow_dm_X2_waiting) := goodIn_app (goodIn_of _ (by decide +kernel)) (fun w h => ⟨List.mem_cons_of_mem _ (List.mem_append_right _ (List.mem_append_right _ (List.mem_append_left _ h))), gd_dm_X2_waiting w h⟩)
theorem gi_dm_X2_opens_2 : GoodIn ow_dm_X2_opens (wsV RX2 154 RX2 yX2_push ow_dm_X2_push) := goodIn_app (goodIn_of _ (by decide +kernel)) (fun w h => ⟨List.mem_cons_of_mem _ (List.mem_append_right _ (List.mem_append_right _ (List.mem_append_right _ (List.mem_append_left _ h)))), gd_dm_X2_push w h⟩)
theorem gi_dm_X2_opens_3 : GoodIn ow_dm_X2_opens (wsV RX2 84 RX2 yX2_blame ow_dm_X2_blame) := goodIn_app (goodIn_of _ (by decide +kernel)) (fun w h => ⟨List.mem_cons_of_mem _ (List.mem_append_right _ (List.mem_append_right _ (List.mem_append_right _ (List.mem_append_right _ (List.mem_append_left _ h))))), gd_dm_X2_blame w h⟩)
def dj_X2_opens_22 (p : Program) (l : Launch) (e : Env) (s : State) (m : MethodId) (args : Array Value) (below : List Frame) (meth : Method) (c : Code) (Q : State → Prop) (A : Nat → Prop) (dC : Nat → ClassId) (dI : Nat → Nat → Nat) (a : Nat → Nat) (ac : Nat → ClassId) (g : Int32 → Int32 → (St) → Option (St)) (r : St) : Prop := ∀ (x1 : Int32) (x2 : Int32) (s0 : St) (H : Heap) (locs : List Loc) (ls : Array Slot), g x1 x2 s0 = some r → va_P (dC, dI) vwCl (dw_X2c a ac s0) H → va_D A (dw_X2c a ac s0) → va_S A s.heap H locs → lv_has ls 3 [(0, .ref (a 0)), (1, .int x1), (2, .int x2)] → W p l e (headSpec ow_dm_X2_opens ({ frames := 2, cells := 0, slots := 0, locals := 41 })).room s m args below meth c H locs 0 0 Q (F0 m 22 ls [])
def dj_X2_opens_0 (p : Program) (l : Launch) (e : Env) (s : State) (m : MethodId) (args : Array Value) (below : List Frame) (meth : Method) (c : Code) (Q : State → Prop) (A : Nat → Prop) (dC : Nat → ClassId) (dI : Nat → Nat → Nat) (a : Nat → Nat) (ac : Nat → ClassId) (g : Int32 → Int32 → (St) → Option (St)) (r : St) : Prop := ∀ (v0 : Int32) (v1 : Int32) (s0 : St) (H : Heap) (locs : List Loc) (ls : Array Slot), g v0 v1 s0 = some r → va_P (dC, dI) vwCl (dw_X2c a ac s0) H → va_D A (dw_X2c a ac s0) → va_S A s.heap H locs → lv_has ls 3 [(0, .ref (a 0)), (1, .int v0), (2, .int v1)] → W p l e (headSpec ow_dm_X2_opens ({ frames := 2, cells := 0, slots := 0, locals := 41 })).room s m args below meth c H locs 0 0 Q (F0 m 0 ls [])
set_option maxHeartbeats 40000000 in
set_option maxRecDepth 100000 in
theorem db_X2_opens_22 {p : Program} {l : Launch} {e : Env} {s : State} {m : MethodId} {args : Array Value} {below : List Frame} {meth : Method} {c : Code} {Q : State → Prop} {A : Nat → Prop} {dC : Nat → ClassId} {dI : Nat → Nat → Nat} {a : Nat → Nat} {ac : Nat → ClassId} {n : Nat} {r : St} (C : nd_C p l s m args c A (dC, dI) cX2_opens 3 RX2 ow_dm_X2_opens (dk_X2c ac)) (K : nd_Kv p l e (headSpec ow_dm_X2_opens ({ frames := 2, cells := 0, slots := 0, locals := 41 })).room s m args below meth c Q A (dC, dI) cX2_opens (St) (dw_X2c a ac) r) : dj_X2_opens_22 p l e s m args below meth c Q A dC dI a ac (df_X2_opens_22 n) r := by
  obtain ⟨hlt, hx, hb, hml, hown, hts, hN, hA, hK⟩ := id C
  intro x1 x2 s0 H locs ls h hP hD hS hl
  unfold df_X2_opens_22 at h
  refine lv_aload_n hx hb dX2_opens_22 rfl (lv_at hl 0 rfl) ?_
  refine lv_iload_n hx hb dX2_opens_23 rfl (lv_at hl 1 rfl) ?_
  refine lv_iload_n hx hb dX2_opens_24 rfl (lv_at hl 2 rfl) ?_
  obtain ⟨s9, hq, h⟩ := nd_b1_e h
  have hPc := hP
  have hDc := hD
  have hKc := hK
  have hFc := nd_rs hD hS hA
  refine nd_cVv (As := [.int x1, .int x2]) (rest := []) (w' := dw_X2c a ac s9) ⟨hx, hb, hml, hown, hts⟩ (fun sz => dm_X2_push l hlt dC dI a ac n (x1) (x2) s0 hq sz) (cwV 2 hts gi_dm_X2_opens_2 rfl rfl rfl (by decide +kernel) ⟨Nat.le_of_ble_eq_true rfl, Nat.le_of_ble_eq_true rfl⟩) hPc hDc hKc hS hA hN (va_recv hKc hPc (ci := 3) (q0 := 0) rfl rfl) rfl hl.1 rfl (Nat.le_of_ble_eq_true rfl) dX2_opens_25 (fun H locs hP1 hD1 hk1 hS => ?_)
  have hP := hP1
  have hD := hD1.weaken (fun k q _ h => hFc q.1 h)
  exact K _ _ _ _ _ dX2_opens_28 (Option.some.inj h).symm hP hD hS
set_option maxHeartbeats 40000000 in
set_option maxRecDepth 100000 in
theorem db_X2_opens_0 {p : Program} {l : Launch} {e : Env} {s : State} {m : MethodId} {args : Array Value} {below : List Frame} {meth : Method} {c : Code} {Q : State → Prop} {A : Nat → Prop} {dC : Nat → ClassId} {dI : Nat → Nat → Nat} {a : Nat → Nat} {ac : Nat → ClassId} {n : Nat} {r : St} (C : nd_C p l s m args c A (dC, dI) cX2_opens 3 RX2 ow_dm_X2_opens (dk_X2c ac)) (K : nd_Kv p l e (headSpec ow_dm_X2_opens ({ frames := 2, cells := 0, slots := 0, locals := 41 })).room s m args below meth c Q A (dC, dI) cX2_opens (St) (dw_X2c a ac) r) : dj_X2_opens_0 p l e s m args below meth c Q A dC dI a ac (df_X2_opens_0 n) r := by
  obtain ⟨hlt, hx, hb, hml, hown, hts, hN, hA, hK⟩ := id C
  intro v0 v1 s0 H locs ls h hP hD hS hl
  unfold df_X2_opens_0 at h
  refine lv_aload_n hx hb dX2_opens_0 rfl (lv_at hl 0 rfl) ?_
  obtain ⟨s2, hq, h⟩ := nd_b1_e h
  have hPc := hP
  have hDc := hD
  have hKc := hK
  have hFc := nd_rs hD hS hA
  refine nd_cVv (As := []) (rest := []) (w' := dw_X2c a ac s2) ⟨hx, hb, hml, hown, hts⟩ (fun sz => dm_X2_part l hlt dC dI a ac n  s0 hq sz) (cwV 0 hts gi_dm_X2_opens_0 rfl rfl rfl (by decide +kernel) ⟨Nat.le_of_ble_eq_true rfl, Nat.le_of_ble_eq_true rfl⟩) hPc hDc hKc hS hA hN (va_recv hKc hPc (ci := 3) (q0 := 0) rfl rfl) rfl hl.1 rfl (Nat.le_of_ble_eq_true rfl) dX2_opens_1 (fun H locs hP1 hD1 hk1 hS => ?_)
  have hP := hP1
  have hD := hD1.weaken (fun k q _ h => hFc q.1 h)
  refine lv_aload_n hx hb dX2_opens_4 rfl (lv_at hl 0 rfl) ?_
  refine lv_bipush (v := 22) hx hb dX2_opens_5 (by decide) ?_
  refine lv_bipush (v := 27) hx hb dX2_opens_7 (by decide) ?_
  obtain ⟨q4, s5, hq, h⟩ := nd_b2_e h
  have hPc := hP
  have hDc := hD
  have hKc := hK
  have hFc := nd_rs hD hS hA
  refine nd_cVi (As := [.int 22, .int 27]) (rest := []) (q := q4) (w' := dw_X2c a ac s5) ⟨hx, hb, hml, hown, hts⟩ (fun sz => dm_X2_waiting l hlt dC dI a ac n (22) (27) s2 hq sz) (cwV 2 hts gi_dm_X2_opens_1 rfl rfl rfl (by decide +kernel) ⟨Nat.le_of_ble_eq_true rfl, Nat.le_of_ble_eq_true rfl⟩) hPc hDc hKc hS hA hN (va_recv hKc hPc (ci := 3) (q0 := 0) rfl rfl) rfl hl.1 rfl (Nat.le_of_ble_eq_true rfl) dX2_opens_9 (fun H locs hP1 hD1 hk1 hS => ?_)
  have hP := hP1
  have hD := hD1.weaken (fun k q _ h => hFc q.1 h)
  refine lv_bipush (v := 8) hx hb dX2_opens_12 (by decide) ?_
  refine lv_icmp_lt (tgt := 22) hx hb dX2_opens_14 (by decide) (fun c7 => ?_) (fun c7 => ?_)
  · have h := nd_pos h c7
    exact (db_X2_opens_22 C K) (v0) (v1) s5 _ _ _ h hP hD hS (lv_sub hl [0, 1, 2] rfl)
  · have h := nd_neg h c7
    refine lv_aload_n hx hb dX2_opens_17 rfl (lv_at hl 0 rfl) ?_
    refine lv_iconst (v := 4) hx hb dX2_opens_18 (by decide) ?_
    obtain ⟨s12, hq, h⟩ := nd_b1_e h
    have hPc := hP
    have hDc := hD
    have hKc := hK
    have hFc := nd_rs hD hS hA
    refine nd_cVv (As := [.int 4]) (rest := []) (w' := dw_X2c a ac s12) ⟨hx, hb, hml, hown, hts⟩ (fun sz => dm_X2_blame l hlt dC dI a ac n (4) s5 hq sz) (cwV 1 hts gi_dm_X2_opens_3 rfl rfl rfl (by decide +kernel) ⟨Nat.le_of_ble_eq_true rfl, Nat.le_of_ble_eq_true rfl⟩) hPc hDc hKc hS hA hN (va_recv hKc hPc (ci := 3) (q0 := 0) rfl rfl) rfl hl.1 rfl (Nat.le_of_ble_eq_true rfl) dX2_opens_19 (fun H locs hP1 hD1 hk1 hS => ?_)
    have hP := hP1
    have hD := hD1.weaken (fun k q _ h => hFc q.1 h)
    exact (db_X2_opens_22 C K) (v0) (v1) s12 _ _ _ h hP hD hS (lv_sub hl [0, 1, 2] rfl)
set_option maxHeartbeats 40000000 in
set_option maxRecDepth 100000 in
theorem dm_X2_opens (l : Launch) (hlt : l.stackTraces = false) (dC : Nat → ClassId) (dI : Nat → Nat → Nat) (a : Nat → Nat) (ac : Nat → ClassId) (n : Nat) (v0 : Int32) (v1 : Int32) (s0 : St) {r : St} (h : df_X2_opens n v0 v1 s0 = some r) (sz : Nat) : Met l yX2_opens ow_dm_X2_opens ({ frames := 2, cells := 0, slots := 0, locals := 41 }) (va_Pc [.ref (a 0), .int v0, .int v1] (fun U => U.heap.size = sz ∧ va_P (dC, dI) vwCl (dw_X2c a ac s0) U.heap ∧ va_K (dC, dI) vwCl (dk_X2c ac) U ∧ va_D (fun _ => True) (dw_X2c a ac s0) ∧ nv_E dI (va_A (dw_X2c a ac s0) sz) U)) (va_Qv (fun _ => True) (fun (_ : Unit) t => va_P (dC, dI) vwCl (dw_X2c a ac r) t.heap ∧ va_K (dC, dI) vwCl (dk_X2c ac) t ∧ va_D (va_A (dw_X2c a ac s0) sz) (dw_X2c a ac r)) (va_A (dw_X2c a ac s0) sz)) 0 0 (va_A (dw_X2c a ac s0) sz) := by
  refine Met.ofW (cc := cX2_opens) (maxL := 3) (ret := none) (by decide) rfl ?_
  intro p e s m args below meth c s₁ B hml hv
  obtain ⟨rfl, hsz, hP, hK, hD0, hN⟩ := hv
  have hx := B.exec
  have hb := B.bytes
  have hr := B.returns
  have hts := atoms_spec (ws := ow_dm_X2_opens) B.pre
  have hown : s.vm.findClass RX2 = some m.cls := findClass_of_methodNamed B.named
  have hlocks := B.notSynchronized
  subst hsz
  have hD := hD0.self (sz := s.heap.size)
  generalize hAe : va_A (dw_X2c a ac s0) s.heap.size = A at hD hN ⊢
  have hA : ∀ q : Nat, s.heap.size ≤ q → A q := fun q h => by rw [← hAe]; exact Or.inr h
  have hl := lv_entry ([.ref (a 0), .int v0, .int v1]) (n := 3) (Nat.le_of_ble_eq_true rfl)
  rw [lg_entry_eq]
  generalize (lg_sl ([.ref (a 0), .int v0, .int v1]) ++ List.replicate (3 - (lg_sl ([.ref (a 0), .int v0, .int v1])).length) Slot.unset).toArray = ls at hl ⊢
  have hl : lv_has ls 3 [(0, .ref (a 0)), (1, .int v0), (2, .int v1)] := hl
  exact db_X2_opens_0 (dC := dC) (dI := dI) (a := a) (ac := ac) (n := n) (r := r) ⟨hlt, hx, hb, hml, hown, hts, hN, hA, hK⟩ (fun pc τ H locs ls d er hP hD hS => by subst er; exact W.vret hx hb hr (fun t ht hW => ⟨⟨(), rfl, trivial, by rw [ht]; exact hP, va_K.moved hW.alike hK, hD⟩, hS.F ht⟩) hS.2.2 d) v0 v1 s0 _ _ _ h hP hD va_S.rf (lv_sub hl [0, 1, 2] rfl)
set_option maxHeartbeats 40000000 in
set_option maxRecDepth 100000 in
theorem dp_vX2s_BY_0 {D : va_G} {H : Heap} {a : Nat → Nat} {ac : Nat → ClassId} {σ : St × (St)} (h : va_P D vwCl (dw_X2s a ac σ) H) : va_P D vwCl (dw_BY (fun k => a (nd_ix [0] k)) (fun k => ac (nd_ix [0] k)) ((pR nd_st0 0 (sR σ.1 0)))) H := h.sub [0] rfl
set_option maxHeartbeats 40000000 in
set_option maxRecDepth 100000 in
theorem dd_vX2s_BY_0 {A : Nat → Prop} {a : Nat → Nat} {ac : Nat → ClassId} {σ : St × (St)} (h : va_D A (dw_X2s a ac σ)) : va_D A (dw_BY (fun k => a (nd_ix [0] k)) (fun k => ac (nd_ix [0] k)) ((pR nd_st0 0 (sR σ.1 0)))) := h.sub [0] (by decide) rfl
set_option maxHeartbeats 40000000 in
set_option maxRecDepth 100000 in
theorem dy_vX2s_BY_0 {D : va_G} {U : State} {ac : Nat → ClassId} (h : va_K D vwCl (dk_X2s ac) U) : va_K D vwCl (dk_BY (fun k => ac (nd_ix [0] k))) U := h.sub [0] rfl
set_option maxHeartbeats 40000000 in
set_option maxRecDepth 100000 in
theorem dn_vX2s_BY_0 {A0 : Nat → Prop} {D : va_G} {H H1 : Heap} {a : Nat → Nat} {ac : Nat → ClassId} {σ : St × (St)} {τ : St} (hP : va_P D vwCl (dw_X2s a ac σ) H) (hD : va_D A0 (dw_X2s a ac σ)) (hA : ∀ q : Nat, H.size ≤ q → A0 q) (hk : ∀ q : Nat, q < H.size → ¬ va_A (dw_BY (fun k => a (nd_ix [0] k)) (fun k => ac (nd_ix [0] k)) ((pR nd_st0 0 (sR σ.1 0)))) H.size q → H1[q]? = H[q]?) (h1 : va_P D vwCl (dw_BY (fun k => a (nd_ix [0] k)) (fun k => ac (nd_ix [0] k)) τ) H1) (h2 : va_D (va_A (dw_BY (fun k => a (nd_ix [0] k)) (fun k => ac (nd_ix [0] k)) ((pR nd_st0 0 (sR σ.1 0)))) H.size) (dw_BY (fun k => a (nd_ix [0] k)) (fun k => ac (nd_ix [0] k)) τ)) : va_P D vwCl (dw_X2s a ac ((pR σ.1 0 (sR τ 0)), σ.2)) H1 ∧ va_D A0 (dw_X2s a ac ((pR σ.1 0 (sR τ 0)), σ.2)) := by
  obtain ⟨h1, h2⟩ := va_join (wr := [1, 2, 3, 4, 5, 6, 7, 8, 9].filterMap (fun i => (dw_X2s a ac σ)[i]?)) hP hD [0] [1, 2, 3, 4, 5, 6, 7, 8, 9] rfl rfl (by decide) (by decide) hk (nd_rq (dd_vX2s_BY_0 hD) hA) h1 h2
  exact ⟨h1.sub [9, 0, 1, 2, 3, 4, 5, 6, 7, 8] rfl, h2.sub [9, 0, 1, 2, 3, 4, 5, 6, 7, 8] (by decide) rfl⟩
def ow_dm_X2_isWord : List Cond := Cond.code yX2_isWord cX2_isWord 2 (some .boolean) :: ([Cond.fieldLink RX2 35 "TimeMachine$Condition" "source" "[B", Cond.fieldLink RX2 90 "TimeMachine$Condition" "from" "I", Cond.fieldLink RX2 49 "TimeMachine$Condition" "at" "I", Cond.methodLink RX2 116 yX7_stands, Cond.static yX7_stands, Cond.initialized RX7] ++ (u_ws RX2 TX2 20 ++ (ow_dm_X7_stands ++ [])))
theorem gd_dm_X2_isWord : ∀ w ∈ ow_dm_X2_isWord, (w.onTables && w.keeps) = true ∨ ∃ ty, w = Cond.arrayClass ty := List.forall_mem_cons.mpr ⟨good_of_word rfl, List.forall_mem_append.mpr ⟨fun w h => good_of_word (List.all_eq_true.mp (by decide +kernel) w h), List.forall_mem_append.mpr ⟨gu_X2, List.forall_mem_append.mpr ⟨gd_dm_X7_stands, fun _ h => nomatch h⟩⟩⟩⟩
theorem hi_dm_X2_isWord_X2 : ∀ w ∈ u_ws RX2 TX2 20, w ∈ ow_dm_X2_isWord := fun w h => List.mem_cons_of_mem _ (List.mem_append_right _ (List.mem_append_left _ h))
theorem gi_dm_X2_isWord_0 : GoodIn ow_dm_X2_isWord (va_wsS RX2 116 yX7_stands ow_dm_X7_stands) := goodIn_app (goodIn_of _ (by decide +kernel)) (fun w h => ⟨List.mem_cons_of_mem _ (List.mem_append_right _ (List.mem_append_right _ (List.mem_append_left _ h))), gd_dm_X7_stands w h⟩)
def dj_X2_isWord_0 (p : Program) (l : Launch) (e : Env) (s : State) (m : MethodId) (args : Array Value) (below : List Frame) (meth : Method) (c : Code) (Q : State → Prop) (A : Nat → Prop) (dC : Nat → ClassId) (dI : Nat → Nat → Nat) (a : Nat → Nat) (ac : Nat → ClassId) (g : Nat → (St × (St)) → Option (Int32 × (St × (St)))) (r : Int32 × (St × (St))) : Prop := ∀ (v0 : Nat) (s0 : St × (St)) (H : Heap) (locs : List Loc) (ls : Array Slot), g v0 s0 = some r → va_P (dC, dI) vwCl (dw_X2s a ac s0) H → va_D A (dw_X2s a ac s0) → va_S A s.heap H locs → lv_has ls 2 [(0, .ref (a 1)), (1, .ref (dI 1000 v0))] → W p l e (headSpec ow_dm_X2_isWord ({ frames := 5, cells := 0, slots := 0, locals := 109 })).room s m args below meth c H locs 0 0 Q (F0 m 0 ls [])
set_option maxHeartbeats 40000000 in
set_option maxRecDepth 100000 in
theorem db_X2_isWord_0 {p : Program} {l : Launch} {e : Env} {s : State} {m : MethodId} {args : Array Value} {below : List Frame} {meth : Method} {c : Code} {Q : State → Prop} {A : Nat → Prop} {dC : Nat → ClassId} {dI : Nat → Nat → Nat} {a : Nat → Nat} {ac : Nat → ClassId} {n : Nat} {r : Int32 × (St × (St))} (C : nd_C p l s m args c A (dC, dI) cX2_isWord 2 RX2 ow_dm_X2_isWord (dk_X2s ac)) (K : nd_Ki p l e (headSpec ow_dm_X2_isWord ({ frames := 5, cells := 0, slots := 0, locals := 109 })).room s m args below meth c Q A (dC, dI) cX2_isWord .boolean (St × (St)) (dw_X2s a ac) r) : dj_X2_isWord_0 p l e s m args below meth c Q A dC dI a ac (df_X2_isWord_0 n (a 0)) r := by
  obtain ⟨hlt, hx, hb, hml, hown, hts, hN, hA, hK⟩ := id C
  intro v0 s0 H locs ls h hP hD hS hl
  unfold df_X2_isWord_0 at h
  refine lv_aload_n hx hb dX2_isWord_0 rfl (lv_at hl 1 rfl) ?_
  refine lv_aload_n hx hb dX2_isWord_1 rfl (lv_at hl 0 rfl) ?_
  obtain ⟨o1, h⟩ := nd_o_e h
  refine va_get (D := (dC, dI)) (ci := 3) (v := .ref (a 0)) (C := RX2) (T := TX2) (N := 20) hx hb hts hi_dm_X2_isWord_X2 hown hK hP 1 rfl rfl 12 (by decide) (hts (.fieldLink RX2 35 "TimeMachine$Condition" "source" "[B") (List.mem_of_getElem? (i := 1) rfl)) (fun _ h9 => h9) (congrArg (fun z => some (va_rf z)) o1) dX2_isWord_2 ?_
  refine lv_aload_n hx hb dX2_isWord_5 rfl (lv_at hl 0 rfl) ?_
  refine va_get (D := (dC, dI)) (ci := 3) (v := .int (sI s0.2 7)) (C := RX2) (T := TX2) (N := 20) hx hb hts hi_dm_X2_isWord_X2 hown hK hP 1 rfl rfl 16 (by decide) (hts (.fieldLink RX2 90 "TimeMachine$Condition" "from" "I") (List.mem_of_getElem? (i := 2) rfl)) (fun _ h9 => h9) rfl dX2_isWord_6 ?_
  refine lv_aload_n hx hb dX2_isWord_9 rfl (lv_at hl 0 rfl) ?_
  refine va_get (D := (dC, dI)) (ci := 3) (v := .int (sI s0.2 5)) (C := RX2) (T := TX2) (N := 20) hx hb hts hi_dm_X2_isWord_X2 hown hK hP 1 rfl rfl 14 (by decide) (hts (.fieldLink RX2 49 "TimeMachine$Condition" "at" "I") (List.mem_of_getElem? (i := 3) rfl)) (fun _ h9 => h9) rfl dX2_isWord_10 ?_
  refine lv_aload_n hx hb dX2_isWord_13 rfl (lv_at hl 0 rfl) ?_
  refine va_get (D := (dC, dI)) (ci := 3) (v := .int (sI s0.2 7)) (C := RX2) (T := TX2) (N := 20) hx hb hts hi_dm_X2_isWord_X2 hown hK hP 1 rfl rfl 16 (by decide) (hts (.fieldLink RX2 90 "TimeMachine$Condition" "from" "I") (List.mem_of_getElem? (i := 2) rfl)) (fun _ h9 => h9) rfl dX2_isWord_14 ?_
  refine lv_isub hx hb dX2_isWord_17 ?_
  obtain ⟨q2, s3, hq, h⟩ := nd_b2_e h
  have hPc := dp_vX2s_BY_0 hP
  have hDc := dd_vX2s_BY_0 hD
  have hKc := dy_vX2s_BY_0 hK
  have hFc := nd_rs hDc hS hA
  have hzA : ∀ q : Nat, H.size ≤ q → A q := fun q h => hA q (Nat.le_trans hS.1 h)
  refine nd_cSi (As := [.ref (dI 1000 v0), .ref (a 0), .int (sI s0.2 7), .int ((sI s0.2 5) - (sI s0.2 7))]) (rest := []) (q := q2) (w' := dw_BY (fun k => a (nd_ix [0] k)) (fun k => ac (nd_ix [0] k)) s3) ⟨hx, hb, hml, hown, hts⟩ (fun sz => dm_X7_stands l hlt dC dI (fun k => a (nd_ix [0] k)) (fun k => ac (nd_ix [0] k)) n (v0) ((sI s0.2 7)) (((sI s0.2 5) - (sI s0.2 7))) ((pR nd_st0 0 (sR s0.1 0))) hq sz) (va_cwS 4 hts gi_dm_X2_isWord_0 rfl rfl rfl (by decide +kernel) ⟨Nat.le_of_ble_eq_true rfl, Nat.le_of_ble_eq_true rfl⟩) hPc hDc hKc hS hA hN rfl hl.1 rfl (Nat.le_of_ble_eq_true rfl) dX2_isWord_18 (fun H locs hP1 hD1 hk1 hS => ?_)
  obtain ⟨hP, hD⟩ := dn_vX2s_BY_0 hP hD hzA hk1 hP1 hD1
  obtain ⟨s5, es5, h⟩ := nd_let_e h
  have hP : va_P (dC, dI) vwCl (dw_X2s a ac s5) H := by rw [es5]; exact hP
  have hD : va_D A (dw_X2s a ac s5) := by rw [es5]; exact hD
  obtain ⟨n6, h⟩ := nd_z_e ⟨_, rfl⟩ h
  exact K _ _ _ _ _ _ dX2_isWord_21 n6 (Option.some.inj h).symm hP hD hS
set_option maxHeartbeats 40000000 in
set_option maxRecDepth 100000 in
theorem dm_X2_isWord (l : Launch) (hlt : l.stackTraces = false) (dC : Nat → ClassId) (dI : Nat → Nat → Nat) (a : Nat → Nat) (ac : Nat → ClassId) (n : Nat) (v0 : Nat) (s0 : St × (St)) {r : Int32 × (St × (St))} (h : df_X2_isWord n (a 0) v0 s0 = some r) (sz : Nat) : Met l yX2_isWord ow_dm_X2_isWord ({ frames := 5, cells := 0, slots := 0, locals := 109 }) (va_Pc [.ref (a 1), .ref (dI 1000 v0)] (fun U => U.heap.size = sz ∧ va_P (dC, dI) vwCl (dw_X2s a ac s0) U.heap ∧ va_K (dC, dI) vwCl (dk_X2s ac) U ∧ va_D (fun _ => True) (dw_X2s a ac s0) ∧ nv_E dI (va_A (dw_X2s a ac s0) sz) U)) (va_Qi (fun x _ => x = r.1) (fun (_ : Unit) t => va_P (dC, dI) vwCl (dw_X2s a ac r.2) t.heap ∧ va_K (dC, dI) vwCl (dk_X2s ac) t ∧ va_D (va_A (dw_X2s a ac s0) sz) (dw_X2s a ac r.2)) (va_A (dw_X2s a ac s0) sz)) 0 0 (va_A (dw_X2s a ac s0) sz) := by
  refine Met.ofW (cc := cX2_isWord) (maxL := 2) (ret := (some .boolean)) (by decide) rfl ?_
  intro p e s m args below meth c s₁ B hml hv
  obtain ⟨rfl, hsz, hP, hK, hD0, hN⟩ := hv
  have hx := B.exec
  have hb := B.bytes
  have hr := B.returns
  have hts := atoms_spec (ws := ow_dm_X2_isWord) B.pre
  have hown : s.vm.findClass RX2 = some m.cls := findClass_of_methodNamed B.named
  have hlocks := B.notSynchronized
  subst hsz
  have hD := hD0.self (sz := s.heap.size)
  generalize hAe : va_A (dw_X2s a ac s0) s.heap.size = A at hD hN ⊢
  have hA : ∀ q : Nat, s.heap.size ≤ q → A q := fun q h => by rw [← hAe]; exact Or.inr h
  have hl := lv_entry ([.ref (a 1), .ref (dI 1000 v0)]) (n := 2) (Nat.le_of_ble_eq_true rfl)
  rw [lg_entry_eq]
  generalize (lg_sl ([.ref (a 1), .ref (dI 1000 v0)]) ++ List.replicate (2 - (lg_sl ([.ref (a 1), .ref (dI 1000 v0)])).length) Slot.unset).toArray = ls at hl ⊢
  have hl : lv_has ls 2 [(0, .ref (a 1)), (1, .ref (dI 1000 v0))] := hl
  exact db_X2_isWord_0 (dC := dC) (dI := dI) (a := a) (ac := ac) (n := n) (r := r) ⟨hlt, hx, hb, hml, hown, hts, hN, hA, hK⟩ (fun pc v τ H locs ls d z er hP hD hS => by subst er; exact W.zret (v := v) hx hb hr z (fun t ht hW => ⟨⟨v, (), rfl, rfl, by rw [ht]; exact hP, va_K.moved hW.alike hK, hD⟩, hS.F ht⟩) hS.2.2 d) v0 s0 _ _ _ h hP hD va_S.rf (lv_sub hl [0, 1] rfl)
def ow_dm_X2_meaning : List Cond := Cond.code yX2_meaning cX2_meaning 1 (some .int) :: ([Cond.methodLink RX2 124 yX2_isWord, Cond.instanceMethod yX2_isWord, Cond.selects RX2 yX2_isWord yX2_isWord, Cond.initialized RX2, Cond.fieldLink RX2 35 "TimeMachine$Condition" "source" "[B", Cond.fieldLink RX2 90 "TimeMachine$Condition" "from" "I", Cond.fieldLink RX2 49 "TimeMachine$Condition" "at" "I", Cond.methodLink RX2 132 yX7_registerAt, Cond.static yX7_registerAt, Cond.initialized RX7, Cond.fieldLink RX2 110 "TimeMachine$Condition" "number" "J", Cond.constantLong RX2 130 (32)] ++ (u_ws RX2 TX2 20 ++ (ow_dm_X2_isWord ++ (ow_dm_X7_registerAt ++ []))))
theorem gd_dm_X2_meaning : ∀ w ∈ ow_dm_X2_meaning, (w.onTables && w.keeps) = true ∨ ∃ ty, w = Cond.arrayClass ty := List.forall_mem_cons.mpr ⟨good_of_word rfl, List.forall_mem_append.mpr ⟨fun w h => good_of_word (List.all_eq_true.mp (by decide +kernel) w h), List.forall_mem_append.mpr ⟨gu_X2, List.forall_mem_append.mpr ⟨gd_dm_X2_isWord, List.forall_mem_append.mpr ⟨gd_dm_X7_registerAt, fun _ h => nomatch h⟩⟩⟩⟩⟩
theorem hi_dm_X2_meaning_X2 : ∀ w ∈ u_ws RX2 TX2 20, w ∈ ow_dm_X2_meaning := fun w h => List.mem_cons_of_mem _ (List.mem_append_right _ (List.mem_append_left _ h))
theorem gi_dm_X2_meaning_0 : GoodIn ow_dm_X2_meaning (wsV RX2 124 RX2 yX2_isWord ow_dm_X2_isWord) := goodIn_app (goodIn_of _ (by decide +kernel)) (fun w h => ⟨List.mem_cons_of_mem _ (List.mem_append_right _ (List.mem_append_right _ (List.mem_append_left _ h))), gd_dm_X2_isWord w h⟩)
theorem gi_dm_X2_meaning_1 : GoodIn ow_dm_X2_meaning (va_wsS RX2 132 yX7_registerAt ow_dm_X7_registerAt) := goodIn_app (goodIn_of _ (by decide +kernel)) (fun w h => ⟨List.mem_cons_of_mem _ (List.mem_append_right _ (List.mem_append_right _ (List.mem_append_right _ (List.mem_append_left _ h)))), gd_dm_X7_registerAt w h⟩)
def dj_X2_meaning_149 (p : Program) (l : Launch) (e : Env) (s : State) (m : MethodId) (args : Array Value) (below : List Frame) (meth : Method) (c : Code) (Q : State → Prop) (A : Nat → Prop) (dC : Nat → ClassId) (dI : Nat → Nat → Nat) (a : Nat → Nat) (ac : Nat → ClassId) (g : Int32 → (St × (St)) → Option (Int32 × (St × (St)))) (r : Int32 × (St × (St))) : Prop := ∀ (y0 : Int32) (s0 : St × (St)) (H : Heap) (locs : List Loc) (ls : Array Slot), g y0 s0 = some r → va_P (dC, dI) vwCl (dw_X2s a ac s0) H → va_D A (dw_X2s a ac s0) → va_S A s.heap H locs → lv_has ls 1 [] → W p l e (headSpec ow_dm_X2_meaning ({ frames := 6, cells := 0, slots := 0, locals := 133 })).room s m args below meth c H locs 0 0 Q (F0 m 149 ls [.int y0])
def dj_X2_meaning_73 (p : Program) (l : Launch) (e : Env) (s : State) (m : MethodId) (args : Array Value) (below : List Frame) (meth : Method) (c : Code) (Q : State → Prop) (A : Nat → Prop) (dC : Nat → ClassId) (dI : Nat → Nat → Nat) (a : Nat → Nat) (ac : Nat → ClassId) (g : Int32 → (St × (St)) → Option (Int32 × (St × (St)))) (r : Int32 × (St × (St))) : Prop := ∀ (y0 : Int32) (s0 : St × (St)) (H : Heap) (locs : List Loc) (ls : Array Slot), g y0 s0 = some r → va_P (dC, dI) vwCl (dw_X2s a ac s0) H → va_D A (dw_X2s a ac s0) → va_S A s.heap H locs → lv_has ls 1 [] → W p l e (headSpec ow_dm_X2_meaning ({ frames := 6, cells := 0, slots := 0, locals := 133 })).room s m args below meth c H locs 0 0 Q (F0 m 73 ls [.int y0])
def dj_X2_meaning_0 (p : Program) (l : Launch) (e : Env) (s : State) (m : MethodId) (args : Array Value) (below : List Frame) (meth : Method) (c : Code) (Q : State → Prop) (A : Nat → Prop) (dC : Nat → ClassId) (dI : Nat → Nat → Nat) (a : Nat → Nat) (ac : Nat → ClassId) (g : (St × (St)) → Option (Int32 × (St × (St)))) (r : Int32 × (St × (St))) : Prop := ∀ (s0 : St × (St)) (H : Heap) (locs : List Loc) (ls : Array Slot), g s0 = some r → va_P (dC, dI) vwCl (dw_X2s a ac s0) H → va_D A (dw_X2s a ac s0) → va_S A s.heap H locs → lv_has ls 1 [(0, .ref (a 1))] → W p l e (headSpec ow_dm_X2_meaning ({ frames := 6, cells := 0, slots := 0, locals := 133 })).room s m args below meth c H locs 0 0 Q (F0 m 0 ls [])
set_option maxHeartbeats 40000000 in
set_option maxRecDepth 100000 in
theorem db_X2_meaning_149 {p : Program} {l : Launch} {e : Env} {s : State} {m : MethodId} {args : Array Value} {below : List Frame} {meth : Method} {c : Code} {Q : State → Prop} {A : Nat → Prop} {dC : Nat → ClassId} {dI : Nat → Nat → Nat} {a : Nat → Nat} {ac : Nat → ClassId} {n : Nat} {r : Int32 × (St × (St))} (C : nd_C p l s m args c A (dC, dI) cX2_meaning 1 RX2 ow_dm_X2_meaning (dk_X2s ac)) (K : nd_Ki p l e (headSpec ow_dm_X2_meaning ({ frames := 6, cells := 0, slots := 0, locals := 133 })).room s m args below meth c Q A (dC, dI) cX2_meaning .int (St × (St)) (dw_X2s a ac) r) : dj_X2_meaning_149 p l e s m args below meth c Q A dC dI a ac (df_X2_meaning_149 n (a 0)) r := by
  obtain ⟨hlt, hx, hb, hml, hown, hts, hN, hA, hK⟩ := id C
  intro y0 s0 H locs ls h hP hD hS hl
  unfold df_X2_meaning_149 at h
  exact K _ _ _ _ _ _ dX2_meaning_149 rfl (Option.some.inj h).symm hP hD hS
set_option maxHeartbeats 40000000 in
set_option maxRecDepth 100000 in
theorem db_X2_meaning_73 {p : Program} {l : Launch} {e : Env} {s : State} {m : MethodId} {args : Array Value} {below : List Frame} {meth : Method} {c : Code} {Q : State → Prop} {A : Nat → Prop} {dC : Nat → ClassId} {dI : Nat → Nat → Nat} {a : Nat → Nat} {ac : Nat → ClassId} {n : Nat} {r : Int32 × (St × (St))} (C : nd_C p l s m args c A (dC, dI) cX2_meaning 1 RX2 ow_dm_X2_meaning (dk_X2s ac)) (K : nd_Ki p l e (headSpec ow_dm_X2_meaning ({ frames := 6, cells := 0, slots := 0, locals := 133 })).room s m args below meth c Q A (dC, dI) cX2_meaning .int (St × (St)) (dw_X2s a ac) r) : dj_X2_meaning_73 p l e s m args below meth c Q A dC dI a ac (df_X2_meaning_73 n (a 0)) r := by
  obtain ⟨hlt, hx, hb, hml, hown, hts, hN, hA, hK⟩ := id C
  intro y0 s0 H locs ls h hP hD hS hl
  unfold df_X2_meaning_73 at h
  exact K _ _ _ _ _ _ dX2_meaning_73 rfl (Option.some.inj h).symm hP hD hS
set_option maxHeartbeats 40000000 in
set_option maxRecDepth 100000 in
theorem db_X2_meaning_0 {p : Program} {l : Launch} {e : Env} {s : State} {m : MethodId} {args : Array Value} {below : List Frame} {meth : Method} {c : Code} {Q : State → Prop} {A : Nat → Prop} {dC : Nat → ClassId} {dI : Nat → Nat → Nat} {a : Nat → Nat} {ac : Nat → ClassId} {n : Nat} {r : Int32 × (St × (St))} (C : nd_C p l s m args c A (dC, dI) cX2_meaning 1 RX2 ow_dm_X2_meaning (dk_X2s ac)) (K : nd_Ki p l e (headSpec ow_dm_X2_meaning ({ frames := 6, cells := 0, slots := 0, locals := 133 })).room s m args below meth c Q A (dC, dI) cX2_meaning .int (St × (St)) (dw_X2s a ac) r) : dj_X2_meaning_0 p l e s m args below meth c Q A dC dI a ac (df_X2_meaning_0 n (a 0)) r := by
  obtain ⟨hlt, hx, hb, hml, hown, hts, hN, hA, hK⟩ := id C
  intro s0 H locs ls h hP hD hS hl
  unfold df_X2_meaning_0 at h
  refine lv_aload_n hx hb dX2_meaning_0 rfl (lv_at hl 0 rfl) ?_
  have z1 : vk_R RX2 122 "pc" (dI 1000 21) s := hN.2.2.2.2.2.2.2.2.2.2.2.2.1 21 (by decide)
  refine va_ldcS hx hb hown z1 dX2_meaning_1 ?_
  obtain ⟨q2, s3, hq, h⟩ := nd_b2_e h
  have hPc := hP
  have hDc := hD
  have hKc := hK
  have hFc := nd_rs hD hS hA
  refine nd_cVi (As := [.ref (dI 1000 21)]) (rest := []) (q := q2) (w' := dw_X2s a ac s3) ⟨hx, hb, hml, hown, hts⟩ (fun sz => dm_X2_isWord l hlt dC dI a ac n (21) s0 hq sz) (cwV 1 hts gi_dm_X2_meaning_0 rfl rfl rfl (by decide +kernel) ⟨Nat.le_of_ble_eq_true rfl, Nat.le_of_ble_eq_true rfl⟩) hPc hDc hKc hS hA hN (va_recv hKc hPc (ci := 3) (q0 := 1) rfl rfl) rfl hl.1 rfl (Nat.le_of_ble_eq_true rfl) dX2_meaning_3 (fun H locs hP1 hD1 hk1 hS => ?_)
  have hP := hP1
  have hD := hD1.weaken (fun k q _ h => hFc q.1 h)
  refine lv_if_eq (tgt := 19) hx hb dX2_meaning_6 (by decide) (fun c5 => ?_) (fun c5 => ?_)
  · have h := nd_pos h c5
    refine lv_aload_n hx hb dX2_meaning_19 rfl (lv_at hl 0 rfl) ?_
    obtain ⟨o6, h⟩ := nd_o_e h
    refine va_get (D := (dC, dI)) (ci := 3) (v := .ref (a 0)) (C := RX2) (T := TX2) (N := 20) hx hb hts hi_dm_X2_meaning_X2 hown hK hP 1 rfl rfl 12 (by decide) (hts (.fieldLink RX2 35 "TimeMachine$Condition" "source" "[B") (List.mem_of_getElem? (i := 5) rfl)) (fun _ h9 => h9) (congrArg (fun z => some (va_rf z)) o6) dX2_meaning_20 ?_
    refine lv_aload_n hx hb dX2_meaning_23 rfl (lv_at hl 0 rfl) ?_
    refine va_get (D := (dC, dI)) (ci := 3) (v := .int (sI s3.2 7)) (C := RX2) (T := TX2) (N := 20) hx hb hts hi_dm_X2_meaning_X2 hown hK hP 1 rfl rfl 16 (by decide) (hts (.fieldLink RX2 90 "TimeMachine$Condition" "from" "I") (List.mem_of_getElem? (i := 6) rfl)) (fun _ h9 => h9) rfl dX2_meaning_24 ?_
    obtain ⟨i7, h⟩ := nd_ck_e h
    refine va_bald (i := (sI s3.2 7)) hx hb hK hP 0 0 rfl rfl i7 dX2_meaning_27 ?_
    refine lv_bipush (v := 120) hx hb dX2_meaning_28 (by decide) ?_
    refine lv_icmp_ne (tgt := 74) hx hb dX2_meaning_30 (by decide) (fun c8 => ?_) (fun c8 => ?_)
    · have h := nd_neg h c8
      refine lv_aload_n hx hb dX2_meaning_74 rfl (lv_at hl 0 rfl) ?_
      have z9 : vk_R RX2 136 "pid" (dI 1000 22) s := hN.2.2.2.2.2.2.2.2.2.2.2.2.1 22 (by decide)
      refine va_ldcS hx hb hown z9 dX2_meaning_75 ?_
      obtain ⟨q10, s11, hq, h⟩ := nd_b2_e h
      have hPc := hP
      have hDc := hD
      have hKc := hK
      have hFc := nd_rs hD hS hA
      refine nd_cVi (As := [.ref (dI 1000 22)]) (rest := []) (q := q10) (w' := dw_X2s a ac s11) ⟨hx, hb, hml, hown, hts⟩ (fun sz => dm_X2_isWord l hlt dC dI a ac n (22) s3 hq sz) (cwV 1 hts gi_dm_X2_meaning_0 rfl rfl rfl (by decide +kernel) ⟨Nat.le_of_ble_eq_true rfl, Nat.le_of_ble_eq_true rfl⟩) hPc hDc hKc hS hA hN (va_recv hKc hPc (ci := 3) (q0 := 1) rfl rfl) rfl hl.1 rfl (Nat.le_of_ble_eq_true rfl) dX2_meaning_77 (fun H locs hP1 hD1 hk1 hS => ?_)
      have hP := hP1
      have hD := hD1.weaken (fun k q _ h => hFc q.1 h)
      refine lv_if_eq (tgt := 86) hx hb dX2_meaning_80 (by decide) (fun c13 => ?_) (fun c13 => ?_)
      · have h := nd_pos h c13
        refine lv_aload_n hx hb dX2_meaning_86 rfl (lv_at hl 0 rfl) ?_
        have z14 : vk_R RX2 138 "count" (dI 1000 23) s := hN.2.2.2.2.2.2.2.2.2.2.2.2.1 23 (by decide)
        refine va_ldcS hx hb hown z14 dX2_meaning_87 ?_
        obtain ⟨q15, s16, hq, h⟩ := nd_b2_e h
        have hPc := hP
        have hDc := hD
        have hKc := hK
        have hFc := nd_rs hD hS hA
        refine nd_cVi (As := [.ref (dI 1000 23)]) (rest := []) (q := q15) (w' := dw_X2s a ac s16) ⟨hx, hb, hml, hown, hts⟩ (fun sz => dm_X2_isWord l hlt dC dI a ac n (23) s11 hq sz) (cwV 1 hts gi_dm_X2_meaning_0 rfl rfl rfl (by decide +kernel) ⟨Nat.le_of_ble_eq_true rfl, Nat.le_of_ble_eq_true rfl⟩) hPc hDc hKc hS hA hN (va_recv hKc hPc (ci := 3) (q0 := 1) rfl rfl) rfl hl.1 rfl (Nat.le_of_ble_eq_true rfl) dX2_meaning_89 (fun H locs hP1 hD1 hk1 hS => ?_)
        have hP := hP1
        have hD := hD1.weaken (fun k q _ h => hFc q.1 h)
        refine lv_if_eq (tgt := 98) hx hb dX2_meaning_92 (by decide) (fun c18 => ?_) (fun c18 => ?_)
        · have h := nd_pos h c18
          refine lv_aload_n hx hb dX2_meaning_98 rfl (lv_at hl 0 rfl) ?_
          have z19 : vk_R RX2 140 "byte" (dI 1000 24) s := hN.2.2.2.2.2.2.2.2.2.2.2.2.1 24 (by decide)
          refine va_ldcS hx hb hown z19 dX2_meaning_99 ?_
          obtain ⟨q20, s21, hq, h⟩ := nd_b2_e h
          have hPc := hP
          have hDc := hD
          have hKc := hK
          have hFc := nd_rs hD hS hA
          refine nd_cVi (As := [.ref (dI 1000 24)]) (rest := []) (q := q20) (w' := dw_X2s a ac s21) ⟨hx, hb, hml, hown, hts⟩ (fun sz => dm_X2_isWord l hlt dC dI a ac n (24) s16 hq sz) (cwV 1 hts gi_dm_X2_meaning_0 rfl rfl rfl (by decide +kernel) ⟨Nat.le_of_ble_eq_true rfl, Nat.le_of_ble_eq_true rfl⟩) hPc hDc hKc hS hA hN (va_recv hKc hPc (ci := 3) (q0 := 1) rfl rfl) rfl hl.1 rfl (Nat.le_of_ble_eq_true rfl) dX2_meaning_101 (fun H locs hP1 hD1 hk1 hS => ?_)
          have hP := hP1
          have hD := hD1.weaken (fun k q _ h => hFc q.1 h)
          refine lv_if_eq (tgt := 110) hx hb dX2_meaning_104 (by decide) (fun c23 => ?_) (fun c23 => ?_)
          · have h := nd_pos h c23
            refine lv_aload_n hx hb dX2_meaning_110 rfl (lv_at hl 0 rfl) ?_
            have z24 : vk_R RX2 142 "half" (dI 1000 25) s := hN.2.2.2.2.2.2.2.2.2.2.2.2.1 25 (by decide)
            refine va_ldcS hx hb hown z24 dX2_meaning_111 ?_
            obtain ⟨q25, s26, hq, h⟩ := nd_b2_e h
            have hPc := hP
            have hDc := hD
            have hKc := hK
            have hFc := nd_rs hD hS hA
            refine nd_cVi (As := [.ref (dI 1000 25)]) (rest := []) (q := q25) (w' := dw_X2s a ac s26) ⟨hx, hb, hml, hown, hts⟩ (fun sz => dm_X2_isWord l hlt dC dI a ac n (25) s21 hq sz) (cwV 1 hts gi_dm_X2_meaning_0 rfl rfl rfl (by decide +kernel) ⟨Nat.le_of_ble_eq_true rfl, Nat.le_of_ble_eq_true rfl⟩) hPc hDc hKc hS hA hN (va_recv hKc hPc (ci := 3) (q0 := 1) rfl rfl) rfl hl.1 rfl (Nat.le_of_ble_eq_true rfl) dX2_meaning_113 (fun H locs hP1 hD1 hk1 hS => ?_)
            have hP := hP1
            have hD := hD1.weaken (fun k q _ h => hFc q.1 h)
            refine lv_if_eq (tgt := 122) hx hb dX2_meaning_116 (by decide) (fun c28 => ?_) (fun c28 => ?_)
            · have h := nd_pos h c28
              refine lv_aload_n hx hb dX2_meaning_122 rfl (lv_at hl 0 rfl) ?_
              have z29 : vk_R RX2 144 "old" (dI 1000 26) s := hN.2.2.2.2.2.2.2.2.2.2.2.2.1 26 (by decide)
              refine va_ldcS hx hb hown z29 dX2_meaning_123 ?_
              obtain ⟨q30, s31, hq, h⟩ := nd_b2_e h
              have hPc := hP
              have hDc := hD
              have hKc := hK
              have hFc := nd_rs hD hS hA
              refine nd_cVi (As := [.ref (dI 1000 26)]) (rest := []) (q := q30) (w' := dw_X2s a ac s31) ⟨hx, hb, hml, hown, hts⟩ (fun sz => dm_X2_isWord l hlt dC dI a ac n (26) s26 hq sz) (cwV 1 hts gi_dm_X2_meaning_0 rfl rfl rfl (by decide +kernel) ⟨Nat.le_of_ble_eq_true rfl, Nat.le_of_ble_eq_true rfl⟩) hPc hDc hKc hS hA hN (va_recv hKc hPc (ci := 3) (q0 := 1) rfl rfl) rfl hl.1 rfl (Nat.le_of_ble_eq_true rfl) dX2_meaning_125 (fun H locs hP1 hD1 hk1 hS => ?_)
              have hP := hP1
              have hD := hD1.weaken (fun k q _ h => hFc q.1 h)
              refine lv_if_eq (tgt := 134) hx hb dX2_meaning_128 (by decide) (fun c33 => ?_) (fun c33 => ?_)
              · have h := nd_pos h c33
                refine lv_aload_n hx hb dX2_meaning_134 rfl (lv_at hl 0 rfl) ?_
                have z34 : vk_R RX2 146 "changed" (dI 1000 27) s := hN.2.2.2.2.2.2.2.2.2.2.2.2.1 27 (by decide)
                refine va_ldcS hx hb hown z34 dX2_meaning_135 ?_
                obtain ⟨q35, s36, hq, h⟩ := nd_b2_e h
                have hPc := hP
                have hDc := hD
                have hKc := hK
                have hFc := nd_rs hD hS hA
                refine nd_cVi (As := [.ref (dI 1000 27)]) (rest := []) (q := q35) (w' := dw_X2s a ac s36) ⟨hx, hb, hml, hown, hts⟩ (fun sz => dm_X2_isWord l hlt dC dI a ac n (27) s31 hq sz) (cwV 1 hts gi_dm_X2_meaning_0 rfl rfl rfl (by decide +kernel) ⟨Nat.le_of_ble_eq_true rfl, Nat.le_of_ble_eq_true rfl⟩) hPc hDc hKc hS hA hN (va_recv hKc hPc (ci := 3) (q0 := 1) rfl rfl) rfl hl.1 rfl (Nat.le_of_ble_eq_true rfl) dX2_meaning_137 (fun H locs hP1 hD1 hk1 hS => ?_)
                have hP := hP1
                have hD := hD1.weaken (fun k q _ h => hFc q.1 h)
                refine lv_if_eq (tgt := 148) hx hb dX2_meaning_140 (by decide) (fun c38 => ?_) (fun c38 => ?_)
                · have h := nd_pos h c38
                  refine lv_iconst (v := 0) hx hb dX2_meaning_148 (by decide) ?_
                  exact (db_X2_meaning_149 C K) (0) s36 _ _ _ h hP hD hS (lv_sub hl [] rfl)
                · have h := nd_neg h c38
                  refine lv_bipush (v := 24) hx hb dX2_meaning_143 (by decide) ?_
                  refine lv_goto (tgt := 149) hx hb dX2_meaning_145 (by decide) ?_
                  exact (db_X2_meaning_149 C K) (24) s36 _ _ _ h hP hD hS (lv_sub hl [] rfl)
              · have h := nd_neg h c33
                refine lv_bipush (v := 23) hx hb dX2_meaning_131 (by decide) ?_
                exact K _ _ _ _ _ _ dX2_meaning_133 rfl (Option.some.inj h).symm hP hD hS
            · have h := nd_neg h c28
              refine lv_bipush (v := 26) hx hb dX2_meaning_119 (by decide) ?_
              exact K _ _ _ _ _ _ dX2_meaning_121 rfl (Option.some.inj h).symm hP hD hS
          · have h := nd_neg h c23
            refine lv_bipush (v := 27) hx hb dX2_meaning_107 (by decide) ?_
            exact K _ _ _ _ _ _ dX2_meaning_109 rfl (Option.some.inj h).symm hP hD hS
        · have h := nd_neg h c18
          refine lv_bipush (v := 33) hx hb dX2_meaning_95 (by decide) ?_
          exact K _ _ _ _ _ _ dX2_meaning_97 rfl (Option.some.inj h).symm hP hD hS
      · have h := nd_neg h c13
        refine lv_bipush (v := 32) hx hb dX2_meaning_83 (by decide) ?_
        exact K _ _ _ _ _ _ dX2_meaning_85 rfl (Option.some.inj h).symm hP hD hS
    · have h := nd_pos h c8
      refine lv_aload_n hx hb dX2_meaning_33 rfl (lv_at hl 0 rfl) ?_
      refine lv_aload_n hx hb dX2_meaning_34 rfl (lv_at hl 0 rfl) ?_
      obtain ⟨o39, h⟩ := nd_o_e h
      refine va_get (D := (dC, dI)) (ci := 3) (v := .ref (a 0)) (C := RX2) (T := TX2) (N := 20) hx hb hts hi_dm_X2_meaning_X2 hown hK hP 1 rfl rfl 12 (by decide) (hts (.fieldLink RX2 35 "TimeMachine$Condition" "source" "[B") (List.mem_of_getElem? (i := 5) rfl)) (fun _ h9 => h9) (congrArg (fun z => some (va_rf z)) o39) dX2_meaning_35 ?_
      refine lv_aload_n hx hb dX2_meaning_38 rfl (lv_at hl 0 rfl) ?_
      refine va_get (D := (dC, dI)) (ci := 3) (v := .int (sI s3.2 7)) (C := RX2) (T := TX2) (N := 20) hx hb hts hi_dm_X2_meaning_X2 hown hK hP 1 rfl rfl 16 (by decide) (hts (.fieldLink RX2 90 "TimeMachine$Condition" "from" "I") (List.mem_of_getElem? (i := 6) rfl)) (fun _ h9 => h9) rfl dX2_meaning_39 ?_
      refine lv_aload_n hx hb dX2_meaning_42 rfl (lv_at hl 0 rfl) ?_
      refine va_get (D := (dC, dI)) (ci := 3) (v := .int (sI s3.2 5)) (C := RX2) (T := TX2) (N := 20) hx hb hts hi_dm_X2_meaning_X2 hown hK hP 1 rfl rfl 14 (by decide) (hts (.fieldLink RX2 49 "TimeMachine$Condition" "at" "I") (List.mem_of_getElem? (i := 7) rfl)) (fun _ h9 => h9) rfl dX2_meaning_43 ?_
      refine lv_aload_n hx hb dX2_meaning_46 rfl (lv_at hl 0 rfl) ?_
      refine va_get (D := (dC, dI)) (ci := 3) (v := .int (sI s3.2 7)) (C := RX2) (T := TX2) (N := 20) hx hb hts hi_dm_X2_meaning_X2 hown hK hP 1 rfl rfl 16 (by decide) (hts (.fieldLink RX2 90 "TimeMachine$Condition" "from" "I") (List.mem_of_getElem? (i := 6) rfl)) (fun _ h9 => h9) rfl dX2_meaning_47 ?_
      refine lv_isub hx hb dX2_meaning_50 ?_
      obtain ⟨q40, s41, hq, h⟩ := nd_b2_e h
      have hPc := dp_vX2s_BY_0 hP
      have hDc := dd_vX2s_BY_0 hD
      have hKc := dy_vX2s_BY_0 hK
      have hFc := nd_rs hDc hS hA
      have hzA : ∀ q : Nat, H.size ≤ q → A q := fun q h => hA q (Nat.le_trans hS.1 h)
      refine nd_cSi (As := [.ref (a 0), .int (sI s3.2 7), .int ((sI s3.2 5) - (sI s3.2 7))]) (rest := [.ref (a 1)]) (q := q40) (w' := dw_BY (fun k => a (nd_ix [0] k)) (fun k => ac (nd_ix [0] k)) s41) ⟨hx, hb, hml, hown, hts⟩ (fun sz => dm_X7_registerAt l hlt dC dI (fun k => a (nd_ix [0] k)) (fun k => ac (nd_ix [0] k)) n ((sI s3.2 7)) (((sI s3.2 5) - (sI s3.2 7))) ((pR nd_st0 0 (sR s3.1 0))) hq sz) (va_cwS 3 hts gi_dm_X2_meaning_1 rfl rfl rfl (by decide +kernel) ⟨Nat.le_of_ble_eq_true rfl, Nat.le_of_ble_eq_true rfl⟩) hPc hDc hKc hS hA hN rfl hl.1 rfl (Nat.le_of_ble_eq_true rfl) dX2_meaning_51 (fun H locs hP1 hD1 hk1 hS => ?_)
      obtain ⟨hP, hD⟩ := dn_vX2s_BY_0 hP hD hzA hk1 hP1 hD1
      obtain ⟨s43, es43, h⟩ := nd_let_e h
      have hP : va_P (dC, dI) vwCl (dw_X2s a ac s43) H := by rw [es43]; exact hP
      have hD : va_D A (dw_X2s a ac s43) := by rw [es43]; exact hD
      refine lv_i2l hx hb dX2_meaning_54 rfl ?_
      refine va_put (D := (dC, dI)) (ci := 3) (v := .long (q40.toInt64)) (ty := .long) (C := RX2) (T := TX2) (N := 20) hx hb hts hi_dm_X2_meaning_X2 tyX2 tyX2_ok nmX2 hown hK hP hD hS 1 rfl rfl 17 (by decide) (hts (.fieldLink RX2 110 "TimeMachine$Condition" "number" "J") (List.mem_of_getElem? (i := 11) rfl)) (fun _ h9 => h9) rfl (by decide +kernel) rfl rfl (Nat.le_of_ble_eq_true rfl) dX2_meaning_55 (fun H locs hP hD hS => ?_)
      obtain ⟨s44, es44, h⟩ := nd_let_e h
      have hP : va_P (dC, dI) vwCl (dw_X2s a ac s44) H := by rw [es44]; exact hP
      have hD : va_D A (dw_X2s a ac s44) := by rw [es44]; exact hD
      refine lv_aload_n hx hb dX2_meaning_58 rfl (lv_at hl 0 rfl) ?_
      refine va_get (D := (dC, dI)) (ci := 3) (v := .long (sL s44.2 0)) (C := RX2) (T := TX2) (N := 20) hx hb hts hi_dm_X2_meaning_X2 hown hK hP 1 rfl rfl 17 (by decide) (hts (.fieldLink RX2 110 "TimeMachine$Condition" "number" "J") (List.mem_of_getElem? (i := 11) rfl)) (fun _ h9 => h9) rfl dX2_meaning_59 ?_
      refine lv_lconst (v := 0) hx hb dX2_meaning_62 (by decide) ?_
      refine W.lcmp hx hb dX2_meaning_63 ?_
      refine lv_if_lt (tgt := 72) hx hb dX2_meaning_64 (by decide) (fun c45 => ?_) (fun c45 => ?_)
      · have h := nd_pos h c45
        refine lv_iconst (v := 0) hx hb dX2_meaning_72 (by decide) ?_
        exact (db_X2_meaning_73 C K) (0) s44 _ _ _ h hP hD hS (lv_sub hl [] rfl)
      · have h := nd_neg h c45
        refine lv_bipush (v := 31) hx hb dX2_meaning_67 (by decide) ?_
        refine lv_goto (tgt := 73) hx hb dX2_meaning_69 (by decide) ?_
        exact (db_X2_meaning_73 C K) (31) s44 _ _ _ h hP hD hS (lv_sub hl [] rfl)
  · have h := nd_neg h c5
    refine lv_aload_n hx hb dX2_meaning_9 rfl (lv_at hl 0 rfl) ?_
    refine lv_ldc2 hx hb hown (hts (.constantLong RX2 130 (32)) (List.mem_of_getElem? (i := 12) rfl)) dX2_meaning_10 ?_
    refine va_put (D := (dC, dI)) (ci := 3) (v := .long 32) (ty := .long) (C := RX2) (T := TX2) (N := 20) hx hb hts hi_dm_X2_meaning_X2 tyX2 tyX2_ok nmX2 hown hK hP hD hS 1 rfl rfl 17 (by decide) (hts (.fieldLink RX2 110 "TimeMachine$Condition" "number" "J") (List.mem_of_getElem? (i := 11) rfl)) (fun _ h9 => h9) rfl (by decide +kernel) rfl rfl (Nat.le_of_ble_eq_true rfl) dX2_meaning_13 (fun H locs hP hD hS => ?_)
    obtain ⟨s46, es46, h⟩ := nd_let_e h
    have hP : va_P (dC, dI) vwCl (dw_X2s a ac s46) H := by rw [es46]; exact hP
    have hD : va_D A (dw_X2s a ac s46) := by rw [es46]; exact hD
    refine lv_bipush (v := 31) hx hb dX2_meaning_16 (by decide) ?_
    exact K _ _ _ _ _ _ dX2_meaning_18 rfl (Option.some.inj h).symm hP hD hS
set_option maxHeartbeats 40000000 in
set_option maxRecDepth 100000 in
theorem dm_X2_meaning (l : Launch) (hlt : l.stackTraces = false) (dC : Nat → ClassId) (dI : Nat → Nat → Nat) (a : Nat → Nat) (ac : Nat → ClassId) (n : Nat) (s0 : St × (St)) {r : Int32 × (St × (St))} (h : df_X2_meaning n (a 0) s0 = some r) (sz : Nat) : Met l yX2_meaning ow_dm_X2_meaning ({ frames := 6, cells := 0, slots := 0, locals := 133 }) (va_Pc [.ref (a 1)] (fun U => U.heap.size = sz ∧ va_P (dC, dI) vwCl (dw_X2s a ac s0) U.heap ∧ va_K (dC, dI) vwCl (dk_X2s ac) U ∧ va_D (fun _ => True) (dw_X2s a ac s0) ∧ nv_E dI (va_A (dw_X2s a ac s0) sz) U)) (va_Qi (fun x _ => x = r.1) (fun (_ : Unit) t => va_P (dC, dI) vwCl (dw_X2s a ac r.2) t.heap ∧ va_K (dC, dI) vwCl (dk_X2s ac) t ∧ va_D (va_A (dw_X2s a ac s0) sz) (dw_X2s a ac r.2)) (va_A (dw_X2s a ac s0) sz)) 0 0 (va_A (dw_X2s a ac s0) sz) := by
  refine Met.ofW (cc := cX2_meaning) (maxL := 1) (ret := (some .int)) (by decide) rfl ?_
  intro p e s m args below meth c s₁ B hml hv
  obtain ⟨rfl, hsz, hP, hK, hD0, hN⟩ := hv
  have hx := B.exec
  have hb := B.bytes
  have hr := B.returns
  have hts := atoms_spec (ws := ow_dm_X2_meaning) B.pre
  have hown : s.vm.findClass RX2 = some m.cls := findClass_of_methodNamed B.named
  have hlocks := B.notSynchronized
  subst hsz
  have hD := hD0.self (sz := s.heap.size)
  generalize hAe : va_A (dw_X2s a ac s0) s.heap.size = A at hD hN ⊢
  have hA : ∀ q : Nat, s.heap.size ≤ q → A q := fun q h => by rw [← hAe]; exact Or.inr h
  have hl := lv_entry ([.ref (a 1)]) (n := 1) (Nat.le_of_ble_eq_true rfl)
  rw [lg_entry_eq]
  generalize (lg_sl ([.ref (a 1)]) ++ List.replicate (1 - (lg_sl ([.ref (a 1)])).length) Slot.unset).toArray = ls at hl ⊢
  have hl : lv_has ls 1 [(0, .ref (a 1))] := hl
  exact db_X2_meaning_0 (dC := dC) (dI := dI) (a := a) (ac := ac) (n := n) (r := r) ⟨hlt, hx, hb, hml, hown, hts, hN, hA, hK⟩ (fun pc v τ H locs ls d z er hP hD hS => by subst er; exact W.zret (v := v) hx hb hr z (fun t ht hW => ⟨⟨v, (), rfl, rfl, by rw [ht]; exact hP, va_K.moved hW.alike hK, hD⟩, hS.F ht⟩) hS.2.2 d) s0 _ _ _ h hP hD va_S.rf (lv_sub hl [0] rfl)
def ow_dm_X2_takeWord : List Cond := Cond.code yX2_takeWord cX2_takeWord 3 (some .boolean) :: ([Cond.methodLink RX2 178 yX2_meaning, Cond.instanceMethod yX2_meaning, Cond.selects RX2 yX2_meaning yX2_meaning, Cond.initialized RX2, Cond.methodLink RX2 84 yX2_blame, Cond.instanceMethod yX2_blame, Cond.selects RX2 yX2_blame yX2_blame, Cond.methodLink RX2 148 yX2_part, Cond.instanceMethod yX2_part, Cond.selects RX2 yX2_part yX2_part, Cond.fieldLink RX2 110 "TimeMachine$Condition" "number" "J", Cond.methodLink RX2 158 yX2_emit, Cond.instanceMethod yX2_emit, Cond.selects RX2 yX2_emit yX2_emit, Cond.fieldLink RX2 64 "TimeMachine$Condition" "fault" "I", Cond.methodLink RX2 70 yX2_next, Cond.instanceMethod yX2_next, Cond.selects RX2 yX2_next yX2_next, Cond.fieldLink RX2 77 "TimeMachine$Condition" "kind" "I", Cond.fieldLink RX2 58 "TimeMachine$Condition" "olds" "I", Cond.methodLink RX2 175 yX2_opens, Cond.instanceMethod yX2_opens, Cond.selects RX2 yX2_opens yX2_opens, Cond.fieldLink RX2 26 "TimeMachine$Condition" "oldFrom" "[I", Cond.fieldLink RX2 52 "TimeMachine$Condition" "codes" "I", Cond.methodLink RX2 151 yX2_waiting, Cond.instanceMethod yX2_waiting, Cond.selects RX2 yX2_waiting yX2_waiting] ++ (u_ws RX2 TX2 20 ++ (ow_dm_X2_meaning ++ (ow_dm_X2_blame ++ (ow_dm_X2_part ++ (ow_dm_X2_emit ++ (ow_dm_X2_next ++ (ow_dm_X2_opens ++ (ow_dm_X2_waiting ++ [])))))))))
theorem gd_dm_X2_takeWord : ∀ w ∈ ow_dm_X2_takeWord, (w.onTables && w.keeps) = true ∨ ∃ ty, w = Cond.arrayClass ty := List.forall_mem_cons.mpr ⟨good_of_word rfl, List.forall_mem_append.mpr ⟨fun w h => good_of_word (List.all_eq_true.mp (by decide +kernel) w h), List.forall_mem_append.mpr ⟨gu_X2, List.forall_mem_append.mpr ⟨gd_dm_X2_meaning, List.forall_mem_append.mpr ⟨gd_dm_X2_blame, List.forall_mem_append.mpr ⟨gd_dm_X2_part, List.forall_mem_append.mpr ⟨gd_dm_X2_emit, List.forall_mem_append.mpr ⟨gd_dm_X2_next, List.forall_mem_append.mpr ⟨gd_dm_X2_opens, List.forall_mem_append.mpr ⟨gd_dm_X2_waiting, fun _ h => nomatch h⟩⟩⟩⟩⟩⟩⟩⟩⟩⟩
theorem hi_dm_X2_takeWord_X2 : ∀ w ∈ u_ws RX2 TX2 20, w ∈ ow_dm_X2_takeWord := fun w h => List.mem_cons_of_mem _ (List.mem_append_right _ (List.mem_append_left _ h))
theorem gi_dm_X2_takeWord_0 : GoodIn ow_dm_X2_takeWord (wsV RX2 178 RX2 yX2_meaning ow_dm_X2_meaning) := goodIn_app (goodIn_of _ (by decide +kernel)) (fun w h => ⟨List.mem_cons_of_mem _ (List.mem_append_right _ (List.mem_append_right _ (List.mem_append_left _ h))), gd_dm_X2_meaning w h⟩)
theorem gi_dm_X2_takeWord_1 : GoodIn ow_dm_X2_takeWord (wsV RX2 84 RX2 yX2_blame ow_dm_X2_blame) := goodIn_app (goodIn_of _ (by decide +kernel)) (fun w h => ⟨List.mem_cons_of_mem _ (List.mem_append_right _ (List.mem_append_right _ (List.mem_append_right _ (List.mem_append_left _ h)))), gd_dm_X2_blame w h⟩)
theorem gi_dm_X2_takeWord_2 : GoodIn ow_dm_X2_takeWord (wsV RX2 148 RX2 yX2_part ow_dm_X2_part) := goodIn_app (goodIn_of _ (by decide +kernel)) (fun w h => ⟨List.mem_cons_of_mem _ (List.mem_append_right _ (List.mem_append_right _ (List.mem_append_right _ (List.mem_append_right _ (List.mem_append_left _ h))))), gd_dm_X2_part w h⟩)
theorem gi_dm_X2_takeWord_3 : GoodIn ow_dm_X2_takeWord (wsV RX2 158 RX2 yX2_emit ow_dm_X2_emit) := goodIn_app (goodIn_of _ (by decide +kernel)) (fun w h => ⟨List.mem_cons_of_mem _ (List.mem_append_right _ (List.mem_append_right _ (List.mem_append_right _ (List.mem_append_right _ (List.mem_append_right _ (List.mem_append_left _ h)))))), gd_dm_X2_emit w h⟩)
theorem gi_dm_X2_takeWord_4 : GoodIn ow_dm_X2_takeWord (wsV RX2 70 RX2 yX2_next ow_dm_X2_next) := goodIn_app (goodIn_of _ (by decide +kernel)) (fun w h => ⟨List.mem_cons_of_mem _ (List.mem_append_right _ (List.mem_append_right _ (List.mem_append_right _ (List.mem_append_right _ (List.mem_append_right _ (List.mem_append_right _ (List.mem_append_left _ h))))))), gd_dm_X2_next w h⟩)
theorem gi_dm_X2_takeWord_5 : GoodIn ow_dm_X2_takeWord (wsV RX2 175 RX2 yX2_opens ow_dm_X2_opens) := goodIn_app (goodIn_of _ (by decide +kernel)) (fun w h => ⟨List.mem_cons_of_mem _ (List.mem_append_right _ (List.mem_append_right _ (List.mem_append_right _ (List.mem_append_right _ (List.mem_append_right _ (List.mem_append_right _ (List.mem_append_right _ (List.mem_append_left _ h)))))))), gd_dm_X2_opens w h⟩)
theorem gi_dm_X2_takeWord_6 : GoodIn ow_dm_X2_takeWord (wsV RX2 151 RX2 yX2_waiting ow_dm_X2_waiting) := goodIn_app (goodIn_of _ (by decide +kernel)) (fun w h => ⟨List.mem_cons_of_mem _ (List.mem_append_right _ (List.mem_append_right _ (List.mem_append_right _ (List.mem_append_right _ (List.mem_append_right _ (List.mem_append_right _ (List.mem_append_right _ (List.mem_append_right _ (List.mem_append_left _ h))))))))), gd_dm_X2_waiting w h⟩)
def dj_X2_takeWord_52 (p : Program) (l : Launch) (e : Env) (s : State) (m : MethodId) (args : Array Value) (below : List Frame) (meth : Method) (c : Code) (Q : State → Prop) (A : Nat → Prop) (dC : Nat → ClassId) (dI : Nat → Nat → Nat) (a : Nat → Nat) (ac : Nat → ClassId) (g : Int32 → (St × (St)) → Option (Int32 × (St × (St)))) (r : Int32 × (St × (St))) : Prop := ∀ (y1 : Int32) (s0 : St × (St)) (H : Heap) (locs : List Loc) (ls : Array Slot), g y1 s0 = some r → va_P (dC, dI) vwCl (dw_X2s a ac s0) H → va_D A (dw_X2s a ac s0) → va_S A s.heap H locs → lv_has ls 3 [] → W p l e (headSpec ow_dm_X2_takeWord ({ frames := 7, cells := 0, slots := 0, locals := 153 })).room s m args below meth c H locs 0 0 Q (F0 m 52 ls [.int y1, .ref (a 1)])
def dj_X2_takeWord_42 (p : Program) (l : Launch) (e : Env) (s : State) (m : MethodId) (args : Array Value) (below : List Frame) (meth : Method) (c : Code) (Q : State → Prop) (A : Nat → Prop) (dC : Nat → ClassId) (dI : Nat → Nat → Nat) (a : Nat → Nat) (ac : Nat → ClassId) (g : Int32 → (St × (St)) → Option (Int32 × (St × (St)))) (r : Int32 × (St × (St))) : Prop := ∀ (x1 : Int32) (s0 : St × (St)) (H : Heap) (locs : List Loc) (ls : Array Slot), g x1 s0 = some r → va_P (dC, dI) vwCl (dw_X2s a ac s0) H → va_D A (dw_X2s a ac s0) → va_S A s.heap H locs → lv_has ls 3 [(0, .ref (a 1)), (1, .int x1)] → W p l e (headSpec ow_dm_X2_takeWord ({ frames := 7, cells := 0, slots := 0, locals := 153 })).room s m args below meth c H locs 0 0 Q (F0 m 42 ls [])
def dj_X2_takeWord_79 (p : Program) (l : Launch) (e : Env) (s : State) (m : MethodId) (args : Array Value) (below : List Frame) (meth : Method) (c : Code) (Q : State → Prop) (A : Nat → Prop) (dC : Nat → ClassId) (dI : Nat → Nat → Nat) (a : Nat → Nat) (ac : Nat → ClassId) (g : Int32 → (St × (St)) → Option (Int32 × (St × (St)))) (r : Int32 × (St × (St))) : Prop := ∀ (x1 : Int32) (s0 : St × (St)) (H : Heap) (locs : List Loc) (ls : Array Slot), g x1 s0 = some r → va_P (dC, dI) vwCl (dw_X2s a ac s0) H → va_D A (dw_X2s a ac s0) → va_S A s.heap H locs → lv_has ls 3 [(0, .ref (a 1)), (1, .int x1)] → W p l e (headSpec ow_dm_X2_takeWord ({ frames := 7, cells := 0, slots := 0, locals := 153 })).room s m args below meth c H locs 0 0 Q (F0 m 79 ls [])
def dj_X2_takeWord_208 (p : Program) (l : Launch) (e : Env) (s : State) (m : MethodId) (args : Array Value) (below : List Frame) (meth : Method) (c : Code) (Q : State → Prop) (A : Nat → Prop) (dC : Nat → ClassId) (dI : Nat → Nat → Nat) (a : Nat → Nat) (ac : Nat → ClassId) (g : (St × (St)) → Option (Int32 × (St × (St)))) (r : Int32 × (St × (St))) : Prop := ∀ (s0 : St × (St)) (H : Heap) (locs : List Loc) (ls : Array Slot), g s0 = some r → va_P (dC, dI) vwCl (dw_X2s a ac s0) H → va_D A (dw_X2s a ac s0) → va_S A s.heap H locs → lv_has ls 3 [] → W p l e (headSpec ow_dm_X2_takeWord ({ frames := 7, cells := 0, slots := 0, locals := 153 })).room s m args below meth c H locs 0 0 Q (F0 m 208 ls [])
def dj_X2_takeWord_185 (p : Program) (l : Launch) (e : Env) (s : State) (m : MethodId) (args : Array Value) (below : List Frame) (meth : Method) (c : Code) (Q : State → Prop) (A : Nat → Prop) (dC : Nat → ClassId) (dI : Nat → Nat → Nat) (a : Nat → Nat) (ac : Nat → ClassId) (g : (St × (St)) → Option (Int32 × (St × (St)))) (r : Int32 × (St × (St))) : Prop := ∀ (s0 : St × (St)) (H : Heap) (locs : List Loc) (ls : Array Slot), g s0 = some r → va_P (dC, dI) vwCl (dw_X2s a ac s0) H → va_D A (dw_X2s a ac s0) → va_S A s.heap H locs → lv_has ls 3 [(0, .ref (a 1))] → W p l e (headSpec ow_dm_X2_takeWord ({ frames := 7, cells := 0, slots := 0, locals := 153 })).room s m args below meth c H locs 0 0 Q (F0 m 185 ls [])
def dj_X2_takeWord_136 (p : Program) (l : Launch) (e : Env) (s : State) (m : MethodId) (args : Array Value) (below : List Frame) (meth : Method) (c : Code) (Q : State → Prop) (A : Nat → Prop) (dC : Nat → ClassId) (dI : Nat → Nat → Nat) (a : Nat → Nat) (ac : Nat → ClassId) (g : Int32 → Int32 → (St × (St)) → Option (Int32 × (St × (St)))) (r : Int32 × (St × (St))) : Prop := ∀ (x1 : Int32) (x2 : Int32) (s0 : St × (St)) (H : Heap) (locs : List Loc) (ls : Array Slot), g x1 x2 s0 = some r → va_P (dC, dI) vwCl (dw_X2s a ac s0) H → va_D A (dw_X2s a ac s0) → va_S A s.heap H locs → lv_has ls 3 [(0, .ref (a 1)), (1, .int x1), (2, .int x2)] → W p l e (headSpec ow_dm_X2_takeWord ({ frames := 7, cells := 0, slots := 0, locals := 153 })).room s m args below meth c H locs 0 0 Q (F0 m 136 ls [])
def dj_X2_takeWord_131 (p : Program) (l : Launch) (e : Env) (s : State) (m : MethodId) (args : Array Value) (below : List Frame) (meth : Method) (c : Code) (Q : State → Prop) (A : Nat → Prop) (dC : Nat → ClassId) (dI : Nat → Nat → Nat) (a : Nat → Nat) (ac : Nat → ClassId) (g : Int32 → Int32 → (St × (St)) → Option (Int32 × (St × (St)))) (r : Int32 × (St × (St))) : Prop := ∀ (x1 : Int32) (x2 : Int32) (s0 : St × (St)) (H : Heap) (locs : List Loc) (ls : Array Slot), g x1 x2 s0 = some r → va_P (dC, dI) vwCl (dw_X2s a ac s0) H → va_D A (dw_X2s a ac s0) → va_S A s.heap H locs → lv_has ls 3 [(0, .ref (a 1)), (1, .int x1), (2, .int x2)] → W p l e (headSpec ow_dm_X2_takeWord ({ frames := 7, cells := 0, slots := 0, locals := 153 })).room s m args below meth c H locs 0 0 Q (F0 m 131 ls [])
def dj_X2_takeWord_126 (p : Program) (l : Launch) (e : Env) (s : State) (m : MethodId) (args : Array Value) (below : List Frame) (meth : Method) (c : Code) (Q : State → Prop) (A : Nat → Prop) (dC : Nat → ClassId) (dI : Nat → Nat → Nat) (a : Nat → Nat) (ac : Nat → ClassId) (g : Int32 → Int32 → Int64 → Int32 → (St × (St)) → Option (Int32 × (St × (St)))) (r : Int32 × (St × (St))) : Prop := ∀ (x1 : Int32) (x2 : Int32) (y0 : Int64) (y1 : Int32) (s0 : St × (St)) (H : Heap) (locs : List Loc) (ls : Array Slot), g x1 x2 y0 y1 s0 = some r → va_P (dC, dI) vwCl (dw_X2s a ac s0) H → va_D A (dw_X2s a ac s0) → va_S A s.heap H locs → lv_has ls 3 [(0, .ref (a 1)), (1, .int x1), (2, .int x2)] → W p l e (headSpec ow_dm_X2_takeWord ({ frames := 7, cells := 0, slots := 0, locals := 153 })).room s m args below meth c H locs 0 0 Q (F0 m 126 ls [.int y1, .long y0])
def dj_X2_takeWord_57 (p : Program) (l : Launch) (e : Env) (s : State) (m : MethodId) (args : Array Value) (below : List Frame) (meth : Method) (c : Code) (Q : State → Prop) (A : Nat → Prop) (dC : Nat → ClassId) (dI : Nat → Nat → Nat) (a : Nat → Nat) (ac : Nat → ClassId) (g : Int32 → Int32 → (St × (St)) → Option (Int32 × (St × (St)))) (r : Int32 × (St × (St))) : Prop := ∀ (x1 : Int32) (x2 : Int32) (s0 : St × (St)) (H : Heap) (locs : List Loc) (ls : Array Slot), g x1 x2 s0 = some r → va_P (dC, dI) vwCl (dw_X2s a ac s0) H → va_D A (dw_X2s a ac s0) → va_S A s.heap H locs → lv_has ls 3 [(0, .ref (a 1)), (1, .int x1), (2, .int x2)] → W p l e (headSpec ow_dm_X2_takeWord ({ frames := 7, cells := 0, slots := 0, locals := 153 })).room s m args below meth c H locs 0 0 Q (F0 m 57 ls [])
def dj_X2_takeWord_22 (p : Program) (l : Launch) (e : Env) (s : State) (m : MethodId) (args : Array Value) (below : List Frame) (meth : Method) (c : Code) (Q : State → Prop) (A : Nat → Prop) (dC : Nat → ClassId) (dI : Nat → Nat → Nat) (a : Nat → Nat) (ac : Nat → ClassId) (g : Int32 → Int32 → (St × (St)) → Option (Int32 × (St × (St)))) (r : Int32 × (St × (St))) : Prop := ∀ (x1 : Int32) (y0 : Int32) (s0 : St × (St)) (H : Heap) (locs : List Loc) (ls : Array Slot), g x1 y0 s0 = some r → va_P (dC, dI) vwCl (dw_X2s a ac s0) H → va_D A (dw_X2s a ac s0) → va_S A s.heap H locs → lv_has ls 3 [(0, .ref (a 1)), (1, .int x1)] → W p l e (headSpec ow_dm_X2_takeWord ({ frames := 7, cells := 0, slots := 0, locals := 153 })).room s m args below meth c H locs 0 0 Q (F0 m 22 ls [.int y0])
def dj_X2_takeWord_17 (p : Program) (l : Launch) (e : Env) (s : State) (m : MethodId) (args : Array Value) (below : List Frame) (meth : Method) (c : Code) (Q : State → Prop) (A : Nat → Prop) (dC : Nat → ClassId) (dI : Nat → Nat → Nat) (a : Nat → Nat) (ac : Nat → ClassId) (g : Int32 → (St × (St)) → Option (Int32 × (St × (St)))) (r : Int32 × (St × (St))) : Prop := ∀ (x1 : Int32) (s0 : St × (St)) (H : Heap) (locs : List Loc) (ls : Array Slot), g x1 s0 = some r → va_P (dC, dI) vwCl (dw_X2s a ac s0) H → va_D A (dw_X2s a ac s0) → va_S A s.heap H locs → lv_has ls 3 [(0, .ref (a 1)), (1, .int x1)] → W p l e (headSpec ow_dm_X2_takeWord ({ frames := 7, cells := 0, slots := 0, locals := 153 })).room s m args below meth c H locs 0 0 Q (F0 m 17 ls [])
def dj_X2_takeWord_0 (p : Program) (l : Launch) (e : Env) (s : State) (m : MethodId) (args : Array Value) (below : List Frame) (meth : Method) (c : Code) (Q : State → Prop) (A : Nat → Prop) (dC : Nat → ClassId) (dI : Nat → Nat → Nat) (a : Nat → Nat) (ac : Nat → ClassId) (g : (St × (St)) → Option (Int32 × (St × (St)))) (r : Int32 × (St × (St))) : Prop := ∀ (s0 : St × (St)) (H : Heap) (locs : List Loc) (ls : Array Slot), g s0 = some r → va_P (dC, dI) vwCl (dw_X2s a ac s0) H → va_D A (dw_X2s a ac s0) → va_S A s.heap H locs → lv_has ls 3 [(0, .ref (a 1))] → W p l e (headSpec ow_dm_X2_takeWord ({ frames := 7, cells := 0, slots := 0, locals := 153 })).room s m args below meth c H locs 0 0 Q (F0 m 0 ls [])
set_option maxHeartbeats 40000000 in
set_option maxRecDepth 100000 in
theorem db_X2_takeWord_52 {p : Program} {l : Launch} {e : Env} {s : State} {m : MethodId} {args : Array Value} {below : List Frame} {meth : Method} {c : Code} {Q : State → Prop} {A : Nat → Prop} {dC : Nat → ClassId} {dI : Nat → Nat → Nat} {a : Nat → Nat} {ac : Nat → ClassId} {n : Nat} {r : Int32 × (St × (St))} (C : nd_C p l s m args c A (dC, dI) cX2_takeWord 3 RX2 ow_dm_X2_takeWord (dk_X2s ac)) (K : nd_Ki p l e (headSpec ow_dm_X2_takeWord ({ frames := 7, cells := 0, slots := 0, locals := 153 })).room s m args below meth c Q A (dC, dI) cX2_takeWord .boolean (St × (St)) (dw_X2s a ac) r) : dj_X2_takeWord_52 p l e s m args below meth c Q A dC dI a ac (df_X2_takeWord_52 n (a 0)) r := by
  obtain ⟨hlt, hx, hb, hml, hown, hts, hN, hA, hK⟩ := id C
  intro y1 s0 H locs ls h hP hD hS hl
  unfold df_X2_takeWord_52 at h
  obtain ⟨s8, hq, h⟩ := nd_b1_e h
  have hPc := dp_X2s_1 hP
  have hDc := dd_X2s_1 hD
  have hKc := dy_X2s_1 hK
  have hFc := nd_rs hDc hS hA
  have hzA : ∀ q : Nat, H.size ≤ q → A q := fun q h => hA q (Nat.le_trans hS.1 h)
  refine nd_cVv (As := [.int y1]) (rest := []) (w' := dw_X2c (fun k => a (k + 1)) (fun k => ac (k + 1)) s8) ⟨hx, hb, hml, hown, hts⟩ (fun sz => dm_X2_blame l hlt dC dI (fun k => a (k + 1)) (fun k => ac (k + 1)) n (y1) s0.2 hq sz) (cwV 1 hts gi_dm_X2_takeWord_1 rfl rfl rfl (by decide +kernel) ⟨Nat.le_of_ble_eq_true rfl, Nat.le_of_ble_eq_true rfl⟩) hPc hDc hKc hS hA hN (va_recv hKc hPc (ci := 3) (q0 := 0) rfl rfl) rfl hl.1 rfl (Nat.le_of_ble_eq_true rfl) dX2_takeWord_52 (fun H locs hP1 hD1 hk1 hS => ?_)
  obtain ⟨hP, hD⟩ := dn_X2s_1 hP hD hzA hk1 hP1 hD1
  obtain ⟨s10, es10, h⟩ := nd_let_e h
  have hP : va_P (dC, dI) vwCl (dw_X2s a ac s10) H := by rw [es10]; exact hP
  have hD : va_D A (dw_X2s a ac s10) := by rw [es10]; exact hD
  refine lv_iconst (v := 0) hx hb dX2_takeWord_55 (by decide) ?_
  exact K _ _ _ _ _ _ dX2_takeWord_56 (by first | rfl | decide) (Option.some.inj h).symm hP hD hS
set_option maxHeartbeats 40000000 in
set_option maxRecDepth 100000 in
theorem db_X2_takeWord_42 {p : Program} {l : Launch} {e : Env} {s : State} {m : MethodId} {args : Array Value} {below : List Frame} {meth : Method} {c : Code} {Q : State → Prop} {A : Nat → Prop} {dC : Nat → ClassId} {dI : Nat → Nat → Nat} {a : Nat → Nat} {ac : Nat → ClassId} {n : Nat} {r : Int32 × (St × (St))} (C : nd_C p l s m args c A (dC, dI) cX2_takeWord 3 RX2 ow_dm_X2_takeWord (dk_X2s ac)) (K : nd_Ki p l e (headSpec ow_dm_X2_takeWord ({ frames := 7, cells := 0, slots := 0, locals := 153 })).room s m args below meth c Q A (dC, dI) cX2_takeWord .boolean (St × (St)) (dw_X2s a ac) r) : dj_X2_takeWord_42 p l e s m args below meth c Q A dC dI a ac (df_X2_takeWord_42 n (a 0)) r := by
  obtain ⟨hlt, hx, hb, hml, hown, hts, hN, hA, hK⟩ := id C
  intro x1 s0 H locs ls h hP hD hS hl
  unfold df_X2_takeWord_42 at h
  refine lv_aload_n hx hb dX2_takeWord_42 rfl (lv_at hl 0 rfl) ?_
  refine lv_iload_n hx hb dX2_takeWord_43 rfl (lv_at hl 1 rfl) ?_
  refine lv_if_ne (tgt := 51) hx hb dX2_takeWord_44 (by decide) (fun c6 => ?_) (fun c6 => ?_)
  · have h := nd_neg h c6
    refine lv_iconst (v := 1) hx hb dX2_takeWord_51 (by decide) ?_
    exact (db_X2_takeWord_52 C K) (1) s0 _ _ _ h hP hD hS (lv_sub hl [] rfl)
  · have h := nd_pos h c6
    refine lv_iconst (v := 2) hx hb dX2_takeWord_47 (by decide) ?_
    refine lv_goto (tgt := 52) hx hb dX2_takeWord_48 (by decide) ?_
    exact (db_X2_takeWord_52 C K) (2) s0 _ _ _ h hP hD hS (lv_sub hl [] rfl)
set_option maxHeartbeats 40000000 in
set_option maxRecDepth 100000 in
theorem db_X2_takeWord_79 {p : Program} {l : Launch} {e : Env} {s : State} {m : MethodId} {args : Array Value} {below : List Frame} {meth : Method} {c : Code} {Q : State → Prop} {A : Nat → Prop} {dC : Nat → ClassId} {dI : Nat → Nat → Nat} {a : Nat → Nat} {ac : Nat → ClassId} {n : Nat} {r : Int32 × (St × (St))} (C : nd_C p l s m args c A (dC, dI) cX2_takeWord 3 RX2 ow_dm_X2_takeWord (dk_X2s ac)) (K : nd_Ki p l e (headSpec ow_dm_X2_takeWord ({ frames := 7, cells := 0, slots := 0, locals := 153 })).room s m args below meth c Q A (dC, dI) cX2_takeWord .boolean (St × (St)) (dw_X2s a ac) r) : dj_X2_takeWord_79 p l e s m args below meth c Q A dC dI a ac (df_X2_takeWord_79 n (a 0)) r := by
  obtain ⟨hlt, hx, hb, hml, hown, hts, hN, hA, hK⟩ := id C
  intro x1 s0 H locs ls h hP hD hS hl
  unfold df_X2_takeWord_79 at h
  refine lv_aload_n hx hb dX2_takeWord_79 rfl (lv_at hl 0 rfl) ?_
  refine lv_iload_n hx hb dX2_takeWord_80 rfl (lv_at hl 1 rfl) ?_
  refine lv_aload_n hx hb dX2_takeWord_81 rfl (lv_at hl 0 rfl) ?_
  refine va_get (D := (dC, dI)) (ci := 3) (v := .long (sL s0.2 0)) (C := RX2) (T := TX2) (N := 20) hx hb hts hi_dm_X2_takeWord_X2 hown hK hP 1 rfl rfl 17 (by decide) (hts (.fieldLink RX2 110 "TimeMachine$Condition" "number" "J") (List.mem_of_getElem? (i := 11) rfl)) (fun _ h9 => h9) rfl dX2_takeWord_82 ?_
  obtain ⟨s18, hq, h⟩ := nd_b1_e h
  have hPc := dp_X2s_1 hP
  have hDc := dd_X2s_1 hD
  have hKc := dy_X2s_1 hK
  have hFc := nd_rs hDc hS hA
  have hzA : ∀ q : Nat, H.size ≤ q → A q := fun q h => hA q (Nat.le_trans hS.1 h)
  refine nd_cVv (As := [.int x1, .long (sL s0.2 0)]) (rest := []) (w' := dw_X2c (fun k => a (k + 1)) (fun k => ac (k + 1)) s18) ⟨hx, hb, hml, hown, hts⟩ (fun sz => dm_X2_emit l hlt dC dI (fun k => a (k + 1)) (fun k => ac (k + 1)) n (x1) ((sL s0.2 0)) s0.2 hq sz) (cwV 2 hts gi_dm_X2_takeWord_3 rfl rfl rfl (by decide +kernel) ⟨Nat.le_of_ble_eq_true rfl, Nat.le_of_ble_eq_true rfl⟩) hPc hDc hKc hS hA hN (va_recv hKc hPc (ci := 3) (q0 := 0) rfl rfl) rfl hl.1 rfl (Nat.le_of_ble_eq_true rfl) dX2_takeWord_85 (fun H locs hP1 hD1 hk1 hS => ?_)
  obtain ⟨hP, hD⟩ := dn_X2s_1 hP hD hzA hk1 hP1 hD1
  obtain ⟨s20, es20, h⟩ := nd_let_e h
  have hP : va_P (dC, dI) vwCl (dw_X2s a ac s20) H := by rw [es20]; exact hP
  have hD : va_D A (dw_X2s a ac s20) := by rw [es20]; exact hD
  refine lv_iconst (v := 0) hx hb dX2_takeWord_88 (by decide) ?_
  exact K _ _ _ _ _ _ dX2_takeWord_89 (by first | rfl | decide) (Option.some.inj h).symm hP hD hS
set_option maxHeartbeats 40000000 in
set_option maxRecDepth 100000 in
theorem db_X2_takeWord_208 {p : Program} {l : Launch} {e : Env} {s : State} {m : MethodId} {args : Array Value} {below : List Frame} {meth : Method} {c : Code} {Q : State → Prop} {A : Nat → Prop} {dC : Nat → ClassId} {dI : Nat → Nat → Nat} {a : Nat → Nat} {ac : Nat → ClassId} {n : Nat} {r : Int32 × (St × (St))} (C : nd_C p l s m args c A (dC, dI) cX2_takeWord 3 RX2 ow_dm_X2_takeWord (dk_X2s ac)) (K : nd_Ki p l e (headSpec ow_dm_X2_takeWord ({ frames := 7, cells := 0, slots := 0, locals := 153 })).room s m args below meth c Q A (dC, dI) cX2_takeWord .boolean (St × (St)) (dw_X2s a ac) r) : dj_X2_takeWord_208 p l e s m args below meth c Q A dC dI a ac (df_X2_takeWord_208 n (a 0)) r := by
  obtain ⟨hlt, hx, hb, hml, hown, hts, hN, hA, hK⟩ := id C
  intro s0 H locs ls h hP hD hS hl
  unfold df_X2_takeWord_208 at h
  refine lv_iconst (v := 1) hx hb dX2_takeWord_208 (by decide) ?_
  exact K _ _ _ _ _ _ dX2_takeWord_209 (by first | rfl | decide) (Option.some.inj h).symm hP hD hS
set_option maxHeartbeats 40000000 in
set_option maxRecDepth 100000 in
theorem db_X2_takeWord_185 {p : Program} {l : Launch} {e : Env} {s : State} {m : MethodId} {args : Array Value} {below : List Frame} {meth : Method} {c : Code} {Q : State → Prop} {A : Nat → Prop} {dC : Nat → ClassId} {dI : Nat → Nat → Nat} {a : Nat → Nat} {ac : Nat → ClassId} {n : Nat} {r : Int32 × (St × (St))} (C : nd_C p l s m args c A (dC, dI) cX2_takeWord 3 RX2 ow_dm_X2_takeWord (dk_X2s ac)) (K : nd_Ki p l e (headSpec ow_dm_X2_takeWord ({ frames := 7, cells := 0, slots := 0, locals := 153 })).room s m args below meth c Q A (dC, dI) cX2_takeWord .boolean (St × (St)) (dw_X2s a ac) r) : dj_X2_takeWord_185 p l e s m args below meth c Q A dC dI a ac (df_X2_takeWord_185 n (a 0)) r := by
  obtain ⟨hlt, hx, hb, hml, hown, hts, hN, hA, hK⟩ := id C
  intro s0 H locs ls h hP hD hS hl
  unfold df_X2_takeWord_185 at h
  refine lv_aload_n hx hb dX2_takeWord_185 rfl (lv_at hl 0 rfl) ?_
  refine va_get (D := (dC, dI)) (ci := 3) (v := .ref (a 7)) (C := RX2) (T := TX2) (N := 20) hx hb hts hi_dm_X2_takeWord_X2 hown hK hP 1 rfl rfl 7 (by decide) (hts (.fieldLink RX2 26 "TimeMachine$Condition" "oldFrom" "[I") (List.mem_of_getElem? (i := 24) rfl)) (fun _ h9 => h9) rfl dX2_takeWord_186 ?_
  refine lv_aload_n hx hb dX2_takeWord_189 rfl (lv_at hl 0 rfl) ?_
  refine va_get (D := (dC, dI)) (ci := 3) (v := .int (sI s0.2 2)) (C := RX2) (T := TX2) (N := 20) hx hb hts hi_dm_X2_takeWord_X2 hown hK hP 1 rfl rfl 10 (by decide) (hts (.fieldLink RX2 58 "TimeMachine$Condition" "olds" "I") (List.mem_of_getElem? (i := 20) rfl)) (fun _ h9 => h9) rfl dX2_takeWord_190 ?_
  refine lv_aload_n hx hb dX2_takeWord_193 rfl (lv_at hl 0 rfl) ?_
  refine va_get (D := (dC, dI)) (ci := 3) (v := .int (sI s0.2 0)) (C := RX2) (T := TX2) (N := 20) hx hb hts hi_dm_X2_takeWord_X2 hown hK hP 1 rfl rfl 2 (by decide) (hts (.fieldLink RX2 52 "TimeMachine$Condition" "codes" "I") (List.mem_of_getElem? (i := 25) rfl)) (fun _ h9 => h9) rfl dX2_takeWord_194 ?_
  obtain ⟨i40, h⟩ := nd_ck_e h
  refine va_iast (i := (sI s0.2 2)) (x := (sI s0.2 0)) hx hb hK hP hD hS 7 6 rfl rfl i40 dX2_takeWord_197 (fun H locs hP hD hS => ?_)
  obtain ⟨s41, es41, h⟩ := nd_let_e h
  have hP : va_P (dC, dI) vwCl (dw_X2s a ac s41) H := by rw [es41]; exact hP
  have hD : va_D A (dw_X2s a ac s41) := by rw [es41]; exact hD
  refine lv_aload_n hx hb dX2_takeWord_198 rfl (lv_at hl 0 rfl) ?_
  refine lv_dup hx hb dX2_takeWord_199 rfl ?_
  refine va_get (D := (dC, dI)) (ci := 3) (v := .int (sI s41.2 2)) (C := RX2) (T := TX2) (N := 20) hx hb hts hi_dm_X2_takeWord_X2 hown hK hP 1 rfl rfl 10 (by decide) (hts (.fieldLink RX2 58 "TimeMachine$Condition" "olds" "I") (List.mem_of_getElem? (i := 20) rfl)) (fun _ h9 => h9) rfl dX2_takeWord_200 ?_
  refine lv_iconst (v := 1) hx hb dX2_takeWord_203 (by decide) ?_
  refine lv_iadd hx hb dX2_takeWord_204 ?_
  refine va_put (D := (dC, dI)) (ci := 3) (v := .int ((sI s41.2 2) + 1)) (ty := .int) (C := RX2) (T := TX2) (N := 20) hx hb hts hi_dm_X2_takeWord_X2 tyX2 tyX2_ok nmX2 hown hK hP hD hS 1 rfl rfl 10 (by decide) (hts (.fieldLink RX2 58 "TimeMachine$Condition" "olds" "I") (List.mem_of_getElem? (i := 20) rfl)) (fun _ h9 => h9) rfl (by decide +kernel) rfl rfl (Nat.le_of_ble_eq_true rfl) dX2_takeWord_205 (fun H locs hP hD hS => ?_)
  obtain ⟨s42, es42, h⟩ := nd_let_e h
  have hP : va_P (dC, dI) vwCl (dw_X2s a ac s42) H := by rw [es42]; exact hP
  have hD : va_D A (dw_X2s a ac s42) := by rw [es42]; exact hD
  exact (db_X2_takeWord_208 C K)  s42 _ _ _ h hP hD hS (lv_sub hl [] rfl)
set_option maxHeartbeats 40000000 in
set_option maxRecDepth 100000 in
theorem db_X2_takeWord_136 {p : Program} {l : Launch} {e : Env} {s : State} {m : MethodId} {args : Array Value} {below : List Frame} {meth : Method} {c : Code} {Q : State → Prop} {A : Nat → Prop} {dC : Nat → ClassId} {dI : Nat → Nat → Nat} {a : Nat → Nat} {ac : Nat → ClassId} {n : Nat} {r : Int32 × (St × (St))} (C : nd_C p l s m args c A (dC, dI) cX2_takeWord 3 RX2 ow_dm_X2_takeWord (dk_X2s ac)) (K : nd_Ki p l e (headSpec ow_dm_X2_takeWord ({ frames := 7, cells := 0, slots := 0, locals := 153 })).room s m args below meth c Q A (dC, dI) cX2_takeWord .boolean (St × (St)) (dw_X2s a ac) r) : dj_X2_takeWord_136 p l e s m args below meth c Q A dC dI a ac (df_X2_takeWord_136 n (a 0)) r := by
  obtain ⟨hlt, hx, hb, hml, hown, hts, hN, hA, hK⟩ := id C
  intro x1 x2 s0 H locs ls h hP hD hS hl
  unfold df_X2_takeWord_136 at h
  refine lv_aload_n hx hb dX2_takeWord_136 rfl (lv_at hl 0 rfl) ?_
  refine lv_iload_n hx hb dX2_takeWord_137 rfl (lv_at hl 1 rfl) ?_
  refine lv_aload_n hx hb dX2_takeWord_138 rfl (lv_at hl 0 rfl) ?_
  refine va_get (D := (dC, dI)) (ci := 3) (v := .int (sI s0.2 2)) (C := RX2) (T := TX2) (N := 20) hx hb hts hi_dm_X2_takeWord_X2 hown hK hP 1 rfl rfl 10 (by decide) (hts (.fieldLink RX2 58 "TimeMachine$Condition" "olds" "I") (List.mem_of_getElem? (i := 20) rfl)) (fun _ h9 => h9) rfl dX2_takeWord_139 ?_
  obtain ⟨s33, hq, h⟩ := nd_b1_e h
  have hPc := dp_X2s_1 hP
  have hDc := dd_X2s_1 hD
  have hKc := dy_X2s_1 hK
  have hFc := nd_rs hDc hS hA
  have hzA : ∀ q : Nat, H.size ≤ q → A q := fun q h => hA q (Nat.le_trans hS.1 h)
  refine nd_cVv (As := [.int x1, .int (sI s0.2 2)]) (rest := []) (w' := dw_X2c (fun k => a (k + 1)) (fun k => ac (k + 1)) s33) ⟨hx, hb, hml, hown, hts⟩ (fun sz => dm_X2_opens l hlt dC dI (fun k => a (k + 1)) (fun k => ac (k + 1)) n (x1) ((sI s0.2 2)) s0.2 hq sz) (cwV 2 hts gi_dm_X2_takeWord_5 rfl rfl rfl (by decide +kernel) ⟨Nat.le_of_ble_eq_true rfl, Nat.le_of_ble_eq_true rfl⟩) hPc hDc hKc hS hA hN (va_recv hKc hPc (ci := 3) (q0 := 0) rfl rfl) rfl hl.1 rfl (Nat.le_of_ble_eq_true rfl) dX2_takeWord_142 (fun H locs hP1 hD1 hk1 hS => ?_)
  obtain ⟨hP, hD⟩ := dn_X2s_1 hP hD hzA hk1 hP1 hD1
  obtain ⟨s35, es35, h⟩ := nd_let_e h
  have hP : va_P (dC, dI) vwCl (dw_X2s a ac s35) H := by rw [es35]; exact hP
  have hD : va_D A (dw_X2s a ac s35) := by rw [es35]; exact hD
  refine lv_aload_n hx hb dX2_takeWord_145 rfl (lv_at hl 0 rfl) ?_
  refine va_get (D := (dC, dI)) (ci := 3) (v := .int (sI s35.2 8)) (C := RX2) (T := TX2) (N := 20) hx hb hts hi_dm_X2_takeWord_X2 hown hK hP 1 rfl rfl 18 (by decide) (hts (.fieldLink RX2 64 "TimeMachine$Condition" "fault" "I") (List.mem_of_getElem? (i := 15) rfl)) (fun _ h9 => h9) rfl dX2_takeWord_146 ?_
  refine lv_if_ne (tgt := 208) hx hb dX2_takeWord_149 (by decide) (fun c36 => ?_) (fun c36 => ?_)
  · have h := nd_neg h c36
    exact (db_X2_takeWord_208 C K)  s35 _ _ _ h hP hD hS (lv_sub hl [] rfl)
  · have h := nd_pos h c36
    refine lv_iload_n hx hb dX2_takeWord_152 rfl (lv_at hl 2 rfl) ?_
    refine lv_if_eq (tgt := 208) hx hb dX2_takeWord_153 (by decide) (fun c37 => ?_) (fun c37 => ?_)
    · have h := nd_pos h c37
      exact (db_X2_takeWord_208 C K)  s35 _ _ _ h hP hD hS (lv_sub hl [] rfl)
    · have h := nd_neg h c37
      refine lv_aload_n hx hb dX2_takeWord_156 rfl (lv_at hl 0 rfl) ?_
      refine va_get (D := (dC, dI)) (ci := 3) (v := .int (sI s35.2 2)) (C := RX2) (T := TX2) (N := 20) hx hb hts hi_dm_X2_takeWord_X2 hown hK hP 1 rfl rfl 10 (by decide) (hts (.fieldLink RX2 58 "TimeMachine$Condition" "olds" "I") (List.mem_of_getElem? (i := 20) rfl)) (fun _ h9 => h9) rfl dX2_takeWord_157 ?_
      refine lv_aload_n hx hb dX2_takeWord_160 rfl (lv_at hl 0 rfl) ?_
      refine va_get (D := (dC, dI)) (ci := 3) (v := .ref (a 7)) (C := RX2) (T := TX2) (N := 20) hx hb hts hi_dm_X2_takeWord_X2 hown hK hP 1 rfl rfl 7 (by decide) (hts (.fieldLink RX2 26 "TimeMachine$Condition" "oldFrom" "[I") (List.mem_of_getElem? (i := 24) rfl)) (fun _ h9 => h9) rfl dX2_takeWord_161 ?_
      refine va_alen (v := 40) hx hb hK hP 7 6 rfl rfl (show Int32.ofNat 40 = 40 by decide) dX2_takeWord_164 ?_
      refine lv_icmp_ge (tgt := 208) hx hb dX2_takeWord_165 (by decide) (fun c38 => ?_) (fun c38 => ?_)
      · have h := nd_pos h c38
        exact (db_X2_takeWord_208 C K)  s35 _ _ _ h hP hD hS (lv_sub hl [] rfl)
      · have h := nd_neg h c38
        refine lv_iload_n hx hb dX2_takeWord_168 rfl (lv_at hl 1 rfl) ?_
        refine lv_bipush (v := 23) hx hb dX2_takeWord_169 (by decide) ?_
        refine lv_icmp_ne (tgt := 185) hx hb dX2_takeWord_171 (by decide) (fun c39 => ?_) (fun c39 => ?_)
        · have h := nd_neg h c39
          exact (db_X2_takeWord_185 C K)  s35 _ _ _ h hP hD hS (lv_sub hl [0] rfl)
        · have h := nd_pos h c39
          refine lv_aload_n hx hb dX2_takeWord_174 rfl (lv_at hl 0 rfl) ?_
          refine lv_bipush (v := 23) hx hb dX2_takeWord_175 (by decide) ?_
          refine lv_aload_n hx hb dX2_takeWord_177 rfl (lv_at hl 0 rfl) ?_
          refine va_get (D := (dC, dI)) (ci := 3) (v := .int (sI s35.2 2)) (C := RX2) (T := TX2) (N := 20) hx hb hts hi_dm_X2_takeWord_X2 hown hK hP 1 rfl rfl 10 (by decide) (hts (.fieldLink RX2 58 "TimeMachine$Condition" "olds" "I") (List.mem_of_getElem? (i := 20) rfl)) (fun _ h9 => h9) rfl dX2_takeWord_178 ?_
          refine lv_i2l hx hb dX2_takeWord_181 rfl ?_
          obtain ⟨s44, hq, h⟩ := nd_b1_e h
          have hPc := dp_X2s_1 hP
          have hDc := dd_X2s_1 hD
          have hKc := dy_X2s_1 hK
          have hFc := nd_rs hDc hS hA
          have hzA : ∀ q : Nat, H.size ≤ q → A q := fun q h => hA q (Nat.le_trans hS.1 h)
          refine nd_cVv (As := [.int 23, .long (((sI s35.2 2) : Int32).toInt64)]) (rest := []) (w' := dw_X2c (fun k => a (k + 1)) (fun k => ac (k + 1)) s44) ⟨hx, hb, hml, hown, hts⟩ (fun sz => dm_X2_emit l hlt dC dI (fun k => a (k + 1)) (fun k => ac (k + 1)) n (23) ((((sI s35.2 2) : Int32).toInt64)) s35.2 hq sz) (cwV 2 hts gi_dm_X2_takeWord_3 rfl rfl rfl (by decide +kernel) ⟨Nat.le_of_ble_eq_true rfl, Nat.le_of_ble_eq_true rfl⟩) hPc hDc hKc hS hA hN (va_recv hKc hPc (ci := 3) (q0 := 0) rfl rfl) rfl hl.1 rfl (Nat.le_of_ble_eq_true rfl) dX2_takeWord_182 (fun H locs hP1 hD1 hk1 hS => ?_)
          obtain ⟨hP, hD⟩ := dn_X2s_1 hP hD hzA hk1 hP1 hD1
          obtain ⟨s46, es46, h⟩ := nd_let_e h
          have hP : va_P (dC, dI) vwCl (dw_X2s a ac s46) H := by rw [es46]; exact hP
          have hD : va_D A (dw_X2s a ac s46) := by rw [es46]; exact hD
          exact (db_X2_takeWord_185 C K)  s46 _ _ _ h hP hD hS (lv_sub hl [0] rfl)
set_option maxHeartbeats 40000000 in
set_option maxRecDepth 100000 in
theorem db_X2_takeWord_131 {p : Program} {l : Launch} {e : Env} {s : State} {m : MethodId} {args : Array Value} {below : List Frame} {meth : Method} {c : Code} {Q : State → Prop} {A : Nat → Prop} {dC : Nat → ClassId} {dI : Nat → Nat → Nat} {a : Nat → Nat} {ac : Nat → ClassId} {n : Nat} {r : Int32 × (St × (St))} (C : nd_C p l s m args c A (dC, dI) cX2_takeWord 3 RX2 ow_dm_X2_takeWord (dk_X2s ac)) (K : nd_Ki p l e (headSpec ow_dm_X2_takeWord ({ frames := 7, cells := 0, slots := 0, locals := 153 })).room s m args below meth c Q A (dC, dI) cX2_takeWord .boolean (St × (St)) (dw_X2s a ac) r) : dj_X2_takeWord_131 p l e s m args below meth c Q A dC dI a ac (df_X2_takeWord_131 n (a 0)) r := by
  obtain ⟨hlt, hx, hb, hml, hown, hts, hN, hA, hK⟩ := id C
  intro x1 x2 s0 H locs ls h hP hD hS hl
  unfold df_X2_takeWord_131 at h
  refine lv_aload_n hx hb dX2_takeWord_131 rfl (lv_at hl 0 rfl) ?_
  refine lv_iconst (v := 1) hx hb dX2_takeWord_132 (by decide) ?_
  obtain ⟨s29, hq, h⟩ := nd_b1_e h
  have hPc := dp_X2s_1 hP
  have hDc := dd_X2s_1 hD
  have hKc := dy_X2s_1 hK
  have hFc := nd_rs hDc hS hA
  have hzA : ∀ q : Nat, H.size ≤ q → A q := fun q h => hA q (Nat.le_trans hS.1 h)
  refine nd_cVv (As := [.int 1]) (rest := []) (w' := dw_X2c (fun k => a (k + 1)) (fun k => ac (k + 1)) s29) ⟨hx, hb, hml, hown, hts⟩ (fun sz => dm_X2_blame l hlt dC dI (fun k => a (k + 1)) (fun k => ac (k + 1)) n (1) s0.2 hq sz) (cwV 1 hts gi_dm_X2_takeWord_1 rfl rfl rfl (by decide +kernel) ⟨Nat.le_of_ble_eq_true rfl, Nat.le_of_ble_eq_true rfl⟩) hPc hDc hKc hS hA hN (va_recv hKc hPc (ci := 3) (q0 := 0) rfl rfl) rfl hl.1 rfl (Nat.le_of_ble_eq_true rfl) dX2_takeWord_133 (fun H locs hP1 hD1 hk1 hS => ?_)
  obtain ⟨hP, hD⟩ := dn_X2s_1 hP hD hzA hk1 hP1 hD1
  obtain ⟨s31, es31, h⟩ := nd_let_e h
  have hP : va_P (dC, dI) vwCl (dw_X2s a ac s31) H := by rw [es31]; exact hP
  have hD : va_D A (dw_X2s a ac s31) := by rw [es31]; exact hD
  exact (db_X2_takeWord_136 C K) (x1) (x2) s31 _ _ _ h hP hD hS (lv_sub hl [0, 1, 2] rfl)
set_option maxHeartbeats 40000000 in
set_option maxRecDepth 100000 in
theorem db_X2_takeWord_126 {p : Program} {l : Launch} {e : Env} {s : State} {m : MethodId} {args : Array Value} {below : List Frame} {meth : Method} {c : Code} {Q : State → Prop} {A : Nat → Prop} {dC : Nat → ClassId} {dI : Nat → Nat → Nat} {a : Nat → Nat} {ac : Nat → ClassId} {n : Nat} {r : Int32 × (St × (St))} (C : nd_C p l s m args c A (dC, dI) cX2_takeWord 3 RX2 ow_dm_X2_takeWord (dk_X2s ac)) (K : nd_Ki p l e (headSpec ow_dm_X2_takeWord ({ frames := 7, cells := 0, slots := 0, locals := 153 })).room s m args below meth c Q A (dC, dI) cX2_takeWord .boolean (St × (St)) (dw_X2s a ac) r) : dj_X2_takeWord_126 p l e s m args below meth c Q A dC dI a ac (df_X2_takeWord_126 n (a 0)) r := by
  obtain ⟨hlt, hx, hb, hml, hown, hts, hN, hA, hK⟩ := id C
  intro x1 x2 y0 y1 s0 H locs ls h hP hD hS hl
  unfold df_X2_takeWord_126 at h
  refine lv_i2l hx hb dX2_takeWord_126 rfl ?_
  refine W.lcmp hx hb dX2_takeWord_127 ?_
  refine lv_if_eq (tgt := 136) hx hb dX2_takeWord_128 (by decide) (fun c48 => ?_) (fun c48 => ?_)
  · have h := nd_pos h c48
    exact (db_X2_takeWord_136 C K) (x1) (x2) s0 _ _ _ h hP hD hS (lv_sub hl [0, 1, 2] rfl)
  · have h := nd_neg h c48
    exact (db_X2_takeWord_131 C K) (x1) (x2) s0 _ _ _ h hP hD hS (lv_sub hl [0, 1, 2] rfl)
set_option maxHeartbeats 40000000 in
set_option maxRecDepth 100000 in
theorem db_X2_takeWord_57 {p : Program} {l : Launch} {e : Env} {s : State} {m : MethodId} {args : Array Value} {below : List Frame} {meth : Method} {c : Code} {Q : State → Prop} {A : Nat → Prop} {dC : Nat → ClassId} {dI : Nat → Nat → Nat} {a : Nat → Nat} {ac : Nat → ClassId} {n : Nat} {r : Int32 × (St × (St))} (C : nd_C p l s m args c A (dC, dI) cX2_takeWord 3 RX2 ow_dm_X2_takeWord (dk_X2s ac)) (K : nd_Ki p l e (headSpec ow_dm_X2_takeWord ({ frames := 7, cells := 0, slots := 0, locals := 153 })).room s m args below meth c Q A (dC, dI) cX2_takeWord .boolean (St × (St)) (dw_X2s a ac) r) : dj_X2_takeWord_57 p l e s m args below meth c Q A dC dI a ac (df_X2_takeWord_57 n (a 0)) r := by
  obtain ⟨hlt, hx, hb, hml, hown, hts, hN, hA, hK⟩ := id C
  intro x1 x2 s0 H locs ls h hP hD hS hl
  unfold df_X2_takeWord_57 at h
  refine lv_aload_n hx hb dX2_takeWord_57 rfl (lv_at hl 0 rfl) ?_
  obtain ⟨s13, hq, h⟩ := nd_b1_e h
  have hPc := dp_X2s_1 hP
  have hDc := dd_X2s_1 hD
  have hKc := dy_X2s_1 hK
  have hFc := nd_rs hDc hS hA
  have hzA : ∀ q : Nat, H.size ≤ q → A q := fun q h => hA q (Nat.le_trans hS.1 h)
  refine nd_cVv (As := []) (rest := []) (w' := dw_X2c (fun k => a (k + 1)) (fun k => ac (k + 1)) s13) ⟨hx, hb, hml, hown, hts⟩ (fun sz => dm_X2_part l hlt dC dI (fun k => a (k + 1)) (fun k => ac (k + 1)) n  s0.2 hq sz) (cwV 0 hts gi_dm_X2_takeWord_2 rfl rfl rfl (by decide +kernel) ⟨Nat.le_of_ble_eq_true rfl, Nat.le_of_ble_eq_true rfl⟩) hPc hDc hKc hS hA hN (va_recv hKc hPc (ci := 3) (q0 := 0) rfl rfl) rfl hl.1 rfl (Nat.le_of_ble_eq_true rfl) dX2_takeWord_58 (fun H locs hP1 hD1 hk1 hS => ?_)
  obtain ⟨hP, hD⟩ := dn_X2s_1 hP hD hzA hk1 hP1 hD1
  obtain ⟨s15, es15, h⟩ := nd_let_e h
  have hP : va_P (dC, dI) vwCl (dw_X2s a ac s15) H := by rw [es15]; exact hP
  have hD : va_D A (dw_X2s a ac s15) := by rw [es15]; exact hD
  refine lv_iload_n hx hb dX2_takeWord_61 rfl (lv_at hl 1 rfl) ?_
  refine lv_bipush (v := 31) hx hb dX2_takeWord_62 (by decide) ?_
  refine lv_icmp_eq (tgt := 79) hx hb dX2_takeWord_64 (by decide) (fun c16 => ?_) (fun c16 => ?_)
  · have h := nd_pos h c16
    exact (db_X2_takeWord_79 C K) (x1) s15 _ _ _ h hP hD hS (lv_sub hl [0, 1] rfl)
  · have h := nd_neg h c16
    refine lv_iload_n hx hb dX2_takeWord_67 rfl (lv_at hl 1 rfl) ?_
    refine lv_bipush (v := 32) hx hb dX2_takeWord_68 (by decide) ?_
    refine lv_icmp_eq (tgt := 79) hx hb dX2_takeWord_70 (by decide) (fun c21 => ?_) (fun c21 => ?_)
    · have h := nd_pos h c21
      exact (db_X2_takeWord_79 C K) (x1) s15 _ _ _ h hP hD hS (lv_sub hl [0, 1] rfl)
    · have h := nd_neg h c21
      refine lv_iload_n hx hb dX2_takeWord_73 rfl (lv_at hl 1 rfl) ?_
      refine lv_bipush (v := 33) hx hb dX2_takeWord_74 (by decide) ?_
      refine lv_icmp_ne (tgt := 90) hx hb dX2_takeWord_76 (by decide) (fun c22 => ?_) (fun c22 => ?_)
      · have h := nd_neg h c22
        refine lv_aload_n hx hb dX2_takeWord_90 rfl (lv_at hl 0 rfl) ?_
        refine va_get (D := (dC, dI)) (ci := 3) (v := .int (sI s15.2 8)) (C := RX2) (T := TX2) (N := 20) hx hb hts hi_dm_X2_takeWord_X2 hown hK hP 1 rfl rfl 18 (by decide) (hts (.fieldLink RX2 64 "TimeMachine$Condition" "fault" "I") (List.mem_of_getElem? (i := 15) rfl)) (fun _ h9 => h9) rfl dX2_takeWord_91 ?_
        refine lv_if_eq (tgt := 99) hx hb dX2_takeWord_94 (by decide) (fun c23 => ?_) (fun c23 => ?_)
        · have h := nd_pos h c23
          refine lv_aload_n hx hb dX2_takeWord_99 rfl (lv_at hl 0 rfl) ?_
          obtain ⟨s25, hq, h⟩ := nd_b1_e h
          have hPc := hP
          have hDc := hD
          have hKc := hK
          have hFc := nd_rs hD hS hA
          refine nd_cVv (As := []) (rest := []) (w' := dw_X2s a ac s25) ⟨hx, hb, hml, hown, hts⟩ (fun sz => dm_X2_next l hlt dC dI a ac n  s15 hq sz) (cwV 0 hts gi_dm_X2_takeWord_4 rfl rfl rfl (by decide +kernel) ⟨Nat.le_of_ble_eq_true rfl, Nat.le_of_ble_eq_true rfl⟩) hPc hDc hKc hS hA hN (va_recv hKc hPc (ci := 3) (q0 := 1) rfl rfl) rfl hl.1 rfl (Nat.le_of_ble_eq_true rfl) dX2_takeWord_100 (fun H locs hP1 hD1 hk1 hS => ?_)
          have hP := hP1
          have hD := hD1.weaken (fun k q _ h => hFc q.1 h)
          refine lv_aload_n hx hb dX2_takeWord_103 rfl (lv_at hl 0 rfl) ?_
          refine va_get (D := (dC, dI)) (ci := 3) (v := .int (sI s25.2 6)) (C := RX2) (T := TX2) (N := 20) hx hb hts hi_dm_X2_takeWord_X2 hown hK hP 1 rfl rfl 15 (by decide) (hts (.fieldLink RX2 77 "TimeMachine$Condition" "kind" "I") (List.mem_of_getElem? (i := 19) rfl)) (fun _ h9 => h9) rfl dX2_takeWord_104 ?_
          refine lv_iconst (v := 3) hx hb dX2_takeWord_107 (by decide) ?_
          refine lv_icmp_ne (tgt := 131) hx hb dX2_takeWord_108 (by decide) (fun c27 => ?_) (fun c27 => ?_)
          · have h := nd_neg h c27
            exact (db_X2_takeWord_131 C K) (x1) (x2) s25 _ _ _ h hP hD hS (lv_sub hl [0, 1, 2] rfl)
          · have h := nd_pos h c27
            refine lv_aload_n hx hb dX2_takeWord_111 rfl (lv_at hl 0 rfl) ?_
            refine va_get (D := (dC, dI)) (ci := 3) (v := .long (sL s25.2 0)) (C := RX2) (T := TX2) (N := 20) hx hb hts hi_dm_X2_takeWord_X2 hown hK hP 1 rfl rfl 17 (by decide) (hts (.fieldLink RX2 110 "TimeMachine$Condition" "number" "J") (List.mem_of_getElem? (i := 11) rfl)) (fun _ h9 => h9) rfl dX2_takeWord_112 ?_
            refine lv_iload_n hx hb dX2_takeWord_115 rfl (lv_at hl 2 rfl) ?_
            refine lv_if_eq (tgt := 124) hx hb dX2_takeWord_116 (by decide) (fun c47 => ?_) (fun c47 => ?_)
            · have h := nd_pos h c47
              refine lv_bipush (v := 25) hx hb dX2_takeWord_124 (by decide) ?_
              exact (db_X2_takeWord_126 C K) (x1) (x2) ((sL s25.2 0)) (25) s25 _ _ _ h hP hD hS (lv_sub hl [0, 1, 2] rfl)
            · have h := nd_neg h c47
              refine lv_bipush (v := 22) hx hb dX2_takeWord_119 (by decide) ?_
              refine lv_goto (tgt := 126) hx hb dX2_takeWord_121 (by decide) ?_
              exact (db_X2_takeWord_126 C K) (x1) (x2) ((sL s25.2 0)) (22) s25 _ _ _ h hP hD hS (lv_sub hl [0, 1, 2] rfl)
        · have h := nd_neg h c23
          refine lv_iconst (v := 0) hx hb dX2_takeWord_97 (by decide) ?_
          exact K _ _ _ _ _ _ dX2_takeWord_98 (by first | rfl | decide) (Option.some.inj h).symm hP hD hS
      · have h := nd_pos h c22
        exact (db_X2_takeWord_79 C K) (x1) s15 _ _ _ h hP hD hS (lv_sub hl [0, 1] rfl)
set_option maxHeartbeats 40000000 in
set_option maxRecDepth 100000 in
theorem db_X2_takeWord_22 {p : Program} {l : Launch} {e : Env} {s : State} {m : MethodId} {args : Array Value} {below : List Frame} {meth : Method} {c : Code} {Q : State → Prop} {A : Nat → Prop} {dC : Nat → ClassId} {dI : Nat → Nat → Nat} {a : Nat → Nat} {ac : Nat → ClassId} {n : Nat} {r : Int32 × (St × (St))} (C : nd_C p l s m args c A (dC, dI) cX2_takeWord 3 RX2 ow_dm_X2_takeWord (dk_X2s ac)) (K : nd_Ki p l e (headSpec ow_dm_X2_takeWord ({ frames := 7, cells := 0, slots := 0, locals := 153 })).room s m args below meth c Q A (dC, dI) cX2_takeWord .boolean (St × (St)) (dw_X2s a ac) r) : dj_X2_takeWord_22 p l e s m args below meth c Q A dC dI a ac (df_X2_takeWord_22 n (a 0)) r := by
  obtain ⟨hlt, hx, hb, hml, hown, hts, hN, hA, hK⟩ := id C
  intro x1 y0 s0 H locs ls h hP hD hS hl
  unfold df_X2_takeWord_22 at h
  refine lv_istore_n (lv' := [(2, .int y0), (0, .ref (a 1)), (1, .int x1)]) hx hb dX2_takeWord_22 rfl hl (by decide) rfl (fun ls hl => ?_)
  refine lv_iload_n hx hb dX2_takeWord_23 rfl (lv_at hl 2 rfl) ?_
  refine lv_if_eq (tgt := 42) hx hb dX2_takeWord_24 (by decide) (fun c5 => ?_) (fun c5 => ?_)
  · have h := nd_pos h c5
    exact (db_X2_takeWord_42 C K) (x1) s0 _ _ _ h hP hD hS (lv_sub hl [1, 2] rfl)
  · have h := nd_neg h c5
    refine lv_iload_n hx hb dX2_takeWord_27 rfl (lv_at hl 0 rfl) ?_
    refine lv_if_eq (tgt := 57) hx hb dX2_takeWord_28 (by decide) (fun c11 => ?_) (fun c11 => ?_)
    · have h := nd_pos h c11
      exact (db_X2_takeWord_57 C K) (x1) (y0) s0 _ _ _ h hP hD hS (lv_sub hl [1, 2, 0] rfl)
    · have h := nd_neg h c11
      refine lv_aload_n hx hb dX2_takeWord_31 rfl (lv_at hl 1 rfl) ?_
      refine lv_bipush (v := 23) hx hb dX2_takeWord_32 (by decide) ?_
      refine lv_bipush (v := 24) hx hb dX2_takeWord_34 (by decide) ?_
      obtain ⟨q49, s50, hq, h⟩ := nd_b2_e h
      have hPc := dp_X2s_1 hP
      have hDc := dd_X2s_1 hD
      have hKc := dy_X2s_1 hK
      have hFc := nd_rs hDc hS hA
      have hzA : ∀ q : Nat, H.size ≤ q → A q := fun q h => hA q (Nat.le_trans hS.1 h)
      refine nd_cVi (As := [.int 23, .int 24]) (rest := []) (q := q49) (w' := dw_X2c (fun k => a (k + 1)) (fun k => ac (k + 1)) s50) ⟨hx, hb, hml, hown, hts⟩ (fun sz => dm_X2_waiting l hlt dC dI (fun k => a (k + 1)) (fun k => ac (k + 1)) n (23) (24) s0.2 hq sz) (cwV 2 hts gi_dm_X2_takeWord_6 rfl rfl rfl (by decide +kernel) ⟨Nat.le_of_ble_eq_true rfl, Nat.le_of_ble_eq_true rfl⟩) hPc hDc hKc hS hA hN (va_recv hKc hPc (ci := 3) (q0 := 0) rfl rfl) rfl hl.1 rfl (Nat.le_of_ble_eq_true rfl) dX2_takeWord_36 (fun H locs hP1 hD1 hk1 hS => ?_)
      obtain ⟨hP, hD⟩ := dn_X2s_1 hP hD hzA hk1 hP1 hD1
      obtain ⟨s52, es52, h⟩ := nd_let_e h
      have hP : va_P (dC, dI) vwCl (dw_X2s a ac s52) H := by rw [es52]; exact hP
      have hD : va_D A (dw_X2s a ac s52) := by rw [es52]; exact hD
      refine lv_if_le (tgt := 57) hx hb dX2_takeWord_39 (by decide) (fun c53 => ?_) (fun c53 => ?_)
      · have h := nd_pos h c53
        exact (db_X2_takeWord_57 C K) (x1) (y0) s52 _ _ _ h hP hD hS (lv_sub hl [1, 2, 0] rfl)
      · have h := nd_neg h c53
        exact (db_X2_takeWord_42 C K) (x1) s52 _ _ _ h hP hD hS (lv_sub hl [1, 2] rfl)
set_option maxHeartbeats 40000000 in
set_option maxRecDepth 100000 in
theorem db_X2_takeWord_17 {p : Program} {l : Launch} {e : Env} {s : State} {m : MethodId} {args : Array Value} {below : List Frame} {meth : Method} {c : Code} {Q : State → Prop} {A : Nat → Prop} {dC : Nat → ClassId} {dI : Nat → Nat → Nat} {a : Nat → Nat} {ac : Nat → ClassId} {n : Nat} {r : Int32 × (St × (St))} (C : nd_C p l s m args c A (dC, dI) cX2_takeWord 3 RX2 ow_dm_X2_takeWord (dk_X2s ac)) (K : nd_Ki p l e (headSpec ow_dm_X2_takeWord ({ frames := 7, cells := 0, slots := 0, locals := 153 })).room s m args below meth c Q A (dC, dI) cX2_takeWord .boolean (St × (St)) (dw_X2s a ac) r) : dj_X2_takeWord_17 p l e s m args below meth c Q A dC dI a ac (df_X2_takeWord_17 n (a 0)) r := by
  obtain ⟨hlt, hx, hb, hml, hown, hts, hN, hA, hK⟩ := id C
  intro x1 s0 H locs ls h hP hD hS hl
  unfold df_X2_takeWord_17 at h
  refine lv_iconst (v := 1) hx hb dX2_takeWord_17 (by decide) ?_
  refine lv_goto (tgt := 22) hx hb dX2_takeWord_18 (by decide) ?_
  exact (db_X2_takeWord_22 C K) (x1) (1) s0 _ _ _ h hP hD hS (lv_sub hl [0, 1] rfl)
set_option maxHeartbeats 40000000 in
set_option maxRecDepth 100000 in
theorem db_X2_takeWord_0 {p : Program} {l : Launch} {e : Env} {s : State} {m : MethodId} {args : Array Value} {below : List Frame} {meth : Method} {c : Code} {Q : State → Prop} {A : Nat → Prop} {dC : Nat → ClassId} {dI : Nat → Nat → Nat} {a : Nat → Nat} {ac : Nat → ClassId} {n : Nat} {r : Int32 × (St × (St))} (C : nd_C p l s m args c A (dC, dI) cX2_takeWord 3 RX2 ow_dm_X2_takeWord (dk_X2s ac)) (K : nd_Ki p l e (headSpec ow_dm_X2_takeWord ({ frames := 7, cells := 0, slots := 0, locals := 153 })).room s m args below meth c Q A (dC, dI) cX2_takeWord .boolean (St × (St)) (dw_X2s a ac) r) : dj_X2_takeWord_0 p l e s m args below meth c Q A dC dI a ac (df_X2_takeWord_0 n (a 0)) r := by
  obtain ⟨hlt, hx, hb, hml, hown, hts, hN, hA, hK⟩ := id C
  intro s0 H locs ls h hP hD hS hl
  unfold df_X2_takeWord_0 at h
  refine lv_aload_n hx hb dX2_takeWord_0 rfl (lv_at hl 0 rfl) ?_
  obtain ⟨q1, s2, hq, h⟩ := nd_b2_e h
  have hPc := hP
  have hDc := hD
  have hKc := hK
  have hFc := nd_rs hD hS hA
  refine nd_cVi (As := []) (rest := []) (q := q1) (w' := dw_X2s a ac s2) ⟨hx, hb, hml, hown, hts⟩ (fun sz => dm_X2_meaning l hlt dC dI a ac n  s0 hq sz) (cwV 0 hts gi_dm_X2_takeWord_0 rfl rfl rfl (by decide +kernel) ⟨Nat.le_of_ble_eq_true rfl, Nat.le_of_ble_eq_true rfl⟩) hPc hDc hKc hS hA hN (va_recv hKc hPc (ci := 3) (q0 := 1) rfl rfl) rfl hl.1 rfl (Nat.le_of_ble_eq_true rfl) dX2_takeWord_1 (fun H locs hP1 hD1 hk1 hS => ?_)
  have hP := hP1
  have hD := hD1.weaken (fun k q _ h => hFc q.1 h)
  refine lv_istore_n (lv' := [(1, .int q1), (0, .ref (a 1))]) hx hb dX2_takeWord_4 rfl hl (by decide) rfl (fun ls hl => ?_)
  refine lv_iload_n hx hb dX2_takeWord_5 rfl (lv_at hl 0 rfl) ?_
  refine lv_bipush (v := 23) hx hb dX2_takeWord_6 (by decide) ?_
  refine lv_icmp_eq (tgt := 17) hx hb dX2_takeWord_8 (by decide) (fun c4 => ?_) (fun c4 => ?_)
  · have h := nd_pos h c4
    exact (db_X2_takeWord_17 C K) (q1) s2 _ _ _ h hP hD hS (lv_sub hl [1, 0] rfl)
  · have h := nd_neg h c4
    refine lv_iload_n hx hb dX2_takeWord_11 rfl (lv_at hl 0 rfl) ?_
    refine lv_bipush (v := 24) hx hb dX2_takeWord_12 (by decide) ?_
    refine lv_icmp_ne (tgt := 21) hx hb dX2_takeWord_14 (by decide) (fun c54 => ?_) (fun c54 => ?_)
    · have h := nd_neg h c54
      refine lv_iconst (v := 0) hx hb dX2_takeWord_21 (by decide) ?_
      exact (db_X2_takeWord_22 C K) (q1) (0) s2 _ _ _ h hP hD hS (lv_sub hl [1, 0] rfl)
    · have h := nd_pos h c54
      exact (db_X2_takeWord_17 C K) (q1) s2 _ _ _ h hP hD hS (lv_sub hl [1, 0] rfl)
set_option maxHeartbeats 40000000 in
set_option maxRecDepth 100000 in
theorem dm_X2_takeWord (l : Launch) (hlt : l.stackTraces = false) (dC : Nat → ClassId) (dI : Nat → Nat → Nat) (a : Nat → Nat) (ac : Nat → ClassId) (n : Nat) (s0 : St × (St)) {r : Int32 × (St × (St))} (h : df_X2_takeWord n (a 0) s0 = some r) (sz : Nat) : Met l yX2_takeWord ow_dm_X2_takeWord ({ frames := 7, cells := 0, slots := 0, locals := 153 }) (va_Pc [.ref (a 1)] (fun U => U.heap.size = sz ∧ va_P (dC, dI) vwCl (dw_X2s a ac s0) U.heap ∧ va_K (dC, dI) vwCl (dk_X2s ac) U ∧ va_D (fun _ => True) (dw_X2s a ac s0) ∧ nv_E dI (va_A (dw_X2s a ac s0) sz) U)) (va_Qi (fun x _ => x = r.1) (fun (_ : Unit) t => va_P (dC, dI) vwCl (dw_X2s a ac r.2) t.heap ∧ va_K (dC, dI) vwCl (dk_X2s ac) t ∧ va_D (va_A (dw_X2s a ac s0) sz) (dw_X2s a ac r.2)) (va_A (dw_X2s a ac s0) sz)) 0 0 (va_A (dw_X2s a ac s0) sz) := by
  refine Met.ofW (cc := cX2_takeWord) (maxL := 3) (ret := (some .boolean)) (by decide) rfl ?_
  intro p e s m args below meth c s₁ B hml hv
  obtain ⟨rfl, hsz, hP, hK, hD0, hN⟩ := hv
  have hx := B.exec
  have hb := B.bytes
  have hr := B.returns
  have hts := atoms_spec (ws := ow_dm_X2_takeWord) B.pre
  have hown : s.vm.findClass RX2 = some m.cls := findClass_of_methodNamed B.named
  have hlocks := B.notSynchronized
  subst hsz
  have hD := hD0.self (sz := s.heap.size)
  generalize hAe : va_A (dw_X2s a ac s0) s.heap.size = A at hD hN ⊢
  have hA : ∀ q : Nat, s.heap.size ≤ q → A q := fun q h => by rw [← hAe]; exact Or.inr h
  have hl := lv_entry ([.ref (a 1)]) (n := 3) (Nat.le_of_ble_eq_true rfl)
  rw [lg_entry_eq]
  generalize (lg_sl ([.ref (a 1)]) ++ List.replicate (3 - (lg_sl ([.ref (a 1)])).length) Slot.unset).toArray = ls at hl ⊢
  have hl : lv_has ls 3 [(0, .ref (a 1))] := hl
  exact db_X2_takeWord_0 (dC := dC) (dI := dI) (a := a) (ac := ac) (n := n) (r := r) ⟨hlt, hx, hb, hml, hown, hts, hN, hA, hK⟩ (fun pc v τ H locs ls d z er hP hD hS => by subst er; exact W.zret (v := v) hx hb hr z (fun t ht hW => ⟨⟨v, (), rfl, rfl, by rw [ht]; exact hP, va_K.moved hW.alike hK, hD⟩, hS.F ht⟩) hS.2.2 d) s0 _ _ _ h hP hD va_S.rf (lv_sub hl [0] rfl)
def ow_dm_X2_takeOperand : List Cond := Cond.code yX2_takeOperand cX2_takeOperand 2 (some .boolean) :: ([Cond.fieldLink RX2 77 "TimeMachine$Condition" "kind" "I", Cond.methodLink RX2 84 yX2_blame, Cond.instanceMethod yX2_blame, Cond.selects RX2 yX2_blame yX2_blame, Cond.initialized RX2, Cond.methodLink RX2 70 yX2_next, Cond.instanceMethod yX2_next, Cond.selects RX2 yX2_next yX2_next, Cond.fieldLink RX2 110 "TimeMachine$Condition" "number" "J", Cond.constantLong RX2 171 (22), Cond.methodLink RX2 175 yX2_opens, Cond.instanceMethod yX2_opens, Cond.selects RX2 yX2_opens yX2_opens, Cond.constantLong RX2 173 (25), Cond.constantLong RX2 165 (19), Cond.methodLink RX2 148 yX2_part, Cond.instanceMethod yX2_part, Cond.selects RX2 yX2_part yX2_part, Cond.constantLong RX2 167 (15), Cond.methodLink RX2 154 yX2_push, Cond.instanceMethod yX2_push, Cond.selects RX2 yX2_push yX2_push, Cond.constantLong RX2 169 (21), Cond.methodLink RX2 162 yX2_takeWord, Cond.instanceMethod yX2_takeWord, Cond.selects RX2 yX2_takeWord yX2_takeWord, Cond.methodLink RX2 158 yX2_emit, Cond.instanceMethod yX2_emit, Cond.selects RX2 yX2_emit yX2_emit] ++ (u_ws RX2 TX2 20 ++ (ow_dm_X2_blame ++ (ow_dm_X2_next ++ (ow_dm_X2_opens ++ (ow_dm_X2_part ++ (ow_dm_X2_push ++ (ow_dm_X2_takeWord ++ (ow_dm_X2_emit ++ [])))))))))
theorem gd_dm_X2_takeOperand : ∀ w ∈ ow_dm_X2_takeOperand, (w.onTables && w.keeps) = true ∨ ∃ ty, w = Cond.arrayClass ty := List.forall_mem_cons.mpr ⟨good_of_word rfl, List.forall_mem_append.mpr ⟨fun w h => good_of_word (List.all_eq_true.mp (by decide +kernel) w h), List.forall_mem_append.mpr ⟨gu_X2, List.forall_mem_append.mpr ⟨gd_dm_X2_blame, List.forall_mem_append.mpr ⟨gd_dm_X2_next, List.forall_mem_append.mpr ⟨gd_dm_X2_opens, List.forall_mem_append.mpr ⟨gd_dm_X2_part, List.forall_mem_append.mpr ⟨gd_dm_X2_push, List.forall_mem_append.mpr ⟨gd_dm_X2_takeWord, List.forall_mem_append.mpr ⟨gd_dm_X2_emit, fun _ h => nomatch h⟩⟩⟩⟩⟩⟩⟩⟩⟩⟩
theorem hi_dm_X2_takeOperand_X2 : ∀ w ∈ u_ws RX2 TX2 20, w ∈ ow_dm_X2_takeOperand := fun w h => List.mem_cons_of_mem _ (List.mem_append_right _ (List.mem_append_left _ h))
theorem gi_dm_X2_takeOperand_0 : GoodIn ow_dm_X2_takeOperand (wsV RX2 84 RX2 yX2_blame ow_dm_X2_blame) := goodIn_app (goodIn_of _ (by decide +kernel)) (fun w h => ⟨List.mem_cons_of_mem _ (List.mem_append_right _ (List.mem_append_right _ (List.mem_append_left _ h))), gd_dm_X2_blame w h⟩)
theorem gi_dm_X2_takeOperand_1 : GoodIn ow_dm_X2_takeOperand (wsV RX2 70 RX2 yX2_next ow_dm_X2_next) := goodIn_app (goodIn_of _ (by decide +kernel)) (fun w h => ⟨List.mem_cons_of_mem _ (List.mem_append_right _ (List.mem_append_right _ (List.mem_append_right _ (List.mem_append_left _ h)))), gd_dm_X2_next w h⟩)
theorem gi_dm_X2_takeOperand_2 : GoodIn ow_dm_X2_takeOperand (wsV RX2 175 RX2 yX2_opens ow_dm_X2_opens) := goodIn_app (goodIn_of _ (by decide +kernel)) (fun w h => ⟨List.mem_cons_of_mem _ (List.mem_append_right _ (List.mem_append_right _ (List.mem_append_right _ (List.mem_append_right _ (List.mem_append_left _ h))))), gd_dm_X2_opens w h⟩)
theorem gi_dm_X2_takeOperand_3 : GoodIn ow_dm_X2_takeOperand (wsV RX2 148 RX2 yX2_part ow_dm_X2_part) := goodIn_app (goodIn_of _ (by decide +kernel)) (fun w h => ⟨List.mem_cons_of_mem _ (List.mem_append_right _ (List.mem_append_right _ (List.mem_append_right _ (List.mem_append_right _ (List.mem_append_right _ (List.mem_append_left _ h)))))), gd_dm_X2_part w h⟩)
theorem gi_dm_X2_takeOperand_4 : GoodIn ow_dm_X2_takeOperand (wsV RX2 154 RX2 yX2_push ow_dm_X2_push) := goodIn_app (goodIn_of _ (by decide +kernel)) (fun w h => ⟨List.mem_cons_of_mem _ (List.mem_append_right _ (List.mem_append_right _ (List.mem_append_right _ (List.mem_append_right _ (List.mem_append_right _ (List.mem_append_right _ (List.mem_append_left _ h))))))), gd_dm_X2_push w h⟩)
theorem gi_dm_X2_takeOperand_5 : GoodIn ow_dm_X2_takeOperand (wsV RX2 162 RX2 yX2_takeWord ow_dm_X2_takeWord) := goodIn_app (goodIn_of _ (by decide +kernel)) (fun w h => ⟨List.mem_cons_of_mem _ (List.mem_append_right _ (List.mem_append_right _ (List.mem_append_right _ (List.mem_append_right _ (List.mem_append_right _ (List.mem_append_right _ (List.mem_append_right _ (List.mem_append_left _ h)))))))), gd_dm_X2_takeWord w h⟩)
theorem gi_dm_X2_takeOperand_6 : GoodIn ow_dm_X2_takeOperand (wsV RX2 158 RX2 yX2_emit ow_dm_X2_emit) := goodIn_app (goodIn_of _ (by decide +kernel)) (fun w h => ⟨List.mem_cons_of_mem _ (List.mem_append_right _ (List.mem_append_right _ (List.mem_append_right _ (List.mem_append_right _ (List.mem_append_right _ (List.mem_append_right _ (List.mem_append_right _ (List.mem_append_right _ (List.mem_append_left _ h))))))))), gd_dm_X2_emit w h⟩)
def dj_X2_takeOperand_169 (p : Program) (l : Launch) (e : Env) (s : State) (m : MethodId) (args : Array Value) (below : List Frame) (meth : Method) (c : Code) (Q : State → Prop) (A : Nat → Prop) (dC : Nat → ClassId) (dI : Nat → Nat → Nat) (a : Nat → Nat) (ac : Nat → ClassId) (g : Int32 → (St × (St)) → Option (Int32 × (St × (St)))) (r : Int32 × (St × (St))) : Prop := ∀ (x1 : Int32) (s0 : St × (St)) (H : Heap) (locs : List Loc) (ls : Array Slot), g x1 s0 = some r → va_P (dC, dI) vwCl (dw_X2s a ac s0) H → va_D A (dw_X2s a ac s0) → va_S A s.heap H locs → lv_has ls 2 [(0, .ref (a 1)), (1, .int x1)] → W p l e (headSpec ow_dm_X2_takeOperand ({ frames := 8, cells := 0, slots := 0, locals := 175 })).room s m args below meth c H locs 0 0 Q (F0 m 169 ls [])
def dj_X2_takeOperand_164 (p : Program) (l : Launch) (e : Env) (s : State) (m : MethodId) (args : Array Value) (below : List Frame) (meth : Method) (c : Code) (Q : State → Prop) (A : Nat → Prop) (dC : Nat → ClassId) (dI : Nat → Nat → Nat) (a : Nat → Nat) (ac : Nat → ClassId) (g : Int32 → (St × (St)) → Option (Int32 × (St × (St)))) (r : Int32 × (St × (St))) : Prop := ∀ (x1 : Int32) (s0 : St × (St)) (H : Heap) (locs : List Loc) (ls : Array Slot), g x1 s0 = some r → va_P (dC, dI) vwCl (dw_X2s a ac s0) H → va_D A (dw_X2s a ac s0) → va_S A s.heap H locs → lv_has ls 2 [(0, .ref (a 1)), (1, .int x1)] → W p l e (headSpec ow_dm_X2_takeOperand ({ frames := 8, cells := 0, slots := 0, locals := 175 })).room s m args below meth c H locs 0 0 Q (F0 m 164 ls [])
def dj_X2_takeOperand_149 (p : Program) (l : Launch) (e : Env) (s : State) (m : MethodId) (args : Array Value) (below : List Frame) (meth : Method) (c : Code) (Q : State → Prop) (A : Nat → Prop) (dC : Nat → ClassId) (dI : Nat → Nat → Nat) (a : Nat → Nat) (ac : Nat → ClassId) (g : (St × (St)) → Option (Int32 × (St × (St)))) (r : Int32 × (St × (St))) : Prop := ∀ (s0 : St × (St)) (H : Heap) (locs : List Loc) (ls : Array Slot), g s0 = some r → va_P (dC, dI) vwCl (dw_X2s a ac s0) H → va_D A (dw_X2s a ac s0) → va_S A s.heap H locs → lv_has ls 2 [(0, .ref (a 1))] → W p l e (headSpec ow_dm_X2_takeOperand ({ frames := 8, cells := 0, slots := 0, locals := 175 })).room s m args below meth c H locs 0 0 Q (F0 m 149 ls [])
def dj_X2_takeOperand_119 (p : Program) (l : Launch) (e : Env) (s : State) (m : MethodId) (args : Array Value) (below : List Frame) (meth : Method) (c : Code) (Q : State → Prop) (A : Nat → Prop) (dC : Nat → ClassId) (dI : Nat → Nat → Nat) (a : Nat → Nat) (ac : Nat → ClassId) (g : Int32 → (St × (St)) → Option (Int32 × (St × (St)))) (r : Int32 × (St × (St))) : Prop := ∀ (x1 : Int32) (s0 : St × (St)) (H : Heap) (locs : List Loc) (ls : Array Slot), g x1 s0 = some r → va_P (dC, dI) vwCl (dw_X2s a ac s0) H → va_D A (dw_X2s a ac s0) → va_S A s.heap H locs → lv_has ls 2 [(0, .ref (a 1)), (1, .int x1)] → W p l e (headSpec ow_dm_X2_takeOperand ({ frames := 8, cells := 0, slots := 0, locals := 175 })).room s m args below meth c H locs 0 0 Q (F0 m 119 ls [])
def dj_X2_takeOperand_110 (p : Program) (l : Launch) (e : Env) (s : State) (m : MethodId) (args : Array Value) (below : List Frame) (meth : Method) (c : Code) (Q : State → Prop) (A : Nat → Prop) (dC : Nat → ClassId) (dI : Nat → Nat → Nat) (a : Nat → Nat) (ac : Nat → ClassId) (g : Int32 → (St × (St)) → Option (Int32 × (St × (St)))) (r : Int32 × (St × (St))) : Prop := ∀ (y1 : Int32) (s0 : St × (St)) (H : Heap) (locs : List Loc) (ls : Array Slot), g y1 s0 = some r → va_P (dC, dI) vwCl (dw_X2s a ac s0) H → va_D A (dw_X2s a ac s0) → va_S A s.heap H locs → lv_has ls 2 [(0, .ref (a 1))] → W p l e (headSpec ow_dm_X2_takeOperand ({ frames := 8, cells := 0, slots := 0, locals := 175 })).room s m args below meth c H locs 0 0 Q (F0 m 110 ls [.int y1, .ref (a 1)])
def dj_X2_takeOperand_84 (p : Program) (l : Launch) (e : Env) (s : State) (m : MethodId) (args : Array Value) (below : List Frame) (meth : Method) (c : Code) (Q : State → Prop) (A : Nat → Prop) (dC : Nat → ClassId) (dI : Nat → Nat → Nat) (a : Nat → Nat) (ac : Nat → ClassId) (g : (St × (St)) → Option (Int32 × (St × (St)))) (r : Int32 × (St × (St))) : Prop := ∀ (s0 : St × (St)) (H : Heap) (locs : List Loc) (ls : Array Slot), g s0 = some r → va_P (dC, dI) vwCl (dw_X2s a ac s0) H → va_D A (dw_X2s a ac s0) → va_S A s.heap H locs → lv_has ls 2 [(0, .ref (a 1))] → W p l e (headSpec ow_dm_X2_takeOperand ({ frames := 8, cells := 0, slots := 0, locals := 175 })).room s m args below meth c H locs 0 0 Q (F0 m 84 ls [])
def dj_X2_takeOperand_0 (p : Program) (l : Launch) (e : Env) (s : State) (m : MethodId) (args : Array Value) (below : List Frame) (meth : Method) (c : Code) (Q : State → Prop) (A : Nat → Prop) (dC : Nat → ClassId) (dI : Nat → Nat → Nat) (a : Nat → Nat) (ac : Nat → ClassId) (g : (St × (St)) → Option (Int32 × (St × (St)))) (r : Int32 × (St × (St))) : Prop := ∀ (s0 : St × (St)) (H : Heap) (locs : List Loc) (ls : Array Slot), g s0 = some r → va_P (dC, dI) vwCl (dw_X2s a ac s0) H → va_D A (dw_X2s a ac s0) → va_S A s.heap H locs → lv_has ls 2 [(0, .ref (a 1))] → W p l e (headSpec ow_dm_X2_takeOperand ({ frames := 8, cells := 0, slots := 0, locals := 175 })).room s m args below meth c H locs 0 0 Q (F0 m 0 ls [])
set_option maxHeartbeats 40000000 in
set_option maxRecDepth 100000 in
theorem db_X2_takeOperand_169 {p : Program} {l : Launch} {e : Env} {s : State} {m : MethodId} {args : Array Value} {below : List Frame} {meth : Method} {c : Code} {Q : State → Prop} {A : Nat → Prop} {dC : Nat → ClassId} {dI : Nat → Nat → Nat} {a : Nat → Nat} {ac : Nat → ClassId} {n : Nat} {r : Int32 × (St × (St))} (C : nd_C p l s m args c A (dC, dI) cX2_takeOperand 2 RX2 ow_dm_X2_takeOperand (dk_X2s ac)) (K : nd_Ki p l e (headSpec ow_dm_X2_takeOperand ({ frames := 8, cells := 0, slots := 0, locals := 175 })).room s m args below meth c Q A (dC, dI) cX2_takeOperand .boolean (St × (St)) (dw_X2s a ac) r) : dj_X2_takeOperand_169 p l e s m args below meth c Q A dC dI a ac (df_X2_takeOperand_169 n (a 0)) r := by
  obtain ⟨hlt, hx, hb, hml, hown, hts, hN, hA, hK⟩ := id C
  intro x1 s0 H locs ls h hP hD hS hl
  unfold df_X2_takeOperand_169 at h
  refine lv_aload_n hx hb dX2_takeOperand_169 rfl (lv_at hl 0 rfl) ?_
  obtain ⟨s10, hq, h⟩ := nd_b1_e h
  have hPc := hP
  have hDc := hD
  have hKc := hK
  have hFc := nd_rs hD hS hA
  refine nd_cVv (As := []) (rest := []) (w' := dw_X2s a ac s10) ⟨hx, hb, hml, hown, hts⟩ (fun sz => dm_X2_next l hlt dC dI a ac n  s0 hq sz) (cwV 0 hts gi_dm_X2_takeOperand_1 rfl rfl rfl (by decide +kernel) ⟨Nat.le_of_ble_eq_true rfl, Nat.le_of_ble_eq_true rfl⟩) hPc hDc hKc hS hA hN (va_recv hKc hPc (ci := 3) (q0 := 1) rfl rfl) rfl hl.1 rfl (Nat.le_of_ble_eq_true rfl) dX2_takeOperand_170 (fun H locs hP1 hD1 hk1 hS => ?_)
  have hP := hP1
  have hD := hD1.weaken (fun k q _ h => hFc q.1 h)
  refine lv_iload_n hx hb dX2_takeOperand_173 rfl (lv_at hl 1 rfl) ?_
  obtain ⟨n12, h⟩ := nd_z_e ⟨_, rfl⟩ h
  exact K _ _ _ _ _ _ dX2_takeOperand_174 n12 (Option.some.inj h).symm hP hD hS
set_option maxHeartbeats 40000000 in
set_option maxRecDepth 100000 in
theorem db_X2_takeOperand_164 {p : Program} {l : Launch} {e : Env} {s : State} {m : MethodId} {args : Array Value} {below : List Frame} {meth : Method} {c : Code} {Q : State → Prop} {A : Nat → Prop} {dC : Nat → ClassId} {dI : Nat → Nat → Nat} {a : Nat → Nat} {ac : Nat → ClassId} {n : Nat} {r : Int32 × (St × (St))} (C : nd_C p l s m args c A (dC, dI) cX2_takeOperand 2 RX2 ow_dm_X2_takeOperand (dk_X2s ac)) (K : nd_Ki p l e (headSpec ow_dm_X2_takeOperand ({ frames := 8, cells := 0, slots := 0, locals := 175 })).room s m args below meth c Q A (dC, dI) cX2_takeOperand .boolean (St × (St)) (dw_X2s a ac) r) : dj_X2_takeOperand_164 p l e s m args below meth c Q A dC dI a ac (df_X2_takeOperand_164 n (a 0)) r := by
  obtain ⟨hlt, hx, hb, hml, hown, hts, hN, hA, hK⟩ := id C
  intro x1 s0 H locs ls h hP hD hS hl
  unfold df_X2_takeOperand_164 at h
  refine lv_aload_n hx hb dX2_takeOperand_164 rfl (lv_at hl 0 rfl) ?_
  refine lv_iconst (v := 1) hx hb dX2_takeOperand_165 (by decide) ?_
  obtain ⟨s6, hq, h⟩ := nd_b1_e h
  have hPc := dp_X2s_1 hP
  have hDc := dd_X2s_1 hD
  have hKc := dy_X2s_1 hK
  have hFc := nd_rs hDc hS hA
  have hzA : ∀ q : Nat, H.size ≤ q → A q := fun q h => hA q (Nat.le_trans hS.1 h)
  refine nd_cVv (As := [.int 1]) (rest := []) (w' := dw_X2c (fun k => a (k + 1)) (fun k => ac (k + 1)) s6) ⟨hx, hb, hml, hown, hts⟩ (fun sz => dm_X2_blame l hlt dC dI (fun k => a (k + 1)) (fun k => ac (k + 1)) n (1) s0.2 hq sz) (cwV 1 hts gi_dm_X2_takeOperand_0 rfl rfl rfl (by decide +kernel) ⟨Nat.le_of_ble_eq_true rfl, Nat.le_of_ble_eq_true rfl⟩) hPc hDc hKc hS hA hN (va_recv hKc hPc (ci := 3) (q0 := 0) rfl rfl) rfl hl.1 rfl (Nat.le_of_ble_eq_true rfl) dX2_takeOperand_166 (fun H locs hP1 hD1 hk1 hS => ?_)
  obtain ⟨hP, hD⟩ := dn_X2s_1 hP hD hzA hk1 hP1 hD1
  obtain ⟨s8, es8, h⟩ := nd_let_e h
  have hP : va_P (dC, dI) vwCl (dw_X2s a ac s8) H := by rw [es8]; exact hP
  have hD : va_D A (dw_X2s a ac s8) := by rw [es8]; exact hD
  exact (db_X2_takeOperand_169 C K) (x1) s8 _ _ _ h hP hD hS (lv_sub hl [0, 1] rfl)
set_option maxHeartbeats 40000000 in
set_option maxRecDepth 100000 in
theorem db_X2_takeOperand_149 {p : Program} {l : Launch} {e : Env} {s : State} {m : MethodId} {args : Array Value} {below : List Frame} {meth : Method} {c : Code} {Q : State → Prop} {A : Nat → Prop} {dC : Nat → ClassId} {dI : Nat → Nat → Nat} {a : Nat → Nat} {ac : Nat → ClassId} {n : Nat} {r : Int32 × (St × (St))} (C : nd_C p l s m args c A (dC, dI) cX2_takeOperand 2 RX2 ow_dm_X2_takeOperand (dk_X2s ac)) (K : nd_Ki p l e (headSpec ow_dm_X2_takeOperand ({ frames := 8, cells := 0, slots := 0, locals := 175 })).room s m args below meth c Q A (dC, dI) cX2_takeOperand .boolean (St × (St)) (dw_X2s a ac) r) : dj_X2_takeOperand_149 p l e s m args below meth c Q A dC dI a ac (df_X2_takeOperand_149 n (a 0)) r := by
  obtain ⟨hlt, hx, hb, hml, hown, hts, hN, hA, hK⟩ := id C
  intro s0 H locs ls h hP hD hS hl
  unfold df_X2_takeOperand_149 at h
  refine lv_aload_n hx hb dX2_takeOperand_149 rfl (lv_at hl 0 rfl) ?_
  refine lv_aload_n hx hb dX2_takeOperand_150 rfl (lv_at hl 0 rfl) ?_
  refine va_get (D := (dC, dI)) (ci := 3) (v := .long (sL s0.2 0)) (C := RX2) (T := TX2) (N := 20) hx hb hts hi_dm_X2_takeOperand_X2 hown hK hP 1 rfl rfl 17 (by decide) (hts (.fieldLink RX2 110 "TimeMachine$Condition" "number" "J") (List.mem_of_getElem? (i := 9) rfl)) (fun _ h9 => h9) rfl dX2_takeOperand_151 ?_
  refine lv_l2i hx hb dX2_takeOperand_154 rfl ?_
  refine lv_iconst (v := 0) hx hb dX2_takeOperand_155 (by decide) ?_
  obtain ⟨s15, hq, h⟩ := nd_b1_e h
  have hPc := dp_X2s_1 hP
  have hDc := dd_X2s_1 hD
  have hKc := dy_X2s_1 hK
  have hFc := nd_rs hDc hS hA
  have hzA : ∀ q : Nat, H.size ≤ q → A q := fun q h => hA q (Nat.le_trans hS.1 h)
  refine nd_cVv (As := [.int ((sL s0.2 0).toInt32), .int 0]) (rest := []) (w' := dw_X2c (fun k => a (k + 1)) (fun k => ac (k + 1)) s15) ⟨hx, hb, hml, hown, hts⟩ (fun sz => dm_X2_opens l hlt dC dI (fun k => a (k + 1)) (fun k => ac (k + 1)) n (((sL s0.2 0).toInt32)) (0) s0.2 hq sz) (cwV 2 hts gi_dm_X2_takeOperand_2 rfl rfl rfl (by decide +kernel) ⟨Nat.le_of_ble_eq_true rfl, Nat.le_of_ble_eq_true rfl⟩) hPc hDc hKc hS hA hN (va_recv hKc hPc (ci := 3) (q0 := 0) rfl rfl) rfl hl.1 rfl (Nat.le_of_ble_eq_true rfl) dX2_takeOperand_156 (fun H locs hP1 hD1 hk1 hS => ?_)
  obtain ⟨hP, hD⟩ := dn_X2s_1 hP hD hzA hk1 hP1 hD1
  obtain ⟨s17, es17, h⟩ := nd_let_e h
  have hP : va_P (dC, dI) vwCl (dw_X2s a ac s17) H := by rw [es17]; exact hP
  have hD : va_D A (dw_X2s a ac s17) := by rw [es17]; exact hD
  refine lv_iconst (v := 1) hx hb dX2_takeOperand_159 (by decide) ?_
  refine lv_istore_n (lv' := [(1, .int 1), (0, .ref (a 1))]) hx hb dX2_takeOperand_160 rfl hl (by decide) rfl (fun ls hl => ?_)
  refine lv_goto (tgt := 169) hx hb dX2_takeOperand_161 (by decide) ?_
  exact (db_X2_takeOperand_169 C K) (1) s17 _ _ _ h hP hD hS (lv_sub hl [1, 0] rfl)
set_option maxHeartbeats 40000000 in
set_option maxRecDepth 100000 in
theorem db_X2_takeOperand_119 {p : Program} {l : Launch} {e : Env} {s : State} {m : MethodId} {args : Array Value} {below : List Frame} {meth : Method} {c : Code} {Q : State → Prop} {A : Nat → Prop} {dC : Nat → ClassId} {dI : Nat → Nat → Nat} {a : Nat → Nat} {ac : Nat → ClassId} {n : Nat} {r : Int32 × (St × (St))} (C : nd_C p l s m args c A (dC, dI) cX2_takeOperand 2 RX2 ow_dm_X2_takeOperand (dk_X2s ac)) (K : nd_Ki p l e (headSpec ow_dm_X2_takeOperand ({ frames := 8, cells := 0, slots := 0, locals := 175 })).room s m args below meth c Q A (dC, dI) cX2_takeOperand .boolean (St × (St)) (dw_X2s a ac) r) : dj_X2_takeOperand_119 p l e s m args below meth c Q A dC dI a ac (df_X2_takeOperand_119 n (a 0)) r := by
  obtain ⟨hlt, hx, hb, hml, hown, hts, hN, hA, hK⟩ := id C
  intro x1 s0 H locs ls h hP hD hS hl
  unfold df_X2_takeOperand_119 at h
  refine lv_aload_n hx hb dX2_takeOperand_119 rfl (lv_at hl 0 rfl) ?_
  refine va_get (D := (dC, dI)) (ci := 3) (v := .int (sI s0.2 6)) (C := RX2) (T := TX2) (N := 20) hx hb hts hi_dm_X2_takeOperand_X2 hown hK hP 1 rfl rfl 15 (by decide) (hts (.fieldLink RX2 77 "TimeMachine$Condition" "kind" "I") (List.mem_of_getElem? (i := 1) rfl)) (fun _ h9 => h9) rfl dX2_takeOperand_120 ?_
  refine lv_iconst (v := 3) hx hb dX2_takeOperand_123 (by decide) ?_
  refine lv_icmp_ne (tgt := 164) hx hb dX2_takeOperand_124 (by decide) (fun c4 => ?_) (fun c4 => ?_)
  · have h := nd_neg h c4
    exact (db_X2_takeOperand_164 C K) (x1) s0 _ _ _ h hP hD hS (lv_sub hl [0, 1] rfl)
  · have h := nd_pos h c4
    refine lv_aload_n hx hb dX2_takeOperand_127 rfl (lv_at hl 0 rfl) ?_
    refine va_get (D := (dC, dI)) (ci := 3) (v := .long (sL s0.2 0)) (C := RX2) (T := TX2) (N := 20) hx hb hts hi_dm_X2_takeOperand_X2 hown hK hP 1 rfl rfl 17 (by decide) (hts (.fieldLink RX2 110 "TimeMachine$Condition" "number" "J") (List.mem_of_getElem? (i := 9) rfl)) (fun _ h9 => h9) rfl dX2_takeOperand_128 ?_
    refine lv_ldc2 hx hb hown (hts (.constantLong RX2 171 (22)) (List.mem_of_getElem? (i := 10) rfl)) dX2_takeOperand_131 ?_
    refine W.lcmp hx hb dX2_takeOperand_134 ?_
    refine lv_if_eq (tgt := 149) hx hb dX2_takeOperand_135 (by decide) (fun c13 => ?_) (fun c13 => ?_)
    · have h := nd_pos h c13
      exact (db_X2_takeOperand_149 C K)  s0 _ _ _ h hP hD hS (lv_sub hl [0] rfl)
    · have h := nd_neg h c13
      refine lv_aload_n hx hb dX2_takeOperand_138 rfl (lv_at hl 0 rfl) ?_
      refine va_get (D := (dC, dI)) (ci := 3) (v := .long (sL s0.2 0)) (C := RX2) (T := TX2) (N := 20) hx hb hts hi_dm_X2_takeOperand_X2 hown hK hP 1 rfl rfl 17 (by decide) (hts (.fieldLink RX2 110 "TimeMachine$Condition" "number" "J") (List.mem_of_getElem? (i := 9) rfl)) (fun _ h9 => h9) rfl dX2_takeOperand_139 ?_
      refine lv_ldc2 hx hb hown (hts (.constantLong RX2 173 (25)) (List.mem_of_getElem? (i := 14) rfl)) dX2_takeOperand_142 ?_
      refine W.lcmp hx hb dX2_takeOperand_145 ?_
      refine lv_if_ne (tgt := 164) hx hb dX2_takeOperand_146 (by decide) (fun c18 => ?_) (fun c18 => ?_)
      · have h := nd_neg h c18
        exact (db_X2_takeOperand_164 C K) (x1) s0 _ _ _ h hP hD hS (lv_sub hl [0, 1] rfl)
      · have h := nd_pos h c18
        exact (db_X2_takeOperand_149 C K)  s0 _ _ _ h hP hD hS (lv_sub hl [0] rfl)
set_option maxHeartbeats 40000000 in
set_option maxRecDepth 100000 in
theorem db_X2_takeOperand_110 {p : Program} {l : Launch} {e : Env} {s : State} {m : MethodId} {args : Array Value} {below : List Frame} {meth : Method} {c : Code} {Q : State → Prop} {A : Nat → Prop} {dC : Nat → ClassId} {dI : Nat → Nat → Nat} {a : Nat → Nat} {ac : Nat → ClassId} {n : Nat} {r : Int32 × (St × (St))} (C : nd_C p l s m args c A (dC, dI) cX2_takeOperand 2 RX2 ow_dm_X2_takeOperand (dk_X2s ac)) (K : nd_Ki p l e (headSpec ow_dm_X2_takeOperand ({ frames := 8, cells := 0, slots := 0, locals := 175 })).room s m args below meth c Q A (dC, dI) cX2_takeOperand .boolean (St × (St)) (dw_X2s a ac) r) : dj_X2_takeOperand_110 p l e s m args below meth c Q A dC dI a ac (df_X2_takeOperand_110 n (a 0)) r := by
  obtain ⟨hlt, hx, hb, hml, hown, hts, hN, hA, hK⟩ := id C
  intro y1 s0 H locs ls h hP hD hS hl
  unfold df_X2_takeOperand_110 at h
  refine lv_iconst (v := 0) hx hb dX2_takeOperand_110 (by decide) ?_
  obtain ⟨s26, hq, h⟩ := nd_b1_e h
  have hPc := dp_X2s_1 hP
  have hDc := dd_X2s_1 hD
  have hKc := dy_X2s_1 hK
  have hFc := nd_rs hDc hS hA
  have hzA : ∀ q : Nat, H.size ≤ q → A q := fun q h => hA q (Nat.le_trans hS.1 h)
  refine nd_cVv (As := [.int y1, .int 0]) (rest := []) (w' := dw_X2c (fun k => a (k + 1)) (fun k => ac (k + 1)) s26) ⟨hx, hb, hml, hown, hts⟩ (fun sz => dm_X2_push l hlt dC dI (fun k => a (k + 1)) (fun k => ac (k + 1)) n (y1) (0) s0.2 hq sz) (cwV 2 hts gi_dm_X2_takeOperand_4 rfl rfl rfl (by decide +kernel) ⟨Nat.le_of_ble_eq_true rfl, Nat.le_of_ble_eq_true rfl⟩) hPc hDc hKc hS hA hN (va_recv hKc hPc (ci := 3) (q0 := 0) rfl rfl) rfl hl.1 rfl (Nat.le_of_ble_eq_true rfl) dX2_takeOperand_111 (fun H locs hP1 hD1 hk1 hS => ?_)
  obtain ⟨hP, hD⟩ := dn_X2s_1 hP hD hzA hk1 hP1 hD1
  obtain ⟨s28, es28, h⟩ := nd_let_e h
  have hP : va_P (dC, dI) vwCl (dw_X2s a ac s28) H := by rw [es28]; exact hP
  have hD : va_D A (dw_X2s a ac s28) := by rw [es28]; exact hD
  refine lv_iconst (v := 1) hx hb dX2_takeOperand_114 (by decide) ?_
  refine lv_istore_n (lv' := [(1, .int 1), (0, .ref (a 1))]) hx hb dX2_takeOperand_115 rfl hl (by decide) rfl (fun ls hl => ?_)
  refine lv_goto (tgt := 169) hx hb dX2_takeOperand_116 (by decide) ?_
  exact (db_X2_takeOperand_169 C K) (1) s28 _ _ _ h hP hD hS (lv_sub hl [1, 0] rfl)
set_option maxHeartbeats 40000000 in
set_option maxRecDepth 100000 in
theorem db_X2_takeOperand_84 {p : Program} {l : Launch} {e : Env} {s : State} {m : MethodId} {args : Array Value} {below : List Frame} {meth : Method} {c : Code} {Q : State → Prop} {A : Nat → Prop} {dC : Nat → ClassId} {dI : Nat → Nat → Nat} {a : Nat → Nat} {ac : Nat → ClassId} {n : Nat} {r : Int32 × (St × (St))} (C : nd_C p l s m args c A (dC, dI) cX2_takeOperand 2 RX2 ow_dm_X2_takeOperand (dk_X2s ac)) (K : nd_Ki p l e (headSpec ow_dm_X2_takeOperand ({ frames := 8, cells := 0, slots := 0, locals := 175 })).room s m args below meth c Q A (dC, dI) cX2_takeOperand .boolean (St × (St)) (dw_X2s a ac) r) : dj_X2_takeOperand_84 p l e s m args below meth c Q A dC dI a ac (df_X2_takeOperand_84 n (a 0)) r := by
  obtain ⟨hlt, hx, hb, hml, hown, hts, hN, hA, hK⟩ := id C
  intro s0 H locs ls h hP hD hS hl
  unfold df_X2_takeOperand_84 at h
  refine lv_aload_n hx hb dX2_takeOperand_84 rfl (lv_at hl 0 rfl) ?_
  obtain ⟨s21, hq, h⟩ := nd_b1_e h
  have hPc := dp_X2s_1 hP
  have hDc := dd_X2s_1 hD
  have hKc := dy_X2s_1 hK
  have hFc := nd_rs hDc hS hA
  have hzA : ∀ q : Nat, H.size ≤ q → A q := fun q h => hA q (Nat.le_trans hS.1 h)
  refine nd_cVv (As := []) (rest := []) (w' := dw_X2c (fun k => a (k + 1)) (fun k => ac (k + 1)) s21) ⟨hx, hb, hml, hown, hts⟩ (fun sz => dm_X2_part l hlt dC dI (fun k => a (k + 1)) (fun k => ac (k + 1)) n  s0.2 hq sz) (cwV 0 hts gi_dm_X2_takeOperand_3 rfl rfl rfl (by decide +kernel) ⟨Nat.le_of_ble_eq_true rfl, Nat.le_of_ble_eq_true rfl⟩) hPc hDc hKc hS hA hN (va_recv hKc hPc (ci := 3) (q0 := 0) rfl rfl) rfl hl.1 rfl (Nat.le_of_ble_eq_true rfl) dX2_takeOperand_85 (fun H locs hP1 hD1 hk1 hS => ?_)
  obtain ⟨hP, hD⟩ := dn_X2s_1 hP hD hzA hk1 hP1 hD1
  obtain ⟨s23, es23, h⟩ := nd_let_e h
  have hP : va_P (dC, dI) vwCl (dw_X2s a ac s23) H := by rw [es23]; exact hP
  have hD : va_D A (dw_X2s a ac s23) := by rw [es23]; exact hD
  refine lv_aload_n hx hb dX2_takeOperand_88 rfl (lv_at hl 0 rfl) ?_
  refine lv_aload_n hx hb dX2_takeOperand_89 rfl (lv_at hl 0 rfl) ?_
  refine va_get (D := (dC, dI)) (ci := 3) (v := .long (sL s23.2 0)) (C := RX2) (T := TX2) (N := 20) hx hb hts hi_dm_X2_takeOperand_X2 hown hK hP 1 rfl rfl 17 (by decide) (hts (.fieldLink RX2 110 "TimeMachine$Condition" "number" "J") (List.mem_of_getElem? (i := 9) rfl)) (fun _ h9 => h9) rfl dX2_takeOperand_90 ?_
  refine lv_ldc2 hx hb hown (hts (.constantLong RX2 167 (15)) (List.mem_of_getElem? (i := 19) rfl)) dX2_takeOperand_93 ?_
  refine W.lcmp hx hb dX2_takeOperand_96 ?_
  refine lv_if_ne (tgt := 105) hx hb dX2_takeOperand_97 (by decide) (fun c24 => ?_) (fun c24 => ?_)
  · have h := nd_neg h c24
    refine lv_aload_n hx hb dX2_takeOperand_105 rfl (lv_at hl 0 rfl) ?_
    refine va_get (D := (dC, dI)) (ci := 3) (v := .long (sL s23.2 0)) (C := RX2) (T := TX2) (N := 20) hx hb hts hi_dm_X2_takeOperand_X2 hown hK hP 1 rfl rfl 17 (by decide) (hts (.fieldLink RX2 110 "TimeMachine$Condition" "number" "J") (List.mem_of_getElem? (i := 9) rfl)) (fun _ h9 => h9) rfl dX2_takeOperand_106 ?_
    refine lv_l2i hx hb dX2_takeOperand_109 rfl ?_
    exact (db_X2_takeOperand_110 C K) (((sL s23.2 0).toInt32)) s23 _ _ _ h hP hD hS (lv_sub hl [0] rfl)
  · have h := nd_pos h c24
    refine lv_bipush (v := 20) hx hb dX2_takeOperand_100 (by decide) ?_
    refine lv_goto (tgt := 110) hx hb dX2_takeOperand_102 (by decide) ?_
    exact (db_X2_takeOperand_110 C K) (20) s23 _ _ _ h hP hD hS (lv_sub hl [0] rfl)
set_option maxHeartbeats 40000000 in
set_option maxRecDepth 100000 in
theorem db_X2_takeOperand_0 {p : Program} {l : Launch} {e : Env} {s : State} {m : MethodId} {args : Array Value} {below : List Frame} {meth : Method} {c : Code} {Q : State → Prop} {A : Nat → Prop} {dC : Nat → ClassId} {dI : Nat → Nat → Nat} {a : Nat → Nat} {ac : Nat → ClassId} {n : Nat} {r : Int32 × (St × (St))} (C : nd_C p l s m args c A (dC, dI) cX2_takeOperand 2 RX2 ow_dm_X2_takeOperand (dk_X2s ac)) (K : nd_Ki p l e (headSpec ow_dm_X2_takeOperand ({ frames := 8, cells := 0, slots := 0, locals := 175 })).room s m args below meth c Q A (dC, dI) cX2_takeOperand .boolean (St × (St)) (dw_X2s a ac) r) : dj_X2_takeOperand_0 p l e s m args below meth c Q A dC dI a ac (df_X2_takeOperand_0 n (a 0)) r := by
  obtain ⟨hlt, hx, hb, hml, hown, hts, hN, hA, hK⟩ := id C
  intro s0 H locs ls h hP hD hS hl
  unfold df_X2_takeOperand_0 at h
  refine lv_iconst (v := 0) hx hb dX2_takeOperand_0 (by decide) ?_
  refine lv_istore_n (lv' := [(1, .int 0), (0, .ref (a 1))]) hx hb dX2_takeOperand_1 rfl hl (by decide) rfl (fun ls hl => ?_)
  refine lv_aload_n hx hb dX2_takeOperand_2 rfl (lv_at hl 1 rfl) ?_
  refine va_get (D := (dC, dI)) (ci := 3) (v := .int (sI s0.2 6)) (C := RX2) (T := TX2) (N := 20) hx hb hts hi_dm_X2_takeOperand_X2 hown hK hP 1 rfl rfl 15 (by decide) (hts (.fieldLink RX2 77 "TimeMachine$Condition" "kind" "I") (List.mem_of_getElem? (i := 1) rfl)) (fun _ h9 => h9) rfl dX2_takeOperand_3 ?_
  refine lv_iconst (v := 1) hx hb dX2_takeOperand_6 (by decide) ?_
  refine lv_icmp_ne (tgt := 27) hx hb dX2_takeOperand_7 (by decide) (fun c1 => ?_) (fun c1 => ?_)
  · have h := nd_neg h c1
    refine lv_aload_n hx hb dX2_takeOperand_27 rfl (lv_at hl 1 rfl) ?_
    refine va_get (D := (dC, dI)) (ci := 3) (v := .int (sI s0.2 6)) (C := RX2) (T := TX2) (N := 20) hx hb hts hi_dm_X2_takeOperand_X2 hown hK hP 1 rfl rfl 15 (by decide) (hts (.fieldLink RX2 77 "TimeMachine$Condition" "kind" "I") (List.mem_of_getElem? (i := 1) rfl)) (fun _ h9 => h9) rfl dX2_takeOperand_28 ?_
    refine lv_iconst (v := 2) hx hb dX2_takeOperand_31 (by decide) ?_
    refine lv_icmp_ne (tgt := 43) hx hb dX2_takeOperand_32 (by decide) (fun c2 => ?_) (fun c2 => ?_)
    · have h := nd_neg h c2
      refine lv_aload_n hx hb dX2_takeOperand_43 rfl (lv_at hl 1 rfl) ?_
      refine va_get (D := (dC, dI)) (ci := 3) (v := .int (sI s0.2 6)) (C := RX2) (T := TX2) (N := 20) hx hb hts hi_dm_X2_takeOperand_X2 hown hK hP 1 rfl rfl 15 (by decide) (hts (.fieldLink RX2 77 "TimeMachine$Condition" "kind" "I") (List.mem_of_getElem? (i := 1) rfl)) (fun _ h9 => h9) rfl dX2_takeOperand_44 ?_
      refine lv_iconst (v := 3) hx hb dX2_takeOperand_47 (by decide) ?_
      refine lv_icmp_ne (tgt := 119) hx hb dX2_takeOperand_48 (by decide) (fun c3 => ?_) (fun c3 => ?_)
      · have h := nd_neg h c3
        exact (db_X2_takeOperand_119 C K) (0) s0 _ _ _ h hP hD hS (lv_sub hl [1, 0] rfl)
      · have h := nd_pos h c3
        refine lv_aload_n hx hb dX2_takeOperand_51 rfl (lv_at hl 1 rfl) ?_
        refine va_get (D := (dC, dI)) (ci := 3) (v := .long (sL s0.2 0)) (C := RX2) (T := TX2) (N := 20) hx hb hts hi_dm_X2_takeOperand_X2 hown hK hP 1 rfl rfl 17 (by decide) (hts (.fieldLink RX2 110 "TimeMachine$Condition" "number" "J") (List.mem_of_getElem? (i := 9) rfl)) (fun _ h9 => h9) rfl dX2_takeOperand_52 ?_
        refine lv_ldc2 hx hb hown (hts (.constantLong RX2 165 (19)) (List.mem_of_getElem? (i := 15) rfl)) dX2_takeOperand_55 ?_
        refine W.lcmp hx hb dX2_takeOperand_58 ?_
        refine lv_if_eq (tgt := 84) hx hb dX2_takeOperand_59 (by decide) (fun c19 => ?_) (fun c19 => ?_)
        · have h := nd_pos h c19
          exact (db_X2_takeOperand_84 C K)  s0 _ _ _ h hP hD hS (lv_sub hl [1] rfl)
        · have h := nd_neg h c19
          refine lv_aload_n hx hb dX2_takeOperand_62 rfl (lv_at hl 1 rfl) ?_
          refine va_get (D := (dC, dI)) (ci := 3) (v := .long (sL s0.2 0)) (C := RX2) (T := TX2) (N := 20) hx hb hts hi_dm_X2_takeOperand_X2 hown hK hP 1 rfl rfl 17 (by decide) (hts (.fieldLink RX2 110 "TimeMachine$Condition" "number" "J") (List.mem_of_getElem? (i := 9) rfl)) (fun _ h9 => h9) rfl dX2_takeOperand_63 ?_
          refine lv_ldc2 hx hb hown (hts (.constantLong RX2 167 (15)) (List.mem_of_getElem? (i := 19) rfl)) dX2_takeOperand_66 ?_
          refine W.lcmp hx hb dX2_takeOperand_69 ?_
          refine lv_if_eq (tgt := 84) hx hb dX2_takeOperand_70 (by decide) (fun c29 => ?_) (fun c29 => ?_)
          · have h := nd_pos h c29
            exact (db_X2_takeOperand_84 C K)  s0 _ _ _ h hP hD hS (lv_sub hl [1] rfl)
          · have h := nd_neg h c29
            refine lv_aload_n hx hb dX2_takeOperand_73 rfl (lv_at hl 1 rfl) ?_
            refine va_get (D := (dC, dI)) (ci := 3) (v := .long (sL s0.2 0)) (C := RX2) (T := TX2) (N := 20) hx hb hts hi_dm_X2_takeOperand_X2 hown hK hP 1 rfl rfl 17 (by decide) (hts (.fieldLink RX2 110 "TimeMachine$Condition" "number" "J") (List.mem_of_getElem? (i := 9) rfl)) (fun _ h9 => h9) rfl dX2_takeOperand_74 ?_
            refine lv_ldc2 hx hb hown (hts (.constantLong RX2 169 (21)) (List.mem_of_getElem? (i := 23) rfl)) dX2_takeOperand_77 ?_
            refine W.lcmp hx hb dX2_takeOperand_80 ?_
            refine lv_if_ne (tgt := 119) hx hb dX2_takeOperand_81 (by decide) (fun c30 => ?_) (fun c30 => ?_)
            · have h := nd_neg h c30
              exact (db_X2_takeOperand_119 C K) (0) s0 _ _ _ h hP hD hS (lv_sub hl [1, 0] rfl)
            · have h := nd_pos h c30
              exact (db_X2_takeOperand_84 C K)  s0 _ _ _ h hP hD hS (lv_sub hl [1] rfl)
    · have h := nd_pos h c2
      refine lv_aload_n hx hb dX2_takeOperand_35 rfl (lv_at hl 1 rfl) ?_
      obtain ⟨q31, s32, hq, h⟩ := nd_b2_e h
      have hPc := hP
      have hDc := hD
      have hKc := hK
      have hFc := nd_rs hD hS hA
      refine nd_cVi (As := []) (rest := []) (q := q31) (w' := dw_X2s a ac s32) ⟨hx, hb, hml, hown, hts⟩ (fun sz => dm_X2_takeWord l hlt dC dI a ac n  s0 hq sz) (cwV 0 hts gi_dm_X2_takeOperand_5 rfl rfl rfl (by decide +kernel) ⟨Nat.le_of_ble_eq_true rfl, Nat.le_of_ble_eq_true rfl⟩) hPc hDc hKc hS hA hN (va_recv hKc hPc (ci := 3) (q0 := 1) rfl rfl) rfl hl.1 rfl (Nat.le_of_ble_eq_true rfl) dX2_takeOperand_36 (fun H locs hP1 hD1 hk1 hS => ?_)
      have hP := hP1
      have hD := hD1.weaken (fun k q _ h => hFc q.1 h)
      refine lv_istore_n (lv' := [(1, .int q31), (0, .ref (a 1))]) hx hb dX2_takeOperand_39 rfl hl (by decide) rfl (fun ls hl => ?_)
      refine lv_goto (tgt := 169) hx hb dX2_takeOperand_40 (by decide) ?_
      exact (db_X2_takeOperand_169 C K) (q31) s32 _ _ _ h hP hD hS (lv_sub hl [1, 0] rfl)
  · have h := nd_pos h c1
    refine lv_aload_n hx hb dX2_takeOperand_10 rfl (lv_at hl 1 rfl) ?_
    obtain ⟨s35, hq, h⟩ := nd_b1_e h
    have hPc := dp_X2s_1 hP
    have hDc := dd_X2s_1 hD
    have hKc := dy_X2s_1 hK
    have hFc := nd_rs hDc hS hA
    have hzA : ∀ q : Nat, H.size ≤ q → A q := fun q h => hA q (Nat.le_trans hS.1 h)
    refine nd_cVv (As := []) (rest := []) (w' := dw_X2c (fun k => a (k + 1)) (fun k => ac (k + 1)) s35) ⟨hx, hb, hml, hown, hts⟩ (fun sz => dm_X2_part l hlt dC dI (fun k => a (k + 1)) (fun k => ac (k + 1)) n  s0.2 hq sz) (cwV 0 hts gi_dm_X2_takeOperand_3 rfl rfl rfl (by decide +kernel) ⟨Nat.le_of_ble_eq_true rfl, Nat.le_of_ble_eq_true rfl⟩) hPc hDc hKc hS hA hN (va_recv hKc hPc (ci := 3) (q0 := 0) rfl rfl) rfl hl.1 rfl (Nat.le_of_ble_eq_true rfl) dX2_takeOperand_11 (fun H locs hP1 hD1 hk1 hS => ?_)
    obtain ⟨hP, hD⟩ := dn_X2s_1 hP hD hzA hk1 hP1 hD1
    obtain ⟨s37, es37, h⟩ := nd_let_e h
    have hP : va_P (dC, dI) vwCl (dw_X2s a ac s37) H := by rw [es37]; exact hP
    have hD : va_D A (dw_X2s a ac s37) := by rw [es37]; exact hD
    refine lv_aload_n hx hb dX2_takeOperand_14 rfl (lv_at hl 1 rfl) ?_
    refine lv_bipush (v := 30) hx hb dX2_takeOperand_15 (by decide) ?_
    refine lv_aload_n hx hb dX2_takeOperand_17 rfl (lv_at hl 1 rfl) ?_
    refine va_get (D := (dC, dI)) (ci := 3) (v := .long (sL s37.2 0)) (C := RX2) (T := TX2) (N := 20) hx hb hts hi_dm_X2_takeOperand_X2 hown hK hP 1 rfl rfl 17 (by decide) (hts (.fieldLink RX2 110 "TimeMachine$Condition" "number" "J") (List.mem_of_getElem? (i := 9) rfl)) (fun _ h9 => h9) rfl dX2_takeOperand_18 ?_
    obtain ⟨s39, hq, h⟩ := nd_b1_e h
    have hPc := dp_X2s_1 hP
    have hDc := dd_X2s_1 hD
    have hKc := dy_X2s_1 hK
    have hFc := nd_rs hDc hS hA
    have hzA : ∀ q : Nat, H.size ≤ q → A q := fun q h => hA q (Nat.le_trans hS.1 h)
    refine nd_cVv (As := [.int 30, .long (sL s37.2 0)]) (rest := []) (w' := dw_X2c (fun k => a (k + 1)) (fun k => ac (k + 1)) s39) ⟨hx, hb, hml, hown, hts⟩ (fun sz => dm_X2_emit l hlt dC dI (fun k => a (k + 1)) (fun k => ac (k + 1)) n (30) ((sL s37.2 0)) s37.2 hq sz) (cwV 2 hts gi_dm_X2_takeOperand_6 rfl rfl rfl (by decide +kernel) ⟨Nat.le_of_ble_eq_true rfl, Nat.le_of_ble_eq_true rfl⟩) hPc hDc hKc hS hA hN (va_recv hKc hPc (ci := 3) (q0 := 0) rfl rfl) rfl hl.1 rfl (Nat.le_of_ble_eq_true rfl) dX2_takeOperand_21 (fun H locs hP1 hD1 hk1 hS => ?_)
    obtain ⟨hP, hD⟩ := dn_X2s_1 hP hD hzA hk1 hP1 hD1
    obtain ⟨s41, es41, h⟩ := nd_let_e h
    have hP : va_P (dC, dI) vwCl (dw_X2s a ac s41) H := by rw [es41]; exact hP
    have hD : va_D A (dw_X2s a ac s41) := by rw [es41]; exact hD
    refine lv_goto (tgt := 169) hx hb dX2_takeOperand_24 (by decide) ?_
    exact (db_X2_takeOperand_169 C K) (0) s41 _ _ _ h hP hD hS (lv_sub hl [1, 0] rfl)

