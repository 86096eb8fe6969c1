def ow_dm_X2_isLetter : List Cond := .code yX2_isLetter cX2_isLetter 1 (some .boolean) :: ([] ++ [])
theorem gd_dm_X2_isLetter : ∀ w ∈ ow_dm_X2_isLetter, (w.onTables && w.keeps) = true ∨ ∃ ty, w = Cond.arrayClass ty := List.forall_mem_cons.mpr ⟨good_of_word rfl, List.forall_mem_append.mpr ⟨fun w h => good_of_word (List.all_eq_true.mp (by decide +kernel) w h), fun _ h => nomatch h⟩⟩
def dj_X2_isLetter_29 (p : Program) (l : Launch) (e : Env) (s : State) (m : MethodId) (args : Array Value) (below : List Frame) (meth : Method) (c : Code) (Q : State → Prop) (A : Nat → Prop) (dC : Nat → ClassId) (dI : Nat → Nat → Nat) (a : Nat → Nat) (ac : Nat → ClassId) (g : Int32 → (Unit) → Option (Int32 × (Unit))) (r : Int32 × (Unit)) : Prop := ∀ (y0 : Int32) (s0 : Unit) (H : Heap) (locs : List Loc) (ls : Array Slot), g y0 s0 = some r → va_P (dC, dI) vwCl (dw_P a ac s0) H → va_D A (dw_P a ac s0) → va_S A s.heap H locs → lv_has ls 1 [] → W p l e (headSpec ow_dm_X2_isLetter ({ frames := 0, cells := 0, slots := 0, locals := 0 })).room s m args below meth c H locs 0 0 Q (F0 m 29 ls [.int y0])
def dj_X2_isLetter_28 (p : Program) (l : Launch) (e : Env) (s : State) (m : MethodId) (args : Array Value) (below : List Frame) (meth : Method) (c : Code) (Q : State → Prop) (A : Nat → Prop) (dC : Nat → ClassId) (dI : Nat → Nat → Nat) (a : Nat → Nat) (ac : Nat → ClassId) (g : (Unit) → Option (Int32 × (Unit))) (r : Int32 × (Unit)) : Prop := ∀ (s0 : Unit) (H : Heap) (locs : List Loc) (ls : Array Slot), g s0 = some r → va_P (dC, dI) vwCl (dw_P a ac s0) H → va_D A (dw_P a ac s0) → va_S A s.heap H locs → lv_has ls 1 [] → W p l e (headSpec ow_dm_X2_isLetter ({ frames := 0, cells := 0, slots := 0, locals := 0 })).room s m args below meth c H locs 0 0 Q (F0 m 28 ls [])
def dj_X2_isLetter_24 (p : Program) (l : Launch) (e : Env) (s : State) (m : MethodId) (args : Array Value) (below : List Frame) (meth : Method) (c : Code) (Q : State → Prop) (A : Nat → Prop) (dC : Nat → ClassId) (dI : Nat → Nat → Nat) (a : Nat → Nat) (ac : Nat → ClassId) (g : (Unit) → Option (Int32 × (Unit))) (r : Int32 × (Unit)) : Prop := ∀ (s0 : Unit) (H : Heap) (locs : List Loc) (ls : Array Slot), g s0 = some r → va_P (dC, dI) vwCl (dw_P a ac s0) H → va_D A (dw_P a ac s0) → va_S A s.heap H locs → lv_has ls 1 [] → W p l e (headSpec ow_dm_X2_isLetter ({ frames := 0, cells := 0, slots := 0, locals := 0 })).room s m args below meth c H locs 0 0 Q (F0 m 24 ls [])
def dj_X2_isLetter_12 (p : Program) (l : Launch) (e : Env) (s : State) (m : MethodId) (args : Array Value) (below : List Frame) (meth : Method) (c : Code) (Q : State → Prop) (A : Nat → Prop) (dC : Nat → ClassId) (dI : Nat → Nat → Nat) (a : Nat → Nat) (ac : Nat → ClassId) (g : Int32 → (Unit) → Option (Int32 × (Unit))) (r : Int32 × (Unit)) : Prop := ∀ (x0 : Int32) (s0 : Unit) (H : Heap) (locs : List Loc) (ls : Array Slot), g x0 s0 = some r → va_P (dC, dI) vwCl (dw_P a ac s0) H → va_D A (dw_P a ac s0) → va_S A s.heap H locs → lv_has ls 1 [(0, .int x0)] → W p l e (headSpec ow_dm_X2_isLetter ({ frames := 0, cells := 0, slots := 0, locals := 0 })).room s m args below meth c H locs 0 0 Q (F0 m 12 ls [])
def dj_X2_isLetter_0 (p : Program) (l : Launch) (e : Env) (s : State) (m : MethodId) (args : Array Value) (below : List Frame) (meth : Method) (c : Code) (Q : State → Prop) (A : Nat → Prop) (dC : Nat → ClassId) (dI : Nat → Nat → Nat) (a : Nat → Nat) (ac : Nat → ClassId) (g : Int32 → (Unit) → Option (Int32 × (Unit))) (r : Int32 × (Unit)) : Prop := ∀ (v0 : Int32) (s0 : Unit) (H : Heap) (locs : List Loc) (ls : Array Slot), g v0 s0 = some r → va_P (dC, dI) vwCl (dw_P a ac s0) H → va_D A (dw_P a ac s0) → va_S A s.heap H locs → lv_has ls 1 [(0, .int v0)] → W p l e (headSpec ow_dm_X2_isLetter ({ frames := 0, cells := 0, slots := 0, locals := 0 })).room s m args below meth c H locs 0 0 Q (F0 m 0 ls [])
set_option maxHeartbeats 40000000 in
set_option maxRecDepth 100000 in
theorem db_X2_isLetter_29 {p : Program} {l : Launch} {e : Env} {s : State} {m : MethodId} {args : Array Value} {below : List Frame} {meth : Method} {c : Code} {Q : State → Prop} {A : Nat → Prop} {dC : Nat → ClassId} {dI : Nat → Nat → Nat} {a : Nat → Nat} {ac : Nat → ClassId} {n : Nat} {r : Int32 × (Unit)} (C : nd_C p l s m args c A (dC, dI) cX2_isLetter 1 RX2 ow_dm_X2_isLetter (dk_P ac)) (K : nd_Ki p l e (headSpec ow_dm_X2_isLetter ({ frames := 0, cells := 0, slots := 0, locals := 0 })).room s m args below meth c Q A (dC, dI) cX2_isLetter .boolean (Unit) (dw_P a ac) r) : dj_X2_isLetter_29 p l e s m args below meth c Q A dC dI a ac (df_X2_isLetter_29 n) r := by
  obtain ⟨hlt, hx, hb, hml, hown, hts, hN, hA, hK⟩ := id C
  intro y0 s0 H locs ls h hP hD hS hl
  unfold df_X2_isLetter_29 at h
  obtain ⟨n3, h⟩ := nd_z_e ⟨_, rfl⟩ h
  exact K _ _ _ _ _ _ dX2_isLetter_29 n3 (Option.some.inj h).symm hP hD hS
set_option maxHeartbeats 40000000 in
set_option maxRecDepth 100000 in
theorem db_X2_isLetter_28 {p : Program} {l : Launch} {e : Env} {s : State} {m : MethodId} {args : Array Value} {below : List Frame} {meth : Method} {c : Code} {Q : State → Prop} {A : Nat → Prop} {dC : Nat → ClassId} {dI : Nat → Nat → Nat} {a : Nat → Nat} {ac : Nat → ClassId} {n : Nat} {r : Int32 × (Unit)} (C : nd_C p l s m args c A (dC, dI) cX2_isLetter 1 RX2 ow_dm_X2_isLetter (dk_P ac)) (K : nd_Ki p l e (headSpec ow_dm_X2_isLetter ({ frames := 0, cells := 0, slots := 0, locals := 0 })).room s m args below meth c Q A (dC, dI) cX2_isLetter .boolean (Unit) (dw_P a ac) r) : dj_X2_isLetter_28 p l e s m args below meth c Q A dC dI a ac (df_X2_isLetter_28 n) r := by
  obtain ⟨hlt, hx, hb, hml, hown, hts, hN, hA, hK⟩ := id C
  intro s0 H locs ls h hP hD hS hl
  unfold df_X2_isLetter_28 at h
  refine lv_iconst (v := 0) hx hb dX2_isLetter_28 (by decide) ?_
  exact (db_X2_isLetter_29 C K) (0) s0 _ _ _ h hP hD hS (lv_sub hl [] rfl)
set_option maxHeartbeats 40000000 in
set_option maxRecDepth 100000 in
theorem db_X2_isLetter_24 {p : Program} {l : Launch} {e : Env} {s : State} {m : MethodId} {args : Array Value} {below : List Frame} {meth : Method} {c : Code} {Q : State → Prop} {A : Nat → Prop} {dC : Nat → ClassId} {dI : Nat → Nat → Nat} {a : Nat → Nat} {ac : Nat → ClassId} {n : Nat} {r : Int32 × (Unit)} (C : nd_C p l s m args c A (dC, dI) cX2_isLetter 1 RX2 ow_dm_X2_isLetter (dk_P ac)) (K : nd_Ki p l e (headSpec ow_dm_X2_isLetter ({ frames := 0, cells := 0, slots := 0, locals := 0 })).room s m args below meth c Q A (dC, dI) cX2_isLetter .boolean (Unit) (dw_P a ac) r) : dj_X2_isLetter_24 p l e s m args below meth c Q A dC dI a ac (df_X2_isLetter_24 n) r := by
  obtain ⟨hlt, hx, hb, hml, hown, hts, hN, hA, hK⟩ := id C
  intro s0 H locs ls h hP hD hS hl
  unfold df_X2_isLetter_24 at h
  refine lv_iconst (v := 1) hx hb dX2_isLetter_24 (by decide) ?_
  refine lv_goto (tgt := 29) hx hb dX2_isLetter_25 (by decide) ?_
  exact (db_X2_isLetter_29 C K) (1) s0 _ _ _ h hP hD hS (lv_sub hl [] rfl)
set_option maxHeartbeats 40000000 in
set_option maxRecDepth 100000 in
theorem db_X2_isLetter_12 {p : Program} {l : Launch} {e : Env} {s : State} {m : MethodId} {args : Array Value} {below : List Frame} {meth : Method} {c : Code} {Q : State → Prop} {A : Nat → Prop} {dC : Nat → ClassId} {dI : Nat → Nat → Nat} {a : Nat → Nat} {ac : Nat → ClassId} {n : Nat} {r : Int32 × (Unit)} (C : nd_C p l s m args c A (dC, dI) cX2_isLetter 1 RX2 ow_dm_X2_isLetter (dk_P ac)) (K : nd_Ki p l e (headSpec ow_dm_X2_isLetter ({ frames := 0, cells := 0, slots := 0, locals := 0 })).room s m args below meth c Q A (dC, dI) cX2_isLetter .boolean (Unit) (dw_P a ac) r) : dj_X2_isLetter_12 p l e s m args below meth c Q A dC dI a ac (df_X2_isLetter_12 n) r := by
  obtain ⟨hlt, hx, hb, hml, hown, hts, hN, hA, hK⟩ := id C
  intro x0 s0 H locs ls h hP hD hS hl
  unfold df_X2_isLetter_12 at h
  refine lv_iload_n hx hb dX2_isLetter_12 rfl (lv_at hl 0 rfl) ?_
  refine lv_bipush (v := 65) hx hb dX2_isLetter_13 (by decide) ?_
  refine lv_icmp_lt (tgt := 28) hx hb dX2_isLetter_15 (by decide) (fun c2 => ?_) (fun c2 => ?_)
  · have h := nd_pos h c2
    exact (db_X2_isLetter_28 C K)  s0 _ _ _ h hP hD hS (lv_sub hl [] rfl)
  · have h := nd_neg h c2
    refine lv_iload_n hx hb dX2_isLetter_18 rfl (lv_at hl 0 rfl) ?_
    refine lv_bipush (v := 90) hx hb dX2_isLetter_19 (by decide) ?_
    refine lv_icmp_gt (tgt := 28) hx hb dX2_isLetter_21 (by decide) (fun c4 => ?_) (fun c4 => ?_)
    · have h := nd_pos h c4
      exact (db_X2_isLetter_28 C K)  s0 _ _ _ h hP hD hS (lv_sub hl [] rfl)
    · have h := nd_neg h c4
      exact (db_X2_isLetter_24 C K)  s0 _ _ _ h hP hD hS (lv_sub hl [] rfl)
set_option maxHeartbeats 40000000 in
set_option maxRecDepth 100000 in
theorem db_X2_isLetter_0 {p : Program} {l : Launch} {e : Env} {s : State} {m : MethodId} {args : Array Value} {below : List Frame} {meth : Method} {c : Code} {Q : State → Prop} {A : Nat → Prop} {dC : Nat → ClassId} {dI : Nat → Nat → Nat} {a : Nat → Nat} {ac : Nat → ClassId} {n : Nat} {r : Int32 × (Unit)} (C : nd_C p l s m args c A (dC, dI) cX2_isLetter 1 RX2 ow_dm_X2_isLetter (dk_P ac)) (K : nd_Ki p l e (headSpec ow_dm_X2_isLetter ({ frames := 0, cells := 0, slots := 0, locals := 0 })).room s m args below meth c Q A (dC, dI) cX2_isLetter .boolean (Unit) (dw_P a ac) r) : dj_X2_isLetter_0 p l e s m args below meth c Q A dC dI a ac (df_X2_isLetter_0 n) r := by
  obtain ⟨hlt, hx, hb, hml, hown, hts, hN, hA, hK⟩ := id C
  intro v0 s0 H locs ls h hP hD hS hl
  unfold df_X2_isLetter_0 at h
  refine lv_iload_n hx hb dX2_isLetter_0 rfl (lv_at hl 0 rfl) ?_
  refine lv_bipush (v := 97) hx hb dX2_isLetter_1 (by decide) ?_
  refine lv_icmp_lt (tgt := 12) hx hb dX2_isLetter_3 (by decide) (fun c1 => ?_) (fun c1 => ?_)
  · have h := nd_pos h c1
    exact (db_X2_isLetter_12 C K) (v0) s0 _ _ _ h hP hD hS (lv_sub hl [0] rfl)
  · have h := nd_neg h c1
    refine lv_iload_n hx hb dX2_isLetter_6 rfl (lv_at hl 0 rfl) ?_
    refine lv_bipush (v := 122) hx hb dX2_isLetter_7 (by decide) ?_
    refine lv_icmp_le (tgt := 24) hx hb dX2_isLetter_9 (by decide) (fun c5 => ?_) (fun c5 => ?_)
    · have h := nd_pos h c5
      exact (db_X2_isLetter_24 C K)  s0 _ _ _ h hP hD hS (lv_sub hl [] rfl)
    · have h := nd_neg h c5
      exact (db_X2_isLetter_12 C K) (v0) s0 _ _ _ h hP hD hS (lv_sub hl [0] rfl)
set_option maxHeartbeats 40000000 in
set_option maxRecDepth 100000 in
theorem dm_X2_isLetter (l : Launch) (hlt : l.stackTraces = false) (dC : Nat → ClassId) (dI : Nat → Nat → Nat) (a : Nat → Nat) (ac : Nat → ClassId) (n : Nat) (v0 : Int32) (s0 : Unit) {r : Int32 × (Unit)} (h : df_X2_isLetter n v0 s0 = some r) (sz : Nat) : Met l yX2_isLetter ow_dm_X2_isLetter ({ frames := 0, cells := 0, slots := 0, locals := 0 }) (va_Pc [.int v0] (fun U => U.heap.size = sz ∧ va_P (dC, dI) vwCl (dw_P a ac s0) U.heap ∧ va_K (dC, dI) vwCl (dk_P ac) U ∧ va_D (fun _ => True) (dw_P a ac s0) ∧ nv_E (va_A (dw_P a ac s0) sz) U)) (va_Qi (fun x _ => x = r.1) (fun (_ : Unit) t => va_P (dC, dI) vwCl (dw_P a ac r.2) t.heap ∧ va_K (dC, dI) vwCl (dk_P ac) t ∧ va_D (va_A (dw_P a ac s0) sz) (dw_P a ac r.2)) (va_A (dw_P a ac s0) sz)) 0 0 (va_A (dw_P a ac s0) sz) := by
  refine Met.ofW (cc := cX2_isLetter) (maxL := 1) (ret := (some .boolean)) (by decide) rfl ?_
  intro p e s m args below meth c s₁ B hml hv
  obtain ⟨rfl, hsz, hP, hK, hD0, hN⟩ := hv
  have hx := B.exec
  have hb := B.bytes
  have hr := B.returns
  have hts := atoms_spec (ws := ow_dm_X2_isLetter) B.pre
  have hown : s.vm.findClass RX2 = some m.cls := findClass_of_methodNamed B.named
  have hlocks := B.notSynchronized
  subst hsz
  have hD := hD0.self (sz := s.heap.size)
  generalize hAe : va_A (dw_P a ac s0) s.heap.size = A at hD hN ⊢
  have hA : ∀ q : Nat, s.heap.size ≤ q → A q := fun q h => by rw [← hAe]; exact Or.inr h
  have hl := lv_entry ([.int v0]) (n := 1) (Nat.le_of_ble_eq_true rfl)
  rw [lg_entry_eq]
  generalize (lg_sl ([.int v0]) ++ List.replicate (1 - (lg_sl ([.int v0])).length) Slot.unset).toArray = ls at hl ⊢
  have hl : lv_has ls 1 [(0, .int v0)] := hl
  exact db_X2_isLetter_0 (dC := dC) (dI := dI) (a := a) (ac := ac) (n := n) (r := r) ⟨hlt, hx, hb, hml, hown, hts, hN, hA, hK⟩ (fun pc v τ H locs ls d z er hP hD hS => by subst er; exact W.zret (v := v) hx hb hr z (fun t ht hW => ⟨⟨v, (), rfl, rfl, by rw [ht]; exact hP, va_K.moved hW.alike hK, hD⟩, hS.F ht⟩) hS.2.2 d) v0 s0 _ _ _ h hP hD va_S.rf (lv_sub hl [0] rfl)
def ow_dm_X2_isDigit : List Cond := .code yX2_isDigit cX2_isDigit 1 (some .boolean) :: ([] ++ [])
theorem gd_dm_X2_isDigit : ∀ w ∈ ow_dm_X2_isDigit, (w.onTables && w.keeps) = true ∨ ∃ ty, w = Cond.arrayClass ty := List.forall_mem_cons.mpr ⟨good_of_word rfl, List.forall_mem_append.mpr ⟨fun w h => good_of_word (List.all_eq_true.mp (by decide +kernel) w h), fun _ h => nomatch h⟩⟩
def dj_X2_isDigit_17 (p : Program) (l : Launch) (e : Env) (s : State) (m : MethodId) (args : Array Value) (below : List Frame) (meth : Method) (c : Code) (Q : State → Prop) (A : Nat → Prop) (dC : Nat → ClassId) (dI : Nat → Nat → Nat) (a : Nat → Nat) (ac : Nat → ClassId) (g : Int32 → (Unit) → Option (Int32 × (Unit))) (r : Int32 × (Unit)) : Prop := ∀ (y0 : Int32) (s0 : Unit) (H : Heap) (locs : List Loc) (ls : Array Slot), g y0 s0 = some r → va_P (dC, dI) vwCl (dw_P a ac s0) H → va_D A (dw_P a ac s0) → va_S A s.heap H locs → lv_has ls 1 [] → W p l e (headSpec ow_dm_X2_isDigit ({ frames := 0, cells := 0, slots := 0, locals := 0 })).room s m args below meth c H locs 0 0 Q (F0 m 17 ls [.int y0])
def dj_X2_isDigit_16 (p : Program) (l : Launch) (e : Env) (s : State) (m : MethodId) (args : Array Value) (below : List Frame) (meth : Method) (c : Code) (Q : State → Prop) (A : Nat → Prop) (dC : Nat → ClassId) (dI : Nat → Nat → Nat) (a : Nat → Nat) (ac : Nat → ClassId) (g : (Unit) → Option (Int32 × (Unit))) (r : Int32 × (Unit)) : Prop := ∀ (s0 : Unit) (H : Heap) (locs : List Loc) (ls : Array Slot), g s0 = some r → va_P (dC, dI) vwCl (dw_P a ac s0) H → va_D A (dw_P a ac s0) → va_S A s.heap H locs → lv_has ls 1 [] → W p l e (headSpec ow_dm_X2_isDigit ({ frames := 0, cells := 0, slots := 0, locals := 0 })).room s m args below meth c H locs 0 0 Q (F0 m 16 ls [])
def dj_X2_isDigit_0 (p : Program) (l : Launch) (e : Env) (s : State) (m : MethodId) (args : Array Value) (below : List Frame) (meth : Method) (c : Code) (Q : State → Prop) (A : Nat → Prop) (dC : Nat → ClassId) (dI : Nat → Nat → Nat) (a : Nat → Nat) (ac : Nat → ClassId) (g : Int32 → (Unit) → Option (Int32 × (Unit))) (r : Int32 × (Unit)) : Prop := ∀ (v0 : Int32) (s0 : Unit) (H : Heap) (locs : List Loc) (ls : Array Slot), g v0 s0 = some r → va_P (dC, dI) vwCl (dw_P a ac s0) H → va_D A (dw_P a ac s0) → va_S A s.heap H locs → lv_has ls 1 [(0, .int v0)] → W p l e (headSpec ow_dm_X2_isDigit ({ frames := 0, cells := 0, slots := 0, locals := 0 })).room s m args below meth c H locs 0 0 Q (F0 m 0 ls [])
set_option maxHeartbeats 40000000 in
set_option maxRecDepth 100000 in
theorem db_X2_isDigit_17 {p : Program} {l : Launch} {e : Env} {s : State} {m : MethodId} {args : Array Value} {below : List Frame} {meth : Method} {c : Code} {Q : State → Prop} {A : Nat → Prop} {dC : Nat → ClassId} {dI : Nat → Nat → Nat} {a : Nat → Nat} {ac : Nat → ClassId} {n : Nat} {r : Int32 × (Unit)} (C : nd_C p l s m args c A (dC, dI) cX2_isDigit 1 RX2 ow_dm_X2_isDigit (dk_P ac)) (K : nd_Ki p l e (headSpec ow_dm_X2_isDigit ({ frames := 0, cells := 0, slots := 0, locals := 0 })).room s m args below meth c Q A (dC, dI) cX2_isDigit .boolean (Unit) (dw_P a ac) r) : dj_X2_isDigit_17 p l e s m args below meth c Q A dC dI a ac (df_X2_isDigit_17 n) r := by
  obtain ⟨hlt, hx, hb, hml, hown, hts, hN, hA, hK⟩ := id C
  intro y0 s0 H locs ls h hP hD hS hl
  unfold df_X2_isDigit_17 at h
  obtain ⟨n2, h⟩ := nd_z_e ⟨_, rfl⟩ h
  exact K _ _ _ _ _ _ dX2_isDigit_17 n2 (Option.some.inj h).symm hP hD hS
set_option maxHeartbeats 40000000 in
set_option maxRecDepth 100000 in
theorem db_X2_isDigit_16 {p : Program} {l : Launch} {e : Env} {s : State} {m : MethodId} {args : Array Value} {below : List Frame} {meth : Method} {c : Code} {Q : State → Prop} {A : Nat → Prop} {dC : Nat → ClassId} {dI : Nat → Nat → Nat} {a : Nat → Nat} {ac : Nat → ClassId} {n : Nat} {r : Int32 × (Unit)} (C : nd_C p l s m args c A (dC, dI) cX2_isDigit 1 RX2 ow_dm_X2_isDigit (dk_P ac)) (K : nd_Ki p l e (headSpec ow_dm_X2_isDigit ({ frames := 0, cells := 0, slots := 0, locals := 0 })).room s m args below meth c Q A (dC, dI) cX2_isDigit .boolean (Unit) (dw_P a ac) r) : dj_X2_isDigit_16 p l e s m args below meth c Q A dC dI a ac (df_X2_isDigit_16 n) r := by
  obtain ⟨hlt, hx, hb, hml, hown, hts, hN, hA, hK⟩ := id C
  intro s0 H locs ls h hP hD hS hl
  unfold df_X2_isDigit_16 at h
  refine lv_iconst (v := 0) hx hb dX2_isDigit_16 (by decide) ?_
  exact (db_X2_isDigit_17 C K) (0) s0 _ _ _ h hP hD hS (lv_sub hl [] rfl)
set_option maxHeartbeats 40000000 in
set_option maxRecDepth 100000 in
theorem db_X2_isDigit_0 {p : Program} {l : Launch} {e : Env} {s : State} {m : MethodId} {args : Array Value} {below : List Frame} {meth : Method} {c : Code} {Q : State → Prop} {A : Nat → Prop} {dC : Nat → ClassId} {dI : Nat → Nat → Nat} {a : Nat → Nat} {ac : Nat → ClassId} {n : Nat} {r : Int32 × (Unit)} (C : nd_C p l s m args c A (dC, dI) cX2_isDigit 1 RX2 ow_dm_X2_isDigit (dk_P ac)) (K : nd_Ki p l e (headSpec ow_dm_X2_isDigit ({ frames := 0, cells := 0, slots := 0, locals := 0 })).room s m args below meth c Q A (dC, dI) cX2_isDigit .boolean (Unit) (dw_P a ac) r) : dj_X2_isDigit_0 p l e s m args below meth c Q A dC dI a ac (df_X2_isDigit_0 n) r := by
  obtain ⟨hlt, hx, hb, hml, hown, hts, hN, hA, hK⟩ := id C
  intro v0 s0 H locs ls h hP hD hS hl
  unfold df_X2_isDigit_0 at h
  refine lv_iload_n hx hb dX2_isDigit_0 rfl (lv_at hl 0 rfl) ?_
  refine lv_bipush (v := 48) hx hb dX2_isDigit_1 (by decide) ?_
  refine lv_icmp_lt (tgt := 16) hx hb dX2_isDigit_3 (by decide) (fun c1 => ?_) (fun c1 => ?_)
  · have h := nd_pos h c1
    exact (db_X2_isDigit_16 C K)  s0 _ _ _ h hP hD hS (lv_sub hl [] rfl)
  · have h := nd_neg h c1
    refine lv_iload_n hx hb dX2_isDigit_6 rfl (lv_at hl 0 rfl) ?_
    refine lv_bipush (v := 57) hx hb dX2_isDigit_7 (by decide) ?_
    refine lv_icmp_gt (tgt := 16) hx hb dX2_isDigit_9 (by decide) (fun c3 => ?_) (fun c3 => ?_)
    · have h := nd_pos h c3
      exact (db_X2_isDigit_16 C K)  s0 _ _ _ h hP hD hS (lv_sub hl [] rfl)
    · have h := nd_neg h c3
      refine lv_iconst (v := 1) hx hb dX2_isDigit_12 (by decide) ?_
      refine lv_goto (tgt := 17) hx hb dX2_isDigit_13 (by decide) ?_
      exact (db_X2_isDigit_17 C K) (1) s0 _ _ _ h hP hD hS (lv_sub hl [] rfl)
set_option maxHeartbeats 40000000 in
set_option maxRecDepth 100000 in
theorem dm_X2_isDigit (l : Launch) (hlt : l.stackTraces = false) (dC : Nat → ClassId) (dI : Nat → Nat → Nat) (a : Nat → Nat) (ac : Nat → ClassId) (n : Nat) (v0 : Int32) (s0 : Unit) {r : Int32 × (Unit)} (h : df_X2_isDigit n v0 s0 = some r) (sz : Nat) : Met l yX2_isDigit ow_dm_X2_isDigit ({ frames := 0, cells := 0, slots := 0, locals := 0 }) (va_Pc [.int v0] (fun U => U.heap.size = sz ∧ va_P (dC, dI) vwCl (dw_P a ac s0) U.heap ∧ va_K (dC, dI) vwCl (dk_P ac) U ∧ va_D (fun _ => True) (dw_P a ac s0) ∧ nv_E (va_A (dw_P a ac s0) sz) U)) (va_Qi (fun x _ => x = r.1) (fun (_ : Unit) t => va_P (dC, dI) vwCl (dw_P a ac r.2) t.heap ∧ va_K (dC, dI) vwCl (dk_P ac) t ∧ va_D (va_A (dw_P a ac s0) sz) (dw_P a ac r.2)) (va_A (dw_P a ac s0) sz)) 0 0 (va_A (dw_P a ac s0) sz) := by
  refine Met.ofW (cc := cX2_isDigit) (maxL := 1) (ret := (some .boolean)) (by decide) rfl ?_
  intro p e s m args below meth c s₁ B hml hv
  obtain ⟨rfl, hsz, hP, hK, hD0, hN⟩ := hv
  have hx := B.exec
  have hb := B.bytes
  have hr := B.returns
  have hts := atoms_spec (ws := ow_dm_X2_isDigit) B.pre
  have hown : s.vm.findClass RX2 = some m.cls := findClass_of_methodNamed B.named
  have hlocks := B.notSynchronized
  subst hsz
  have hD := hD0.self (sz := s.heap.size)
  generalize hAe : va_A (dw_P a ac s0) s.heap.size = A at hD hN ⊢
  have hA : ∀ q : Nat, s.heap.size ≤ q → A q := fun q h => by rw [← hAe]; exact Or.inr h
  have hl := lv_entry ([.int v0]) (n := 1) (Nat.le_of_ble_eq_true rfl)
  rw [lg_entry_eq]
  generalize (lg_sl ([.int v0]) ++ List.replicate (1 - (lg_sl ([.int v0])).length) Slot.unset).toArray = ls at hl ⊢
  have hl : lv_has ls 1 [(0, .int v0)] := hl
  exact db_X2_isDigit_0 (dC := dC) (dI := dI) (a := a) (ac := ac) (n := n) (r := r) ⟨hlt, hx, hb, hml, hown, hts, hN, hA, hK⟩ (fun pc v τ H locs ls d z er hP hD hS => by subst er; exact W.zret (v := v) hx hb hr z (fun t ht hW => ⟨⟨v, (), rfl, rfl, by rw [ht]; exact hP, va_K.moved hW.alike hK, hD⟩, hS.F ht⟩) hS.2.2 d) v0 s0 _ _ _ h hP hD va_S.rf (lv_sub hl [0] rfl)
def ow_dm_X2_readNumber : List Cond := .code yX2_readNumber cX2_readNumber 5 none :: ([.fieldLink RX2 49 "TimeMachine$Condition" "at" "I", .fieldLink RX2 90 "TimeMachine$Condition" "from" "I", .fieldLink RX2 110 "TimeMachine$Condition" "number" "J", .fieldLink RX2 35 "TimeMachine$Condition" "source" "[B", .methodLink RX2 97 yX2_isDigit, .static yX2_isDigit, .initialized RX2, .fieldLink RX2 77 "TimeMachine$Condition" "kind" "I", .constantLong RX2 114 (4294967295)] ++ (u_ws RX2 TX2 20 ++ (ow_dm_X2_isDigit ++ [])))
theorem gd_dm_X2_readNumber : ∀ w ∈ ow_dm_X2_readNumber, (w.onTables && w.keeps) = true ∨ ∃ ty, w = Cond.arrayClass ty := List.forall_mem_cons.mpr ⟨good_of_word rfl, List.forall_mem_append.mpr ⟨fun w h => good_of_word (List.all_eq_true.mp (by decide +kernel) w h), List.forall_mem_append.mpr ⟨gu_X2, List.forall_mem_append.mpr ⟨gd_dm_X2_isDigit, fun _ h => nomatch h⟩⟩⟩⟩
theorem hi_dm_X2_readNumber_X2 : ∀ w ∈ u_ws RX2 TX2 20, w ∈ ow_dm_X2_readNumber := fun w h => List.mem_cons_of_mem _ (List.mem_append_right _ (List.mem_append_left _ h))
theorem gi_dm_X2_readNumber_0 : GoodIn ow_dm_X2_readNumber (wsS RX2 97 yX2_isDigit ow_dm_X2_isDigit) := goodIn_app (goodIn_of _ (by decide +kernel)) (fun w h => ⟨List.mem_cons_of_mem _ (List.mem_append_right _ (List.mem_append_right _ (List.mem_append_left _ h))), gd_dm_X2_isDigit w h⟩)
def dj_X2_readNumber_171 (p : Program) (l : Launch) (e : Env) (s : State) (m : MethodId) (args : Array Value) (below : List Frame) (meth : Method) (c : Code) (Q : State → Prop) (A : Nat → Prop) (dC : Nat → ClassId) (dI : Nat → Nat → Nat) (a : Nat → Nat) (ac : Nat → ClassId) (g : (St × (St)) → Option (St × (St))) (r : St × (St)) : Prop := ∀ (s0 : St × (St)) (H : Heap) (locs : List Loc) (ls : Array Slot), g s0 = some r → va_P (dC, dI) vwCl (dw_X2s a ac s0) H → va_D A (dw_X2s a ac s0) → va_S A s.heap H locs → lv_has ls 5 [(0, .ref (a 1))] → W p l e (headSpec ow_dm_X2_readNumber ({ frames := 1, cells := 0, slots := 0, locals := 20 })).room s m args below meth c H locs 0 0 Q (F0 m 171 ls [])
def dj_X2_readNumber_146 (p : Program) (l : Launch) (e : Env) (s : State) (m : MethodId) (args : Array Value) (below : List Frame) (meth : Method) (c : Code) (Q : State → Prop) (A : Nat → Prop) (dC : Nat → ClassId) (dI : Nat → Nat → Nat) (a : Nat → Nat) (ac : Nat → ClassId) (g : Int32 → Int32 → Int32 → Int64 → Int32 → (St × (St)) → Option (St × (St))) (r : St × (St)) : Prop := ∀ (x1 : Int32) (x2 : Int32) (x4 : Int32) (y1 : Int64) (y2 : Int32) (s0 : St × (St)) (H : Heap) (locs : List Loc) (ls : Array Slot), g x1 x2 x4 y1 y2 s0 = some r → va_P (dC, dI) vwCl (dw_X2s a ac s0) H → va_D A (dw_X2s a ac s0) → va_S A s.heap H locs → lv_has ls 5 [(0, .ref (a 1)), (1, .int x1), (2, .int x2), (4, .int x4)] → W p l e (headSpec ow_dm_X2_readNumber ({ frames := 1, cells := 0, slots := 0, locals := 20 })).room s m args below meth c H locs 0 0 Q (F0 m 146 ls [.int y2, .long y1, .ref (a 1)])
def dj_X2_readNumber_128 (p : Program) (l : Launch) (e : Env) (s : State) (m : MethodId) (args : Array Value) (below : List Frame) (meth : Method) (c : Code) (Q : State → Prop) (A : Nat → Prop) (dC : Nat → ClassId) (dI : Nat → Nat → Nat) (a : Nat → Nat) (ac : Nat → ClassId) (g : Int32 → Int32 → Int32 → (St × (St)) → Option (St × (St))) (r : St × (St)) : Prop := ∀ (x1 : Int32) (x2 : Int32) (y0 : Int32) (s0 : St × (St)) (H : Heap) (locs : List Loc) (ls : Array Slot), g x1 x2 y0 s0 = some r → va_P (dC, dI) vwCl (dw_X2s a ac s0) H → va_D A (dw_X2s a ac s0) → va_S A s.heap H locs → lv_has ls 5 [(0, .ref (a 1)), (1, .int x1), (2, .int x2)] → W p l e (headSpec ow_dm_X2_readNumber ({ frames := 1, cells := 0, slots := 0, locals := 20 })).room s m args below meth c H locs 0 0 Q (F0 m 128 ls [.int y0])
def dj_X2_readNumber_127 (p : Program) (l : Launch) (e : Env) (s : State) (m : MethodId) (args : Array Value) (below : List Frame) (meth : Method) (c : Code) (Q : State → Prop) (A : Nat → Prop) (dC : Nat → ClassId) (dI : Nat → Nat → Nat) (a : Nat → Nat) (ac : Nat → ClassId) (g : Int32 → Int32 → (St × (St)) → Option (St × (St))) (r : St × (St)) : Prop := ∀ (x1 : Int32) (x2 : Int32) (s0 : St × (St)) (H : Heap) (locs : List Loc) (ls : Array Slot), g x1 x2 s0 = some r → va_P (dC, dI) vwCl (dw_X2s a ac s0) H → va_D A (dw_X2s a ac s0) → va_S A s.heap H locs → lv_has ls 5 [(0, .ref (a 1)), (1, .int x1), (2, .int x2)] → W p l e (headSpec ow_dm_X2_readNumber ({ frames := 1, cells := 0, slots := 0, locals := 20 })).room s m args below meth c H locs 0 0 Q (F0 m 127 ls [])
def dj_X2_readNumber_72 (p : Program) (l : Launch) (e : Env) (s : State) (m : MethodId) (args : Array Value) (below : List Frame) (meth : Method) (c : Code) (Q : State → Prop) (A : Nat → Prop) (dC : Nat → ClassId) (dI : Nat → Nat → Nat) (a : Nat → Nat) (ac : Nat → ClassId) (g : Int32 → Int32 → (St × (St)) → Option (St × (St))) (r : St × (St)) : Prop := ∀ (x1 : Int32) (x2 : Int32) (s0 : St × (St)) (H : Heap) (locs : List Loc) (ls : Array Slot), g x1 x2 s0 = some r → va_P (dC, dI) vwCl (dw_X2s a ac s0) H → va_D A (dw_X2s a ac s0) → va_S A s.heap H locs → lv_has ls 5 [(0, .ref (a 1)), (1, .int x1), (2, .int x2)] → W p l e (headSpec ow_dm_X2_readNumber ({ frames := 1, cells := 0, slots := 0, locals := 20 })).room s m args below meth c H locs 0 0 Q (F0 m 72 ls [])
def dj_X2_readNumber_71 (p : Program) (l : Launch) (e : Env) (s : State) (m : MethodId) (args : Array Value) (below : List Frame) (meth : Method) (c : Code) (Q : State → Prop) (A : Nat → Prop) (dC : Nat → ClassId) (dI : Nat → Nat → Nat) (a : Nat → Nat) (ac : Nat → ClassId) (g : Int32 → Int32 → (St × (St)) → Option (St × (St))) (r : St × (St)) : Prop := ∀ (x1 : Int32) (y0 : Int32) (s0 : St × (St)) (H : Heap) (locs : List Loc) (ls : Array Slot), g x1 y0 s0 = some r → va_P (dC, dI) vwCl (dw_X2s a ac s0) H → va_D A (dw_X2s a ac s0) → va_S A s.heap H locs → lv_has ls 5 [(0, .ref (a 1)), (1, .int x1)] → W p l e (headSpec ow_dm_X2_readNumber ({ frames := 1, cells := 0, slots := 0, locals := 20 })).room s m args below meth c H locs 0 0 Q (F0 m 71 ls [.int y0])
def dj_X2_readNumber_48 (p : Program) (l : Launch) (e : Env) (s : State) (m : MethodId) (args : Array Value) (below : List Frame) (meth : Method) (c : Code) (Q : State → Prop) (A : Nat → Prop) (dC : Nat → ClassId) (dI : Nat → Nat → Nat) (a : Nat → Nat) (ac : Nat → ClassId) (g : Int32 → (St × (St)) → Option (St × (St))) (r : St × (St)) : Prop := ∀ (y0 : Int32) (s0 : St × (St)) (H : Heap) (locs : List Loc) (ls : Array Slot), g y0 s0 = some r → va_P (dC, dI) vwCl (dw_X2s a ac s0) H → va_D A (dw_X2s a ac s0) → va_S A s.heap H locs → lv_has ls 5 [(0, .ref (a 1))] → W p l e (headSpec ow_dm_X2_readNumber ({ frames := 1, cells := 0, slots := 0, locals := 20 })).room s m args below meth c H locs 0 0 Q (F0 m 48 ls [.int y0])
def dj_X2_readNumber_47 (p : Program) (l : Launch) (e : Env) (s : State) (m : MethodId) (args : Array Value) (below : List Frame) (meth : Method) (c : Code) (Q : State → Prop) (A : Nat → Prop) (dC : Nat → ClassId) (dI : Nat → Nat → Nat) (a : Nat → Nat) (ac : Nat → ClassId) (g : (St × (St)) → Option (St × (St))) (r : St × (St)) : Prop := ∀ (s0 : St × (St)) (H : Heap) (locs : List Loc) (ls : Array Slot), g s0 = some r → va_P (dC, dI) vwCl (dw_X2s a ac s0) H → va_D A (dw_X2s a ac s0) → va_S A s.heap H locs → lv_has ls 5 [(0, .ref (a 1))] → W p l e (headSpec ow_dm_X2_readNumber ({ frames := 1, cells := 0, slots := 0, locals := 20 })).room s m args below meth c H locs 0 0 Q (F0 m 47 ls [])
def dj_X2_readNumber_0 (p : Program) (l : Launch) (e : Env) (s : State) (m : MethodId) (args : Array Value) (below : List Frame) (meth : Method) (c : Code) (Q : State → Prop) (A : Nat → Prop) (dC : Nat → ClassId) (dI : Nat → Nat → Nat) (a : Nat → Nat) (ac : Nat → ClassId) (g : (St × (St)) → Option (St × (St))) (r : St × (St)) : Prop := ∀ (s0 : St × (St)) (H : Heap) (locs : List Loc) (ls : Array Slot), g s0 = some r → va_P (dC, dI) vwCl (dw_X2s a ac s0) H → va_D A (dw_X2s a ac s0) → va_S A s.heap H locs → lv_has ls 5 [(0, .ref (a 1))] → W p l e (headSpec ow_dm_X2_readNumber ({ frames := 1, cells := 0, slots := 0, locals := 20 })).room s m args below meth c H locs 0 0 Q (F0 m 0 ls [])
set_option maxHeartbeats 40000000 in
set_option maxRecDepth 100000 in
theorem db_X2_readNumber_171 {p : Program} {l : Launch} {e : Env} {s : State} {m : MethodId} {args : Array Value} {below : List Frame} {meth : Method} {c : Code} {Q : State → Prop} {A : Nat → Prop} {dC : Nat → ClassId} {dI : Nat → Nat → Nat} {a : Nat → Nat} {ac : Nat → ClassId} {n : Nat} {r : St × (St)} (C : nd_C p l s m args c A (dC, dI) cX2_readNumber 5 RX2 ow_dm_X2_readNumber (dk_X2s ac)) (K : nd_Kv p l e (headSpec ow_dm_X2_readNumber ({ frames := 1, cells := 0, slots := 0, locals := 20 })).room s m args below meth c Q A (dC, dI) cX2_readNumber (St × (St)) (dw_X2s a ac) r) : dj_X2_readNumber_171 p l e s m args below meth c Q A dC dI a ac (df_X2_readNumber_171 n (a 0)) r := by
  obtain ⟨hlt, hx, hb, hml, hown, hts, hN, hA, hK⟩ := id C
  intro s0 H locs ls h hP hD hS hl
  unfold df_X2_readNumber_171 at h
  refine lv_aload_n hx hb dX2_readNumber_171 rfl (lv_at hl 0 rfl) ?_
  refine lv_iconst (v := 4) hx hb dX2_readNumber_172 (by decide) ?_
  refine va_put (D := (dC, dI)) (ci := 3) (v := .int 4) (ty := .int) (C := RX2) (T := TX2) (N := 20) hx hb hts hi_dm_X2_readNumber_X2 tyX2 tyX2_ok nmX2 hown hK hP hD hS 1 rfl rfl 15 (by decide) (hts (.fieldLink RX2 77 "TimeMachine$Condition" "kind" "I") (List.mem_of_getElem? (i := 8) rfl)) (fun _ h9 => h9) rfl (by decide +kernel) rfl rfl (Nat.le_of_ble_eq_true rfl) dX2_readNumber_173 (fun H locs hP hD hS => ?_)
  obtain ⟨s16, es16, h⟩ := nd_let_e h
  have hP : va_P (dC, dI) vwCl (dw_X2s a ac s16) H := by rw [es16]; exact hP
  have hD : va_D A (dw_X2s a ac s16) := by rw [es16]; exact hD
  exact K _ _ _ _ _ dX2_readNumber_176 (Option.some.inj h).symm hP hD hS
set_option maxHeartbeats 40000000 in
set_option maxRecDepth 100000 in
theorem db_X2_readNumber_146 {p : Program} {l : Launch} {e : Env} {s : State} {m : MethodId} {args : Array Value} {below : List Frame} {meth : Method} {c : Code} {Q : State → Prop} {A : Nat → Prop} {dC : Nat → ClassId} {dI : Nat → Nat → Nat} {a : Nat → Nat} {ac : Nat → ClassId} {n : Nat} {r : St × (St)} (C : nd_C p l s m args c A (dC, dI) cX2_readNumber 5 RX2 ow_dm_X2_readNumber (dk_X2s ac)) (K : nd_Kv p l e (headSpec ow_dm_X2_readNumber ({ frames := 1, cells := 0, slots := 0, locals := 20 })).room s m args below meth c Q A (dC, dI) cX2_readNumber (St × (St)) (dw_X2s a ac) r) {g72 : Int32 → Int32 → (St × (St)) → Option (St × (St))} (J72 : dj_X2_readNumber_72 p l e s m args below meth c Q A dC dI a ac g72 r) : dj_X2_readNumber_146 p l e s m args below meth c Q A dC dI a ac (df_X2_readNumber_146 n (a 0) g72) r := by
  obtain ⟨hlt, hx, hb, hml, hown, hts, hN, hA, hK⟩ := id C
  intro x1 x2 x4 y1 y2 s0 H locs ls h hP hD hS hl
  unfold df_X2_readNumber_146 at h
  refine lv_i2l hx hb dX2_readNumber_146 rfl ?_
  refine lv_lmul hx hb dX2_readNumber_147 ?_
  refine lv_iload hx hb dX2_readNumber_148 (lv_at hl 3 rfl) ?_
  refine lv_i2l hx hb dX2_readNumber_150 rfl ?_
  refine lv_ladd hx hb dX2_readNumber_151 ?_
  refine va_put (D := (dC, dI)) (ci := 3) (v := .long ((((y1 : Int64) * (y2.toInt64)) : Int64) + (x4.toInt64))) (ty := .long) (C := RX2) (T := TX2) (N := 20) hx hb hts hi_dm_X2_readNumber_X2 tyX2 tyX2_ok nmX2 hown hK hP hD hS 1 rfl rfl 17 (by decide) (hts (.fieldLink RX2 110 "TimeMachine$Condition" "number" "J") (List.mem_of_getElem? (i := 3) rfl)) (fun _ h9 => h9) rfl (by decide +kernel) rfl rfl (Nat.le_of_ble_eq_true rfl) dX2_readNumber_152 (fun H locs hP hD hS => ?_)
  obtain ⟨s14, es14, h⟩ := nd_let_e h
  have hP : va_P (dC, dI) vwCl (dw_X2s a ac s14) H := by rw [es14]; exact hP
  have hD : va_D A (dw_X2s a ac s14) := by rw [es14]; exact hD
  refine lv_iload hx hb dX2_readNumber_155 (lv_at hl 3 rfl) ?_
  refine lv_if_lt (tgt := 171) hx hb dX2_readNumber_157 (by decide) (fun c15 => ?_) (fun c15 => ?_)
  · have h := nd_pos h c15
    exact (db_X2_readNumber_171 C K)  s14 _ _ _ h hP hD hS (lv_sub hl [0] rfl)
  · have h := nd_neg h c15
    refine lv_aload_n hx hb dX2_readNumber_160 rfl (lv_at hl 0 rfl) ?_
    refine va_get (D := (dC, dI)) (ci := 3) (v := .long (sL s14.2 0)) (C := RX2) (T := TX2) (N := 20) hx hb hts hi_dm_X2_readNumber_X2 hown hK hP 1 rfl rfl 17 (by decide) (hts (.fieldLink RX2 110 "TimeMachine$Condition" "number" "J") (List.mem_of_getElem? (i := 3) rfl)) (fun _ h9 => h9) rfl dX2_readNumber_161 ?_
    refine lv_ldc2 hx hb hown (hts (.constantLong RX2 114 (4294967295)) (List.mem_of_getElem? (i := 9) rfl)) dX2_readNumber_164 ?_
    refine W.lcmp hx hb dX2_readNumber_167 ?_
    refine lv_if_le (tgt := 177) hx hb dX2_readNumber_168 (by decide) (fun c17 => ?_) (fun c17 => ?_)
    · have h := nd_pos h c17
      obtain ⟨z18, ez18, h⟩ := nd_let_e h
      refine lv_iinc (v := z18) (lv' := [(2, .int z18), (0, .ref (a 1)), (1, .int x1), (4, .int x4)]) hx hb dX2_readNumber_177 hl (k := 2) rfl (by rw [ez18]) (by decide) rfl (fun ls hl => ?_)
      refine lv_goto (tgt := 72) hx hb dX2_readNumber_180 (by decide) ?_
      exact (J72) (x1) (z18) s14 _ _ _ h hP hD hS (lv_sub hl [1, 2, 0] rfl)
    · have h := nd_neg h c17
      exact (db_X2_readNumber_171 C K)  s14 _ _ _ h hP hD hS (lv_sub hl [0] rfl)
set_option maxHeartbeats 40000000 in
set_option maxRecDepth 100000 in
theorem db_X2_readNumber_128 {p : Program} {l : Launch} {e : Env} {s : State} {m : MethodId} {args : Array Value} {below : List Frame} {meth : Method} {c : Code} {Q : State → Prop} {A : Nat → Prop} {dC : Nat → ClassId} {dI : Nat → Nat → Nat} {a : Nat → Nat} {ac : Nat → ClassId} {n : Nat} {r : St × (St)} (C : nd_C p l s m args c A (dC, dI) cX2_readNumber 5 RX2 ow_dm_X2_readNumber (dk_X2s ac)) (K : nd_Kv p l e (headSpec ow_dm_X2_readNumber ({ frames := 1, cells := 0, slots := 0, locals := 20 })).room s m args below meth c Q A (dC, dI) cX2_readNumber (St × (St)) (dw_X2s a ac) r) {g72 : Int32 → Int32 → (St × (St)) → Option (St × (St))} (J72 : dj_X2_readNumber_72 p l e s m args below meth c Q A dC dI a ac g72 r) : dj_X2_readNumber_128 p l e s m args below meth c Q A dC dI a ac (df_X2_readNumber_128 n (a 0) g72) r := by
  obtain ⟨hlt, hx, hb, hml, hown, hts, hN, hA, hK⟩ := id C
  intro x1 x2 y0 s0 H locs ls h hP hD hS hl
  unfold df_X2_readNumber_128 at h
  refine lv_istore (lv' := [(4, .int y0), (0, .ref (a 1)), (1, .int x1), (2, .int x2)]) hx hb dX2_readNumber_128 hl (by decide) rfl (fun ls hl => ?_)
  refine lv_aload_n hx hb dX2_readNumber_130 rfl (lv_at hl 1 rfl) ?_
  refine lv_aload_n hx hb dX2_readNumber_131 rfl (lv_at hl 1 rfl) ?_
  refine va_get (D := (dC, dI)) (ci := 3) (v := .long (sL s0.2 0)) (C := RX2) (T := TX2) (N := 20) hx hb hts hi_dm_X2_readNumber_X2 hown hK hP 1 rfl rfl 17 (by decide) (hts (.fieldLink RX2 110 "TimeMachine$Condition" "number" "J") (List.mem_of_getElem? (i := 3) rfl)) (fun _ h9 => h9) rfl dX2_readNumber_132 ?_
  refine lv_iload_n hx hb dX2_readNumber_135 rfl (lv_at hl 2 rfl) ?_
  refine lv_if_eq (tgt := 144) hx hb dX2_readNumber_136 (by decide) (fun c13 => ?_) (fun c13 => ?_)
  · have h := nd_pos h c13
    refine lv_bipush (v := 10) hx hb dX2_readNumber_144 (by decide) ?_
    exact (db_X2_readNumber_146 C K J72) (x1) (x2) (y0) ((sL s0.2 0)) (10) s0 _ _ _ h hP hD hS (lv_sub hl [1, 2, 3, 0] rfl)
  · have h := nd_neg h c13
    refine lv_bipush (v := 16) hx hb dX2_readNumber_139 (by decide) ?_
    refine lv_goto (tgt := 146) hx hb dX2_readNumber_141 (by decide) ?_
    exact (db_X2_readNumber_146 C K J72) (x1) (x2) (y0) ((sL s0.2 0)) (16) s0 _ _ _ h hP hD hS (lv_sub hl [1, 2, 3, 0] rfl)
set_option maxHeartbeats 40000000 in
set_option maxRecDepth 100000 in
theorem db_X2_readNumber_127 {p : Program} {l : Launch} {e : Env} {s : State} {m : MethodId} {args : Array Value} {below : List Frame} {meth : Method} {c : Code} {Q : State → Prop} {A : Nat → Prop} {dC : Nat → ClassId} {dI : Nat → Nat → Nat} {a : Nat → Nat} {ac : Nat → ClassId} {n : Nat} {r : St × (St)} (C : nd_C p l s m args c A (dC, dI) cX2_readNumber 5 RX2 ow_dm_X2_readNumber (dk_X2s ac)) (K : nd_Kv p l e (headSpec ow_dm_X2_readNumber ({ frames := 1, cells := 0, slots := 0, locals := 20 })).room s m args below meth c Q A (dC, dI) cX2_readNumber (St × (St)) (dw_X2s a ac) r) {g72 : Int32 → Int32 → (St × (St)) → Option (St × (St))} (J72 : dj_X2_readNumber_72 p l e s m args below meth c Q A dC dI a ac g72 r) : dj_X2_readNumber_127 p l e s m args below meth c Q A dC dI a ac (df_X2_readNumber_127 n (a 0) g72) r := by
  obtain ⟨hlt, hx, hb, hml, hown, hts, hN, hA, hK⟩ := id C
  intro x1 x2 s0 H locs ls h hP hD hS hl
  unfold df_X2_readNumber_127 at h
  refine lv_iconst (v := (-1)) hx hb dX2_readNumber_127 (by decide) ?_
  exact (db_X2_readNumber_128 C K J72) (x1) (x2) ((-1)) s0 _ _ _ h hP hD hS (lv_sub hl [0, 1, 2] rfl)
set_option maxHeartbeats 40000000 in
set_option maxRecDepth 100000 in
theorem dB_X2_readNumber_72 {p : Program} {l : Launch} {e : Env} {s : State} {m : MethodId} {args : Array Value} {below : List Frame} {meth : Method} {c : Code} {Q : State → Prop} {A : Nat → Prop} {dC : Nat → ClassId} {dI : Nat → Nat → Nat} {a : Nat → Nat} {ac : Nat → ClassId} {n : Nat} {r : St × (St)} (C : nd_C p l s m args c A (dC, dI) cX2_readNumber 5 RX2 ow_dm_X2_readNumber (dk_X2s ac)) (K : nd_Kv p l e (headSpec ow_dm_X2_readNumber ({ frames := 1, cells := 0, slots := 0, locals := 20 })).room s m args below meth c Q A (dC, dI) cX2_readNumber (St × (St)) (dw_X2s a ac) r) {g72 : Int32 → Int32 → (St × (St)) → Option (St × (St))} (J72 : dj_X2_readNumber_72 p l e s m args below meth c Q A dC dI a ac g72 r) : dj_X2_readNumber_72 p l e s m args below meth c Q A dC dI a ac (dF_X2_readNumber_72 n (a 0) g72) r := by
  obtain ⟨hlt, hx, hb, hml, hown, hts, hN, hA, hK⟩ := id C
  intro x1 x2 s0 H locs ls h hP hD hS hl
  unfold dF_X2_readNumber_72 at h
  refine lv_iload_n hx hb dX2_readNumber_72 rfl (lv_at hl 2 rfl) ?_
  refine lv_aload_n hx hb dX2_readNumber_73 rfl (lv_at hl 0 rfl) ?_
  refine va_get (D := (dC, dI)) (ci := 3) (v := .int (sI s0.2 5)) (C := RX2) (T := TX2) (N := 20) hx hb hts hi_dm_X2_readNumber_X2 hown hK hP 1 rfl rfl 14 (by decide) (hts (.fieldLink RX2 49 "TimeMachine$Condition" "at" "I") (List.mem_of_getElem? (i := 1) rfl)) (fun _ h9 => h9) rfl dX2_readNumber_74 ?_
  refine lv_icmp_ge (tgt := 183) hx hb dX2_readNumber_77 (by decide) (fun c4 => ?_) (fun c4 => ?_)
  · have h := nd_pos h c4
    exact K _ _ _ _ _ dX2_readNumber_183 (Option.some.inj h).symm hP hD hS
  · have h := nd_neg h c4
    refine lv_aload_n hx hb dX2_readNumber_80 rfl (lv_at hl 0 rfl) ?_
    obtain ⟨o5, h⟩ := nd_o_e h
    refine va_get (D := (dC, dI)) (ci := 3) (v := .ref (a 0)) (C := RX2) (T := TX2) (N := 20) hx hb hts hi_dm_X2_readNumber_X2 hown hK hP 1 rfl rfl 12 (by decide) (hts (.fieldLink RX2 35 "TimeMachine$Condition" "source" "[B") (List.mem_of_getElem? (i := 4) rfl)) (fun _ h9 => h9) (congrArg (fun z => some (va_rf z)) o5) dX2_readNumber_81 ?_
    refine lv_iload_n hx hb dX2_readNumber_84 rfl (lv_at hl 2 rfl) ?_
    obtain ⟨i6, h⟩ := nd_ck_e h
    refine va_bald (i := x2) hx hb hK hP 0 0 rfl rfl i6 dX2_readNumber_85 ?_
    refine lv_topi (fun z7 ez7 => ?_)
    have h := nd_at h ez7
    refine lv_istore_n (lv' := [(3, .int z7), (0, .ref (a 1)), (1, .int x1), (2, .int x2)]) hx hb dX2_readNumber_86 rfl hl (by decide) rfl (fun ls hl => ?_)
    refine lv_iload_n hx hb dX2_readNumber_87 rfl (lv_at hl 0 rfl) ?_
    obtain ⟨q8, s9, hq, h⟩ := nd_b2_e h
    have hPc : va_P (dC, dI) vwCl (dw_P a ac ()) H := nd_p0
    have hDc : va_D A (dw_P a ac ()) := nd_d0
    have hKc : va_K (dC, dI) vwCl (dk_P ac) s := nd_y0 hK
    have hFc : ∀ q, va_A (dw_P a ac ()) H.size q → A q := nd_r0 hS hA
    refine nd_cSi (As := [.int z7]) (rest := []) (q := q8) (w' := dw_P a ac s9) ⟨hx, hb, hml, hown, hts⟩ (fun sz => dm_X2_isDigit l hlt dC dI a ac n (z7) () hq sz) (cwS 1 hts gi_dm_X2_readNumber_0 rfl rfl rfl (by decide +kernel) ⟨Nat.le_of_ble_eq_true rfl, Nat.le_of_ble_eq_true rfl⟩) hPc hDc hKc hS hA hN rfl hl.1 rfl (Nat.le_of_ble_eq_true rfl) dX2_readNumber_88 (fun H locs hP1 hD1 hk1 hS => ?_)
    have hP := nd_n0 hP hk1
    refine lv_if_eq (tgt := 101) hx hb dX2_readNumber_91 (by decide) (fun c11 => ?_) (fun c11 => ?_)
    · have h := nd_pos h c11
      refine lv_iload_n hx hb dX2_readNumber_101 rfl (lv_at hl 2 rfl) ?_
      refine lv_if_eq (tgt := 127) hx hb dX2_readNumber_102 (by decide) (fun c12 => ?_) (fun c12 => ?_)
      · have h := nd_pos h c12
        exact (db_X2_readNumber_127 C K J72) (x1) (x2) s0 _ _ _ h hP hD hS (lv_sub hl [1, 2, 3] rfl)
      · have h := nd_neg h c12
        refine lv_iload_n hx hb dX2_readNumber_105 rfl (lv_at hl 0 rfl) ?_
        refine lv_bipush (v := 97) hx hb dX2_readNumber_106 (by decide) ?_
        refine lv_icmp_lt (tgt := 127) hx hb dX2_readNumber_108 (by decide) (fun c19 => ?_) (fun c19 => ?_)
        · have h := nd_pos h c19
          exact (db_X2_readNumber_127 C K J72) (x1) (x2) s0 _ _ _ h hP hD hS (lv_sub hl [1, 2, 3] rfl)
        · have h := nd_neg h c19
          refine lv_iload_n hx hb dX2_readNumber_111 rfl (lv_at hl 0 rfl) ?_
          refine lv_bipush (v := 102) hx hb dX2_readNumber_112 (by decide) ?_
          refine lv_icmp_gt (tgt := 127) hx hb dX2_readNumber_114 (by decide) (fun c20 => ?_) (fun c20 => ?_)
          · have h := nd_pos h c20
            exact (db_X2_readNumber_127 C K J72) (x1) (x2) s0 _ _ _ h hP hD hS (lv_sub hl [1, 2, 3] rfl)
          · have h := nd_neg h c20
            refine lv_iload_n hx hb dX2_readNumber_117 rfl (lv_at hl 0 rfl) ?_
            refine lv_bipush (v := 97) hx hb dX2_readNumber_118 (by decide) ?_
            refine lv_isub hx hb dX2_readNumber_120 ?_
            refine lv_bipush (v := 10) hx hb dX2_readNumber_121 (by decide) ?_
            refine lv_iadd hx hb dX2_readNumber_123 ?_
            refine lv_goto (tgt := 128) hx hb dX2_readNumber_124 (by decide) ?_
            exact (db_X2_readNumber_128 C K J72) (x1) (x2) (((z7 - 97) + 10)) s0 _ _ _ h hP hD hS (lv_sub hl [1, 2, 3] rfl)
    · have h := nd_neg h c11
      refine lv_iload_n hx hb dX2_readNumber_94 rfl (lv_at hl 0 rfl) ?_
      refine lv_bipush (v := 48) hx hb dX2_readNumber_95 (by decide) ?_
      refine lv_isub hx hb dX2_readNumber_97 ?_
      refine lv_goto (tgt := 128) hx hb dX2_readNumber_98 (by decide) ?_
      exact (db_X2_readNumber_128 C K J72) (x1) (x2) ((z7 - 48)) s0 _ _ _ h hP hD hS (lv_sub hl [1, 2, 3] rfl)
set_option maxHeartbeats 40000000 in
set_option maxRecDepth 100000 in
theorem db_X2_readNumber_72 {p : Program} {l : Launch} {e : Env} {s : State} {m : MethodId} {args : Array Value} {below : List Frame} {meth : Method} {c : Code} {Q : State → Prop} {A : Nat → Prop} {dC : Nat → ClassId} {dI : Nat → Nat → Nat} {a : Nat → Nat} {ac : Nat → ClassId} {n : Nat} {r : St × (St)} (C : nd_C p l s m args c A (dC, dI) cX2_readNumber 5 RX2 ow_dm_X2_readNumber (dk_X2s ac)) (K : nd_Kv p l e (headSpec ow_dm_X2_readNumber ({ frames := 1, cells := 0, slots := 0, locals := 20 })).room s m args below meth c Q A (dC, dI) cX2_readNumber (St × (St)) (dw_X2s a ac) r) (k : Nat) : dj_X2_readNumber_72 p l e s m args below meth c Q A dC dI a ac (df_X2_readNumber_72 n (a 0) k) r := by
  induction k with
  | zero => intro x1 x2 s0 H locs ls h; exact nomatch (show (none : Option (St × (St))) = some r from h)
  | succ k ih => exact dB_X2_readNumber_72 C K ih
set_option maxHeartbeats 40000000 in
set_option maxRecDepth 100000 in
theorem db_X2_readNumber_71 {p : Program} {l : Launch} {e : Env} {s : State} {m : MethodId} {args : Array Value} {below : List Frame} {meth : Method} {c : Code} {Q : State → Prop} {A : Nat → Prop} {dC : Nat → ClassId} {dI : Nat → Nat → Nat} {a : Nat → Nat} {ac : Nat → ClassId} {n : Nat} {r : St × (St)} (C : nd_C p l s m args c A (dC, dI) cX2_readNumber 5 RX2 ow_dm_X2_readNumber (dk_X2s ac)) (K : nd_Kv p l e (headSpec ow_dm_X2_readNumber ({ frames := 1, cells := 0, slots := 0, locals := 20 })).room s m args below meth c Q A (dC, dI) cX2_readNumber (St × (St)) (dw_X2s a ac) r) : dj_X2_readNumber_71 p l e s m args below meth c Q A dC dI a ac (df_X2_readNumber_71 n (a 0)) r := by
  obtain ⟨hlt, hx, hb, hml, hown, hts, hN, hA, hK⟩ := id C
  intro x1 y0 s0 H locs ls h hP hD hS hl
  unfold df_X2_readNumber_71 at h
  refine lv_istore_n (lv' := [(2, .int y0), (0, .ref (a 1)), (1, .int x1)]) hx hb dX2_readNumber_71 rfl hl (by decide) rfl (fun ls hl => ?_)
  exact (db_X2_readNumber_72 C K n) (x1) (y0) s0 _ _ _ h hP hD hS (lv_sub hl [1, 2, 0] rfl)
set_option maxHeartbeats 40000000 in
set_option maxRecDepth 100000 in
theorem db_X2_readNumber_48 {p : Program} {l : Launch} {e : Env} {s : State} {m : MethodId} {args : Array Value} {below : List Frame} {meth : Method} {c : Code} {Q : State → Prop} {A : Nat → Prop} {dC : Nat → ClassId} {dI : Nat → Nat → Nat} {a : Nat → Nat} {ac : Nat → ClassId} {n : Nat} {r : St × (St)} (C : nd_C p l s m args c A (dC, dI) cX2_readNumber 5 RX2 ow_dm_X2_readNumber (dk_X2s ac)) (K : nd_Kv p l e (headSpec ow_dm_X2_readNumber ({ frames := 1, cells := 0, slots := 0, locals := 20 })).room s m args below meth c Q A (dC, dI) cX2_readNumber (St × (St)) (dw_X2s a ac) r) : dj_X2_readNumber_48 p l e s m args below meth c Q A dC dI a ac (df_X2_readNumber_48 n (a 0)) r := by
  obtain ⟨hlt, hx, hb, hml, hown, hts, hN, hA, hK⟩ := id C
  intro y0 s0 H locs ls h hP hD hS hl
  unfold df_X2_readNumber_48 at h
  refine lv_istore_n (lv' := [(1, .int y0), (0, .ref (a 1))]) hx hb dX2_readNumber_48 rfl hl (by decide) rfl (fun ls hl => ?_)
  refine lv_aload_n hx hb dX2_readNumber_49 rfl (lv_at hl 1 rfl) ?_
  refine lv_lconst (v := 0) hx hb dX2_readNumber_50 (by decide) ?_
  refine va_put (D := (dC, dI)) (ci := 3) (v := .long 0) (ty := .long) (C := RX2) (T := TX2) (N := 20) hx hb hts hi_dm_X2_readNumber_X2 tyX2 tyX2_ok nmX2 hown hK hP hD hS 1 rfl rfl 17 (by decide) (hts (.fieldLink RX2 110 "TimeMachine$Condition" "number" "J") (List.mem_of_getElem? (i := 3) rfl)) (fun _ h9 => h9) rfl (by decide +kernel) rfl rfl (Nat.le_of_ble_eq_true rfl) dX2_readNumber_51 (fun H locs hP hD hS => ?_)
  obtain ⟨s2, es2, h⟩ := nd_let_e h
  have hP : va_P (dC, dI) vwCl (dw_X2s a ac s2) H := by rw [es2]; exact hP
  have hD : va_D A (dw_X2s a ac s2) := by rw [es2]; exact hD
  refine lv_iload_n hx hb dX2_readNumber_54 rfl (lv_at hl 0 rfl) ?_
  refine lv_if_eq (tgt := 67) hx hb dX2_readNumber_55 (by decide) (fun c3 => ?_) (fun c3 => ?_)
  · have h := nd_pos h c3
    refine lv_aload_n hx hb dX2_readNumber_67 rfl (lv_at hl 1 rfl) ?_
    refine va_get (D := (dC, dI)) (ci := 3) (v := .int (sI s2.2 7)) (C := RX2) (T := TX2) (N := 20) hx hb hts hi_dm_X2_readNumber_X2 hown hK hP 1 rfl rfl 16 (by decide) (hts (.fieldLink RX2 90 "TimeMachine$Condition" "from" "I") (List.mem_of_getElem? (i := 2) rfl)) (fun _ h9 => h9) rfl dX2_readNumber_68 ?_
    exact (db_X2_readNumber_71 C K) (y0) ((sI s2.2 7)) s2 _ _ _ h hP hD hS (lv_sub hl [1, 0] rfl)
  · have h := nd_neg h c3
    refine lv_aload_n hx hb dX2_readNumber_58 rfl (lv_at hl 1 rfl) ?_
    refine va_get (D := (dC, dI)) (ci := 3) (v := .int (sI s2.2 7)) (C := RX2) (T := TX2) (N := 20) hx hb hts hi_dm_X2_readNumber_X2 hown hK hP 1 rfl rfl 16 (by decide) (hts (.fieldLink RX2 90 "TimeMachine$Condition" "from" "I") (List.mem_of_getElem? (i := 2) rfl)) (fun _ h9 => h9) rfl dX2_readNumber_59 ?_
    refine lv_iconst (v := 2) hx hb dX2_readNumber_62 (by decide) ?_
    refine lv_iadd hx hb dX2_readNumber_63 ?_
    refine lv_goto (tgt := 71) hx hb dX2_readNumber_64 (by decide) ?_
    exact (db_X2_readNumber_71 C K) (y0) (((sI s2.2 7) + 2)) s2 _ _ _ h hP hD hS (lv_sub hl [1, 0] rfl)
set_option maxHeartbeats 40000000 in
set_option maxRecDepth 100000 in
theorem db_X2_readNumber_47 {p : Program} {l : Launch} {e : Env} {s : State} {m : MethodId} {args : Array Value} {below : List Frame} {meth : Method} {c : Code} {Q : State → Prop} {A : Nat → Prop} {dC : Nat → ClassId} {dI : Nat → Nat → Nat} {a : Nat → Nat} {ac : Nat → ClassId} {n : Nat} {r : St × (St)} (C : nd_C p l s m args c A (dC, dI) cX2_readNumber 5 RX2 ow_dm_X2_readNumber (dk_X2s ac)) (K : nd_Kv p l e (headSpec ow_dm_X2_readNumber ({ frames := 1, cells := 0, slots := 0, locals := 20 })).room s m args below meth c Q A (dC, dI) cX2_readNumber (St × (St)) (dw_X2s a ac) r) : dj_X2_readNumber_47 p l e s m args below meth c Q A dC dI a ac (df_X2_readNumber_47 n (a 0)) r := by
  obtain ⟨hlt, hx, hb, hml, hown, hts, hN, hA, hK⟩ := id C
  intro s0 H locs ls h hP hD hS hl
  unfold df_X2_readNumber_47 at h
  refine lv_iconst (v := 0) hx hb dX2_readNumber_47 (by decide) ?_
  exact (db_X2_readNumber_48 C K) (0) s0 _ _ _ h hP hD hS (lv_sub hl [0] rfl)
set_option maxHeartbeats 40000000 in
set_option maxRecDepth 100000 in
theorem db_X2_readNumber_0 {p : Program} {l : Launch} {e : Env} {s : State} {m : MethodId} {args : Array Value} {below : List Frame} {meth : Method} {c : Code} {Q : State → Prop} {A : Nat → Prop} {dC : Nat → ClassId} {dI : Nat → Nat → Nat} {a : Nat → Nat} {ac : Nat → ClassId} {n : Nat} {r : St × (St)} (C : nd_C p l s m args c A (dC, dI) cX2_readNumber 5 RX2 ow_dm_X2_readNumber (dk_X2s ac)) (K : nd_Kv p l e (headSpec ow_dm_X2_readNumber ({ frames := 1, cells := 0, slots := 0, locals := 20 })).room s m args below meth c Q A (dC, dI) cX2_readNumber (St × (St)) (dw_X2s a ac) r) : dj_X2_readNumber_0 p l e s m args below meth c Q A dC dI a ac (df_X2_readNumber_0 n (a 0)) r := by
  obtain ⟨hlt, hx, hb, hml, hown, hts, hN, hA, hK⟩ := id C
  intro s0 H locs ls h hP hD hS hl
  unfold df_X2_readNumber_0 at h
  refine lv_aload_n hx hb dX2_readNumber_0 rfl (lv_at hl 0 rfl) ?_
  refine va_get (D := (dC, dI)) (ci := 3) (v := .int (sI s0.2 5)) (C := RX2) (T := TX2) (N := 20) hx hb hts hi_dm_X2_readNumber_X2 hown hK hP 1 rfl rfl 14 (by decide) (hts (.fieldLink RX2 49 "TimeMachine$Condition" "at" "I") (List.mem_of_getElem? (i := 1) rfl)) (fun _ h9 => h9) rfl dX2_readNumber_1 ?_
  refine lv_aload_n hx hb dX2_readNumber_4 rfl (lv_at hl 0 rfl) ?_
  refine va_get (D := (dC, dI)) (ci := 3) (v := .int (sI s0.2 7)) (C := RX2) (T := TX2) (N := 20) hx hb hts hi_dm_X2_readNumber_X2 hown hK hP 1 rfl rfl 16 (by decide) (hts (.fieldLink RX2 90 "TimeMachine$Condition" "from" "I") (List.mem_of_getElem? (i := 2) rfl)) (fun _ h9 => h9) rfl dX2_readNumber_5 ?_
  refine lv_isub hx hb dX2_readNumber_8 ?_
  refine lv_iconst (v := 2) hx hb dX2_readNumber_9 (by decide) ?_
  refine lv_icmp_le (tgt := 47) hx hb dX2_readNumber_10 (by decide) (fun c1 => ?_) (fun c1 => ?_)
  · have h := nd_pos h c1
    exact (db_X2_readNumber_47 C K)  s0 _ _ _ h hP hD hS (lv_sub hl [0] rfl)
  · have h := nd_neg h c1
    refine lv_aload_n hx hb dX2_readNumber_13 rfl (lv_at hl 0 rfl) ?_
    obtain ⟨o21, h⟩ := nd_o_e h
    refine va_get (D := (dC, dI)) (ci := 3) (v := .ref (a 0)) (C := RX2) (T := TX2) (N := 20) hx hb hts hi_dm_X2_readNumber_X2 hown hK hP 1 rfl rfl 12 (by decide) (hts (.fieldLink RX2 35 "TimeMachine$Condition" "source" "[B") (List.mem_of_getElem? (i := 4) rfl)) (fun _ h9 => h9) (congrArg (fun z => some (va_rf z)) o21) dX2_readNumber_14 ?_
    refine lv_aload_n hx hb dX2_readNumber_17 rfl (lv_at hl 0 rfl) ?_
    refine va_get (D := (dC, dI)) (ci := 3) (v := .int (sI s0.2 7)) (C := RX2) (T := TX2) (N := 20) hx hb hts hi_dm_X2_readNumber_X2 hown hK hP 1 rfl rfl 16 (by decide) (hts (.fieldLink RX2 90 "TimeMachine$Condition" "from" "I") (List.mem_of_getElem? (i := 2) rfl)) (fun _ h9 => h9) rfl dX2_readNumber_18 ?_
    obtain ⟨i22, h⟩ := nd_ck_e h
    refine va_bald (i := (sI s0.2 7)) hx hb hK hP 0 0 rfl rfl i22 dX2_readNumber_21 ?_
    refine lv_bipush (v := 48) hx hb dX2_readNumber_22 (by decide) ?_
    refine lv_icmp_ne (tgt := 47) hx hb dX2_readNumber_24 (by decide) (fun c23 => ?_) (fun c23 => ?_)
    · have h := nd_neg h c23
      exact (db_X2_readNumber_47 C K)  s0 _ _ _ h hP hD hS (lv_sub hl [0] rfl)
    · have h := nd_pos h c23
      refine lv_aload_n hx hb dX2_readNumber_27 rfl (lv_at hl 0 rfl) ?_
      obtain ⟨o24, h⟩ := nd_o_e h
      refine va_get (D := (dC, dI)) (ci := 3) (v := .ref (a 0)) (C := RX2) (T := TX2) (N := 20) hx hb hts hi_dm_X2_readNumber_X2 hown hK hP 1 rfl rfl 12 (by decide) (hts (.fieldLink RX2 35 "TimeMachine$Condition" "source" "[B") (List.mem_of_getElem? (i := 4) rfl)) (fun _ h9 => h9) (congrArg (fun z => some (va_rf z)) o24) dX2_readNumber_28 ?_
      refine lv_aload_n hx hb dX2_readNumber_31 rfl (lv_at hl 0 rfl) ?_
      refine va_get (D := (dC, dI)) (ci := 3) (v := .int (sI s0.2 7)) (C := RX2) (T := TX2) (N := 20) hx hb hts hi_dm_X2_readNumber_X2 hown hK hP 1 rfl rfl 16 (by decide) (hts (.fieldLink RX2 90 "TimeMachine$Condition" "from" "I") (List.mem_of_getElem? (i := 2) rfl)) (fun _ h9 => h9) rfl dX2_readNumber_32 ?_
      refine lv_iconst (v := 1) hx hb dX2_readNumber_35 (by decide) ?_
      refine lv_iadd hx hb dX2_readNumber_36 ?_
      obtain ⟨i25, h⟩ := nd_ck_e h
      refine va_bald (i := ((sI s0.2 7) + 1)) hx hb hK hP 0 0 rfl rfl i25 dX2_readNumber_37 ?_
      refine lv_bipush (v := 120) hx hb dX2_readNumber_38 (by decide) ?_
      refine lv_icmp_ne (tgt := 47) hx hb dX2_readNumber_40 (by decide) (fun c26 => ?_) (fun c26 => ?_)
      · have h := nd_neg h c26
        exact (db_X2_readNumber_47 C K)  s0 _ _ _ h hP hD hS (lv_sub hl [0] rfl)
      · have h := nd_pos h c26
        refine lv_iconst (v := 1) hx hb dX2_readNumber_43 (by decide) ?_
        refine lv_goto (tgt := 48) hx hb dX2_readNumber_44 (by decide) ?_
        exact (db_X2_readNumber_48 C K) (1) s0 _ _ _ h hP hD hS (lv_sub hl [0] rfl)
set_option maxHeartbeats 40000000 in
set_option maxRecDepth 100000 in
theorem dm_X2_readNumber (l : Launch) (hlt : l.stackTraces = false) (dC : Nat → ClassId) (dI : Nat → Nat → Nat) (a : Nat → Nat) (ac : Nat → ClassId) (n : Nat) (s0 : St × (St)) {r : St × (St)} (h : df_X2_readNumber n (a 0) s0 = some r) (sz : Nat) : Met l yX2_readNumber ow_dm_X2_readNumber ({ frames := 1, cells := 0, slots := 0, locals := 20 }) (va_Pc [.ref (a 1)] (fun U => U.heap.size = sz ∧ va_P (dC, dI) vwCl (dw_X2s a ac s0) U.heap ∧ va_K (dC, dI) vwCl (dk_X2s ac) U ∧ va_D (fun _ => True) (dw_X2s a ac s0) ∧ nv_E (va_A (dw_X2s a ac s0) sz) U)) (va_Qv (fun _ => True) (fun (_ : Unit) t => va_P (dC, dI) vwCl (dw_X2s a ac r) t.heap ∧ va_K (dC, dI) vwCl (dk_X2s ac) t ∧ va_D (va_A (dw_X2s a ac s0) sz) (dw_X2s a ac r)) (va_A (dw_X2s a ac s0) sz)) 0 0 (va_A (dw_X2s a ac s0) sz) := by
  refine Met.ofW (cc := cX2_readNumber) (maxL := 5) (ret := none) (by decide) rfl ?_
  intro p e s m args below meth c s₁ B hml hv
  obtain ⟨rfl, hsz, hP, hK, hD0, hN⟩ := hv
  have hx := B.exec
  have hb := B.bytes
  have hr := B.returns
  have hts := atoms_spec (ws := ow_dm_X2_readNumber) B.pre
  have hown : s.vm.findClass RX2 = some m.cls := findClass_of_methodNamed B.named
  have hlocks := B.notSynchronized
  subst hsz
  have hD := hD0.self (sz := s.heap.size)
  generalize hAe : va_A (dw_X2s a ac s0) s.heap.size = A at hD hN ⊢
  have hA : ∀ q : Nat, s.heap.size ≤ q → A q := fun q h => by rw [← hAe]; exact Or.inr h
  have hl := lv_entry ([.ref (a 1)]) (n := 5) (Nat.le_of_ble_eq_true rfl)
  rw [lg_entry_eq]
  generalize (lg_sl ([.ref (a 1)]) ++ List.replicate (5 - (lg_sl ([.ref (a 1)])).length) Slot.unset).toArray = ls at hl ⊢
  have hl : lv_has ls 5 [(0, .ref (a 1))] := hl
  exact db_X2_readNumber_0 (dC := dC) (dI := dI) (a := a) (ac := ac) (n := n) (r := r) ⟨hlt, hx, hb, hml, hown, hts, hN, hA, hK⟩ (fun pc τ H locs ls d er hP hD hS => by subst er; exact W.vret hx hb hr (fun t ht hW => ⟨⟨(), rfl, trivial, by rw [ht]; exact hP, va_K.moved hW.alike hK, hD⟩, hS.F ht⟩) hS.2.2 d) s0 _ _ _ h hP hD va_S.rf (lv_sub hl [0] rfl)
def ow_dm_X2_pair : List Cond := .code yX2_pair cX2_pair 2 (some .int) :: ([] ++ [])
theorem gd_dm_X2_pair : ∀ w ∈ ow_dm_X2_pair, (w.onTables && w.keeps) = true ∨ ∃ ty, w = Cond.arrayClass ty := List.forall_mem_cons.mpr ⟨good_of_word rfl, List.forall_mem_append.mpr ⟨fun w h => good_of_word (List.all_eq_true.mp (by decide +kernel) w h), fun _ h => nomatch h⟩⟩
def dj_X2_pair_100 (p : Program) (l : Launch) (e : Env) (s : State) (m : MethodId) (args : Array Value) (below : List Frame) (meth : Method) (c : Code) (Q : State → Prop) (A : Nat → Prop) (dC : Nat → ClassId) (dI : Nat → Nat → Nat) (a : Nat → Nat) (ac : Nat → ClassId) (g : Int32 → (Unit) → Option (Int32 × (Unit))) (r : Int32 × (Unit)) : Prop := ∀ (y0 : Int32) (s0 : Unit) (H : Heap) (locs : List Loc) (ls : Array Slot), g y0 s0 = some r → va_P (dC, dI) vwCl (dw_P a ac s0) H → va_D A (dw_P a ac s0) → va_S A s.heap H locs → lv_has ls 2 [] → W p l e (headSpec ow_dm_X2_pair ({ frames := 0, cells := 0, slots := 0, locals := 0 })).room s m args below meth c H locs 0 0 Q (F0 m 100 ls [.int y0])
def dj_X2_pair_49 (p : Program) (l : Launch) (e : Env) (s : State) (m : MethodId) (args : Array Value) (below : List Frame) (meth : Method) (c : Code) (Q : State → Prop) (A : Nat → Prop) (dC : Nat → ClassId) (dI : Nat → Nat → Nat) (a : Nat → Nat) (ac : Nat → ClassId) (g : Int32 → (Unit) → Option (Int32 × (Unit))) (r : Int32 × (Unit)) : Prop := ∀ (y0 : Int32) (s0 : Unit) (H : Heap) (locs : List Loc) (ls : Array Slot), g y0 s0 = some r → va_P (dC, dI) vwCl (dw_P a ac s0) H → va_D A (dw_P a ac s0) → va_S A s.heap H locs → lv_has ls 2 [] → W p l e (headSpec ow_dm_X2_pair ({ frames := 0, cells := 0, slots := 0, locals := 0 })).room s m args below meth c H locs 0 0 Q (F0 m 49 ls [.int y0])
def dj_X2_pair_0 (p : Program) (l : Launch) (e : Env) (s : State) (m : MethodId) (args : Array Value) (below : List Frame) (meth : Method) (c : Code) (Q : State → Prop) (A : Nat → Prop) (dC : Nat → ClassId) (dI : Nat → Nat → Nat) (a : Nat → Nat) (ac : Nat → ClassId) (g : Int32 → Int32 → (Unit) → Option (Int32 × (Unit))) (r : Int32 × (Unit)) : Prop := ∀ (v0 : Int32) (v1 : Int32) (s0 : Unit) (H : Heap) (locs : List Loc) (ls : Array Slot), g v0 v1 s0 = some r → va_P (dC, dI) vwCl (dw_P a ac s0) H → va_D A (dw_P a ac s0) → va_S A s.heap H locs → lv_has ls 2 [(0, .int v0), (1, .int v1)] → W p l e (headSpec ow_dm_X2_pair ({ frames := 0, cells := 0, slots := 0, locals := 0 })).room s m args below meth c H locs 0 0 Q (F0 m 0 ls [])
set_option maxHeartbeats 40000000 in
set_option maxRecDepth 100000 in
theorem db_X2_pair_100 {p : Program} {l : Launch} {e : Env} {s : State} {m : MethodId} {args : Array Value} {below : List Frame} {meth : Method} {c : Code} {Q : State → Prop} {A : Nat → Prop} {dC : Nat → ClassId} {dI : Nat → Nat → Nat} {a : Nat → Nat} {ac : Nat → ClassId} {n : Nat} {r : Int32 × (Unit)} (C : nd_C p l s m args c A (dC, dI) cX2_pair 2 RX2 ow_dm_X2_pair (dk_P ac)) (K : nd_Ki p l e (headSpec ow_dm_X2_pair ({ frames := 0, cells := 0, slots := 0, locals := 0 })).room s m args below meth c Q A (dC, dI) cX2_pair .int (Unit) (dw_P a ac) r) : dj_X2_pair_100 p l e s m args below meth c Q A dC dI a ac (df_X2_pair_100 n) r := by
  obtain ⟨hlt, hx, hb, hml, hown, hts, hN, hA, hK⟩ := id C
  intro y0 s0 H locs ls h hP hD hS hl
  unfold df_X2_pair_100 at h
  exact K _ _ _ _ _ _ dX2_pair_100 rfl (Option.some.inj h).symm hP hD hS
set_option maxHeartbeats 40000000 in
set_option maxRecDepth 100000 in
theorem db_X2_pair_49 {p : Program} {l : Launch} {e : Env} {s : State} {m : MethodId} {args : Array Value} {below : List Frame} {meth : Method} {c : Code} {Q : State → Prop} {A : Nat → Prop} {dC : Nat → ClassId} {dI : Nat → Nat → Nat} {a : Nat → Nat} {ac : Nat → ClassId} {n : Nat} {r : Int32 × (Unit)} (C : nd_C p l s m args c A (dC, dI) cX2_pair 2 RX2 ow_dm_X2_pair (dk_P ac)) (K : nd_Ki p l e (headSpec ow_dm_X2_pair ({ frames := 0, cells := 0, slots := 0, locals := 0 })).room s m args below meth c Q A (dC, dI) cX2_pair .int (Unit) (dw_P a ac) r) : dj_X2_pair_49 p l e s m args below meth c Q A dC dI a ac (df_X2_pair_49 n) r := by
  obtain ⟨hlt, hx, hb, hml, hown, hts, hN, hA, hK⟩ := id C
  intro y0 s0 H locs ls h hP hD hS hl
  unfold df_X2_pair_49 at h
  exact K _ _ _ _ _ _ dX2_pair_49 rfl (Option.some.inj h).symm hP hD hS
set_option maxHeartbeats 40000000 in
set_option maxRecDepth 100000 in
theorem db_X2_pair_0 {p : Program} {l : Launch} {e : Env} {s : State} {m : MethodId} {args : Array Value} {below : List Frame} {meth : Method} {c : Code} {Q : State → Prop} {A : Nat → Prop} {dC : Nat → ClassId} {dI : Nat → Nat → Nat} {a : Nat → Nat} {ac : Nat → ClassId} {n : Nat} {r : Int32 × (Unit)} (C : nd_C p l s m args c A (dC, dI) cX2_pair 2 RX2 ow_dm_X2_pair (dk_P ac)) (K : nd_Ki p l e (headSpec ow_dm_X2_pair ({ frames := 0, cells := 0, slots := 0, locals := 0 })).room s m args below meth c Q A (dC, dI) cX2_pair .int (Unit) (dw_P a ac) r) : dj_X2_pair_0 p l e s m args below meth c Q A dC dI a ac (df_X2_pair_0 n) r := by
  obtain ⟨hlt, hx, hb, hml, hown, hts, hN, hA, hK⟩ := id C
  intro v0 v1 s0 H locs ls h hP hD hS hl
  unfold df_X2_pair_0 at h
  refine lv_iload_n hx hb dX2_pair_0 rfl (lv_at hl 1 rfl) ?_
  refine lv_bipush (v := 61) hx hb dX2_pair_1 (by decide) ?_
  refine lv_icmp_ne (tgt := 50) hx hb dX2_pair_3 (by decide) (fun c1 => ?_) (fun c1 => ?_)
  · have h := nd_neg h c1
    refine lv_iload_n hx hb dX2_pair_50 rfl (lv_at hl 0 rfl) ?_
    refine lv_iload_n hx hb dX2_pair_51 rfl (lv_at hl 1 rfl) ?_
    refine lv_icmp_eq (tgt := 57) hx hb dX2_pair_52 (by decide) (fun c2 => ?_) (fun c2 => ?_)
    · have h := nd_pos h c2
      refine lv_iload_n hx hb dX2_pair_57 rfl (lv_at hl 0 rfl) ?_
      refine lv_bipush (v := 124) hx hb dX2_pair_58 (by decide) ?_
      refine lv_icmp_ne (tgt := 67) hx hb dX2_pair_60 (by decide) (fun c3 => ?_) (fun c3 => ?_)
      · have h := nd_neg h c3
        refine lv_iload_n hx hb dX2_pair_67 rfl (lv_at hl 0 rfl) ?_
        refine lv_bipush (v := 38) hx hb dX2_pair_68 (by decide) ?_
        refine lv_icmp_ne (tgt := 77) hx hb dX2_pair_70 (by decide) (fun c4 => ?_) (fun c4 => ?_)
        · have h := nd_neg h c4
          refine lv_iload_n hx hb dX2_pair_77 rfl (lv_at hl 0 rfl) ?_
          refine lv_bipush (v := 60) hx hb dX2_pair_78 (by decide) ?_
          refine lv_icmp_ne (tgt := 88) hx hb dX2_pair_80 (by decide) (fun c5 => ?_) (fun c5 => ?_)
          · have h := nd_neg h c5
            refine lv_iload_n hx hb dX2_pair_88 rfl (lv_at hl 0 rfl) ?_
            refine lv_bipush (v := 62) hx hb dX2_pair_89 (by decide) ?_
            refine lv_icmp_ne (tgt := 99) hx hb dX2_pair_91 (by decide) (fun c6 => ?_) (fun c6 => ?_)
            · have h := nd_neg h c6
              refine lv_iconst (v := 0) hx hb dX2_pair_99 (by decide) ?_
              exact (db_X2_pair_100 C K) (0) s0 _ _ _ h hP hD hS (lv_sub hl [] rfl)
            · have h := nd_pos h c6
              refine lv_bipush (v := 13) hx hb dX2_pair_94 (by decide) ?_
              refine lv_goto (tgt := 100) hx hb dX2_pair_96 (by decide) ?_
              exact (db_X2_pair_100 C K) (13) s0 _ _ _ h hP hD hS (lv_sub hl [] rfl)
          · have h := nd_pos h c5
            refine lv_bipush (v := 12) hx hb dX2_pair_83 (by decide) ?_
            refine lv_goto (tgt := 100) hx hb dX2_pair_85 (by decide) ?_
            exact (db_X2_pair_100 C K) (12) s0 _ _ _ h hP hD hS (lv_sub hl [] rfl)
        · have h := nd_pos h c4
          refine lv_iconst (v := 2) hx hb dX2_pair_73 (by decide) ?_
          refine lv_goto (tgt := 100) hx hb dX2_pair_74 (by decide) ?_
          exact (db_X2_pair_100 C K) (2) s0 _ _ _ h hP hD hS (lv_sub hl [] rfl)
      · have h := nd_pos h c3
        refine lv_iconst (v := 1) hx hb dX2_pair_63 (by decide) ?_
        refine lv_goto (tgt := 100) hx hb dX2_pair_64 (by decide) ?_
        exact (db_X2_pair_100 C K) (1) s0 _ _ _ h hP hD hS (lv_sub hl [] rfl)
    · have h := nd_neg h c2
      refine lv_iconst (v := 0) hx hb dX2_pair_55 (by decide) ?_
      exact K _ _ _ _ _ _ dX2_pair_56 rfl (Option.some.inj h).symm hP hD hS
  · have h := nd_pos h c1
    refine lv_iload_n hx hb dX2_pair_6 rfl (lv_at hl 0 rfl) ?_
    refine lv_bipush (v := 61) hx hb dX2_pair_7 (by decide) ?_
    refine lv_icmp_ne (tgt := 16) hx hb dX2_pair_9 (by decide) (fun c7 => ?_) (fun c7 => ?_)
    · have h := nd_neg h c7
      refine lv_iload_n hx hb dX2_pair_16 rfl (lv_at hl 0 rfl) ?_
      refine lv_bipush (v := 33) hx hb dX2_pair_17 (by decide) ?_
      refine lv_icmp_ne (tgt := 26) hx hb dX2_pair_19 (by decide) (fun c8 => ?_) (fun c8 => ?_)
      · have h := nd_neg h c8
        refine lv_iload_n hx hb dX2_pair_26 rfl (lv_at hl 0 rfl) ?_
        refine lv_bipush (v := 60) hx hb dX2_pair_27 (by decide) ?_
        refine lv_icmp_ne (tgt := 37) hx hb dX2_pair_29 (by decide) (fun c9 => ?_) (fun c9 => ?_)
        · have h := nd_neg h c9
          refine lv_iload_n hx hb dX2_pair_37 rfl (lv_at hl 0 rfl) ?_
          refine lv_bipush (v := 62) hx hb dX2_pair_38 (by decide) ?_
          refine lv_icmp_ne (tgt := 48) hx hb dX2_pair_40 (by decide) (fun c10 => ?_) (fun c10 => ?_)
          · have h := nd_neg h c10
            refine lv_iconst (v := 0) hx hb dX2_pair_48 (by decide) ?_
            exact (db_X2_pair_49 C K) (0) s0 _ _ _ h hP hD hS (lv_sub hl [] rfl)
          · have h := nd_pos h c10
            refine lv_bipush (v := 8) hx hb dX2_pair_43 (by decide) ?_
            refine lv_goto (tgt := 49) hx hb dX2_pair_45 (by decide) ?_
            exact (db_X2_pair_49 C K) (8) s0 _ _ _ h hP hD hS (lv_sub hl [] rfl)
        · have h := nd_pos h c9
          refine lv_bipush (v := 6) hx hb dX2_pair_32 (by decide) ?_
          refine lv_goto (tgt := 49) hx hb dX2_pair_34 (by decide) ?_
          exact (db_X2_pair_49 C K) (6) s0 _ _ _ h hP hD hS (lv_sub hl [] rfl)
      · have h := nd_pos h c8
        refine lv_iconst (v := 4) hx hb dX2_pair_22 (by decide) ?_
        refine lv_goto (tgt := 49) hx hb dX2_pair_23 (by decide) ?_
        exact (db_X2_pair_49 C K) (4) s0 _ _ _ h hP hD hS (lv_sub hl [] rfl)
    · have h := nd_pos h c7
      refine lv_iconst (v := 3) hx hb dX2_pair_12 (by decide) ?_
      refine lv_goto (tgt := 49) hx hb dX2_pair_13 (by decide) ?_
      exact (db_X2_pair_49 C K) (3) s0 _ _ _ h hP hD hS (lv_sub hl [] rfl)
set_option maxHeartbeats 40000000 in
set_option maxRecDepth 100000 in
theorem dm_X2_pair (l : Launch) (hlt : l.stackTraces = false) (dC : Nat → ClassId) (dI : Nat → Nat → Nat) (a : Nat → Nat) (ac : Nat → ClassId) (n : Nat) (v0 : Int32) (v1 : Int32) (s0 : Unit) {r : Int32 × (Unit)} (h : df_X2_pair n v0 v1 s0 = some r) (sz : Nat) : Met l yX2_pair ow_dm_X2_pair ({ frames := 0, cells := 0, slots := 0, locals := 0 }) (va_Pc [.int v0, .int v1] (fun U => U.heap.size = sz ∧ va_P (dC, dI) vwCl (dw_P a ac s0) U.heap ∧ va_K (dC, dI) vwCl (dk_P ac) U ∧ va_D (fun _ => True) (dw_P a ac s0) ∧ nv_E (va_A (dw_P a ac s0) sz) U)) (va_Qi (fun x _ => x = r.1) (fun (_ : Unit) t => va_P (dC, dI) vwCl (dw_P a ac r.2) t.heap ∧ va_K (dC, dI) vwCl (dk_P ac) t ∧ va_D (va_A (dw_P a ac s0) sz) (dw_P a ac r.2)) (va_A (dw_P a ac s0) sz)) 0 0 (va_A (dw_P a ac s0) sz) := by
  refine Met.ofW (cc := cX2_pair) (maxL := 2) (ret := (some .int)) (by decide) rfl ?_
  intro p e s m args below meth c s₁ B hml hv
  obtain ⟨rfl, hsz, hP, hK, hD0, hN⟩ := hv
  have hx := B.exec
  have hb := B.bytes
  have hr := B.returns
  have hts := atoms_spec (ws := ow_dm_X2_pair) B.pre
  have hown : s.vm.findClass RX2 = some m.cls := findClass_of_methodNamed B.named
  have hlocks := B.notSynchronized
  subst hsz
  have hD := hD0.self (sz := s.heap.size)
  generalize hAe : va_A (dw_P a ac s0) s.heap.size = A at hD hN ⊢
  have hA : ∀ q : Nat, s.heap.size ≤ q → A q := fun q h => by rw [← hAe]; exact Or.inr h
  have hl := lv_entry ([.int v0, .int v1]) (n := 2) (Nat.le_of_ble_eq_true rfl)
  rw [lg_entry_eq]
  generalize (lg_sl ([.int v0, .int v1]) ++ List.replicate (2 - (lg_sl ([.int v0, .int v1])).length) Slot.unset).toArray = ls at hl ⊢
  have hl : lv_has ls 2 [(0, .int v0), (1, .int v1)] := hl
  exact db_X2_pair_0 (dC := dC) (dI := dI) (a := a) (ac := ac) (n := n) (r := r) ⟨hlt, hx, hb, hml, hown, hts, hN, hA, hK⟩ (fun pc v τ H locs ls d z er hP hD hS => by subst er; exact W.zret (v := v) hx hb hr z (fun t ht hW => ⟨⟨v, (), rfl, rfl, by rw [ht]; exact hP, va_K.moved hW.alike hK, hD⟩, hS.F ht⟩) hS.2.2 d) v0 v1 s0 _ _ _ h hP hD va_S.rf (lv_sub hl [0, 1] rfl)
def ow_dm_X2_alone : List Cond := .code yX2_alone cX2_alone 1 (some .int) :: ([] ++ [])
theorem gd_dm_X2_alone : ∀ w ∈ ow_dm_X2_alone, (w.onTables && w.keeps) = true ∨ ∃ ty, w = Cond.arrayClass ty := List.forall_mem_cons.mpr ⟨good_of_word rfl, List.forall_mem_append.mpr ⟨fun w h => good_of_word (List.all_eq_true.mp (by decide +kernel) w h), fun _ h => nomatch h⟩⟩
def dj_X2_alone_0 (p : Program) (l : Launch) (e : Env) (s : State) (m : MethodId) (args : Array Value) (below : List Frame) (meth : Method) (c : Code) (Q : State → Prop) (A : Nat → Prop) (dC : Nat → ClassId) (dI : Nat → Nat → Nat) (a : Nat → Nat) (ac : Nat → ClassId) (g : Int32 → (Unit) → Option (Int32 × (Unit))) (r : Int32 × (Unit)) : Prop := ∀ (v0 : Int32) (s0 : Unit) (H : Heap) (locs : List Loc) (ls : Array Slot), g v0 s0 = some r → va_P (dC, dI) vwCl (dw_P a ac s0) H → va_D A (dw_P a ac s0) → va_S A s.heap H locs → lv_has ls 1 [(0, .int v0)] → W p l e (headSpec ow_dm_X2_alone ({ frames := 0, cells := 0, slots := 0, locals := 0 })).room s m args below meth c H locs 0 0 Q (F0 m 0 ls [])
set_option maxHeartbeats 40000000 in
set_option maxRecDepth 100000 in
theorem db_X2_alone_0 {p : Program} {l : Launch} {e : Env} {s : State} {m : MethodId} {args : Array Value} {below : List Frame} {meth : Method} {c : Code} {Q : State → Prop} {A : Nat → Prop} {dC : Nat → ClassId} {dI : Nat → Nat → Nat} {a : Nat → Nat} {ac : Nat → ClassId} {n : Nat} {r : Int32 × (Unit)} (C : nd_C p l s m args c A (dC, dI) cX2_alone 1 RX2 ow_dm_X2_alone (dk_P ac)) (K : nd_Ki p l e (headSpec ow_dm_X2_alone ({ frames := 0, cells := 0, slots := 0, locals := 0 })).room s m args below meth c Q A (dC, dI) cX2_alone .int (Unit) (dw_P a ac) r) : dj_X2_alone_0 p l e s m args below meth c Q A dC dI a ac (df_X2_alone_0 n) r := by
  obtain ⟨hlt, hx, hb, hml, hown, hts, hN, hA, hK⟩ := id C
  intro v0 s0 H locs ls h hP hD hS hl
  unfold df_X2_alone_0 at h
  refine lv_iload_n hx hb dX2_alone_0 rfl (lv_at hl 0 rfl) ?_
  by_cases c1 : v0 = 33
  · have h := nd_pos h c1
    refine lv_lookup (off := 168) (tgt := 169) hx hb dX2_alone_1 (by decide) (by rw [c1]; decide) (by decide) ?_
    refine lv_bipush (v := 19) hx hb dX2_alone_169 (by decide) ?_
    exact K _ _ _ _ _ _ dX2_alone_171 rfl (Option.some.inj h).symm hP hD hS
  have h := nd_neg h c1
  by_cases c2 : v0 = 37
  · have h := nd_pos h c2
    refine lv_lookup (off := 165) (tgt := 166) hx hb dX2_alone_1 (by decide) (by rw [c2]; decide) (by decide) ?_
    refine lv_bipush (v := 18) hx hb dX2_alone_166 (by decide) ?_
    exact K _ _ _ _ _ _ dX2_alone_168 rfl (Option.some.inj h).symm hP hD hS
  have h := nd_neg h c2
  by_cases c3 : v0 = 38
  · have h := nd_pos h c3
    refine lv_lookup (off := 150) (tgt := 151) hx hb dX2_alone_1 (by decide) (by rw [c3]; decide) (by decide) ?_
    refine lv_bipush (v := 11) hx hb dX2_alone_151 (by decide) ?_
    exact K _ _ _ _ _ _ dX2_alone_153 rfl (Option.some.inj h).symm hP hD hS
  have h := nd_neg h c3
  by_cases c4 : v0 = 40
  · have h := nd_pos h c4
    refine lv_lookup (off := 174) (tgt := 175) hx hb dX2_alone_1 (by decide) (by rw [c4]; decide) (by decide) ?_
    refine lv_bipush (v := 22) hx hb dX2_alone_175 (by decide) ?_
    exact K _ _ _ _ _ _ dX2_alone_177 rfl (Option.some.inj h).symm hP hD hS
  have h := nd_neg h c4
  by_cases c5 : v0 = 41
  · have h := nd_pos h c5
    refine lv_lookup (off := 177) (tgt := 178) hx hb dX2_alone_1 (by decide) (by rw [c5]; decide) (by decide) ?_
    refine lv_bipush (v := 28) hx hb dX2_alone_178 (by decide) ?_
    exact K _ _ _ _ _ _ dX2_alone_180 rfl (Option.some.inj h).symm hP hD hS
  have h := nd_neg h c5
  by_cases c6 : v0 = 42
  · have h := nd_pos h c6
    refine lv_lookup (off := 159) (tgt := 160) hx hb dX2_alone_1 (by decide) (by rw [c6]; decide) (by decide) ?_
    refine lv_bipush (v := 16) hx hb dX2_alone_160 (by decide) ?_
    exact K _ _ _ _ _ _ dX2_alone_162 rfl (Option.some.inj h).symm hP hD hS
  have h := nd_neg h c6
  by_cases c7 : v0 = 43
  · have h := nd_pos h c7
    refine lv_lookup (off := 153) (tgt := 154) hx hb dX2_alone_1 (by decide) (by rw [c7]; decide) (by decide) ?_
    refine lv_bipush (v := 14) hx hb dX2_alone_154 (by decide) ?_
    exact K _ _ _ _ _ _ dX2_alone_156 rfl (Option.some.inj h).symm hP hD hS
  have h := nd_neg h c7
  by_cases c8 : v0 = 45
  · have h := nd_pos h c8
    refine lv_lookup (off := 156) (tgt := 157) hx hb dX2_alone_1 (by decide) (by rw [c8]; decide) (by decide) ?_
    refine lv_bipush (v := 15) hx hb dX2_alone_157 (by decide) ?_
    exact K _ _ _ _ _ _ dX2_alone_159 rfl (Option.some.inj h).symm hP hD hS
  have h := nd_neg h c8
  by_cases c9 : v0 = 47
  · have h := nd_pos h c9
    refine lv_lookup (off := 162) (tgt := 163) hx hb dX2_alone_1 (by decide) (by rw [c9]; decide) (by decide) ?_
    refine lv_bipush (v := 17) hx hb dX2_alone_163 (by decide) ?_
    exact K _ _ _ _ _ _ dX2_alone_165 rfl (Option.some.inj h).symm hP hD hS
  have h := nd_neg h c9
  by_cases c10 : v0 = 60
  · have h := nd_pos h c10
    refine lv_lookup (off := 139) (tgt := 140) hx hb dX2_alone_1 (by decide) (by rw [c10]; decide) (by decide) ?_
    refine lv_iconst (v := 5) hx hb dX2_alone_140 (by decide) ?_
    exact K _ _ _ _ _ _ dX2_alone_141 rfl (Option.some.inj h).symm hP hD hS
  have h := nd_neg h c10
  by_cases c11 : v0 = 62
  · have h := nd_pos h c11
    refine lv_lookup (off := 141) (tgt := 142) hx hb dX2_alone_1 (by decide) (by rw [c11]; decide) (by decide) ?_
    refine lv_bipush (v := 7) hx hb dX2_alone_142 (by decide) ?_
    exact K _ _ _ _ _ _ dX2_alone_144 rfl (Option.some.inj h).symm hP hD hS
  have h := nd_neg h c11
  by_cases c12 : v0 = 91
  · have h := nd_pos h c12
    refine lv_lookup (off := 180) (tgt := 181) hx hb dX2_alone_1 (by decide) (by rw [c12]; decide) (by decide) ?_
    refine lv_bipush (v := 25) hx hb dX2_alone_181 (by decide) ?_
    exact K _ _ _ _ _ _ dX2_alone_183 rfl (Option.some.inj h).symm hP hD hS
  have h := nd_neg h c12
  by_cases c13 : v0 = 93
  · have h := nd_pos h c13
    refine lv_lookup (off := 183) (tgt := 184) hx hb dX2_alone_1 (by decide) (by rw [c13]; decide) (by decide) ?_
    refine lv_bipush (v := 29) hx hb dX2_alone_184 (by decide) ?_
    exact K _ _ _ _ _ _ dX2_alone_186 rfl (Option.some.inj h).symm hP hD hS
  have h := nd_neg h c13
  by_cases c14 : v0 = 94
  · have h := nd_pos h c14
    refine lv_lookup (off := 147) (tgt := 148) hx hb dX2_alone_1 (by decide) (by rw [c14]; decide) (by decide) ?_
    refine lv_bipush (v := 10) hx hb dX2_alone_148 (by decide) ?_
    exact K _ _ _ _ _ _ dX2_alone_150 rfl (Option.some.inj h).symm hP hD hS
  have h := nd_neg h c14
  by_cases c15 : v0 = 124
  · have h := nd_pos h c15
    refine lv_lookup (off := 144) (tgt := 145) hx hb dX2_alone_1 (by decide) (by rw [c15]; decide) (by decide) ?_
    refine lv_bipush (v := 9) hx hb dX2_alone_145 (by decide) ?_
    exact K _ _ _ _ _ _ dX2_alone_147 rfl (Option.some.inj h).symm hP hD hS
  have h := nd_neg h c15
  by_cases c16 : v0 = 126
  · have h := nd_pos h c16
    refine lv_lookup (off := 171) (tgt := 172) hx hb dX2_alone_1 (by decide) (by rw [c16]; decide) (by decide) ?_
    refine lv_bipush (v := 21) hx hb dX2_alone_172 (by decide) ?_
    exact K _ _ _ _ _ _ dX2_alone_174 rfl (Option.some.inj h).symm hP hD hS
  have h := nd_neg h c16
  refine lv_lookup (off := 186) (tgt := 187) hx hb dX2_alone_1 (by decide) (show Op.lookupswitch.offset [(33, 168), (37, 165), (38, 150), (40, 174), (41, 177), (42, 159), (43, 153), (45, 156), (47, 162), (60, 139), (62, 141), (91, 180), (93, 183), (94, 147), (124, 144), (126, 171)] 186 (v0 : Int32).toInt = 186 by rw [lv_osw c1 (by decide), lv_osw c2 (by decide), lv_osw c3 (by decide), lv_osw c4 (by decide), lv_osw c5 (by decide), lv_osw c6 (by decide), lv_osw c7 (by decide), lv_osw c8 (by decide), lv_osw c9 (by decide), lv_osw c10 (by decide), lv_osw c11 (by decide), lv_osw c12 (by decide), lv_osw c13 (by decide), lv_osw c14 (by decide), lv_osw c15 (by decide), lv_osw c16 (by decide)] <;> rfl) (by decide) ?_
  refine lv_iconst (v := 0) hx hb dX2_alone_187 (by decide) ?_
  exact K _ _ _ _ _ _ dX2_alone_188 rfl (Option.some.inj h).symm hP hD hS
set_option maxHeartbeats 40000000 in
set_option maxRecDepth 100000 in
theorem dm_X2_alone (l : Launch) (hlt : l.stackTraces = false) (dC : Nat → ClassId) (dI : Nat → Nat → Nat) (a : Nat → Nat) (ac : Nat → ClassId) (n : Nat) (v0 : Int32) (s0 : Unit) {r : Int32 × (Unit)} (h : df_X2_alone n v0 s0 = some r) (sz : Nat) : Met l yX2_alone ow_dm_X2_alone ({ frames := 0, cells := 0, slots := 0, locals := 0 }) (va_Pc [.int v0] (fun U => U.heap.size = sz ∧ va_P (dC, dI) vwCl (dw_P a ac s0) U.heap ∧ va_K (dC, dI) vwCl (dk_P ac) U ∧ va_D (fun _ => True) (dw_P a ac s0) ∧ nv_E (va_A (dw_P a ac s0) sz) U)) (va_Qi (fun x _ => x = r.1) (fun (_ : Unit) t => va_P (dC, dI) vwCl (dw_P a ac r.2) t.heap ∧ va_K (dC, dI) vwCl (dk_P ac) t ∧ va_D (va_A (dw_P a ac s0) sz) (dw_P a ac r.2)) (va_A (dw_P a ac s0) sz)) 0 0 (va_A (dw_P a ac s0) sz) := by
  refine Met.ofW (cc := cX2_alone) (maxL := 1) (ret := (some .int)) (by decide) rfl ?_
  intro p e s m args below meth c s₁ B hml hv
  obtain ⟨rfl, hsz, hP, hK, hD0, hN⟩ := hv
  have hx := B.exec
  have hb := B.bytes
  have hr := B.returns
  have hts := atoms_spec (ws := ow_dm_X2_alone) B.pre
  have hown : s.vm.findClass RX2 = some m.cls := findClass_of_methodNamed B.named
  have hlocks := B.notSynchronized
  subst hsz
  have hD := hD0.self (sz := s.heap.size)
  generalize hAe : va_A (dw_P a ac s0) s.heap.size = A at hD hN ⊢
  have hA : ∀ q : Nat, s.heap.size ≤ q → A q := fun q h => by rw [← hAe]; exact Or.inr h
  have hl := lv_entry ([.int v0]) (n := 1) (Nat.le_of_ble_eq_true rfl)
  rw [lg_entry_eq]
  generalize (lg_sl ([.int v0]) ++ List.replicate (1 - (lg_sl ([.int v0])).length) Slot.unset).toArray = ls at hl ⊢
  have hl : lv_has ls 1 [(0, .int v0)] := hl
  exact db_X2_alone_0 (dC := dC) (dI := dI) (a := a) (ac := ac) (n := n) (r := r) ⟨hlt, hx, hb, hml, hown, hts, hN, hA, hK⟩ (fun pc v τ H locs ls d z er hP hD hS => by subst er; exact W.zret (v := v) hx hb hr z (fun t ht hW => ⟨⟨v, (), rfl, rfl, by rw [ht]; exact hP, va_K.moved hW.alike hK, hD⟩, hS.F ht⟩) hS.2.2 d) v0 s0 _ _ _ h hP hD va_S.rf (lv_sub hl [0] rfl)
def ow_dm_X2_next : List Cond := .code yX2_next cX2_next 4 none :: ([.fieldLink RX2 49 "TimeMachine$Condition" "at" "I", .fieldLink RX2 45 "TimeMachine$Condition" "stop" "I", .fieldLink RX2 90 "TimeMachine$Condition" "from" "I", .fieldLink RX2 35 "TimeMachine$Condition" "source" "[B", .methodLink RX2 93 yX2_isLetter, .static yX2_isLetter, .initialized RX2, .fieldLink RX2 77 "TimeMachine$Condition" "kind" "I", .methodLink RX2 100 yX2_readNumber, .instanceMethod yX2_readNumber, .selects RX2 yX2_readNumber yX2_readNumber, .methodLink RX2 97 yX2_isDigit, .static yX2_isDigit, .methodLink RX2 103 yX2_pair, .static yX2_pair, .methodLink RX2 106 yX2_alone, .static yX2_alone, .fieldLink RX2 110 "TimeMachine$Condition" "number" "J"] ++ (u_ws RX2 TX2 20 ++ (ow_dm_X2_isLetter ++ (ow_dm_X2_readNumber ++ (ow_dm_X2_isDigit ++ (ow_dm_X2_pair ++ (ow_dm_X2_alone ++ [])))))))
theorem gd_dm_X2_next : ∀ w ∈ ow_dm_X2_next, (w.onTables && w.keeps) = true ∨ ∃ ty, w = Cond.arrayClass ty := List.forall_mem_cons.mpr ⟨good_of_word rfl, List.forall_mem_append.mpr ⟨fun w h => good_of_word (List.all_eq_true.mp (by decide +kernel) w h), List.forall_mem_append.mpr ⟨gu_X2, List.forall_mem_append.mpr ⟨gd_dm_X2_isLetter, List.forall_mem_append.mpr ⟨gd_dm_X2_readNumber, List.forall_mem_append.mpr ⟨gd_dm_X2_isDigit, List.forall_mem_append.mpr ⟨gd_dm_X2_pair, List.forall_mem_append.mpr ⟨gd_dm_X2_alone, fun _ h => nomatch h⟩⟩⟩⟩⟩⟩⟩⟩
theorem hi_dm_X2_next_X2 : ∀ w ∈ u_ws RX2 TX2 20, w ∈ ow_dm_X2_next := fun w h => List.mem_cons_of_mem _ (List.mem_append_right _ (List.mem_append_left _ h))
theorem gi_dm_X2_next_0 : GoodIn ow_dm_X2_next (wsS RX2 93 yX2_isLetter ow_dm_X2_isLetter) := goodIn_app (goodIn_of _ (by decide +kernel)) (fun w h => ⟨List.mem_cons_of_mem _ (List.mem_append_right _ (List.mem_append_right _ (List.mem_append_left _ h))), gd_dm_X2_isLetter w h⟩)
theorem gi_dm_X2_next_1 : GoodIn ow_dm_X2_next (wsV RX2 100 RX2 yX2_readNumber ow_dm_X2_readNumber) := goodIn_app (goodIn_of _ (by decide +kernel)) (fun w h => ⟨List.mem_cons_of_mem _ (List.mem_append_right _ (List.mem_append_right _ (List.mem_append_right _ (List.mem_append_left _ h)))), gd_dm_X2_readNumber w h⟩)
theorem gi_dm_X2_next_2 : GoodIn ow_dm_X2_next (wsS RX2 97 yX2_isDigit ow_dm_X2_isDigit) := goodIn_app (goodIn_of _ (by decide +kernel)) (fun w h => ⟨List.mem_cons_of_mem _ (List.mem_append_right _ (List.mem_append_right _ (List.mem_append_right _ (List.mem_append_right _ (List.mem_append_left _ h))))), gd_dm_X2_isDigit w h⟩)
theorem gi_dm_X2_next_3 : GoodIn ow_dm_X2_next (wsS RX2 103 yX2_pair ow_dm_X2_pair) := goodIn_app (goodIn_of _ (by decide +kernel)) (fun w h => ⟨List.mem_cons_of_mem _ (List.mem_append_right _ (List.mem_append_right _ (List.mem_append_right _ (List.mem_append_right _ (List.mem_append_right _ (List.mem_append_left _ h)))))), gd_dm_X2_pair w h⟩)
theorem gi_dm_X2_next_4 : GoodIn ow_dm_X2_next (wsS RX2 106 yX2_alone ow_dm_X2_alone) := goodIn_app (goodIn_of _ (by decide +kernel)) (fun w h => ⟨List.mem_cons_of_mem _ (List.mem_append_right _ (List.mem_append_right _ (List.mem_append_right _ (List.mem_append_right _ (List.mem_append_right _ (List.mem_append_right _ (List.mem_append_left _ h))))))), gd_dm_X2_alone w h⟩)
def dj_X2_next_169 (p : Program) (l : Launch) (e : Env) (s : State) (m : MethodId) (args : Array Value) (below : List Frame) (meth : Method) (c : Code) (Q : State → Prop) (A : Nat → Prop) (dC : Nat → ClassId) (dI : Nat → Nat → Nat) (a : Nat → Nat) (ac : Nat → ClassId) (g : (St × (St)) → Option (St × (St))) (r : St × (St)) : Prop := ∀ (s0 : St × (St)) (H : Heap) (locs : List Loc) (ls : Array Slot), g s0 = some r → va_P (dC, dI) vwCl (dw_X2s a ac s0) H → va_D A (dw_X2s a ac s0) → va_S A s.heap H locs → lv_has ls 4 [] → W p l e (headSpec ow_dm_X2_next ({ frames := 2, cells := 0, slots := 0, locals := 44 })).room s m args below meth c H locs 0 0 Q (F0 m 169 ls [])
def dj_X2_next_154 (p : Program) (l : Launch) (e : Env) (s : State) (m : MethodId) (args : Array Value) (below : List Frame) (meth : Method) (c : Code) (Q : State → Prop) (A : Nat → Prop) (dC : Nat → ClassId) (dI : Nat → Nat → Nat) (a : Nat → Nat) (ac : Nat → ClassId) (g : Int32 → (St × (St)) → Option (St × (St))) (r : St × (St)) : Prop := ∀ (y1 : Int32) (s0 : St × (St)) (H : Heap) (locs : List Loc) (ls : Array Slot), g y1 s0 = some r → va_P (dC, dI) vwCl (dw_X2s a ac s0) H → va_D A (dw_X2s a ac s0) → va_S A s.heap H locs → lv_has ls 4 [(0, .ref (a 1))] → W p l e (headSpec ow_dm_X2_next ({ frames := 2, cells := 0, slots := 0, locals := 44 })).room s m args below meth c H locs 0 0 Q (F0 m 154 ls [.int y1, .ref (a 1)])
def dj_X2_next_141 (p : Program) (l : Launch) (e : Env) (s : State) (m : MethodId) (args : Array Value) (below : List Frame) (meth : Method) (c : Code) (Q : State → Prop) (A : Nat → Prop) (dC : Nat → ClassId) (dI : Nat → Nat → Nat) (a : Nat → Nat) (ac : Nat → ClassId) (g : Int32 → (St × (St)) → Option (St × (St))) (r : St × (St)) : Prop := ∀ (x1 : Int32) (s0 : St × (St)) (H : Heap) (locs : List Loc) (ls : Array Slot), g x1 s0 = some r → va_P (dC, dI) vwCl (dw_X2s a ac s0) H → va_D A (dw_X2s a ac s0) → va_S A s.heap H locs → lv_has ls 4 [(0, .ref (a 1)), (1, .int x1)] → W p l e (headSpec ow_dm_X2_next ({ frames := 2, cells := 0, slots := 0, locals := 44 })).room s m args below meth c H locs 0 0 Q (F0 m 141 ls [])
def dj_X2_next_128 (p : Program) (l : Launch) (e : Env) (s : State) (m : MethodId) (args : Array Value) (below : List Frame) (meth : Method) (c : Code) (Q : State → Prop) (A : Nat → Prop) (dC : Nat → ClassId) (dI : Nat → Nat → Nat) (a : Nat → Nat) (ac : Nat → ClassId) (g : Int32 → (St × (St)) → Option (St × (St))) (r : St × (St)) : Prop := ∀ (x1 : Int32) (s0 : St × (St)) (H : Heap) (locs : List Loc) (ls : Array Slot), g x1 s0 = some r → va_P (dC, dI) vwCl (dw_X2s a ac s0) H → va_D A (dw_X2s a ac s0) → va_S A s.heap H locs → lv_has ls 4 [(0, .ref (a 1)), (1, .int x1)] → W p l e (headSpec ow_dm_X2_next ({ frames := 2, cells := 0, slots := 0, locals := 44 })).room s m args below meth c H locs 0 0 Q (F0 m 128 ls [])
def dj_X2_next_87 (p : Program) (l : Launch) (e : Env) (s : State) (m : MethodId) (args : Array Value) (below : List Frame) (meth : Method) (c : Code) (Q : State → Prop) (A : Nat → Prop) (dC : Nat → ClassId) (dI : Nat → Nat → Nat) (a : Nat → Nat) (ac : Nat → ClassId) (g : Int32 → (St × (St)) → Option (St × (St))) (r : St × (St)) : Prop := ∀ (x1 : Int32) (s0 : St × (St)) (H : Heap) (locs : List Loc) (ls : Array Slot), g x1 s0 = some r → va_P (dC, dI) vwCl (dw_X2s a ac s0) H → va_D A (dw_X2s a ac s0) → va_S A s.heap H locs → lv_has ls 4 [(0, .ref (a 1)), (1, .int x1)] → W p l e (headSpec ow_dm_X2_next ({ frames := 2, cells := 0, slots := 0, locals := 44 })).room s m args below meth c H locs 0 0 Q (F0 m 87 ls [])
def dj_X2_next_255 (p : Program) (l : Launch) (e : Env) (s : State) (m : MethodId) (args : Array Value) (below : List Frame) (meth : Method) (c : Code) (Q : State → Prop) (A : Nat → Prop) (dC : Nat → ClassId) (dI : Nat → Nat → Nat) (a : Nat → Nat) (ac : Nat → ClassId) (g : Int32 → Int32 → (St × (St)) → Option (St × (St))) (r : St × (St)) : Prop := ∀ (y1 : Int32) (y2 : Int32) (s0 : St × (St)) (H : Heap) (locs : List Loc) (ls : Array Slot), g y1 y2 s0 = some r → va_P (dC, dI) vwCl (dw_X2s a ac s0) H → va_D A (dw_X2s a ac s0) → va_S A s.heap H locs → lv_has ls 4 [] → W p l e (headSpec ow_dm_X2_next ({ frames := 2, cells := 0, slots := 0, locals := 44 })).room s m args below meth c H locs 0 0 Q (F0 m 255 ls [.int y2, .int y1, .ref (a 1)])
def dj_X2_next_238 (p : Program) (l : Launch) (e : Env) (s : State) (m : MethodId) (args : Array Value) (below : List Frame) (meth : Method) (c : Code) (Q : State → Prop) (A : Nat → Prop) (dC : Nat → ClassId) (dI : Nat → Nat → Nat) (a : Nat → Nat) (ac : Nat → ClassId) (g : Int32 → Int32 → (St × (St)) → Option (St × (St))) (r : St × (St)) : Prop := ∀ (x3 : Int32) (y1 : Int32) (s0 : St × (St)) (H : Heap) (locs : List Loc) (ls : Array Slot), g x3 y1 s0 = some r → va_P (dC, dI) vwCl (dw_X2s a ac s0) H → va_D A (dw_X2s a ac s0) → va_S A s.heap H locs → lv_has ls 4 [(0, .ref (a 1)), (3, .int x3)] → W p l e (headSpec ow_dm_X2_next ({ frames := 2, cells := 0, slots := 0, locals := 44 })).room s m args below meth c H locs 0 0 Q (F0 m 238 ls [.int y1, .ref (a 1)])
def dj_X2_next_220 (p : Program) (l : Launch) (e : Env) (s : State) (m : MethodId) (args : Array Value) (below : List Frame) (meth : Method) (c : Code) (Q : State → Prop) (A : Nat → Prop) (dC : Nat → ClassId) (dI : Nat → Nat → Nat) (a : Nat → Nat) (ac : Nat → ClassId) (g : Int32 → Int64 → (St × (St)) → Option (St × (St))) (r : St × (St)) : Prop := ∀ (x3 : Int32) (y1 : Int64) (s0 : St × (St)) (H : Heap) (locs : List Loc) (ls : Array Slot), g x3 y1 s0 = some r → va_P (dC, dI) vwCl (dw_X2s a ac s0) H → va_D A (dw_X2s a ac s0) → va_S A s.heap H locs → lv_has ls 4 [(0, .ref (a 1)), (3, .int x3)] → W p l e (headSpec ow_dm_X2_next ({ frames := 2, cells := 0, slots := 0, locals := 44 })).room s m args below meth c H locs 0 0 Q (F0 m 220 ls [.long y1, .ref (a 1)])
def dj_X2_next_198 (p : Program) (l : Launch) (e : Env) (s : State) (m : MethodId) (args : Array Value) (below : List Frame) (meth : Method) (c : Code) (Q : State → Prop) (A : Nat → Prop) (dC : Nat → ClassId) (dI : Nat → Nat → Nat) (a : Nat → Nat) (ac : Nat → ClassId) (g : Int32 → Int32 → (St × (St)) → Option (St × (St))) (r : St × (St)) : Prop := ∀ (x1 : Int32) (y0 : Int32) (s0 : St × (St)) (H : Heap) (locs : List Loc) (ls : Array Slot), g x1 y0 s0 = some r → va_P (dC, dI) vwCl (dw_X2s a ac s0) H → va_D A (dw_X2s a ac s0) → va_S A s.heap H locs → lv_has ls 4 [(0, .ref (a 1)), (1, .int x1)] → W p l e (headSpec ow_dm_X2_next ({ frames := 2, cells := 0, slots := 0, locals := 44 })).room s m args below meth c H locs 0 0 Q (F0 m 198 ls [.int y0])
def dj_X2_next_38 (p : Program) (l : Launch) (e : Env) (s : State) (m : MethodId) (args : Array Value) (below : List Frame) (meth : Method) (c : Code) (Q : State → Prop) (A : Nat → Prop) (dC : Nat → ClassId) (dI : Nat → Nat → Nat) (a : Nat → Nat) (ac : Nat → ClassId) (g : (St × (St)) → Option (St × (St))) (r : St × (St)) : Prop := ∀ (s0 : St × (St)) (H : Heap) (locs : List Loc) (ls : Array Slot), g s0 = some r → va_P (dC, dI) vwCl (dw_X2s a ac s0) H → va_D A (dw_X2s a ac s0) → va_S A s.heap H locs → lv_has ls 4 [(0, .ref (a 1))] → W p l e (headSpec ow_dm_X2_next ({ frames := 2, cells := 0, slots := 0, locals := 44 })).room s m args below meth c H locs 0 0 Q (F0 m 38 ls [])
def dj_X2_next_0 (p : Program) (l : Launch) (e : Env) (s : State) (m : MethodId) (args : Array Value) (below : List Frame) (meth : Method) (c : Code) (Q : State → Prop) (A : Nat → Prop) (dC : Nat → ClassId) (dI : Nat → Nat → Nat) (a : Nat → Nat) (ac : Nat → ClassId) (g : (St × (St)) → Option (St × (St))) (r : St × (St)) : Prop := ∀ (s0 : St × (St)) (H : Heap) (locs : List Loc) (ls : Array Slot), g s0 = some r → va_P (dC, dI) vwCl (dw_X2s a ac s0) H → va_D A (dw_X2s a ac s0) → va_S A s.heap H locs → lv_has ls 4 [(0, .ref (a 1))] → W p l e (headSpec ow_dm_X2_next ({ frames := 2, cells := 0, slots := 0, locals := 44 })).room s m args below meth c H locs 0 0 Q (F0 m 0 ls [])
set_option maxHeartbeats 40000000 in
set_option maxRecDepth 100000 in
theorem db_X2_next_169 {p : Program} {l : Launch} {e : Env} {s : State} {m : MethodId} {args : Array Value} {below : List Frame} {meth : Method} {c : Code} {Q : State → Prop} {A : Nat → Prop} {dC : Nat → ClassId} {dI : Nat → Nat → Nat} {a : Nat → Nat} {ac : Nat → ClassId} {n : Nat} {r : St × (St)} (C : nd_C p l s m args c A (dC, dI) cX2_next 4 RX2 ow_dm_X2_next (dk_X2s ac)) (K : nd_Kv p l e (headSpec ow_dm_X2_next ({ frames := 2, cells := 0, slots := 0, locals := 44 })).room s m args below meth c Q A (dC, dI) cX2_next (St × (St)) (dw_X2s a ac) r) : dj_X2_next_169 p l e s m args below meth c Q A dC dI a ac (df_X2_next_169 n (a 0)) r := by
  obtain ⟨hlt, hx, hb, hml, hown, hts, hN, hA, hK⟩ := id C
  intro s0 H locs ls h hP hD hS hl
  unfold df_X2_next_169 at h
  exact K _ _ _ _ _ dX2_next_169 (Option.some.inj h).symm hP hD hS
set_option maxHeartbeats 40000000 in
set_option maxRecDepth 100000 in
theorem db_X2_next_154 {p : Program} {l : Launch} {e : Env} {s : State} {m : MethodId} {args : Array Value} {below : List Frame} {meth : Method} {c : Code} {Q : State → Prop} {A : Nat → Prop} {dC : Nat → ClassId} {dI : Nat → Nat → Nat} {a : Nat → Nat} {ac : Nat → ClassId} {n : Nat} {r : St × (St)} (C : nd_C p l s m args c A (dC, dI) cX2_next 4 RX2 ow_dm_X2_next (dk_X2s ac)) (K : nd_Kv p l e (headSpec ow_dm_X2_next ({ frames := 2, cells := 0, slots := 0, locals := 44 })).room s m args below meth c Q A (dC, dI) cX2_next (St × (St)) (dw_X2s a ac) r) : dj_X2_next_154 p l e s m args below meth c Q A dC dI a ac (df_X2_next_154 n (a 0)) r := by
  obtain ⟨hlt, hx, hb, hml, hown, hts, hN, hA, hK⟩ := id C
  intro y1 s0 H locs ls h hP hD hS hl
  unfold df_X2_next_154 at h
  refine va_put (D := (dC, dI)) (ci := 3) (v := .int y1) (ty := .int) (C := RX2) (T := TX2) (N := 20) hx hb hts hi_dm_X2_next_X2 tyX2 tyX2_ok nmX2 hown hK hP hD hS 1 rfl rfl 15 (by decide) (hts (.fieldLink RX2 77 "TimeMachine$Condition" "kind" "I") (List.mem_of_getElem? (i := 8) rfl)) (fun _ h9 => h9) rfl (by decide +kernel) rfl rfl (Nat.le_of_ble_eq_true rfl) dX2_next_154 (fun H locs hP hD hS => ?_)
  obtain ⟨s16, es16, h⟩ := nd_let_e h
  have hP : va_P (dC, dI) vwCl (dw_X2s a ac s16) H := by rw [es16]; exact hP
  have hD : va_D A (dw_X2s a ac s16) := by rw [es16]; exact hD
  refine lv_aload_n hx hb dX2_next_157 rfl (lv_at hl 0 rfl) ?_
  refine va_get (D := (dC, dI)) (ci := 3) (v := .int (sI s16.2 6)) (C := RX2) (T := TX2) (N := 20) hx hb hts hi_dm_X2_next_X2 hown hK hP 1 rfl rfl 15 (by decide) (hts (.fieldLink RX2 77 "TimeMachine$Condition" "kind" "I") (List.mem_of_getElem? (i := 8) rfl)) (fun _ h9 => h9) rfl dX2_next_158 ?_
  refine lv_iconst (v := 1) hx hb dX2_next_161 (by decide) ?_
  refine lv_icmp_ne (tgt := 169) hx hb dX2_next_162 (by decide) (fun c17 => ?_) (fun c17 => ?_)
  · have h := nd_neg h c17
    exact (db_X2_next_169 C K)  s16 _ _ _ h hP hD hS (lv_sub hl [] rfl)
  · have h := nd_pos h c17
    refine lv_aload_n hx hb dX2_next_165 rfl (lv_at hl 0 rfl) ?_
    obtain ⟨s19, hq, h⟩ := nd_b1_e h
    have hPc := hP
    have hDc := hD
    have hKc := hK
    have hFc := nd_rs hD hS hA
    refine nd_cVv (As := []) (rest := []) (w' := dw_X2s a ac s19) ⟨hx, hb, hml, hown, hts⟩ (fun sz => dm_X2_readNumber l hlt dC dI a ac n  s16 hq sz) (cwV 0 hts gi_dm_X2_next_1 rfl rfl rfl (by decide +kernel) ⟨Nat.le_of_ble_eq_true rfl, Nat.le_of_ble_eq_true rfl⟩) hPc hDc hKc hS hA hN (va_recv hKc hPc (ci := 3) (q0 := 1) rfl rfl) rfl hl.1 rfl (Nat.le_of_ble_eq_true rfl) dX2_next_166 (fun H locs hP1 hD1 hk1 hS => ?_)
    have hP := hP1
    have hD := hD1.weaken (fun k q _ h => hFc q.1 h)
    exact (db_X2_next_169 C K)  s19 _ _ _ h hP hD hS (lv_sub hl [] rfl)
set_option maxHeartbeats 40000000 in
set_option maxRecDepth 100000 in
theorem db_X2_next_141 {p : Program} {l : Launch} {e : Env} {s : State} {m : MethodId} {args : Array Value} {below : List Frame} {meth : Method} {c : Code} {Q : State → Prop} {A : Nat → Prop} {dC : Nat → ClassId} {dI : Nat → Nat → Nat} {a : Nat → Nat} {ac : Nat → ClassId} {n : Nat} {r : St × (St)} (C : nd_C p l s m args c A (dC, dI) cX2_next 4 RX2 ow_dm_X2_next (dk_X2s ac)) (K : nd_Kv p l e (headSpec ow_dm_X2_next ({ frames := 2, cells := 0, slots := 0, locals := 44 })).room s m args below meth c Q A (dC, dI) cX2_next (St × (St)) (dw_X2s a ac) r) : dj_X2_next_141 p l e s m args below meth c Q A dC dI a ac (df_X2_next_141 n (a 0)) r := by
  obtain ⟨hlt, hx, hb, hml, hown, hts, hN, hA, hK⟩ := id C
  intro x1 s0 H locs ls h hP hD hS hl
  unfold df_X2_next_141 at h
  refine lv_aload_n hx hb dX2_next_141 rfl (lv_at hl 0 rfl) ?_
  refine lv_iload_n hx hb dX2_next_142 rfl (lv_at hl 1 rfl) ?_
  obtain ⟨q12, s13, hq, h⟩ := nd_b2_e h
  have hPc : va_P (dC, dI) vwCl (dw_P a ac ()) H := nd_p0
  have hDc : va_D A (dw_P a ac ()) := nd_d0
  have hKc : va_K (dC, dI) vwCl (dk_P ac) s := nd_y0 hK
  have hFc : ∀ q, va_A (dw_P a ac ()) H.size q → A q := nd_r0 hS hA
  refine nd_cSi (As := [.int x1]) (rest := [.ref (a 1)]) (q := q12) (w' := dw_P a ac s13) ⟨hx, hb, hml, hown, hts⟩ (fun sz => dm_X2_isLetter l hlt dC dI a ac n (x1) () hq sz) (cwS 1 hts gi_dm_X2_next_0 rfl rfl rfl (by decide +kernel) ⟨Nat.le_of_ble_eq_true rfl, Nat.le_of_ble_eq_true rfl⟩) hPc hDc hKc hS hA hN rfl hl.1 rfl (Nat.le_of_ble_eq_true rfl) dX2_next_143 (fun H locs hP1 hD1 hk1 hS => ?_)
  have hP := nd_n0 hP hk1
  refine lv_if_eq (tgt := 153) hx hb dX2_next_146 (by decide) (fun c15 => ?_) (fun c15 => ?_)
  · have h := nd_pos h c15
    refine lv_iconst (v := 1) hx hb dX2_next_153 (by decide) ?_
    exact (db_X2_next_154 C K) (1) s0 _ _ _ h hP hD hS (lv_sub hl [0] rfl)
  · have h := nd_neg h c15
    refine lv_iconst (v := 2) hx hb dX2_next_149 (by decide) ?_
    refine lv_goto (tgt := 154) hx hb dX2_next_150 (by decide) ?_
    exact (db_X2_next_154 C K) (2) s0 _ _ _ h hP hD hS (lv_sub hl [0] rfl)
set_option maxHeartbeats 40000000 in
set_option maxRecDepth 100000 in
theorem db_X2_next_128 {p : Program} {l : Launch} {e : Env} {s : State} {m : MethodId} {args : Array Value} {below : List Frame} {meth : Method} {c : Code} {Q : State → Prop} {A : Nat → Prop} {dC : Nat → ClassId} {dI : Nat → Nat → Nat} {a : Nat → Nat} {ac : Nat → ClassId} {n : Nat} {r : St × (St)} (C : nd_C p l s m args c A (dC, dI) cX2_next 4 RX2 ow_dm_X2_next (dk_X2s ac)) (K : nd_Kv p l e (headSpec ow_dm_X2_next ({ frames := 2, cells := 0, slots := 0, locals := 44 })).room s m args below meth c Q A (dC, dI) cX2_next (St × (St)) (dw_X2s a ac) r) {g87 : Int32 → (St × (St)) → Option (St × (St))} (J87 : dj_X2_next_87 p l e s m args below meth c Q A dC dI a ac g87 r) : dj_X2_next_128 p l e s m args below meth c Q A dC dI a ac (df_X2_next_128 n (a 0) g87) r := by
  obtain ⟨hlt, hx, hb, hml, hown, hts, hN, hA, hK⟩ := id C
  intro x1 s0 H locs ls h hP hD hS hl
  unfold df_X2_next_128 at h
  refine lv_aload_n hx hb dX2_next_128 rfl (lv_at hl 0 rfl) ?_
  refine lv_dup hx hb dX2_next_129 rfl ?_
  refine va_get (D := (dC, dI)) (ci := 3) (v := .int (sI s0.2 5)) (C := RX2) (T := TX2) (N := 20) hx hb hts hi_dm_X2_next_X2 hown hK hP 1 rfl rfl 14 (by decide) (hts (.fieldLink RX2 49 "TimeMachine$Condition" "at" "I") (List.mem_of_getElem? (i := 1) rfl)) (fun _ h9 => h9) rfl dX2_next_130 ?_
  refine lv_iconst (v := 1) hx hb dX2_next_133 (by decide) ?_
  refine lv_iadd hx hb dX2_next_134 ?_
  refine va_put (D := (dC, dI)) (ci := 3) (v := .int ((sI s0.2 5) + 1)) (ty := .int) (C := RX2) (T := TX2) (N := 20) hx hb hts hi_dm_X2_next_X2 tyX2 tyX2_ok nmX2 hown hK hP hD hS 1 rfl rfl 14 (by decide) (hts (.fieldLink RX2 49 "TimeMachine$Condition" "at" "I") (List.mem_of_getElem? (i := 1) rfl)) (fun _ h9 => h9) rfl (by decide +kernel) rfl rfl (Nat.le_of_ble_eq_true rfl) dX2_next_135 (fun H locs hP hD hS => ?_)
  obtain ⟨s27, es27, h⟩ := nd_let_e h
  have hP : va_P (dC, dI) vwCl (dw_X2s a ac s27) H := by rw [es27]; exact hP
  have hD : va_D A (dw_X2s a ac s27) := by rw [es27]; exact hD
  refine lv_goto (tgt := 87) hx hb dX2_next_138 (by decide) ?_
  exact (J87) (x1) s27 _ _ _ h hP hD hS (lv_sub hl [0, 1] rfl)
set_option maxHeartbeats 40000000 in
set_option maxRecDepth 100000 in
theorem dB_X2_next_87 {p : Program} {l : Launch} {e : Env} {s : State} {m : MethodId} {args : Array Value} {below : List Frame} {meth : Method} {c : Code} {Q : State → Prop} {A : Nat → Prop} {dC : Nat → ClassId} {dI : Nat → Nat → Nat} {a : Nat → Nat} {ac : Nat → ClassId} {n : Nat} {r : St × (St)} (C : nd_C p l s m args c A (dC, dI) cX2_next 4 RX2 ow_dm_X2_next (dk_X2s ac)) (K : nd_Kv p l e (headSpec ow_dm_X2_next ({ frames := 2, cells := 0, slots := 0, locals := 44 })).room s m args below meth c Q A (dC, dI) cX2_next (St × (St)) (dw_X2s a ac) r) {g87 : Int32 → (St × (St)) → Option (St × (St))} (J87 : dj_X2_next_87 p l e s m args below meth c Q A dC dI a ac g87 r) : dj_X2_next_87 p l e s m args below meth c Q A dC dI a ac (dF_X2_next_87 n (a 0) g87) r := by
  obtain ⟨hlt, hx, hb, hml, hown, hts, hN, hA, hK⟩ := id C
  intro x1 s0 H locs ls h hP hD hS hl
  unfold dF_X2_next_87 at h
  refine lv_aload_n hx hb dX2_next_87 rfl (lv_at hl 0 rfl) ?_
  refine va_get (D := (dC, dI)) (ci := 3) (v := .int (sI s0.2 5)) (C := RX2) (T := TX2) (N := 20) hx hb hts hi_dm_X2_next_X2 hown hK hP 1 rfl rfl 14 (by decide) (hts (.fieldLink RX2 49 "TimeMachine$Condition" "at" "I") (List.mem_of_getElem? (i := 1) rfl)) (fun _ h9 => h9) rfl dX2_next_88 ?_
  refine lv_aload_n hx hb dX2_next_91 rfl (lv_at hl 0 rfl) ?_
  refine va_get (D := (dC, dI)) (ci := 3) (v := .int (sI s0.2 4)) (C := RX2) (T := TX2) (N := 20) hx hb hts hi_dm_X2_next_X2 hown hK hP 1 rfl rfl 13 (by decide) (hts (.fieldLink RX2 45 "TimeMachine$Condition" "stop" "I") (List.mem_of_getElem? (i := 2) rfl)) (fun _ h9 => h9) rfl dX2_next_92 ?_
  refine lv_icmp_ge (tgt := 141) hx hb dX2_next_95 (by decide) (fun c11 => ?_) (fun c11 => ?_)
  · have h := nd_pos h c11
    exact (db_X2_next_141 C K) (x1) s0 _ _ _ h hP hD hS (lv_sub hl [0, 1] rfl)
  · have h := nd_neg h c11
    refine lv_aload_n hx hb dX2_next_98 rfl (lv_at hl 0 rfl) ?_
    obtain ⟨o21, h⟩ := nd_o_e h
    refine va_get (D := (dC, dI)) (ci := 3) (v := .ref (a 0)) (C := RX2) (T := TX2) (N := 20) hx hb hts hi_dm_X2_next_X2 hown hK hP 1 rfl rfl 12 (by decide) (hts (.fieldLink RX2 35 "TimeMachine$Condition" "source" "[B") (List.mem_of_getElem? (i := 4) rfl)) (fun _ h9 => h9) (congrArg (fun z => some (va_rf z)) o21) dX2_next_99 ?_
    refine lv_aload_n hx hb dX2_next_102 rfl (lv_at hl 0 rfl) ?_
    refine va_get (D := (dC, dI)) (ci := 3) (v := .int (sI s0.2 5)) (C := RX2) (T := TX2) (N := 20) hx hb hts hi_dm_X2_next_X2 hown hK hP 1 rfl rfl 14 (by decide) (hts (.fieldLink RX2 49 "TimeMachine$Condition" "at" "I") (List.mem_of_getElem? (i := 1) rfl)) (fun _ h9 => h9) rfl dX2_next_103 ?_
    obtain ⟨i22, h⟩ := nd_ck_e h
    refine va_bald (i := (sI s0.2 5)) hx hb hK hP 0 0 rfl rfl i22 dX2_next_106 ?_
    obtain ⟨q23, s24, hq, h⟩ := nd_b2_e h
    have hPc : va_P (dC, dI) vwCl (dw_P a ac ()) H := nd_p0
    have hDc : va_D A (dw_P a ac ()) := nd_d0
    have hKc : va_K (dC, dI) vwCl (dk_P ac) s := nd_y0 hK
    have hFc : ∀ q, va_A (dw_P a ac ()) H.size q → A q := nd_r0 hS hA
    refine nd_cSi (As := [.int (sR s0.1 0 (Int32.toNatClampNeg (sI s0.2 5)))]) (rest := []) (q := q23) (w' := dw_P a ac s24) ⟨hx, hb, hml, hown, hts⟩ (fun sz => dm_X2_isLetter l hlt dC dI a ac n ((sR s0.1 0 (Int32.toNatClampNeg (sI s0.2 5)))) () hq sz) (cwS 1 hts gi_dm_X2_next_0 rfl rfl rfl (by decide +kernel) ⟨Nat.le_of_ble_eq_true rfl, Nat.le_of_ble_eq_true rfl⟩) hPc hDc hKc hS hA hN rfl hl.1 rfl (Nat.le_of_ble_eq_true rfl) dX2_next_107 (fun H locs hP1 hD1 hk1 hS => ?_)
    have hP := nd_n0 hP hk1
    refine lv_if_ne (tgt := 128) hx hb dX2_next_110 (by decide) (fun c26 => ?_) (fun c26 => ?_)
    · have h := nd_neg h c26
      exact (db_X2_next_128 C K J87) (x1) s0 _ _ _ h hP hD hS (lv_sub hl [0, 1] rfl)
    · have h := nd_pos h c26
      refine lv_aload_n hx hb dX2_next_113 rfl (lv_at hl 0 rfl) ?_
      obtain ⟨o28, h⟩ := nd_o_e h
      refine va_get (D := (dC, dI)) (ci := 3) (v := .ref (a 0)) (C := RX2) (T := TX2) (N := 20) hx hb hts hi_dm_X2_next_X2 hown hK hP 1 rfl rfl 12 (by decide) (hts (.fieldLink RX2 35 "TimeMachine$Condition" "source" "[B") (List.mem_of_getElem? (i := 4) rfl)) (fun _ h9 => h9) (congrArg (fun z => some (va_rf z)) o28) dX2_next_114 ?_
      refine lv_aload_n hx hb dX2_next_117 rfl (lv_at hl 0 rfl) ?_
      refine va_get (D := (dC, dI)) (ci := 3) (v := .int (sI s0.2 5)) (C := RX2) (T := TX2) (N := 20) hx hb hts hi_dm_X2_next_X2 hown hK hP 1 rfl rfl 14 (by decide) (hts (.fieldLink RX2 49 "TimeMachine$Condition" "at" "I") (List.mem_of_getElem? (i := 1) rfl)) (fun _ h9 => h9) rfl dX2_next_118 ?_
      obtain ⟨i29, h⟩ := nd_ck_e h
      refine va_bald (i := (sI s0.2 5)) hx hb hK hP 0 0 rfl rfl i29 dX2_next_121 ?_
      obtain ⟨q30, s31, hq, h⟩ := nd_b2_e h
      have hPc : va_P (dC, dI) vwCl (dw_P a ac ()) H := nd_p0
      have hDc : va_D A (dw_P a ac ()) := nd_d0
      have hKc : va_K (dC, dI) vwCl (dk_P ac) s := nd_y0 hK
      have hFc : ∀ q, va_A (dw_P a ac ()) H.size q → A q := nd_r0 hS hA
      refine nd_cSi (As := [.int (sR s0.1 0 (Int32.toNatClampNeg (sI s0.2 5)))]) (rest := []) (q := q30) (w' := dw_P a ac s31) ⟨hx, hb, hml, hown, hts⟩ (fun sz => dm_X2_isDigit l hlt dC dI a ac n ((sR s0.1 0 (Int32.toNatClampNeg (sI s0.2 5)))) () hq sz) (cwS 1 hts gi_dm_X2_next_2 rfl rfl rfl (by decide +kernel) ⟨Nat.le_of_ble_eq_true rfl, Nat.le_of_ble_eq_true rfl⟩) hPc hDc hKc hS hA hN rfl hl.1 rfl (Nat.le_of_ble_eq_true rfl) dX2_next_122 (fun H locs hP1 hD1 hk1 hS => ?_)
      have hP := nd_n0 hP hk1
      refine lv_if_eq (tgt := 141) hx hb dX2_next_125 (by decide) (fun c33 => ?_) (fun c33 => ?_)
      · have h := nd_pos h c33
        exact (db_X2_next_141 C K) (x1) s0 _ _ _ h hP hD hS (lv_sub hl [0, 1] rfl)
      · have h := nd_neg h c33
        exact (db_X2_next_128 C K J87) (x1) s0 _ _ _ h hP hD hS (lv_sub hl [0, 1] rfl)
set_option maxHeartbeats 40000000 in
set_option maxRecDepth 100000 in
theorem db_X2_next_87 {p : Program} {l : Launch} {e : Env} {s : State} {m : MethodId} {args : Array Value} {below : List Frame} {meth : Method} {c : Code} {Q : State → Prop} {A : Nat → Prop} {dC : Nat → ClassId} {dI : Nat → Nat → Nat} {a : Nat → Nat} {ac : Nat → ClassId} {n : Nat} {r : St × (St)} (C : nd_C p l s m args c A (dC, dI) cX2_next 4 RX2 ow_dm_X2_next (dk_X2s ac)) (K : nd_Kv p l e (headSpec ow_dm_X2_next ({ frames := 2, cells := 0, slots := 0, locals := 44 })).room s m args below meth c Q A (dC, dI) cX2_next (St × (St)) (dw_X2s a ac) r) (k : Nat) : dj_X2_next_87 p l e s m args below meth c Q A dC dI a ac (df_X2_next_87 n (a 0) k) r := by
  induction k with
  | zero => intro x1 s0 H locs ls h; exact nomatch (show (none : Option (St × (St))) = some r from h)
  | succ k ih => exact dB_X2_next_87 C K ih
set_option maxHeartbeats 40000000 in
set_option maxRecDepth 100000 in
theorem db_X2_next_255 {p : Program} {l : Launch} {e : Env} {s : State} {m : MethodId} {args : Array Value} {below : List Frame} {meth : Method} {c : Code} {Q : State → Prop} {A : Nat → Prop} {dC : Nat → ClassId} {dI : Nat → Nat → Nat} {a : Nat → Nat} {ac : Nat → ClassId} {n : Nat} {r : St × (St)} (C : nd_C p l s m args c A (dC, dI) cX2_next 4 RX2 ow_dm_X2_next (dk_X2s ac)) (K : nd_Kv p l e (headSpec ow_dm_X2_next ({ frames := 2, cells := 0, slots := 0, locals := 44 })).room s m args below meth c Q A (dC, dI) cX2_next (St × (St)) (dw_X2s a ac) r) : dj_X2_next_255 p l e s m args below meth c Q A dC dI a ac (df_X2_next_255 n (a 0)) r := by
  obtain ⟨hlt, hx, hb, hml, hown, hts, hN, hA, hK⟩ := id C
  intro y1 y2 s0 H locs ls h hP hD hS hl
  unfold df_X2_next_255 at h
  refine lv_iadd hx hb dX2_next_255 ?_
  refine va_put (D := (dC, dI)) (ci := 3) (v := .int (y1 + y2)) (ty := .int) (C := RX2) (T := TX2) (N := 20) hx hb hts hi_dm_X2_next_X2 tyX2 tyX2_ok nmX2 hown hK hP hD hS 1 rfl rfl 14 (by decide) (hts (.fieldLink RX2 49 "TimeMachine$Condition" "at" "I") (List.mem_of_getElem? (i := 1) rfl)) (fun _ h9 => h9) rfl (by decide +kernel) rfl rfl (Nat.le_of_ble_eq_true rfl) dX2_next_256 (fun H locs hP hD hS => ?_)
  obtain ⟨s50, es50, h⟩ := nd_let_e h
  have hP : va_P (dC, dI) vwCl (dw_X2s a ac s50) H := by rw [es50]; exact hP
  have hD : va_D A (dw_X2s a ac s50) := by rw [es50]; exact hD
  exact K _ _ _ _ _ dX2_next_259 (Option.some.inj h).symm hP hD hS
set_option maxHeartbeats 40000000 in
set_option maxRecDepth 100000 in
theorem db_X2_next_238 {p : Program} {l : Launch} {e : Env} {s : State} {m : MethodId} {args : Array Value} {below : List Frame} {meth : Method} {c : Code} {Q : State → Prop} {A : Nat → Prop} {dC : Nat → ClassId} {dI : Nat → Nat → Nat} {a : Nat → Nat} {ac : Nat → ClassId} {n : Nat} {r : St × (St)} (C : nd_C p l s m args c A (dC, dI) cX2_next 4 RX2 ow_dm_X2_next (dk_X2s ac)) (K : nd_Kv p l e (headSpec ow_dm_X2_next ({ frames := 2, cells := 0, slots := 0, locals := 44 })).room s m args below meth c Q A (dC, dI) cX2_next (St × (St)) (dw_X2s a ac) r) : dj_X2_next_238 p l e s m args below meth c Q A dC dI a ac (df_X2_next_238 n (a 0)) r := by
  obtain ⟨hlt, hx, hb, hml, hown, hts, hN, hA, hK⟩ := id C
  intro x3 y1 s0 H locs ls h hP hD hS hl
  unfold df_X2_next_238 at h
  refine va_put (D := (dC, dI)) (ci := 3) (v := .int y1) (ty := .int) (C := RX2) (T := TX2) (N := 20) hx hb hts hi_dm_X2_next_X2 tyX2 tyX2_ok nmX2 hown hK hP hD hS 1 rfl rfl 15 (by decide) (hts (.fieldLink RX2 77 "TimeMachine$Condition" "kind" "I") (List.mem_of_getElem? (i := 8) rfl)) (fun _ h9 => h9) rfl (by decide +kernel) rfl rfl (Nat.le_of_ble_eq_true rfl) dX2_next_238 (fun H locs hP hD hS => ?_)
  obtain ⟨s48, es48, h⟩ := nd_let_e h
  have hP : va_P (dC, dI) vwCl (dw_X2s a ac s48) H := by rw [es48]; exact hP
  have hD : va_D A (dw_X2s a ac s48) := by rw [es48]; exact hD
  refine lv_aload_n hx hb dX2_next_241 rfl (lv_at hl 0 rfl) ?_
  refine lv_dup hx hb dX2_next_242 rfl ?_
  refine va_get (D := (dC, dI)) (ci := 3) (v := .int (sI s48.2 5)) (C := RX2) (T := TX2) (N := 20) hx hb hts hi_dm_X2_next_X2 hown hK hP 1 rfl rfl 14 (by decide) (hts (.fieldLink RX2 49 "TimeMachine$Condition" "at" "I") (List.mem_of_getElem? (i := 1) rfl)) (fun _ h9 => h9) rfl dX2_next_243 ?_
  refine lv_iload_n hx hb dX2_next_246 rfl (lv_at hl 1 rfl) ?_
  refine lv_if_eq (tgt := 254) hx hb dX2_next_247 (by decide) (fun c49 => ?_) (fun c49 => ?_)
  · have h := nd_pos h c49
    refine lv_iconst (v := 1) hx hb dX2_next_254 (by decide) ?_
    exact (db_X2_next_255 C K) ((sI s48.2 5)) (1) s48 _ _ _ h hP hD hS (lv_sub hl [] rfl)
  · have h := nd_neg h c49
    refine lv_iconst (v := 2) hx hb dX2_next_250 (by decide) ?_
    refine lv_goto (tgt := 255) hx hb dX2_next_251 (by decide) ?_
    exact (db_X2_next_255 C K) ((sI s48.2 5)) (2) s48 _ _ _ h hP hD hS (lv_sub hl [] rfl)
set_option maxHeartbeats 40000000 in
set_option maxRecDepth 100000 in
theorem db_X2_next_220 {p : Program} {l : Launch} {e : Env} {s : State} {m : MethodId} {args : Array Value} {below : List Frame} {meth : Method} {c : Code} {Q : State → Prop} {A : Nat → Prop} {dC : Nat → ClassId} {dI : Nat → Nat → Nat} {a : Nat → Nat} {ac : Nat → ClassId} {n : Nat} {r : St × (St)} (C : nd_C p l s m args c A (dC, dI) cX2_next 4 RX2 ow_dm_X2_next (dk_X2s ac)) (K : nd_Kv p l e (headSpec ow_dm_X2_next ({ frames := 2, cells := 0, slots := 0, locals := 44 })).room s m args below meth c Q A (dC, dI) cX2_next (St × (St)) (dw_X2s a ac) r) : dj_X2_next_220 p l e s m args below meth c Q A dC dI a ac (df_X2_next_220 n (a 0)) r := by
  obtain ⟨hlt, hx, hb, hml, hown, hts, hN, hA, hK⟩ := id C
  intro x3 y1 s0 H locs ls h hP hD hS hl
  unfold df_X2_next_220 at h
  refine va_put (D := (dC, dI)) (ci := 3) (v := .long y1) (ty := .long) (C := RX2) (T := TX2) (N := 20) hx hb hts hi_dm_X2_next_X2 tyX2 tyX2_ok nmX2 hown hK hP hD hS 1 rfl rfl 17 (by decide) (hts (.fieldLink RX2 110 "TimeMachine$Condition" "number" "J") (List.mem_of_getElem? (i := 18) rfl)) (fun _ h9 => h9) rfl (by decide +kernel) rfl rfl (Nat.le_of_ble_eq_true rfl) dX2_next_220 (fun H locs hP hD hS => ?_)
  obtain ⟨s46, es46, h⟩ := nd_let_e h
  have hP : va_P (dC, dI) vwCl (dw_X2s a ac s46) H := by rw [es46]; exact hP
  have hD : va_D A (dw_X2s a ac s46) := by rw [es46]; exact hD
  refine lv_aload_n hx hb dX2_next_223 rfl (lv_at hl 0 rfl) ?_
  refine lv_aload_n hx hb dX2_next_224 rfl (lv_at hl 0 rfl) ?_
  refine va_get (D := (dC, dI)) (ci := 3) (v := .long (sL s46.2 0)) (C := RX2) (T := TX2) (N := 20) hx hb hts hi_dm_X2_next_X2 hown hK hP 1 rfl rfl 17 (by decide) (hts (.fieldLink RX2 110 "TimeMachine$Condition" "number" "J") (List.mem_of_getElem? (i := 18) rfl)) (fun _ h9 => h9) rfl dX2_next_225 ?_
  refine lv_lconst (v := 0) hx hb dX2_next_228 (by decide) ?_
  refine W.lcmp hx hb dX2_next_229 ?_
  refine lv_if_eq (tgt := 237) hx hb dX2_next_230 (by decide) (fun c47 => ?_) (fun c47 => ?_)
  · have h := nd_pos h c47
    refine lv_iconst (v := 4) hx hb dX2_next_237 (by decide) ?_
    exact (db_X2_next_238 C K) (x3) (4) s46 _ _ _ h hP hD hS (lv_sub hl [0, 1] rfl)
  · have h := nd_neg h c47
    refine lv_iconst (v := 3) hx hb dX2_next_233 (by decide) ?_
    refine lv_goto (tgt := 238) hx hb dX2_next_234 (by decide) ?_
    exact (db_X2_next_238 C K) (x3) (3) s46 _ _ _ h hP hD hS (lv_sub hl [0, 1] rfl)
set_option maxHeartbeats 40000000 in
set_option maxRecDepth 100000 in
theorem db_X2_next_198 {p : Program} {l : Launch} {e : Env} {s : State} {m : MethodId} {args : Array Value} {below : List Frame} {meth : Method} {c : Code} {Q : State → Prop} {A : Nat → Prop} {dC : Nat → ClassId} {dI : Nat → Nat → Nat} {a : Nat → Nat} {ac : Nat → ClassId} {n : Nat} {r : St × (St)} (C : nd_C p l s m args c A (dC, dI) cX2_next 4 RX2 ow_dm_X2_next (dk_X2s ac)) (K : nd_Kv p l e (headSpec ow_dm_X2_next ({ frames := 2, cells := 0, slots := 0, locals := 44 })).room s m args below meth c Q A (dC, dI) cX2_next (St × (St)) (dw_X2s a ac) r) : dj_X2_next_198 p l e s m args below meth c Q A dC dI a ac (df_X2_next_198 n (a 0)) r := by
  obtain ⟨hlt, hx, hb, hml, hown, hts, hN, hA, hK⟩ := id C
  intro x1 y0 s0 H locs ls h hP hD hS hl
  unfold df_X2_next_198 at h
  refine lv_istore_n (lv' := [(2, .int y0), (0, .ref (a 1)), (1, .int x1)]) hx hb dX2_next_198 rfl hl (by decide) rfl (fun ls hl => ?_)
  refine lv_iload_n hx hb dX2_next_199 rfl (lv_at hl 2 rfl) ?_
  refine lv_iload_n hx hb dX2_next_200 rfl (lv_at hl 0 rfl) ?_
  obtain ⟨q39, s40, hq, h⟩ := nd_b2_e h
  have hPc : va_P (dC, dI) vwCl (dw_P a ac ()) H := nd_p0
  have hDc : va_D A (dw_P a ac ()) := nd_d0
  have hKc : va_K (dC, dI) vwCl (dk_P ac) s := nd_y0 hK
  have hFc : ∀ q, va_A (dw_P a ac ()) H.size q → A q := nd_r0 hS hA
  refine nd_cSi (As := [.int x1, .int y0]) (rest := []) (q := q39) (w' := dw_P a ac s40) ⟨hx, hb, hml, hown, hts⟩ (fun sz => dm_X2_pair l hlt dC dI a ac n (x1) (y0) () hq sz) (cwS 2 hts gi_dm_X2_next_3 rfl rfl rfl (by decide +kernel) ⟨Nat.le_of_ble_eq_true rfl, Nat.le_of_ble_eq_true rfl⟩) hPc hDc hKc hS hA hN rfl hl.1 rfl (Nat.le_of_ble_eq_true rfl) dX2_next_201 (fun H locs hP1 hD1 hk1 hS => ?_)
  have hP := nd_n0 hP hk1
  refine lv_istore_n (lv' := [(3, .int q39), (2, .int y0), (0, .ref (a 1)), (1, .int x1)]) hx hb dX2_next_204 rfl hl (by decide) rfl (fun ls hl => ?_)
  refine lv_aload_n hx hb dX2_next_205 rfl (lv_at hl 2 rfl) ?_
  refine lv_iload_n hx hb dX2_next_206 rfl (lv_at hl 0 rfl) ?_
  refine lv_if_eq (tgt := 215) hx hb dX2_next_207 (by decide) (fun c42 => ?_) (fun c42 => ?_)
  · have h := nd_pos h c42
    refine lv_iload_n hx hb dX2_next_215 rfl (lv_at hl 3 rfl) ?_
    obtain ⟨q43, s44, hq, h⟩ := nd_b2_e h
    have hPc : va_P (dC, dI) vwCl (dw_P a ac ()) H := nd_p0
    have hDc : va_D A (dw_P a ac ()) := nd_d0
    have hKc : va_K (dC, dI) vwCl (dk_P ac) s := nd_y0 hK
    have hFc : ∀ q, va_A (dw_P a ac ()) H.size q → A q := nd_r0 hS hA
    refine nd_cSi (As := [.int x1]) (rest := [.ref (a 1)]) (q := q43) (w' := dw_P a ac s44) ⟨hx, hb, hml, hown, hts⟩ (fun sz => dm_X2_alone l hlt dC dI a ac n (x1) () hq sz) (cwS 1 hts gi_dm_X2_next_4 rfl rfl rfl (by decide +kernel) ⟨Nat.le_of_ble_eq_true rfl, Nat.le_of_ble_eq_true rfl⟩) hPc hDc hKc hS hA hN rfl hl.1 rfl (Nat.le_of_ble_eq_true rfl) dX2_next_216 (fun H locs hP1 hD1 hk1 hS => ?_)
    have hP := nd_n0 hP hk1
    refine lv_i2l hx hb dX2_next_219 rfl ?_
    exact (db_X2_next_220 C K) (q39) ((q43.toInt64)) s0 _ _ _ h hP hD hS (lv_sub hl [2, 0] rfl)
  · have h := nd_neg h c42
    refine lv_iload_n hx hb dX2_next_210 rfl (lv_at hl 0 rfl) ?_
    refine lv_i2l hx hb dX2_next_211 rfl ?_
    refine lv_goto (tgt := 220) hx hb dX2_next_212 (by decide) ?_
    exact (db_X2_next_220 C K) (q39) ((q39.toInt64)) s0 _ _ _ h hP hD hS (lv_sub hl [2, 0] rfl)
set_option maxHeartbeats 40000000 in
set_option maxRecDepth 100000 in
theorem db_X2_next_38 {p : Program} {l : Launch} {e : Env} {s : State} {m : MethodId} {args : Array Value} {below : List Frame} {meth : Method} {c : Code} {Q : State → Prop} {A : Nat → Prop} {dC : Nat → ClassId} {dI : Nat → Nat → Nat} {a : Nat → Nat} {ac : Nat → ClassId} {n : Nat} {r : St × (St)} (C : nd_C p l s m args c A (dC, dI) cX2_next 4 RX2 ow_dm_X2_next (dk_X2s ac)) (K : nd_Kv p l e (headSpec ow_dm_X2_next ({ frames := 2, cells := 0, slots := 0, locals := 44 })).room s m args below meth c Q A (dC, dI) cX2_next (St × (St)) (dw_X2s a ac) r) : dj_X2_next_38 p l e s m args below meth c Q A dC dI a ac (df_X2_next_38 n (a 0)) r := by
  obtain ⟨hlt, hx, hb, hml, hown, hts, hN, hA, hK⟩ := id C
  intro s0 H locs ls h hP hD hS hl
  unfold df_X2_next_38 at h
  refine lv_aload_n hx hb dX2_next_38 rfl (lv_at hl 0 rfl) ?_
  refine lv_aload_n hx hb dX2_next_39 rfl (lv_at hl 0 rfl) ?_
  refine va_get (D := (dC, dI)) (ci := 3) (v := .int (sI s0.2 5)) (C := RX2) (T := TX2) (N := 20) hx hb hts hi_dm_X2_next_X2 hown hK hP 1 rfl rfl 14 (by decide) (hts (.fieldLink RX2 49 "TimeMachine$Condition" "at" "I") (List.mem_of_getElem? (i := 1) rfl)) (fun _ h9 => h9) rfl dX2_next_40 ?_
  refine va_put (D := (dC, dI)) (ci := 3) (v := .int (sI s0.2 5)) (ty := .int) (C := RX2) (T := TX2) (N := 20) hx hb hts hi_dm_X2_next_X2 tyX2 tyX2_ok nmX2 hown hK hP hD hS 1 rfl rfl 16 (by decide) (hts (.fieldLink RX2 90 "TimeMachine$Condition" "from" "I") (List.mem_of_getElem? (i := 3) rfl)) (fun _ h9 => h9) rfl (by decide +kernel) rfl rfl (Nat.le_of_ble_eq_true rfl) dX2_next_43 (fun H locs hP hD hS => ?_)
  obtain ⟨s2, es2, h⟩ := nd_let_e h
  have hP : va_P (dC, dI) vwCl (dw_X2s a ac s2) H := by rw [es2]; exact hP
  have hD : va_D A (dw_X2s a ac s2) := by rw [es2]; exact hD
  refine lv_aload_n hx hb dX2_next_46 rfl (lv_at hl 0 rfl) ?_
  refine va_get (D := (dC, dI)) (ci := 3) (v := .int (sI s2.2 5)) (C := RX2) (T := TX2) (N := 20) hx hb hts hi_dm_X2_next_X2 hown hK hP 1 rfl rfl 14 (by decide) (hts (.fieldLink RX2 49 "TimeMachine$Condition" "at" "I") (List.mem_of_getElem? (i := 1) rfl)) (fun _ h9 => h9) rfl dX2_next_47 ?_
  refine lv_aload_n hx hb dX2_next_50 rfl (lv_at hl 0 rfl) ?_
  refine va_get (D := (dC, dI)) (ci := 3) (v := .int (sI s2.2 4)) (C := RX2) (T := TX2) (N := 20) hx hb hts hi_dm_X2_next_X2 hown hK hP 1 rfl rfl 13 (by decide) (hts (.fieldLink RX2 45 "TimeMachine$Condition" "stop" "I") (List.mem_of_getElem? (i := 2) rfl)) (fun _ h9 => h9) rfl dX2_next_51 ?_
  refine lv_icmp_lt (tgt := 63) hx hb dX2_next_54 (by decide) (fun c3 => ?_) (fun c3 => ?_)
  · have h := nd_pos h c3
    refine lv_aload_n hx hb dX2_next_63 rfl (lv_at hl 0 rfl) ?_
    obtain ⟨o4, h⟩ := nd_o_e h
    refine va_get (D := (dC, dI)) (ci := 3) (v := .ref (a 0)) (C := RX2) (T := TX2) (N := 20) hx hb hts hi_dm_X2_next_X2 hown hK hP 1 rfl rfl 12 (by decide) (hts (.fieldLink RX2 35 "TimeMachine$Condition" "source" "[B") (List.mem_of_getElem? (i := 4) rfl)) (fun _ h9 => h9) (congrArg (fun z => some (va_rf z)) o4) dX2_next_64 ?_
    refine lv_aload_n hx hb dX2_next_67 rfl (lv_at hl 0 rfl) ?_
    refine va_get (D := (dC, dI)) (ci := 3) (v := .int (sI s2.2 5)) (C := RX2) (T := TX2) (N := 20) hx hb hts hi_dm_X2_next_X2 hown hK hP 1 rfl rfl 14 (by decide) (hts (.fieldLink RX2 49 "TimeMachine$Condition" "at" "I") (List.mem_of_getElem? (i := 1) rfl)) (fun _ h9 => h9) rfl dX2_next_68 ?_
    obtain ⟨i5, h⟩ := nd_ck_e h
    refine va_bald (i := (sI s2.2 5)) hx hb hK hP 0 0 rfl rfl i5 dX2_next_71 ?_
    refine lv_topi (fun z6 ez6 => ?_)
    have h := nd_at h ez6
    refine lv_istore_n (lv' := [(1, .int z6), (0, .ref (a 1))]) hx hb dX2_next_72 rfl hl (by decide) rfl (fun ls hl => ?_)
    refine lv_iload_n hx hb dX2_next_73 rfl (lv_at hl 0 rfl) ?_
    obtain ⟨q7, s8, hq, h⟩ := nd_b2_e h
    have hPc : va_P (dC, dI) vwCl (dw_P a ac ()) H := nd_p0
    have hDc : va_D A (dw_P a ac ()) := nd_d0
    have hKc : va_K (dC, dI) vwCl (dk_P ac) s := nd_y0 hK
    have hFc : ∀ q, va_A (dw_P a ac ()) H.size q → A q := nd_r0 hS hA
    refine nd_cSi (As := [.int z6]) (rest := []) (q := q7) (w' := dw_P a ac s8) ⟨hx, hb, hml, hown, hts⟩ (fun sz => dm_X2_isLetter l hlt dC dI a ac n (z6) () hq sz) (cwS 1 hts gi_dm_X2_next_0 rfl rfl rfl (by decide +kernel) ⟨Nat.le_of_ble_eq_true rfl, Nat.le_of_ble_eq_true rfl⟩) hPc hDc hKc hS hA hN rfl hl.1 rfl (Nat.le_of_ble_eq_true rfl) dX2_next_74 (fun H locs hP1 hD1 hk1 hS => ?_)
    have hP := nd_n0 hP hk1
    refine lv_if_ne (tgt := 87) hx hb dX2_next_77 (by decide) (fun c10 => ?_) (fun c10 => ?_)
    · have h := nd_neg h c10
      exact (db_X2_next_87 C K n) (z6) s2 _ _ _ h hP hD hS (lv_sub hl [1, 0] rfl)
    · have h := nd_pos h c10
      refine lv_iload_n hx hb dX2_next_80 rfl (lv_at hl 0 rfl) ?_
      obtain ⟨q34, s35, hq, h⟩ := nd_b2_e h
      have hPc : va_P (dC, dI) vwCl (dw_P a ac ()) H := nd_p0
      have hDc : va_D A (dw_P a ac ()) := nd_d0
      have hKc : va_K (dC, dI) vwCl (dk_P ac) s := nd_y0 hK
      have hFc : ∀ q, va_A (dw_P a ac ()) H.size q → A q := nd_r0 hS hA
      refine nd_cSi (As := [.int z6]) (rest := []) (q := q34) (w' := dw_P a ac s35) ⟨hx, hb, hml, hown, hts⟩ (fun sz => dm_X2_isDigit l hlt dC dI a ac n (z6) () hq sz) (cwS 1 hts gi_dm_X2_next_2 rfl rfl rfl (by decide +kernel) ⟨Nat.le_of_ble_eq_true rfl, Nat.le_of_ble_eq_true rfl⟩) hPc hDc hKc hS hA hN rfl hl.1 rfl (Nat.le_of_ble_eq_true rfl) dX2_next_81 (fun H locs hP1 hD1 hk1 hS => ?_)
      have hP := nd_n0 hP hk1
      refine lv_if_eq (tgt := 170) hx hb dX2_next_84 (by decide) (fun c37 => ?_) (fun c37 => ?_)
      · have h := nd_pos h c37
        refine lv_aload_n hx hb dX2_next_170 rfl (lv_at hl 1 rfl) ?_
        refine va_get (D := (dC, dI)) (ci := 3) (v := .int (sI s2.2 5)) (C := RX2) (T := TX2) (N := 20) hx hb hts hi_dm_X2_next_X2 hown hK hP 1 rfl rfl 14 (by decide) (hts (.fieldLink RX2 49 "TimeMachine$Condition" "at" "I") (List.mem_of_getElem? (i := 1) rfl)) (fun _ h9 => h9) rfl dX2_next_171 ?_
        refine lv_iconst (v := 1) hx hb dX2_next_174 (by decide) ?_
        refine lv_iadd hx hb dX2_next_175 ?_
        refine lv_aload_n hx hb dX2_next_176 rfl (lv_at hl 1 rfl) ?_
        refine va_get (D := (dC, dI)) (ci := 3) (v := .int (sI s2.2 4)) (C := RX2) (T := TX2) (N := 20) hx hb hts hi_dm_X2_next_X2 hown hK hP 1 rfl rfl 13 (by decide) (hts (.fieldLink RX2 45 "TimeMachine$Condition" "stop" "I") (List.mem_of_getElem? (i := 2) rfl)) (fun _ h9 => h9) rfl dX2_next_177 ?_
        refine lv_icmp_ge (tgt := 197) hx hb dX2_next_180 (by decide) (fun c38 => ?_) (fun c38 => ?_)
        · have h := nd_pos h c38
          refine lv_iconst (v := 0) hx hb dX2_next_197 (by decide) ?_
          exact (db_X2_next_198 C K) (z6) (0) s2 _ _ _ h hP hD hS (lv_sub hl [1, 0] rfl)
        · have h := nd_neg h c38
          refine lv_aload_n hx hb dX2_next_183 rfl (lv_at hl 1 rfl) ?_
          obtain ⟨o51, h⟩ := nd_o_e h
          refine va_get (D := (dC, dI)) (ci := 3) (v := .ref (a 0)) (C := RX2) (T := TX2) (N := 20) hx hb hts hi_dm_X2_next_X2 hown hK hP 1 rfl rfl 12 (by decide) (hts (.fieldLink RX2 35 "TimeMachine$Condition" "source" "[B") (List.mem_of_getElem? (i := 4) rfl)) (fun _ h9 => h9) (congrArg (fun z => some (va_rf z)) o51) dX2_next_184 ?_
          refine lv_aload_n hx hb dX2_next_187 rfl (lv_at hl 1 rfl) ?_
          refine va_get (D := (dC, dI)) (ci := 3) (v := .int (sI s2.2 5)) (C := RX2) (T := TX2) (N := 20) hx hb hts hi_dm_X2_next_X2 hown hK hP 1 rfl rfl 14 (by decide) (hts (.fieldLink RX2 49 "TimeMachine$Condition" "at" "I") (List.mem_of_getElem? (i := 1) rfl)) (fun _ h9 => h9) rfl dX2_next_188 ?_
          refine lv_iconst (v := 1) hx hb dX2_next_191 (by decide) ?_
          refine lv_iadd hx hb dX2_next_192 ?_
          obtain ⟨i52, h⟩ := nd_ck_e h
          refine va_bald (i := ((sI s2.2 5) + 1)) hx hb hK hP 0 0 rfl rfl i52 dX2_next_193 ?_
          refine lv_goto (tgt := 198) hx hb dX2_next_194 (by decide) ?_
          exact (db_X2_next_198 C K) (z6) ((sR s2.1 0 (Int32.toNatClampNeg ((sI s2.2 5) + 1)))) s2 _ _ _ h hP hD hS (lv_sub hl [1, 0] rfl)
      · have h := nd_neg h c37
        exact (db_X2_next_87 C K n) (z6) s2 _ _ _ h hP hD hS (lv_sub hl [1, 0] rfl)
  · have h := nd_neg h c3
    refine lv_aload_n hx hb dX2_next_57 rfl (lv_at hl 0 rfl) ?_
    refine lv_iconst (v := 0) hx hb dX2_next_58 (by decide) ?_
    refine va_put (D := (dC, dI)) (ci := 3) (v := .int 0) (ty := .int) (C := RX2) (T := TX2) (N := 20) hx hb hts hi_dm_X2_next_X2 tyX2 tyX2_ok nmX2 hown hK hP hD hS 1 rfl rfl 15 (by decide) (hts (.fieldLink RX2 77 "TimeMachine$Condition" "kind" "I") (List.mem_of_getElem? (i := 8) rfl)) (fun _ h9 => h9) rfl (by decide +kernel) rfl rfl (Nat.le_of_ble_eq_true rfl) dX2_next_59 (fun H locs hP hD hS => ?_)
    obtain ⟨s53, es53, h⟩ := nd_let_e h
    have hP : va_P (dC, dI) vwCl (dw_X2s a ac s53) H := by rw [es53]; exact hP
    have hD : va_D A (dw_X2s a ac s53) := by rw [es53]; exact hD
    exact K _ _ _ _ _ dX2_next_62 (Option.some.inj h).symm hP hD hS
set_option maxHeartbeats 40000000 in
set_option maxRecDepth 100000 in
theorem dB_X2_next_0 {p : Program} {l : Launch} {e : Env} {s : State} {m : MethodId} {args : Array Value} {below : List Frame} {meth : Method} {c : Code} {Q : State → Prop} {A : Nat → Prop} {dC : Nat → ClassId} {dI : Nat → Nat → Nat} {a : Nat → Nat} {ac : Nat → ClassId} {n : Nat} {r : St × (St)} (C : nd_C p l s m args c A (dC, dI) cX2_next 4 RX2 ow_dm_X2_next (dk_X2s ac)) (K : nd_Kv p l e (headSpec ow_dm_X2_next ({ frames := 2, cells := 0, slots := 0, locals := 44 })).room s m args below meth c Q A (dC, dI) cX2_next (St × (St)) (dw_X2s a ac) r) {g0 : (St × (St)) → Option (St × (St))} (J0 : dj_X2_next_0 p l e s m args below meth c Q A dC dI a ac g0 r) : dj_X2_next_0 p l e s m args below meth c Q A dC dI a ac (dF_X2_next_0 n (a 0) g0) r := by
  obtain ⟨hlt, hx, hb, hml, hown, hts, hN, hA, hK⟩ := id C
  intro s0 H locs ls h hP hD hS hl
  unfold dF_X2_next_0 at h
  refine lv_aload_n hx hb dX2_next_0 rfl (lv_at hl 0 rfl) ?_
  refine va_get (D := (dC, dI)) (ci := 3) (v := .int (sI s0.2 5)) (C := RX2) (T := TX2) (N := 20) hx hb hts hi_dm_X2_next_X2 hown hK hP 1 rfl rfl 14 (by decide) (hts (.fieldLink RX2 49 "TimeMachine$Condition" "at" "I") (List.mem_of_getElem? (i := 1) rfl)) (fun _ h9 => h9) rfl dX2_next_1 ?_
  refine lv_aload_n hx hb dX2_next_4 rfl (lv_at hl 0 rfl) ?_
  refine va_get (D := (dC, dI)) (ci := 3) (v := .int (sI s0.2 4)) (C := RX2) (T := TX2) (N := 20) hx hb hts hi_dm_X2_next_X2 hown hK hP 1 rfl rfl 13 (by decide) (hts (.fieldLink RX2 45 "TimeMachine$Condition" "stop" "I") (List.mem_of_getElem? (i := 2) rfl)) (fun _ h9 => h9) rfl dX2_next_5 ?_
  refine lv_icmp_ge (tgt := 38) hx hb dX2_next_8 (by decide) (fun c1 => ?_) (fun c1 => ?_)
  · have h := nd_pos h c1
    exact (db_X2_next_38 C K)  s0 _ _ _ h hP hD hS (lv_sub hl [0] rfl)
  · have h := nd_neg h c1
    refine lv_aload_n hx hb dX2_next_11 rfl (lv_at hl 0 rfl) ?_
    obtain ⟨o54, h⟩ := nd_o_e h
    refine va_get (D := (dC, dI)) (ci := 3) (v := .ref (a 0)) (C := RX2) (T := TX2) (N := 20) hx hb hts hi_dm_X2_next_X2 hown hK hP 1 rfl rfl 12 (by decide) (hts (.fieldLink RX2 35 "TimeMachine$Condition" "source" "[B") (List.mem_of_getElem? (i := 4) rfl)) (fun _ h9 => h9) (congrArg (fun z => some (va_rf z)) o54) dX2_next_12 ?_
    refine lv_aload_n hx hb dX2_next_15 rfl (lv_at hl 0 rfl) ?_
    refine va_get (D := (dC, dI)) (ci := 3) (v := .int (sI s0.2 5)) (C := RX2) (T := TX2) (N := 20) hx hb hts hi_dm_X2_next_X2 hown hK hP 1 rfl rfl 14 (by decide) (hts (.fieldLink RX2 49 "TimeMachine$Condition" "at" "I") (List.mem_of_getElem? (i := 1) rfl)) (fun _ h9 => h9) rfl dX2_next_16 ?_
    obtain ⟨i55, h⟩ := nd_ck_e h
    refine va_bald (i := (sI s0.2 5)) hx hb hK hP 0 0 rfl rfl i55 dX2_next_19 ?_
    refine lv_bipush (v := 32) hx hb dX2_next_20 (by decide) ?_
    refine lv_icmp_ne (tgt := 38) hx hb dX2_next_22 (by decide) (fun c56 => ?_) (fun c56 => ?_)
    · have h := nd_neg h c56
      exact (db_X2_next_38 C K)  s0 _ _ _ h hP hD hS (lv_sub hl [0] rfl)
    · have h := nd_pos h c56
      refine lv_aload_n hx hb dX2_next_25 rfl (lv_at hl 0 rfl) ?_
      refine lv_dup hx hb dX2_next_26 rfl ?_
      refine va_get (D := (dC, dI)) (ci := 3) (v := .int (sI s0.2 5)) (C := RX2) (T := TX2) (N := 20) hx hb hts hi_dm_X2_next_X2 hown hK hP 1 rfl rfl 14 (by decide) (hts (.fieldLink RX2 49 "TimeMachine$Condition" "at" "I") (List.mem_of_getElem? (i := 1) rfl)) (fun _ h9 => h9) rfl dX2_next_27 ?_
      refine lv_iconst (v := 1) hx hb dX2_next_30 (by decide) ?_
      refine lv_iadd hx hb dX2_next_31 ?_
      refine va_put (D := (dC, dI)) (ci := 3) (v := .int ((sI s0.2 5) + 1)) (ty := .int) (C := RX2) (T := TX2) (N := 20) hx hb hts hi_dm_X2_next_X2 tyX2 tyX2_ok nmX2 hown hK hP hD hS 1 rfl rfl 14 (by decide) (hts (.fieldLink RX2 49 "TimeMachine$Condition" "at" "I") (List.mem_of_getElem? (i := 1) rfl)) (fun _ h9 => h9) rfl (by decide +kernel) rfl rfl (Nat.le_of_ble_eq_true rfl) dX2_next_32 (fun H locs hP hD hS => ?_)
      obtain ⟨s57, es57, h⟩ := nd_let_e h
      have hP : va_P (dC, dI) vwCl (dw_X2s a ac s57) H := by rw [es57]; exact hP
      have hD : va_D A (dw_X2s a ac s57) := by rw [es57]; exact hD
      refine lv_goto (tgt := 0) hx hb dX2_next_35 (by decide) ?_
      exact (J0)  s57 _ _ _ h hP hD hS (lv_sub hl [0] rfl)
set_option maxHeartbeats 40000000 in
set_option maxRecDepth 100000 in
theorem db_X2_next_0 {p : Program} {l : Launch} {e : Env} {s : State} {m : MethodId} {args : Array Value} {below : List Frame} {meth : Method} {c : Code} {Q : State → Prop} {A : Nat → Prop} {dC : Nat → ClassId} {dI : Nat → Nat → Nat} {a : Nat → Nat} {ac : Nat → ClassId} {n : Nat} {r : St × (St)} (C : nd_C p l s m args c A (dC, dI) cX2_next 4 RX2 ow_dm_X2_next (dk_X2s ac)) (K : nd_Kv p l e (headSpec ow_dm_X2_next ({ frames := 2, cells := 0, slots := 0, locals := 44 })).room s m args below meth c Q A (dC, dI) cX2_next (St × (St)) (dw_X2s a ac) r) (k : Nat) : dj_X2_next_0 p l e s m args below meth c Q A dC dI a ac (df_X2_next_0 n (a 0) k) r := by
  induction k with
  | zero => intro s0 H locs ls h; exact nomatch (show (none : Option (St × (St))) = some r from h)
  | succ k ih => exact dB_X2_next_0 C K ih
set_option maxHeartbeats 40000000 in
set_option maxRecDepth 100000 in
theorem dm_X2_next (l : Launch) (hlt : l.stackTraces = false) (dC : Nat → ClassId) (dI : Nat → Nat → Nat) (a : Nat → Nat) (ac : Nat → ClassId) (n : Nat) (s0 : St × (St)) {r : St × (St)} (h : df_X2_next n (a 0) s0 = some r) (sz : Nat) : Met l yX2_next ow_dm_X2_next ({ frames := 2, cells := 0, slots := 0, locals := 44 }) (va_Pc [.ref (a 1)] (fun U => U.heap.size = sz ∧ va_P (dC, dI) vwCl (dw_X2s a ac s0) U.heap ∧ va_K (dC, dI) vwCl (dk_X2s ac) U ∧ va_D (fun _ => True) (dw_X2s a ac s0) ∧ nv_E (va_A (dw_X2s a ac s0) sz) U)) (va_Qv (fun _ => True) (fun (_ : Unit) t => va_P (dC, dI) vwCl (dw_X2s a ac r) t.heap ∧ va_K (dC, dI) vwCl (dk_X2s ac) t ∧ va_D (va_A (dw_X2s a ac s0) sz) (dw_X2s a ac r)) (va_A (dw_X2s a ac s0) sz)) 0 0 (va_A (dw_X2s a ac s0) sz) := by
  refine Met.ofW (cc := cX2_next) (maxL := 4) (ret := none) (by decide) rfl ?_
  intro p e s m args below meth c s₁ B hml hv
  obtain ⟨rfl, hsz, hP, hK, hD0, hN⟩ := hv
  have hx := B.exec
  have hb := B.bytes
  have hr := B.returns
  have hts := atoms_spec (ws := ow_dm_X2_next) B.pre
  have hown : s.vm.findClass RX2 = some m.cls := findClass_of_methodNamed B.named
  have hlocks := B.notSynchronized
  subst hsz
  have hD := hD0.self (sz := s.heap.size)
  generalize hAe : va_A (dw_X2s a ac s0) s.heap.size = A at hD hN ⊢
  have hA : ∀ q : Nat, s.heap.size ≤ q → A q := fun q h => by rw [← hAe]; exact Or.inr h
  have hl := lv_entry ([.ref (a 1)]) (n := 4) (Nat.le_of_ble_eq_true rfl)
  rw [lg_entry_eq]
  generalize (lg_sl ([.ref (a 1)]) ++ List.replicate (4 - (lg_sl ([.ref (a 1)])).length) Slot.unset).toArray = ls at hl ⊢
  have hl : lv_has ls 4 [(0, .ref (a 1))] := hl
  exact db_X2_next_0 (dC := dC) (dI := dI) (a := a) (ac := ac) (n := n) (r := r) ⟨hlt, hx, hb, hml, hown, hts, hN, hA, hK⟩ (fun pc τ H locs ls d er hP hD hS => by subst er; exact W.vret hx hb hr (fun t ht hW => ⟨⟨(), rfl, trivial, by rw [ht]; exact hP, va_K.moved hW.alike hK, hD⟩, hS.F ht⟩) hS.2.2 d) n s0 _ _ _ h hP hD va_S.rf (lv_sub hl [0] rfl)
def ow_dm_X2_blame : List Cond := .code yX2_blame cX2_blame 2 none :: ([.fieldLink RX2 64 "TimeMachine$Condition" "fault" "I", .fieldLink RX2 90 "TimeMachine$Condition" "from" "I"] ++ (u_ws RX2 TX2 20 ++ []))
theorem gd_dm_X2_blame : ∀ w ∈ ow_dm_X2_blame, (w.onTables && w.keeps) = true ∨ ∃ ty, w = Cond.arrayClass ty := List.forall_mem_cons.mpr ⟨good_of_word rfl, List.forall_mem_append.mpr ⟨fun w h => good_of_word (List.all_eq_true.mp (by decide +kernel) w h), List.forall_mem_append.mpr ⟨gu_X2, fun _ h => nomatch h⟩⟩⟩
theorem hi_dm_X2_blame_X2 : ∀ w ∈ u_ws RX2 TX2 20, w ∈ ow_dm_X2_blame := fun w h => List.mem_cons_of_mem _ (List.mem_append_right _ (List.mem_append_left _ h))
def dj_X2_blame_20 (p : Program) (l : Launch) (e : Env) (s : State) (m : MethodId) (args : Array Value) (below : List Frame) (meth : Method) (c : Code) (Q : State → Prop) (A : Nat → Prop) (dC : Nat → ClassId) (dI : Nat → Nat → Nat) (a : Nat → Nat) (ac : Nat → ClassId) (g : (St) → Option (St)) (r : St) : Prop := ∀ (s0 : St) (H : Heap) (locs : List Loc) (ls : Array Slot), g s0 = some r → va_P (dC, dI) vwCl (dw_X2c a ac s0) H → va_D A (dw_X2c a ac s0) → va_S A s.heap H locs → lv_has ls 2 [] → W p l e (headSpec ow_dm_X2_blame ({ frames := 0, cells := 0, slots := 0, locals := 0 })).room s m args below meth c H locs 0 0 Q (F0 m 20 ls [])
def dj_X2_blame_0 (p : Program) (l : Launch) (e : Env) (s : State) (m : MethodId) (args : Array Value) (below : List Frame) (meth : Method) (c : Code) (Q : State → Prop) (A : Nat → Prop) (dC : Nat → ClassId) (dI : Nat → Nat → Nat) (a : Nat → Nat) (ac : Nat → ClassId) (g : Int32 → (St) → Option (St)) (r : St) : Prop := ∀ (v0 : Int32) (s0 : St) (H : Heap) (locs : List Loc) (ls : Array Slot), g v0 s0 = some r → va_P (dC, dI) vwCl (dw_X2c a ac s0) H → va_D A (dw_X2c a ac s0) → va_S A s.heap H locs → lv_has ls 2 [(0, .ref (a 0)), (1, .int v0)] → W p l e (headSpec ow_dm_X2_blame ({ frames := 0, cells := 0, slots := 0, locals := 0 })).room s m args below meth c H locs 0 0 Q (F0 m 0 ls [])
set_option maxHeartbeats 40000000 in
set_option maxRecDepth 100000 in
theorem db_X2_blame_20 {p : Program} {l : Launch} {e : Env} {s : State} {m : MethodId} {args : Array Value} {below : List Frame} {meth : Method} {c : Code} {Q : State → Prop} {A : Nat → Prop} {dC : Nat → ClassId} {dI : Nat → Nat → Nat} {a : Nat → Nat} {ac : Nat → ClassId} {n : Nat} {r : St} (C : nd_C p l s m args c A (dC, dI) cX2_blame 2 RX2 ow_dm_X2_blame (dk_X2c ac)) (K : nd_Kv p l e (headSpec ow_dm_X2_blame ({ frames := 0, cells := 0, slots := 0, locals := 0 })).room s m args below meth c Q A (dC, dI) cX2_blame (St) (dw_X2c a ac) r) : dj_X2_blame_20 p l e s m args below meth c Q A dC dI a ac (df_X2_blame_20 n) r := by
  obtain ⟨hlt, hx, hb, hml, hown, hts, hN, hA, hK⟩ := id C
  intro s0 H locs ls h hP hD hS hl
  unfold df_X2_blame_20 at h
  exact K _ _ _ _ _ dX2_blame_20 (Option.some.inj h).symm hP hD hS
set_option maxHeartbeats 40000000 in
set_option maxRecDepth 100000 in
theorem db_X2_blame_0 {p : Program} {l : Launch} {e : Env} {s : State} {m : MethodId} {args : Array Value} {below : List Frame} {meth : Method} {c : Code} {Q : State → Prop} {A : Nat → Prop} {dC : Nat → ClassId} {dI : Nat → Nat → Nat} {a : Nat → Nat} {ac : Nat → ClassId} {n : Nat} {r : St} (C : nd_C p l s m args c A (dC, dI) cX2_blame 2 RX2 ow_dm_X2_blame (dk_X2c ac)) (K : nd_Kv p l e (headSpec ow_dm_X2_blame ({ frames := 0, cells := 0, slots := 0, locals := 0 })).room s m args below meth c Q A (dC, dI) cX2_blame (St) (dw_X2c a ac) r) : dj_X2_blame_0 p l e s m args below meth c Q A dC dI a ac (df_X2_blame_0 n) r := by
  obtain ⟨hlt, hx, hb, hml, hown, hts, hN, hA, hK⟩ := id C
  intro v0 s0 H locs ls h hP hD hS hl
  unfold df_X2_blame_0 at h
  refine lv_aload_n hx hb dX2_blame_0 rfl (lv_at hl 0 rfl) ?_
  refine va_get (D := (dC, dI)) (ci := 3) (v := .int (sI s0 8)) (C := RX2) (T := TX2) (N := 20) hx hb hts hi_dm_X2_blame_X2 hown hK hP 0 rfl rfl 18 (by decide) (hts (.fieldLink RX2 64 "TimeMachine$Condition" "fault" "I") (List.mem_of_getElem? (i := 1) rfl)) (fun _ h9 => h9) rfl dX2_blame_1 ?_
  refine lv_if_ne (tgt := 20) hx hb dX2_blame_4 (by decide) (fun c1 => ?_) (fun c1 => ?_)
  · have h := nd_neg h c1
    exact (db_X2_blame_20 C K)  s0 _ _ _ h hP hD hS (lv_sub hl [] rfl)
  · have h := nd_pos h c1
    refine lv_aload_n hx hb dX2_blame_7 rfl (lv_at hl 0 rfl) ?_
    refine lv_iload_n hx hb dX2_blame_8 rfl (lv_at hl 1 rfl) ?_
    refine lv_bipush (v := 8) hx hb dX2_blame_9 (by decide) ?_
    refine lv_aload_n hx hb dX2_blame_11 rfl (lv_at hl 0 rfl) ?_
    refine va_get (D := (dC, dI)) (ci := 3) (v := .int (sI s0 7)) (C := RX2) (T := TX2) (N := 20) hx hb hts hi_dm_X2_blame_X2 hown hK hP 0 rfl rfl 16 (by decide) (hts (.fieldLink RX2 90 "TimeMachine$Condition" "from" "I") (List.mem_of_getElem? (i := 2) rfl)) (fun _ h9 => h9) rfl dX2_blame_12 ?_
    refine lv_imul hx hb dX2_blame_15 ?_
    refine lv_iadd hx hb dX2_blame_16 ?_
    refine va_put (D := (dC, dI)) (ci := 3) (v := .int (v0 + (8 * (sI s0 7)))) (ty := .int) (C := RX2) (T := TX2) (N := 20) hx hb hts hi_dm_X2_blame_X2 tyX2 tyX2_ok nmX2 hown hK hP hD hS 0 rfl rfl 18 (by decide) (hts (.fieldLink RX2 64 "TimeMachine$Condition" "fault" "I") (List.mem_of_getElem? (i := 1) rfl)) (fun _ h9 => h9) rfl (by decide +kernel) rfl rfl (Nat.le_of_ble_eq_true rfl) dX2_blame_17 (fun H locs hP hD hS => ?_)
    obtain ⟨s2, es2, h⟩ := nd_let_e h
    have hP : va_P (dC, dI) vwCl (dw_X2c a ac s2) H := by rw [es2]; exact hP
    have hD : va_D A (dw_X2c a ac s2) := by rw [es2]; exact hD
    exact (db_X2_blame_20 C K)  s2 _ _ _ h hP hD hS (lv_sub hl [] rfl)
set_option maxHeartbeats 40000000 in
set_option maxRecDepth 100000 in
theorem dm_X2_blame (l : Launch) (hlt : l.stackTraces = false) (dC : Nat → ClassId) (dI : Nat → Nat → Nat) (a : Nat → Nat) (ac : Nat → ClassId) (n : Nat) (v0 : Int32) (s0 : St) {r : St} (h : df_X2_blame n v0 s0 = some r) (sz : Nat) : Met l yX2_blame ow_dm_X2_blame ({ frames := 0, cells := 0, slots := 0, locals := 0 }) (va_Pc [.ref (a 0), .int v0] (fun U => U.heap.size = sz ∧ va_P (dC, dI) vwCl (dw_X2c a ac s0) U.heap ∧ va_K (dC, dI) vwCl (dk_X2c ac) U ∧ va_D (fun _ => True) (dw_X2c a ac s0) ∧ nv_E (va_A (dw_X2c a ac s0) sz) U)) (va_Qv (fun _ => True) (fun (_ : Unit) t => va_P (dC, dI) vwCl (dw_X2c a ac r) t.heap ∧ va_K (dC, dI) vwCl (dk_X2c ac) t ∧ va_D (va_A (dw_X2c a ac s0) sz) (dw_X2c a ac r)) (va_A (dw_X2c a ac s0) sz)) 0 0 (va_A (dw_X2c a ac s0) sz) := by
  refine Met.ofW (cc := cX2_blame) (maxL := 2) (ret := none) (by decide) rfl ?_
  intro p e s m args below meth c s₁ B hml hv
  obtain ⟨rfl, hsz, hP, hK, hD0, hN⟩ := hv
  have hx := B.exec
  have hb := B.bytes
  have hr := B.returns
  have hts := atoms_spec (ws := ow_dm_X2_blame) B.pre
  have hown : s.vm.findClass RX2 = some m.cls := findClass_of_methodNamed B.named
  have hlocks := B.notSynchronized
  subst hsz
  have hD := hD0.self (sz := s.heap.size)
  generalize hAe : va_A (dw_X2c a ac s0) s.heap.size = A at hD hN ⊢
  have hA : ∀ q : Nat, s.heap.size ≤ q → A q := fun q h => by rw [← hAe]; exact Or.inr h
  have hl := lv_entry ([.ref (a 0), .int v0]) (n := 2) (Nat.le_of_ble_eq_true rfl)
  rw [lg_entry_eq]
  generalize (lg_sl ([.ref (a 0), .int v0]) ++ List.replicate (2 - (lg_sl ([.ref (a 0), .int v0])).length) Slot.unset).toArray = ls at hl ⊢
  have hl : lv_has ls 2 [(0, .ref (a 0)), (1, .int v0)] := hl
  exact db_X2_blame_0 (dC := dC) (dI := dI) (a := a) (ac := ac) (n := n) (r := r) ⟨hlt, hx, hb, hml, hown, hts, hN, hA, hK⟩ (fun pc τ H locs ls d er hP hD hS => by subst er; exact W.vret hx hb hr (fun t ht hW => ⟨⟨(), rfl, trivial, by rw [ht]; exact hP, va_K.moved hW.alike hK, hD⟩, hS.F ht⟩) hS.2.2 d) v0 s0 _ _ _ h hP hD va_S.rf (lv_sub hl [0, 1] rfl)
def ow_dm_X2_part : List Cond := .code yX2_part cX2_part 1 none :: ([.fieldLink RX2 61 "TimeMachine$Condition" "parts" "I", .methodLink RX2 84 yX2_blame, .instanceMethod yX2_blame, .selects RX2 yX2_blame yX2_blame, .initialized RX2] ++ (u_ws RX2 TX2 20 ++ (ow_dm_X2_blame ++ [])))
theorem gd_dm_X2_part : ∀ w ∈ ow_dm_X2_part, (w.onTables && w.keeps) = true ∨ ∃ ty, w = Cond.arrayClass ty := List.forall_mem_cons.mpr ⟨good_of_word rfl, List.forall_mem_append.mpr ⟨fun w h => good_of_word (List.all_eq_true.mp (by decide +kernel) w h), List.forall_mem_append.mpr ⟨gu_X2, List.forall_mem_append.mpr ⟨gd_dm_X2_blame, fun _ h => nomatch h⟩⟩⟩⟩
theorem hi_dm_X2_part_X2 : ∀ w ∈ u_ws RX2 TX2 20, w ∈ ow_dm_X2_part := fun w h => List.mem_cons_of_mem _ (List.mem_append_right _ (List.mem_append_left _ h))
theorem gi_dm_X2_part_0 : GoodIn ow_dm_X2_part (wsV RX2 84 RX2 yX2_blame ow_dm_X2_blame) := goodIn_app (goodIn_of _ (by decide +kernel)) (fun w h => ⟨List.mem_cons_of_mem _ (List.mem_append_right _ (List.mem_append_right _ (List.mem_append_left _ h))), gd_dm_X2_blame w h⟩)
def dj_X2_part_24 (p : Program) (l : Launch) (e : Env) (s : State) (m : MethodId) (args : Array Value) (below : List Frame) (meth : Method) (c : Code) (Q : State → Prop) (A : Nat → Prop) (dC : Nat → ClassId) (dI : Nat → Nat → Nat) (a : Nat → Nat) (ac : Nat → ClassId) (g : (St) → Option (St)) (r : St) : Prop := ∀ (s0 : St) (H : Heap) (locs : List Loc) (ls : Array Slot), g s0 = some r → va_P (dC, dI) vwCl (dw_X2c a ac s0) H → va_D A (dw_X2c a ac s0) → va_S A s.heap H locs → lv_has ls 1 [] → W p l e (headSpec ow_dm_X2_part ({ frames := 1, cells := 0, slots := 0, locals := 21 })).room s m args below meth c H locs 0 0 Q (F0 m 24 ls [])
def dj_X2_part_0 (p : Program) (l : Launch) (e : Env) (s : State) (m : MethodId) (args : Array Value) (below : List Frame) (meth : Method) (c : Code) (Q : State → Prop) (A : Nat → Prop) (dC : Nat → ClassId) (dI : Nat → Nat → Nat) (a : Nat → Nat) (ac : Nat → ClassId) (g : (St) → Option (St)) (r : St) : Prop := ∀ (s0 : St) (H : Heap) (locs : List Loc) (ls : Array Slot), g s0 = some r → va_P (dC, dI) vwCl (dw_X2c a ac s0) H → va_D A (dw_X2c a ac s0) → va_S A s.heap H locs → lv_has ls 1 [(0, .ref (a 0))] → W p l e (headSpec ow_dm_X2_part ({ frames := 1, cells := 0, slots := 0, locals := 21 })).room s m args below meth c H locs 0 0 Q (F0 m 0 ls [])
set_option maxHeartbeats 40000000 in
set_option maxRecDepth 100000 in
theorem db_X2_part_24 {p : Program} {l : Launch} {e : Env} {s : State} {m : MethodId} {args : Array Value} {below : List Frame} {meth : Method} {c : Code} {Q : State → Prop} {A : Nat → Prop} {dC : Nat → ClassId} {dI : Nat → Nat → Nat} {a : Nat → Nat} {ac : Nat → ClassId} {n : Nat} {r : St} (C : nd_C p l s m args c A (dC, dI) cX2_part 1 RX2 ow_dm_X2_part (dk_X2c ac)) (K : nd_Kv p l e (headSpec ow_dm_X2_part ({ frames := 1, cells := 0, slots := 0, locals := 21 })).room s m args below meth c Q A (dC, dI) cX2_part (St) (dw_X2c a ac) r) : dj_X2_part_24 p l e s m args below meth c Q A dC dI a ac (df_X2_part_24 n) r := by
  obtain ⟨hlt, hx, hb, hml, hown, hts, hN, hA, hK⟩ := id C
  intro s0 H locs ls h hP hD hS hl
  unfold df_X2_part_24 at h
  exact K _ _ _ _ _ dX2_part_24 (Option.some.inj h).symm hP hD hS
set_option maxHeartbeats 40000000 in
set_option maxRecDepth 100000 in
theorem db_X2_part_0 {p : Program} {l : Launch} {e : Env} {s : State} {m : MethodId} {args : Array Value} {below : List Frame} {meth : Method} {c : Code} {Q : State → Prop} {A : Nat → Prop} {dC : Nat → ClassId} {dI : Nat → Nat → Nat} {a : Nat → Nat} {ac : Nat → ClassId} {n : Nat} {r : St} (C : nd_C p l s m args c A (dC, dI) cX2_part 1 RX2 ow_dm_X2_part (dk_X2c ac)) (K : nd_Kv p l e (headSpec ow_dm_X2_part ({ frames := 1, cells := 0, slots := 0, locals := 21 })).room s m args below meth c Q A (dC, dI) cX2_part (St) (dw_X2c a ac) r) : dj_X2_part_0 p l e s m args below meth c Q A dC dI a ac (df_X2_part_0 n) r := by
  obtain ⟨hlt, hx, hb, hml, hown, hts, hN, hA, hK⟩ := id C
  intro s0 H locs ls h hP hD hS hl
  unfold df_X2_part_0 at h
  refine lv_aload_n hx hb dX2_part_0 rfl (lv_at hl 0 rfl) ?_
  refine lv_dup hx hb dX2_part_1 rfl ?_
  refine va_get (D := (dC, dI)) (ci := 3) (v := .int (sI s0 9)) (C := RX2) (T := TX2) (N := 20) hx hb hts hi_dm_X2_part_X2 hown hK hP 0 rfl rfl 19 (by decide) (hts (.fieldLink RX2 61 "TimeMachine$Condition" "parts" "I") (List.mem_of_getElem? (i := 1) rfl)) (fun _ h9 => h9) rfl dX2_part_2 ?_
  refine lv_iconst (v := 1) hx hb dX2_part_5 (by decide) ?_
  refine lv_iadd hx hb dX2_part_6 ?_
  refine va_put (D := (dC, dI)) (ci := 3) (v := .int ((sI s0 9) + 1)) (ty := .int) (C := RX2) (T := TX2) (N := 20) hx hb hts hi_dm_X2_part_X2 tyX2 tyX2_ok nmX2 hown hK hP hD hS 0 rfl rfl 19 (by decide) (hts (.fieldLink RX2 61 "TimeMachine$Condition" "parts" "I") (List.mem_of_getElem? (i := 1) rfl)) (fun _ h9 => h9) rfl (by decide +kernel) rfl rfl (Nat.le_of_ble_eq_true rfl) dX2_part_7 (fun H locs hP hD hS => ?_)
  obtain ⟨s1, es1, h⟩ := nd_let_e h
  have hP : va_P (dC, dI) vwCl (dw_X2c a ac s1) H := by rw [es1]; exact hP
  have hD : va_D A (dw_X2c a ac s1) := by rw [es1]; exact hD
  refine lv_aload_n hx hb dX2_part_10 rfl (lv_at hl 0 rfl) ?_
  refine va_get (D := (dC, dI)) (ci := 3) (v := .int (sI s1 9)) (C := RX2) (T := TX2) (N := 20) hx hb hts hi_dm_X2_part_X2 hown hK hP 0 rfl rfl 19 (by decide) (hts (.fieldLink RX2 61 "TimeMachine$Condition" "parts" "I") (List.mem_of_getElem? (i := 1) rfl)) (fun _ h9 => h9) rfl dX2_part_11 ?_
  refine lv_bipush (v := 40) hx hb dX2_part_14 (by decide) ?_
  refine lv_icmp_le (tgt := 24) hx hb dX2_part_16 (by decide) (fun c2 => ?_) (fun c2 => ?_)
  · have h := nd_pos h c2
    exact (db_X2_part_24 C K)  s1 _ _ _ h hP hD hS (lv_sub hl [] rfl)
  · have h := nd_neg h c2
    refine lv_aload_n hx hb dX2_part_19 rfl (lv_at hl 0 rfl) ?_
    refine lv_iconst (v := 3) hx hb dX2_part_20 (by decide) ?_
    obtain ⟨s4, hq, h⟩ := nd_b1_e h
    have hPc := hP
    have hDc := hD
    have hKc := hK
    have hFc := nd_rs hD hS hA
    refine nd_cVv (As := [.int 3]) (rest := []) (w' := dw_X2c a ac s4) ⟨hx, hb, hml, hown, hts⟩ (fun sz => dm_X2_blame l hlt dC dI a ac n (3) s1 hq sz) (cwV 1 hts gi_dm_X2_part_0 rfl rfl rfl (by decide +kernel) ⟨Nat.le_of_ble_eq_true rfl, Nat.le_of_ble_eq_true rfl⟩) hPc hDc hKc hS hA hN (va_recv hKc hPc (ci := 3) (q0 := 0) rfl rfl) rfl hl.1 rfl (Nat.le_of_ble_eq_true rfl) dX2_part_21 (fun H locs hP1 hD1 hk1 hS => ?_)
    have hP := hP1
    have hD := hD1.weaken (fun k q _ h => hFc q.1 h)
    exact (db_X2_part_24 C K)  s4 _ _ _ h hP hD hS (lv_sub hl [] rfl)
set_option maxHeartbeats 40000000 in
set_option maxRecDepth 100000 in
theorem dm_X2_part (l : Launch) (hlt : l.stackTraces = false) (dC : Nat → ClassId) (dI : Nat → Nat → Nat) (a : Nat → Nat) (ac : Nat → ClassId) (n : Nat) (s0 : St) {r : St} (h : df_X2_part n s0 = some r) (sz : Nat) : Met l yX2_part ow_dm_X2_part ({ frames := 1, cells := 0, slots := 0, locals := 21 }) (va_Pc [.ref (a 0)] (fun U => U.heap.size = sz ∧ va_P (dC, dI) vwCl (dw_X2c a ac s0) U.heap ∧ va_K (dC, dI) vwCl (dk_X2c ac) U ∧ va_D (fun _ => True) (dw_X2c a ac s0) ∧ nv_E (va_A (dw_X2c a ac s0) sz) U)) (va_Qv (fun _ => True) (fun (_ : Unit) t => va_P (dC, dI) vwCl (dw_X2c a ac r) t.heap ∧ va_K (dC, dI) vwCl (dk_X2c ac) t ∧ va_D (va_A (dw_X2c a ac s0) sz) (dw_X2c a ac r)) (va_A (dw_X2c a ac s0) sz)) 0 0 (va_A (dw_X2c a ac s0) sz) := by
  refine Met.ofW (cc := cX2_part) (maxL := 1) (ret := none) (by decide) rfl ?_
  intro p e s m args below meth c s₁ B hml hv
  obtain ⟨rfl, hsz, hP, hK, hD0, hN⟩ := hv
  have hx := B.exec
  have hb := B.bytes
  have hr := B.returns
  have hts := atoms_spec (ws := ow_dm_X2_part) B.pre
  have hown : s.vm.findClass RX2 = some m.cls := findClass_of_methodNamed B.named
  have hlocks := B.notSynchronized
  subst hsz
  have hD := hD0.self (sz := s.heap.size)
  generalize hAe : va_A (dw_X2c a ac s0) s.heap.size = A at hD hN ⊢
  have hA : ∀ q : Nat, s.heap.size ≤ q → A q := fun q h => by rw [← hAe]; exact Or.inr h
  have hl := lv_entry ([.ref (a 0)]) (n := 1) (Nat.le_of_ble_eq_true rfl)
  rw [lg_entry_eq]
  generalize (lg_sl ([.ref (a 0)]) ++ List.replicate (1 - (lg_sl ([.ref (a 0)])).length) Slot.unset).toArray = ls at hl ⊢
  have hl : lv_has ls 1 [(0, .ref (a 0))] := hl
  exact db_X2_part_0 (dC := dC) (dI := dI) (a := a) (ac := ac) (n := n) (r := r) ⟨hlt, hx, hb, hml, hown, hts, hN, hA, hK⟩ (fun pc τ H locs ls d er hP hD hS => by subst er; exact W.vret hx hb hr (fun t ht hW => ⟨⟨(), rfl, trivial, by rw [ht]; exact hP, va_K.moved hW.alike hK, hD⟩, hS.F ht⟩) hS.2.2 d) s0 _ _ _ h hP hD va_S.rf (lv_sub hl [0] rfl)
def ow_dm_X2_waiting : List Cond := .code yX2_waiting cX2_waiting 5 (some .int) :: ([.fieldLink RX2 55 "TimeMachine$Condition" "top" "I", .fieldLink RX2 20 "TimeMachine$Condition" "sign" "[I"] ++ (u_ws RX2 TX2 20 ++ []))
theorem gd_dm_X2_waiting : ∀ w ∈ ow_dm_X2_waiting, (w.onTables && w.keeps) = true ∨ ∃ ty, w = Cond.arrayClass ty := List.forall_mem_cons.mpr ⟨good_of_word rfl, List.forall_mem_append.mpr ⟨fun w h => good_of_word (List.all_eq_true.mp (by decide +kernel) w h), List.forall_mem_append.mpr ⟨gu_X2, fun _ h => nomatch h⟩⟩⟩
theorem hi_dm_X2_waiting_X2 : ∀ w ∈ u_ws RX2 TX2 20, w ∈ ow_dm_X2_waiting := fun w h => List.mem_cons_of_mem _ (List.mem_append_right _ (List.mem_append_left _ h))
def dj_X2_waiting_39 (p : Program) (l : Launch) (e : Env) (s : State) (m : MethodId) (args : Array Value) (below : List Frame) (meth : Method) (c : Code) (Q : State → Prop) (A : Nat → Prop) (dC : Nat → ClassId) (dI : Nat → Nat → Nat) (a : Nat → Nat) (ac : Nat → ClassId) (g : Int32 → Int32 → Int32 → Int32 → (St) → Option (Int32 × (St))) (r : Int32 × (St)) : Prop := ∀ (x1 : Int32) (x2 : Int32) (x3 : Int32) (x4 : Int32) (s0 : St) (H : Heap) (locs : List Loc) (ls : Array Slot), g x1 x2 x3 x4 s0 = some r → va_P (dC, dI) vwCl (dw_X2c a ac s0) H → va_D A (dw_X2c a ac s0) → va_S A s.heap H locs → lv_has ls 5 [(0, .ref (a 0)), (1, .int x1), (2, .int x2), (3, .int x3), (4, .int x4)] → W p l e (headSpec ow_dm_X2_waiting ({ frames := 0, cells := 0, slots := 0, locals := 0 })).room s m args below meth c H locs 0 0 Q (F0 m 39 ls [])
def dj_X2_waiting_5 (p : Program) (l : Launch) (e : Env) (s : State) (m : MethodId) (args : Array Value) (below : List Frame) (meth : Method) (c : Code) (Q : State → Prop) (A : Nat → Prop) (dC : Nat → ClassId) (dI : Nat → Nat → Nat) (a : Nat → Nat) (ac : Nat → ClassId) (g : Int32 → Int32 → Int32 → Int32 → (St) → Option (Int32 × (St))) (r : Int32 × (St)) : Prop := ∀ (x1 : Int32) (x2 : Int32) (x3 : Int32) (x4 : Int32) (s0 : St) (H : Heap) (locs : List Loc) (ls : Array Slot), g x1 x2 x3 x4 s0 = some r → va_P (dC, dI) vwCl (dw_X2c a ac s0) H → va_D A (dw_X2c a ac s0) → va_S A s.heap H locs → lv_has ls 5 [(0, .ref (a 0)), (1, .int x1), (2, .int x2), (3, .int x3), (4, .int x4)] → W p l e (headSpec ow_dm_X2_waiting ({ frames := 0, cells := 0, slots := 0, locals := 0 })).room s m args below meth c H locs 0 0 Q (F0 m 5 ls [])
def dj_X2_waiting_0 (p : Program) (l : Launch) (e : Env) (s : State) (m : MethodId) (args : Array Value) (below : List Frame) (meth : Method) (c : Code) (Q : State → Prop) (A : Nat → Prop) (dC : Nat → ClassId) (dI : Nat → Nat → Nat) (a : Nat → Nat) (ac : Nat → ClassId) (g : Int32 → Int32 → (St) → Option (Int32 × (St))) (r : Int32 × (St)) : Prop := ∀ (v0 : Int32) (v1 : Int32) (s0 : St) (H : Heap) (locs : List Loc) (ls : Array Slot), g v0 v1 s0 = some r → va_P (dC, dI) vwCl (dw_X2c a ac s0) H → va_D A (dw_X2c a ac s0) → va_S A s.heap H locs → lv_has ls 5 [(0, .ref (a 0)), (1, .int v0), (2, .int v1)] → W p l e (headSpec ow_dm_X2_waiting ({ frames := 0, cells := 0, slots := 0, locals := 0 })).room s m args below meth c H locs 0 0 Q (F0 m 0 ls [])
set_option maxHeartbeats 40000000 in
set_option maxRecDepth 100000 in
theorem db_X2_waiting_39 {p : Program} {l : Launch} {e : Env} {s : State} {m : MethodId} {args : Array Value} {below : List Frame} {meth : Method} {c : Code} {Q : State → Prop} {A : Nat → Prop} {dC : Nat → ClassId} {dI : Nat → Nat → Nat} {a : Nat → Nat} {ac : Nat → ClassId} {n : Nat} {r : Int32 × (St)} (C : nd_C p l s m args c A (dC, dI) cX2_waiting 5 RX2 ow_dm_X2_waiting (dk_X2c ac)) (K : nd_Ki p l e (headSpec ow_dm_X2_waiting ({ frames := 0, cells := 0, slots := 0, locals := 0 })).room s m args below meth c Q A (dC, dI) cX2_waiting .int (St) (dw_X2c a ac) r) {g5 : Int32 → Int32 → Int32 → Int32 → (St) → Option (Int32 × (St))} (J5 : dj_X2_waiting_5 p l e s m args below meth c Q A dC dI a ac g5 r) : dj_X2_waiting_39 p l e s m args below meth c Q A dC dI a ac (df_X2_waiting_39 n g5) r := by
  obtain ⟨hlt, hx, hb, hml, hown, hts, hN, hA, hK⟩ := id C
  intro x1 x2 x3 x4 s0 H locs ls h hP hD hS hl
  unfold df_X2_waiting_39 at h
  obtain ⟨z4, ez4, h⟩ := nd_let_e h
  refine lv_iinc (v := z4) (lv' := [(4, .int z4), (0, .ref (a 0)), (1, .int x1), (2, .int x2), (3, .int x3)]) hx hb dX2_waiting_39 hl (k := 4) rfl (by rw [ez4]) (by decide) rfl (fun ls hl => ?_)
  refine lv_goto (tgt := 5) hx hb dX2_waiting_42 (by decide) ?_
  exact (J5) (x1) (x2) (x3) (z4) s0 _ _ _ h hP hD hS (lv_sub hl [1, 2, 3, 4, 0] rfl)
set_option maxHeartbeats 40000000 in
set_option maxRecDepth 100000 in
theorem dB_X2_waiting_5 {p : Program} {l : Launch} {e : Env} {s : State} {m : MethodId} {args : Array Value} {below : List Frame} {meth : Method} {c : Code} {Q : State → Prop} {A : Nat → Prop} {dC : Nat → ClassId} {dI : Nat → Nat → Nat} {a : Nat → Nat} {ac : Nat → ClassId} {n : Nat} {r : Int32 × (St)} (C : nd_C p l s m args c A (dC, dI) cX2_waiting 5 RX2 ow_dm_X2_waiting (dk_X2c ac)) (K : nd_Ki p l e (headSpec ow_dm_X2_waiting ({ frames := 0, cells := 0, slots := 0, locals := 0 })).room s m args below meth c Q A (dC, dI) cX2_waiting .int (St) (dw_X2c a ac) r) {g5 : Int32 → Int32 → Int32 → Int32 → (St) → Option (Int32 × (St))} (J5 : dj_X2_waiting_5 p l e s m args below meth c Q A dC dI a ac g5 r) : dj_X2_waiting_5 p l e s m args below meth c Q A dC dI a ac (dF_X2_waiting_5 n g5) r := by
  obtain ⟨hlt, hx, hb, hml, hown, hts, hN, hA, hK⟩ := id C
  intro x1 x2 x3 x4 s0 H locs ls h hP hD hS hl
  unfold dF_X2_waiting_5 at h
  refine lv_iload hx hb dX2_waiting_5 (lv_at hl 4 rfl) ?_
  refine lv_aload_n hx hb dX2_waiting_7 rfl (lv_at hl 0 rfl) ?_
  refine va_get (D := (dC, dI)) (ci := 3) (v := .int (sI s0 1)) (C := RX2) (T := TX2) (N := 20) hx hb hts hi_dm_X2_waiting_X2 hown hK hP 0 rfl rfl 4 (by decide) (hts (.fieldLink RX2 55 "TimeMachine$Condition" "top" "I") (List.mem_of_getElem? (i := 1) rfl)) (fun _ h9 => h9) rfl dX2_waiting_8 ?_
  refine lv_icmp_ge (tgt := 45) hx hb dX2_waiting_11 (by decide) (fun c1 => ?_) (fun c1 => ?_)
  · have h := nd_pos h c1
    refine lv_iload_n hx hb dX2_waiting_45 rfl (lv_at hl 3 rfl) ?_
    exact K _ _ _ _ _ _ dX2_waiting_46 rfl (Option.some.inj h).symm hP hD hS
  · have h := nd_neg h c1
    refine lv_aload_n hx hb dX2_waiting_14 rfl (lv_at hl 0 rfl) ?_
    refine va_get (D := (dC, dI)) (ci := 3) (v := .ref (a 4)) (C := RX2) (T := TX2) (N := 20) hx hb hts hi_dm_X2_waiting_X2 hown hK hP 0 rfl rfl 5 (by decide) (hts (.fieldLink RX2 20 "TimeMachine$Condition" "sign" "[I") (List.mem_of_getElem? (i := 2) rfl)) (fun _ h9 => h9) rfl dX2_waiting_15 ?_
    refine lv_iload hx hb dX2_waiting_18 (lv_at hl 4 rfl) ?_
    obtain ⟨i2, h⟩ := nd_ck_e h
    refine va_iald (i := x4) hx hb hK hP 4 3 rfl rfl i2 dX2_waiting_20 ?_
    refine lv_iload_n hx hb dX2_waiting_21 rfl (lv_at hl 1 rfl) ?_
    refine lv_icmp_lt (tgt := 39) hx hb dX2_waiting_22 (by decide) (fun c3 => ?_) (fun c3 => ?_)
    · have h := nd_pos h c3
      exact (db_X2_waiting_39 C K J5) (x1) (x2) (x3) (x4) s0 _ _ _ h hP hD hS (lv_sub hl [0, 1, 2, 3, 4] rfl)
    · have h := nd_neg h c3
      refine lv_aload_n hx hb dX2_waiting_25 rfl (lv_at hl 0 rfl) ?_
      refine va_get (D := (dC, dI)) (ci := 3) (v := .ref (a 4)) (C := RX2) (T := TX2) (N := 20) hx hb hts hi_dm_X2_waiting_X2 hown hK hP 0 rfl rfl 5 (by decide) (hts (.fieldLink RX2 20 "TimeMachine$Condition" "sign" "[I") (List.mem_of_getElem? (i := 2) rfl)) (fun _ h9 => h9) rfl dX2_waiting_26 ?_
      refine lv_iload hx hb dX2_waiting_29 (lv_at hl 4 rfl) ?_
      obtain ⟨i5, h⟩ := nd_ck_e h
      refine va_iald (i := x4) hx hb hK hP 4 3 rfl rfl i5 dX2_waiting_31 ?_
      refine lv_iload_n hx hb dX2_waiting_32 rfl (lv_at hl 2 rfl) ?_
      refine lv_icmp_gt (tgt := 39) hx hb dX2_waiting_33 (by decide) (fun c6 => ?_) (fun c6 => ?_)
      · have h := nd_pos h c6
        exact (db_X2_waiting_39 C K J5) (x1) (x2) (x3) (x4) s0 _ _ _ h hP hD hS (lv_sub hl [0, 1, 2, 3, 4] rfl)
      · have h := nd_neg h c6
        obtain ⟨z7, ez7, h⟩ := nd_let_e h
        refine lv_iinc (v := z7) (lv' := [(3, .int z7), (0, .ref (a 0)), (1, .int x1), (2, .int x2), (4, .int x4)]) hx hb dX2_waiting_36 hl (k := 3) rfl (by rw [ez7]) (by decide) rfl (fun ls hl => ?_)
        exact (db_X2_waiting_39 C K J5) (x1) (x2) (z7) (x4) s0 _ _ _ h hP hD hS (lv_sub hl [1, 2, 3, 0, 4] rfl)
set_option maxHeartbeats 40000000 in
set_option maxRecDepth 100000 in
theorem db_X2_waiting_5 {p : Program} {l : Launch} {e : Env} {s : State} {m : MethodId} {args : Array Value} {below : List Frame} {meth : Method} {c : Code} {Q : State → Prop} {A : Nat → Prop} {dC : Nat → ClassId} {dI : Nat → Nat → Nat} {a : Nat → Nat} {ac : Nat → ClassId} {n : Nat} {r : Int32 × (St)} (C : nd_C p l s m args c A (dC, dI) cX2_waiting 5 RX2 ow_dm_X2_waiting (dk_X2c ac)) (K : nd_Ki p l e (headSpec ow_dm_X2_waiting ({ frames := 0, cells := 0, slots := 0, locals := 0 })).room s m args below meth c Q A (dC, dI) cX2_waiting .int (St) (dw_X2c a ac) r) (k : Nat) : dj_X2_waiting_5 p l e s m args below meth c Q A dC dI a ac (df_X2_waiting_5 n k) r := by
  induction k with
  | zero => intro x1 x2 x3 x4 s0 H locs ls h; exact nomatch (show (none : Option (Int32 × (St))) = some r from h)
  | succ k ih => exact dB_X2_waiting_5 C K ih
set_option maxHeartbeats 40000000 in
set_option maxRecDepth 100000 in
theorem db_X2_waiting_0 {p : Program} {l : Launch} {e : Env} {s : State} {m : MethodId} {args : Array Value} {below : List Frame} {meth : Method} {c : Code} {Q : State → Prop} {A : Nat → Prop} {dC : Nat → ClassId} {dI : Nat → Nat → Nat} {a : Nat → Nat} {ac : Nat → ClassId} {n : Nat} {r : Int32 × (St)} (C : nd_C p l s m args c A (dC, dI) cX2_waiting 5 RX2 ow_dm_X2_waiting (dk_X2c ac)) (K : nd_Ki p l e (headSpec ow_dm_X2_waiting ({ frames := 0, cells := 0, slots := 0, locals := 0 })).room s m args below meth c Q A (dC, dI) cX2_waiting .int (St) (dw_X2c a ac) r) : dj_X2_waiting_0 p l e s m args below meth c Q A dC dI a ac (df_X2_waiting_0 n) r := by
  obtain ⟨hlt, hx, hb, hml, hown, hts, hN, hA, hK⟩ := id C
  intro v0 v1 s0 H locs ls h hP hD hS hl
  unfold df_X2_waiting_0 at h
  refine lv_iconst (v := 0) hx hb dX2_waiting_0 (by decide) ?_
  refine lv_istore_n (lv' := [(3, .int 0), (0, .ref (a 0)), (1, .int v0), (2, .int v1)]) hx hb dX2_waiting_1 rfl hl (by decide) rfl (fun ls hl => ?_)
  refine lv_iconst (v := 0) hx hb dX2_waiting_2 (by decide) ?_
  refine lv_istore (lv' := [(4, .int 0), (3, .int 0), (0, .ref (a 0)), (1, .int v0), (2, .int v1)]) hx hb dX2_waiting_3 hl (by decide) rfl (fun ls hl => ?_)
  exact (db_X2_waiting_5 C K n) (v0) (v1) (0) (0) s0 _ _ _ h hP hD hS (lv_sub hl [2, 3, 4, 1, 0] rfl)
set_option maxHeartbeats 40000000 in
set_option maxRecDepth 100000 in
theorem dm_X2_waiting (l : Launch) (hlt : l.stackTraces = false) (dC : Nat → ClassId) (dI : Nat → Nat → Nat) (a : Nat → Nat) (ac : Nat → ClassId) (n : Nat) (v0 : Int32) (v1 : Int32) (s0 : St) {r : Int32 × (St)} (h : df_X2_waiting n v0 v1 s0 = some r) (sz : Nat) : Met l yX2_waiting ow_dm_X2_waiting ({ frames := 0, cells := 0, slots := 0, locals := 0 }) (va_Pc [.ref (a 0), .int v0, .int v1] (fun U => U.heap.size = sz ∧ va_P (dC, dI) vwCl (dw_X2c a ac s0) U.heap ∧ va_K (dC, dI) vwCl (dk_X2c ac) U ∧ va_D (fun _ => True) (dw_X2c a ac s0) ∧ nv_E (va_A (dw_X2c a ac s0) sz) U)) (va_Qi (fun x _ => x = r.1) (fun (_ : Unit) t => va_P (dC, dI) vwCl (dw_X2c a ac r.2) t.heap ∧ va_K (dC, dI) vwCl (dk_X2c ac) t ∧ va_D (va_A (dw_X2c a ac s0) sz) (dw_X2c a ac r.2)) (va_A (dw_X2c a ac s0) sz)) 0 0 (va_A (dw_X2c a ac s0) sz) := by
  refine Met.ofW (cc := cX2_waiting) (maxL := 5) (ret := (some .int)) (by decide) rfl ?_
  intro p e s m args below meth c s₁ B hml hv
  obtain ⟨rfl, hsz, hP, hK, hD0, hN⟩ := hv
  have hx := B.exec
  have hb := B.bytes
  have hr := B.returns
  have hts := atoms_spec (ws := ow_dm_X2_waiting) B.pre
  have hown : s.vm.findClass RX2 = some m.cls := findClass_of_methodNamed B.named
  have hlocks := B.notSynchronized
  subst hsz
  have hD := hD0.self (sz := s.heap.size)
  generalize hAe : va_A (dw_X2c a ac s0) s.heap.size = A at hD hN ⊢
  have hA : ∀ q : Nat, s.heap.size ≤ q → A q := fun q h => by rw [← hAe]; exact Or.inr h
  have hl := lv_entry ([.ref (a 0), .int v0, .int v1]) (n := 5) (Nat.le_of_ble_eq_true rfl)
  rw [lg_entry_eq]
  generalize (lg_sl ([.ref (a 0), .int v0, .int v1]) ++ List.replicate (5 - (lg_sl ([.ref (a 0), .int v0, .int v1])).length) Slot.unset).toArray = ls at hl ⊢
  have hl : lv_has ls 5 [(0, .ref (a 0)), (1, .int v0), (2, .int v1)] := hl
  exact db_X2_waiting_0 (dC := dC) (dI := dI) (a := a) (ac := ac) (n := n) (r := r) ⟨hlt, hx, hb, hml, hown, hts, hN, hA, hK⟩ (fun pc v τ H locs ls d z er hP hD hS => by subst er; exact W.zret (v := v) hx hb hr z (fun t ht hW => ⟨⟨v, (), rfl, rfl, by rw [ht]; exact hP, va_K.moved hW.alike hK, hD⟩, hS.F ht⟩) hS.2.2 d) v0 v1 s0 _ _ _ h hP hD va_S.rf (lv_sub hl [0, 1, 2] rfl)
def ow_dm_X2_push : List Cond := .code yX2_push cX2_push 3 none :: ([.fieldLink RX2 64 "TimeMachine$Condition" "fault" "I", .fieldLink RX2 55 "TimeMachine$Condition" "top" "I", .fieldLink RX2 20 "TimeMachine$Condition" "sign" "[I", .fieldLink RX2 23 "TimeMachine$Condition" "signAt" "[I"] ++ (u_ws RX2 TX2 20 ++ []))
theorem gd_dm_X2_push : ∀ w ∈ ow_dm_X2_push, (w.onTables && w.keeps) = true ∨ ∃ ty, w = Cond.arrayClass ty := List.forall_mem_cons.mpr ⟨good_of_word rfl, List.forall_mem_append.mpr ⟨fun w h => good_of_word (List.all_eq_true.mp (by decide +kernel) w h), List.forall_mem_append.mpr ⟨gu_X2, fun _ h => nomatch h⟩⟩⟩
theorem hi_dm_X2_push_X2 : ∀ w ∈ u_ws RX2 TX2 20, w ∈ ow_dm_X2_push := fun w h => List.mem_cons_of_mem _ (List.mem_append_right _ (List.mem_append_left _ h))
def dj_X2_push_49 (p : Program) (l : Launch) (e : Env) (s : State) (m : MethodId) (args : Array Value) (below : List Frame) (meth : Method) (c : Code) (Q : State → Prop) (A : Nat → Prop) (dC : Nat → ClassId) (dI : Nat → Nat → Nat) (a : Nat → Nat) (ac : Nat → ClassId) (g : (St) → Option (St)) (r : St) : Prop := ∀ (s0 : St) (H : Heap) (locs : List Loc) (ls : Array Slot), g s0 = some r → va_P (dC, dI) vwCl (dw_X2c a ac s0) H → va_D A (dw_X2c a ac s0) → va_S A s.heap H locs → lv_has ls 3 [] → W p l e (headSpec ow_dm_X2_push ({ frames := 0, cells := 0, slots := 0, locals := 0 })).room s m args below meth c H locs 0 0 Q (F0 m 49 ls [])
def dj_X2_push_0 (p : Program) (l : Launch) (e : Env) (s : State) (m : MethodId) (args : Array Value) (below : List Frame) (meth : Method) (c : Code) (Q : State → Prop) (A : Nat → Prop) (dC : Nat → ClassId) (dI : Nat → Nat → Nat) (a : Nat → Nat) (ac : Nat → ClassId) (g : Int32 → Int32 → (St) → Option (St)) (r : St) : Prop := ∀ (v0 : Int32) (v1 : Int32) (s0 : St) (H : Heap) (locs : List Loc) (ls : Array Slot), g v0 v1 s0 = some r → va_P (dC, dI) vwCl (dw_X2c a ac s0) H → va_D A (dw_X2c a ac s0) → va_S A s.heap H locs → lv_has ls 3 [(0, .ref (a 0)), (1, .int v0), (2, .int v1)] → W p l e (headSpec ow_dm_X2_push ({ frames := 0, cells := 0, slots := 0, locals := 0 })).room s m args below meth c H locs 0 0 Q (F0 m 0 ls [])
set_option maxHeartbeats 40000000 in
set_option maxRecDepth 100000 in
theorem db_X2_push_49 {p : Program} {l : Launch} {e : Env} {s : State} {m : MethodId} {args : Array Value} {below : List Frame} {meth : Method} {c : Code} {Q : State → Prop} {A : Nat → Prop} {dC : Nat → ClassId} {dI : Nat → Nat → Nat} {a : Nat → Nat} {ac : Nat → ClassId} {n : Nat} {r : St} (C : nd_C p l s m args c A (dC, dI) cX2_push 3 RX2 ow_dm_X2_push (dk_X2c ac)) (K : nd_Kv p l e (headSpec ow_dm_X2_push ({ frames := 0, cells := 0, slots := 0, locals := 0 })).room s m args below meth c Q A (dC, dI) cX2_push (St) (dw_X2c a ac) r) : dj_X2_push_49 p l e s m args below meth c Q A dC dI a ac (df_X2_push_49 n) r := by
  obtain ⟨hlt, hx, hb, hml, hown, hts, hN, hA, hK⟩ := id C
  intro s0 H locs ls h hP hD hS hl
  unfold df_X2_push_49 at h
  exact K _ _ _ _ _ dX2_push_49 (Option.some.inj h).symm hP hD hS
set_option maxHeartbeats 40000000 in
set_option maxRecDepth 100000 in
theorem db_X2_push_0 {p : Program} {l : Launch} {e : Env} {s : State} {m : MethodId} {args : Array Value} {below : List Frame} {meth : Method} {c : Code} {Q : State → Prop} {A : Nat → Prop} {dC : Nat → ClassId} {dI : Nat → Nat → Nat} {a : Nat → Nat} {ac : Nat → ClassId} {n : Nat} {r : St} (C : nd_C p l s m args c A (dC, dI) cX2_push 3 RX2 ow_dm_X2_push (dk_X2c ac)) (K : nd_Kv p l e (headSpec ow_dm_X2_push ({ frames := 0, cells := 0, slots := 0, locals := 0 })).room s m args below meth c Q A (dC, dI) cX2_push (St) (dw_X2c a ac) r) : dj_X2_push_0 p l e s m args below meth c Q A dC dI a ac (df_X2_push_0 n) r := by
  obtain ⟨hlt, hx, hb, hml, hown, hts, hN, hA, hK⟩ := id C
  intro v0 v1 s0 H locs ls h hP hD hS hl
  unfold df_X2_push_0 at h
  refine lv_aload_n hx hb dX2_push_0 rfl (lv_at hl 0 rfl) ?_
  refine va_get (D := (dC, dI)) (ci := 3) (v := .int (sI s0 8)) (C := RX2) (T := TX2) (N := 20) hx hb hts hi_dm_X2_push_X2 hown hK hP 0 rfl rfl 18 (by decide) (hts (.fieldLink RX2 64 "TimeMachine$Condition" "fault" "I") (List.mem_of_getElem? (i := 1) rfl)) (fun _ h9 => h9) rfl dX2_push_1 ?_
  refine lv_if_ne (tgt := 49) hx hb dX2_push_4 (by decide) (fun c1 => ?_) (fun c1 => ?_)
  · have h := nd_neg h c1
    exact (db_X2_push_49 C K)  s0 _ _ _ h hP hD hS (lv_sub hl [] rfl)
  · have h := nd_pos h c1
    refine lv_aload_n hx hb dX2_push_7 rfl (lv_at hl 0 rfl) ?_
    refine va_get (D := (dC, dI)) (ci := 3) (v := .int (sI s0 1)) (C := RX2) (T := TX2) (N := 20) hx hb hts hi_dm_X2_push_X2 hown hK hP 0 rfl rfl 4 (by decide) (hts (.fieldLink RX2 55 "TimeMachine$Condition" "top" "I") (List.mem_of_getElem? (i := 2) rfl)) (fun _ h9 => h9) rfl dX2_push_8 ?_
    refine lv_aload_n hx hb dX2_push_11 rfl (lv_at hl 0 rfl) ?_
    refine va_get (D := (dC, dI)) (ci := 3) (v := .ref (a 4)) (C := RX2) (T := TX2) (N := 20) hx hb hts hi_dm_X2_push_X2 hown hK hP 0 rfl rfl 5 (by decide) (hts (.fieldLink RX2 20 "TimeMachine$Condition" "sign" "[I") (List.mem_of_getElem? (i := 3) rfl)) (fun _ h9 => h9) rfl dX2_push_12 ?_
    refine va_alen (v := 41) hx hb hK hP 4 3 rfl rfl (show Int32.ofNat 41 = 41 by decide) dX2_push_15 ?_
    refine lv_icmp_ge (tgt := 49) hx hb dX2_push_16 (by decide) (fun c2 => ?_) (fun c2 => ?_)
    · have h := nd_pos h c2
      exact (db_X2_push_49 C K)  s0 _ _ _ h hP hD hS (lv_sub hl [] rfl)
    · have h := nd_neg h c2
      refine lv_aload_n hx hb dX2_push_19 rfl (lv_at hl 0 rfl) ?_
      refine va_get (D := (dC, dI)) (ci := 3) (v := .ref (a 4)) (C := RX2) (T := TX2) (N := 20) hx hb hts hi_dm_X2_push_X2 hown hK hP 0 rfl rfl 5 (by decide) (hts (.fieldLink RX2 20 "TimeMachine$Condition" "sign" "[I") (List.mem_of_getElem? (i := 3) rfl)) (fun _ h9 => h9) rfl dX2_push_20 ?_
      refine lv_aload_n hx hb dX2_push_23 rfl (lv_at hl 0 rfl) ?_
      refine va_get (D := (dC, dI)) (ci := 3) (v := .int (sI s0 1)) (C := RX2) (T := TX2) (N := 20) hx hb hts hi_dm_X2_push_X2 hown hK hP 0 rfl rfl 4 (by decide) (hts (.fieldLink RX2 55 "TimeMachine$Condition" "top" "I") (List.mem_of_getElem? (i := 2) rfl)) (fun _ h9 => h9) rfl dX2_push_24 ?_
      refine lv_iload_n hx hb dX2_push_27 rfl (lv_at hl 1 rfl) ?_
      obtain ⟨i3, h⟩ := nd_ck_e h
      refine va_iast (i := (sI s0 1)) (x := v0) hx hb hK hP hD hS 4 3 rfl rfl i3 dX2_push_28 (fun H locs hP hD hS => ?_)
      obtain ⟨s4, es4, h⟩ := nd_let_e h
      have hP : va_P (dC, dI) vwCl (dw_X2c a ac s4) H := by rw [es4]; exact hP
      have hD : va_D A (dw_X2c a ac s4) := by rw [es4]; exact hD
      refine lv_aload_n hx hb dX2_push_29 rfl (lv_at hl 0 rfl) ?_
      refine va_get (D := (dC, dI)) (ci := 3) (v := .ref (a 5)) (C := RX2) (T := TX2) (N := 20) hx hb hts hi_dm_X2_push_X2 hown hK hP 0 rfl rfl 6 (by decide) (hts (.fieldLink RX2 23 "TimeMachine$Condition" "signAt" "[I") (List.mem_of_getElem? (i := 4) rfl)) (fun _ h9 => h9) rfl dX2_push_30 ?_
      refine lv_aload_n hx hb dX2_push_33 rfl (lv_at hl 0 rfl) ?_
      refine va_get (D := (dC, dI)) (ci := 3) (v := .int (sI s4 1)) (C := RX2) (T := TX2) (N := 20) hx hb hts hi_dm_X2_push_X2 hown hK hP 0 rfl rfl 4 (by decide) (hts (.fieldLink RX2 55 "TimeMachine$Condition" "top" "I") (List.mem_of_getElem? (i := 2) rfl)) (fun _ h9 => h9) rfl dX2_push_34 ?_
      refine lv_iload_n hx hb dX2_push_37 rfl (lv_at hl 2 rfl) ?_
      obtain ⟨i5, h⟩ := nd_ck_e h
      refine va_iast (i := (sI s4 1)) (x := v1) hx hb hK hP hD hS 5 4 rfl rfl i5 dX2_push_38 (fun H locs hP hD hS => ?_)
      obtain ⟨s6, es6, h⟩ := nd_let_e h
      have hP : va_P (dC, dI) vwCl (dw_X2c a ac s6) H := by rw [es6]; exact hP
      have hD : va_D A (dw_X2c a ac s6) := by rw [es6]; exact hD
      refine lv_aload_n hx hb dX2_push_39 rfl (lv_at hl 0 rfl) ?_
      refine lv_dup hx hb dX2_push_40 rfl ?_
      refine va_get (D := (dC, dI)) (ci := 3) (v := .int (sI s6 1)) (C := RX2) (T := TX2) (N := 20) hx hb hts hi_dm_X2_push_X2 hown hK hP 0 rfl rfl 4 (by decide) (hts (.fieldLink RX2 55 "TimeMachine$Condition" "top" "I") (List.mem_of_getElem? (i := 2) rfl)) (fun _ h9 => h9) rfl dX2_push_41 ?_
      refine lv_iconst (v := 1) hx hb dX2_push_44 (by decide) ?_
      refine lv_iadd hx hb dX2_push_45 ?_
      refine va_put (D := (dC, dI)) (ci := 3) (v := .int ((sI s6 1) + 1)) (ty := .int) (C := RX2) (T := TX2) (N := 20) hx hb hts hi_dm_X2_push_X2 tyX2 tyX2_ok nmX2 hown hK hP hD hS 0 rfl rfl 4 (by decide) (hts (.fieldLink RX2 55 "TimeMachine$Condition" "top" "I") (List.mem_of_getElem? (i := 2) rfl)) (fun _ h9 => h9) rfl (by decide +kernel) rfl rfl (Nat.le_of_ble_eq_true rfl) dX2_push_46 (fun H locs hP hD hS => ?_)
      obtain ⟨s7, es7, h⟩ := nd_let_e h
      have hP : va_P (dC, dI) vwCl (dw_X2c a ac s7) H := by rw [es7]; exact hP
      have hD : va_D A (dw_X2c a ac s7) := by rw [es7]; exact hD
      exact (db_X2_push_49 C K)  s7 _ _ _ h hP hD hS (lv_sub hl [] rfl)
set_option maxHeartbeats 40000000 in
set_option maxRecDepth 100000 in
theorem dm_X2_push (l : Launch) (hlt : l.stackTraces = false) (dC : Nat → ClassId) (dI : Nat → Nat → Nat) (a : Nat → Nat) (ac : Nat → ClassId) (n : Nat) (v0 : Int32) (v1 : Int32) (s0 : St) {r : St} (h : df_X2_push n v0 v1 s0 = some r) (sz : Nat) : Met l yX2_push ow_dm_X2_push ({ frames := 0, cells := 0, slots := 0, locals := 0 }) (va_Pc [.ref (a 0), .int v0, .int v1] (fun U => U.heap.size = sz ∧ va_P (dC, dI) vwCl (dw_X2c a ac s0) U.heap ∧ va_K (dC, dI) vwCl (dk_X2c ac) U ∧ va_D (fun _ => True) (dw_X2c a ac s0) ∧ nv_E (va_A (dw_X2c a ac s0) sz) U)) (va_Qv (fun _ => True) (fun (_ : Unit) t => va_P (dC, dI) vwCl (dw_X2c a ac r) t.heap ∧ va_K (dC, dI) vwCl (dk_X2c ac) t ∧ va_D (va_A (dw_X2c a ac s0) sz) (dw_X2c a ac r)) (va_A (dw_X2c a ac s0) sz)) 0 0 (va_A (dw_X2c a ac s0) sz) := by
  refine Met.ofW (cc := cX2_push) (maxL := 3) (ret := none) (by decide) rfl ?_
  intro p e s m args below meth c s₁ B hml hv
  obtain ⟨rfl, hsz, hP, hK, hD0, hN⟩ := hv
  have hx := B.exec
  have hb := B.bytes
  have hr := B.returns
  have hts := atoms_spec (ws := ow_dm_X2_push) B.pre
  have hown : s.vm.findClass RX2 = some m.cls := findClass_of_methodNamed B.named
  have hlocks := B.notSynchronized
  subst hsz
  have hD := hD0.self (sz := s.heap.size)
  generalize hAe : va_A (dw_X2c a ac s0) s.heap.size = A at hD hN ⊢
  have hA : ∀ q : Nat, s.heap.size ≤ q → A q := fun q h => by rw [← hAe]; exact Or.inr h
  have hl := lv_entry ([.ref (a 0), .int v0, .int v1]) (n := 3) (Nat.le_of_ble_eq_true rfl)
  rw [lg_entry_eq]
  generalize (lg_sl ([.ref (a 0), .int v0, .int v1]) ++ List.replicate (3 - (lg_sl ([.ref (a 0), .int v0, .int v1])).length) Slot.unset).toArray = ls at hl ⊢
  have hl : lv_has ls 3 [(0, .ref (a 0)), (1, .int v0), (2, .int v1)] := hl
  exact db_X2_push_0 (dC := dC) (dI := dI) (a := a) (ac := ac) (n := n) (r := r) ⟨hlt, hx, hb, hml, hown, hts, hN, hA, hK⟩ (fun pc τ H locs ls d er hP hD hS => by subst er; exact W.vret hx hb hr (fun t ht hW => ⟨⟨(), rfl, trivial, by rw [ht]; exact hP, va_K.moved hW.alike hK, hD⟩, hS.F ht⟩) hS.2.2 d) v0 v1 s0 _ _ _ h hP hD va_S.rf (lv_sub hl [0, 1, 2] rfl)
def ow_dm_X2_opens : List Cond := .code yX2_opens cX2_opens 3 none :: ([.methodLink RX2 148 yX2_part, .instanceMethod yX2_part, .selects RX2 yX2_part yX2_part, .initialized RX2, .methodLink RX2 151 yX2_waiting, .instanceMethod yX2_waiting, .selects RX2 yX2_waiting yX2_waiting, .methodLink RX2 154 yX2_push, .instanceMethod yX2_push, .selects RX2 yX2_push yX2_push, .methodLink RX2 84 yX2_blame, .instanceMethod yX2_blame, .selects RX2 yX2_blame yX2_blame] ++ (ow_dm_X2_part ++ (ow_dm_X2_waiting ++ (ow_dm_X2_push ++ (ow_dm_X2_blame ++ [])))))
theorem gd_dm_X2_opens : ∀ w ∈ ow_dm_X2_opens, (w.onTables && w.keeps) = true ∨ ∃ ty, w = Cond.arrayClass ty := List.forall_mem_cons.mpr ⟨good_of_word rfl, List.forall_mem_append.mpr ⟨fun w h => good_of_word (List.all_eq_true.mp (by decide +kernel) w h), List.forall_mem_append.mpr ⟨gd_dm_X2_part, List.forall_mem_append.mpr ⟨gd_dm_X2_waiting, List.forall_mem_append.mpr ⟨gd_dm_X2_push, List.forall_mem_append.mpr ⟨gd_dm_X2_blame, fun _ h => nomatch h⟩⟩⟩⟩⟩⟩
theorem gi_dm_X2_opens_0 : GoodIn ow_dm_X2_opens (wsV RX2 148 RX2 yX2_part ow_dm_X2_part) := goodIn_app (goodIn_of _ (by decide +kernel)) (fun w h => ⟨List.mem_cons_of_mem _ (List.mem_append_right _ (List.mem_append_left _ h)), gd_dm_X2_part w h⟩)
theorem gi_dm_X2_opens_1 : GoodIn ow_dm_X2_opens (wsV RX2 151 RX2 yX2_waiting ow_dm_X2_waiting) := goodIn_app (goodIn_of _ (by decide +kernel)) (fun w h => ⟨List.mem_cons_of_mem _ (List.mem_append_right _ (List.mem_append_right _ (List.mem_append_left _ h))), gd_dm_X2_waiting w h⟩)
theorem gi_dm_X2_opens_2 : GoodIn ow_dm_X2_opens (wsV RX2 154 RX2 yX2_push ow_dm_X2_push) := goodIn_app (goodIn_of _ (by decide +kernel)) (fun w h => ⟨List.mem_cons_of_mem _ (List.mem_append_right _ (List.mem_append_right _ (List.mem_append_right _ (List.mem_append_left _ h)))), gd_dm_X2_push w h⟩)
theorem gi_dm_X2_opens_3 : GoodIn ow_dm_X2_opens (wsV RX2 84 RX2 yX2_blame ow_dm_X2_blame) := goodIn_app (goodIn_of _ (by decide +kernel)) (fun w h => ⟨List.mem_cons_of_mem _ (List.mem_append_right _ (List.mem_append_right _ (List.mem_append_right _ (List.mem_append_right _ (List.mem_append_left _ h))))), gd_dm_X2_blame w h⟩)
def dj_X2_opens_22 (p : Program) (l : Launch) (e : Env) (s : State) (m : MethodId) (args : Array Value) (below : List Frame) (meth : Method) (c : Code) (Q : State → Prop) (A : Nat → Prop) (dC : Nat → ClassId) (dI : Nat → Nat → Nat) (a : Nat → Nat) (ac : Nat → ClassId) (g : Int32 → Int32 → (St) → Option (St)) (r : St) : Prop := ∀ (x1 : Int32) (x2 : Int32) (s0 : St) (H : Heap) (locs : List Loc) (ls : Array Slot), g x1 x2 s0 = some r → va_P (dC, dI) vwCl (dw_X2c a ac s0) H → va_D A (dw_X2c a ac s0) → va_S A s.heap H locs → lv_has ls 3 [(0, .ref (a 0)), (1, .int x1), (2, .int x2)] → W p l e (headSpec ow_dm_X2_opens ({ frames := 2, cells := 0, slots := 0, locals := 41 })).room s m args below meth c H locs 0 0 Q (F0 m 22 ls [])
def dj_X2_opens_0 (p : Program) (l : Launch) (e : Env) (s : State) (m : MethodId) (args : Array Value) (below : List Frame) (meth : Method) (c : Code) (Q : State → Prop) (A : Nat → Prop) (dC : Nat → ClassId) (dI : Nat → Nat → Nat) (a : Nat → Nat) (ac : Nat → ClassId) (g : Int32 → Int32 → (St) → Option (St)) (r : St) : Prop := ∀ (v0 : Int32) (v1 : Int32) (s0 : St) (H : Heap) (locs : List Loc) (ls : Array Slot), g v0 v1 s0 = some r → va_P (dC, dI) vwCl (dw_X2c a ac s0) H → va_D A (dw_X2c a ac s0) → va_S A s.heap H locs → lv_has ls 3 [(0, .ref (a 0)), (1, .int v0), (2, .int v1)] → W p l e (headSpec ow_dm_X2_opens ({ frames := 2, cells := 0, slots := 0, locals := 41 })).room s m args below meth c H locs 0 0 Q (F0 m 0 ls [])
set_option maxHeartbeats 40000000 in
set_option maxRecDepth 100000 in
theorem db_X2_opens_22 {p : Program} {l : Launch} {e : Env} {s : State} {m : MethodId} {args : Array Value} {below : List Frame} {meth : Method} {c : Code} {Q : State → Prop} {A : Nat → Prop} {dC : Nat → ClassId} {dI : Nat → Nat → Nat} {a : Nat → Nat} {ac : Nat → ClassId} {n : Nat} {r : St} (C : nd_C p l s m args c A (dC, dI) cX2_opens 3 RX2 ow_dm_X2_opens (dk_X2c ac)) (K : nd_Kv p l e (headSpec ow_dm_X2_opens ({ frames := 2, cells := 0, slots := 0, locals := 41 })).room s m args below meth c Q A (dC, dI) cX2_opens (St) (dw_X2c a ac) r) : dj_X2_opens_22 p l e s m args below meth c Q A dC dI a ac (df_X2_opens_22 n) r := by
  obtain ⟨hlt, hx, hb, hml, hown, hts, hN, hA, hK⟩ := id C
  intro x1 x2 s0 H locs ls h hP hD hS hl
  unfold df_X2_opens_22 at h
  refine lv_aload_n hx hb dX2_opens_22 rfl (lv_at hl 0 rfl) ?_
  refine lv_iload_n hx hb dX2_opens_23 rfl (lv_at hl 1 rfl) ?_
  refine lv_iload_n hx hb dX2_opens_24 rfl (lv_at hl 2 rfl) ?_
  obtain ⟨s9, hq, h⟩ := nd_b1_e h
  have hPc := hP
  have hDc := hD
  have hKc := hK
  have hFc := nd_rs hD hS hA
  refine nd_cVv (As := [.int x1, .int x2]) (rest := []) (w' := dw_X2c a ac s9) ⟨hx, hb, hml, hown, hts⟩ (fun sz => dm_X2_push l hlt dC dI a ac n (x1) (x2) s0 hq sz) (cwV 2 hts gi_dm_X2_opens_2 rfl rfl rfl (by decide +kernel) ⟨Nat.le_of_ble_eq_true rfl, Nat.le_of_ble_eq_true rfl⟩) hPc hDc hKc hS hA hN (va_recv hKc hPc (ci := 3) (q0 := 0) rfl rfl) rfl hl.1 rfl (Nat.le_of_ble_eq_true rfl) dX2_opens_25 (fun H locs hP1 hD1 hk1 hS => ?_)
  have hP := hP1
  have hD := hD1.weaken (fun k q _ h => hFc q.1 h)
  exact K _ _ _ _ _ dX2_opens_28 (Option.some.inj h).symm hP hD hS
set_option maxHeartbeats 40000000 in
set_option maxRecDepth 100000 in
theorem db_X2_opens_0 {p : Program} {l : Launch} {e : Env} {s : State} {m : MethodId} {args : Array Value} {below : List Frame} {meth : Method} {c : Code} {Q : State → Prop} {A : Nat → Prop} {dC : Nat → ClassId} {dI : Nat → Nat → Nat} {a : Nat → Nat} {ac : Nat → ClassId} {n : Nat} {r : St} (C : nd_C p l s m args c A (dC, dI) cX2_opens 3 RX2 ow_dm_X2_opens (dk_X2c ac)) (K : nd_Kv p l e (headSpec ow_dm_X2_opens ({ frames := 2, cells := 0, slots := 0, locals := 41 })).room s m args below meth c Q A (dC, dI) cX2_opens (St) (dw_X2c a ac) r) : dj_X2_opens_0 p l e s m args below meth c Q A dC dI a ac (df_X2_opens_0 n) r := by
  obtain ⟨hlt, hx, hb, hml, hown, hts, hN, hA, hK⟩ := id C
  intro v0 v1 s0 H locs ls h hP hD hS hl
  unfold df_X2_opens_0 at h
  refine lv_aload_n hx hb dX2_opens_0 rfl (lv_at hl 0 rfl) ?_
  obtain ⟨s2, hq, h⟩ := nd_b1_e h
  have hPc := hP
  have hDc := hD
  have hKc := hK
  have hFc := nd_rs hD hS hA
  refine nd_cVv (As := []) (rest := []) (w' := dw_X2c a ac s2) ⟨hx, hb, hml, hown, hts⟩ (fun sz => dm_X2_part l hlt dC dI a ac n  s0 hq sz) (cwV 0 hts gi_dm_X2_opens_0 rfl rfl rfl (by decide +kernel) ⟨Nat.le_of_ble_eq_true rfl, Nat.le_of_ble_eq_true rfl⟩) hPc hDc hKc hS hA hN (va_recv hKc hPc (ci := 3) (q0 := 0) rfl rfl) rfl hl.1 rfl (Nat.le_of_ble_eq_true rfl) dX2_opens_1 (fun H locs hP1 hD1 hk1 hS => ?_)
  have hP := hP1
  have hD := hD1.weaken (fun k q _ h => hFc q.1 h)
  refine lv_aload_n hx hb dX2_opens_4 rfl (lv_at hl 0 rfl) ?_
  refine lv_bipush (v := 22) hx hb dX2_opens_5 (by decide) ?_
  refine lv_bipush (v := 27) hx hb dX2_opens_7 (by decide) ?_
  obtain ⟨q4, s5, hq, h⟩ := nd_b2_e h
  have hPc := hP
  have hDc := hD
  have hKc := hK
  have hFc := nd_rs hD hS hA
  refine nd_cVi (As := [.int 22, .int 27]) (rest := []) (q := q4) (w' := dw_X2c a ac s5) ⟨hx, hb, hml, hown, hts⟩ (fun sz => dm_X2_waiting l hlt dC dI a ac n (22) (27) s2 hq sz) (cwV 2 hts gi_dm_X2_opens_1 rfl rfl rfl (by decide +kernel) ⟨Nat.le_of_ble_eq_true rfl, Nat.le_of_ble_eq_true rfl⟩) hPc hDc hKc hS hA hN (va_recv hKc hPc (ci := 3) (q0 := 0) rfl rfl) rfl hl.1 rfl (Nat.le_of_ble_eq_true rfl) dX2_opens_9 (fun H locs hP1 hD1 hk1 hS => ?_)
  have hP := hP1
  have hD := hD1.weaken (fun k q _ h => hFc q.1 h)
  refine lv_bipush (v := 8) hx hb dX2_opens_12 (by decide) ?_
  refine lv_icmp_lt (tgt := 22) hx hb dX2_opens_14 (by decide) (fun c7 => ?_) (fun c7 => ?_)
  · have h := nd_pos h c7
    exact (db_X2_opens_22 C K) (v0) (v1) s5 _ _ _ h hP hD hS (lv_sub hl [0, 1, 2] rfl)
  · have h := nd_neg h c7
    refine lv_aload_n hx hb dX2_opens_17 rfl (lv_at hl 0 rfl) ?_
    refine lv_iconst (v := 4) hx hb dX2_opens_18 (by decide) ?_
    obtain ⟨s12, hq, h⟩ := nd_b1_e h
    have hPc := hP
    have hDc := hD
    have hKc := hK
    have hFc := nd_rs hD hS hA
    refine nd_cVv (As := [.int 4]) (rest := []) (w' := dw_X2c a ac s12) ⟨hx, hb, hml, hown, hts⟩ (fun sz => dm_X2_blame l hlt dC dI a ac n (4) s5 hq sz) (cwV 1 hts gi_dm_X2_opens_3 rfl rfl rfl (by decide +kernel) ⟨Nat.le_of_ble_eq_true rfl, Nat.le_of_ble_eq_true rfl⟩) hPc hDc hKc hS hA hN (va_recv hKc hPc (ci := 3) (q0 := 0) rfl rfl) rfl hl.1 rfl (Nat.le_of_ble_eq_true rfl) dX2_opens_19 (fun H locs hP1 hD1 hk1 hS => ?_)
    have hP := hP1
    have hD := hD1.weaken (fun k q _ h => hFc q.1 h)
    exact (db_X2_opens_22 C K) (v0) (v1) s12 _ _ _ h hP hD hS (lv_sub hl [0, 1, 2] rfl)
set_option maxHeartbeats 40000000 in
set_option maxRecDepth 100000 in
theorem dm_X2_opens (l : Launch) (hlt : l.stackTraces = false) (dC : Nat → ClassId) (dI : Nat → Nat → Nat) (a : Nat → Nat) (ac : Nat → ClassId) (n : Nat) (v0 : Int32) (v1 : Int32) (s0 : St) {r : St} (h : df_X2_opens n v0 v1 s0 = some r) (sz : Nat) : Met l yX2_opens ow_dm_X2_opens ({ frames := 2, cells := 0, slots := 0, locals := 41 }) (va_Pc [.ref (a 0), .int v0, .int v1] (fun U => U.heap.size = sz ∧ va_P (dC, dI) vwCl (dw_X2c a ac s0) U.heap ∧ va_K (dC, dI) vwCl (dk_X2c ac) U ∧ va_D (fun _ => True) (dw_X2c a ac s0) ∧ nv_E (va_A (dw_X2c a ac s0) sz) U)) (va_Qv (fun _ => True) (fun (_ : Unit) t => va_P (dC, dI) vwCl (dw_X2c a ac r) t.heap ∧ va_K (dC, dI) vwCl (dk_X2c ac) t ∧ va_D (va_A (dw_X2c a ac s0) sz) (dw_X2c a ac r)) (va_A (dw_X2c a ac s0) sz)) 0 0 (va_A (dw_X2c a ac s0) sz) := by
  refine Met.ofW (cc := cX2_opens) (maxL := 3) (ret := none) (by decide) rfl ?_
  intro p e s m args below meth c s₁ B hml hv
  obtain ⟨rfl, hsz, hP, hK, hD0, hN⟩ := hv
  have hx := B.exec
  have hb := B.bytes
  have hr := B.returns
  have hts := atoms_spec (ws := ow_dm_X2_opens) B.pre
  have hown : s.vm.findClass RX2 = some m.cls := findClass_of_methodNamed B.named
  have hlocks := B.notSynchronized
  subst hsz
  have hD := hD0.self (sz := s.heap.size)
  generalize hAe : va_A (dw_X2c a ac s0) s.heap.size = A at hD hN ⊢
  have hA : ∀ q : Nat, s.heap.size ≤ q → A q := fun q h => by rw [← hAe]; exact Or.inr h
  have hl := lv_entry ([.ref (a 0), .int v0, .int v1]) (n := 3) (Nat.le_of_ble_eq_true rfl)
  rw [lg_entry_eq]
  generalize (lg_sl ([.ref (a 0), .int v0, .int v1]) ++ List.replicate (3 - (lg_sl ([.ref (a 0), .int v0, .int v1])).length) Slot.unset).toArray = ls at hl ⊢
  have hl : lv_has ls 3 [(0, .ref (a 0)), (1, .int v0), (2, .int v1)] := hl
  exact db_X2_opens_0 (dC := dC) (dI := dI) (a := a) (ac := ac) (n := n) (r := r) ⟨hlt, hx, hb, hml, hown, hts, hN, hA, hK⟩ (fun pc τ H locs ls d er hP hD hS => by subst er; exact W.vret hx hb hr (fun t ht hW => ⟨⟨(), rfl, trivial, by rw [ht]; exact hP, va_K.moved hW.alike hK, hD⟩, hS.F ht⟩) hS.2.2 d) v0 v1 s0 _ _ _ h hP hD va_S.rf (lv_sub hl [0, 1, 2] rfl)
def ow_dm_X2_emit : List Cond := .code yX2_emit cX2_emit 4 none :: ([.fieldLink RX2 64 "TimeMachine$Condition" "fault" "I", .fieldLink RX2 52 "TimeMachine$Condition" "codes" "I", .fieldLink RX2 9 "TimeMachine$Condition" "code" "[I", .fieldLink RX2 13 "TimeMachine$Condition" "argument" "[J"] ++ (u_ws RX2 TX2 20 ++ []))
theorem gd_dm_X2_emit : ∀ w ∈ ow_dm_X2_emit, (w.onTables && w.keeps) = true ∨ ∃ ty, w = Cond.arrayClass ty := List.forall_mem_cons.mpr ⟨good_of_word rfl, List.forall_mem_append.mpr ⟨fun w h => good_of_word (List.all_eq_true.mp (by decide +kernel) w h), List.forall_mem_append.mpr ⟨gu_X2, fun _ h => nomatch h⟩⟩⟩
theorem hi_dm_X2_emit_X2 : ∀ w ∈ u_ws RX2 TX2 20, w ∈ ow_dm_X2_emit := fun w h => List.mem_cons_of_mem _ (List.mem_append_right _ (List.mem_append_left _ h))
def dj_X2_emit_49 (p : Program) (l : Launch) (e : Env) (s : State) (m : MethodId) (args : Array Value) (below : List Frame) (meth : Method) (c : Code) (Q : State → Prop) (A : Nat → Prop) (dC : Nat → ClassId) (dI : Nat → Nat → Nat) (a : Nat → Nat) (ac : Nat → ClassId) (g : (St) → Option (St)) (r : St) : Prop := ∀ (s0 : St) (H : Heap) (locs : List Loc) (ls : Array Slot), g s0 = some r → va_P (dC, dI) vwCl (dw_X2c a ac s0) H → va_D A (dw_X2c a ac s0) → va_S A s.heap H locs → lv_has ls 4 [] → W p l e (headSpec ow_dm_X2_emit ({ frames := 0, cells := 0, slots := 0, locals := 0 })).room s m args below meth c H locs 0 0 Q (F0 m 49 ls [])
def dj_X2_emit_0 (p : Program) (l : Launch) (e : Env) (s : State) (m : MethodId) (args : Array Value) (below : List Frame) (meth : Method) (c : Code) (Q : State → Prop) (A : Nat → Prop) (dC : Nat → ClassId) (dI : Nat → Nat → Nat) (a : Nat → Nat) (ac : Nat → ClassId) (g : Int32 → Int64 → (St) → Option (St)) (r : St) : Prop := ∀ (v0 : Int32) (v1 : Int64) (s0 : St) (H : Heap) (locs : List Loc) (ls : Array Slot), g v0 v1 s0 = some r → va_P (dC, dI) vwCl (dw_X2c a ac s0) H → va_D A (dw_X2c a ac s0) → va_S A s.heap H locs → lv_has ls 4 [(0, .ref (a 0)), (1, .int v0), (2, .long v1)] → W p l e (headSpec ow_dm_X2_emit ({ frames := 0, cells := 0, slots := 0, locals := 0 })).room s m args below meth c H locs 0 0 Q (F0 m 0 ls [])
set_option maxHeartbeats 40000000 in
set_option maxRecDepth 100000 in
theorem db_X2_emit_49 {p : Program} {l : Launch} {e : Env} {s : State} {m : MethodId} {args : Array Value} {below : List Frame} {meth : Method} {c : Code} {Q : State → Prop} {A : Nat → Prop} {dC : Nat → ClassId} {dI : Nat → Nat → Nat} {a : Nat → Nat} {ac : Nat → ClassId} {n : Nat} {r : St} (C : nd_C p l s m args c A (dC, dI) cX2_emit 4 RX2 ow_dm_X2_emit (dk_X2c ac)) (K : nd_Kv p l e (headSpec ow_dm_X2_emit ({ frames := 0, cells := 0, slots := 0, locals := 0 })).room s m args below meth c Q A (dC, dI) cX2_emit (St) (dw_X2c a ac) r) : dj_X2_emit_49 p l e s m args below meth c Q A dC dI a ac (df_X2_emit_49 n) r := by
  obtain ⟨hlt, hx, hb, hml, hown, hts, hN, hA, hK⟩ := id C
  intro s0 H locs ls h hP hD hS hl
  unfold df_X2_emit_49 at h
  exact K _ _ _ _ _ dX2_emit_49 (Option.some.inj h).symm hP hD hS
set_option maxHeartbeats 40000000 in
set_option maxRecDepth 100000 in
theorem db_X2_emit_0 {p : Program} {l : Launch} {e : Env} {s : State} {m : MethodId} {args : Array Value} {below : List Frame} {meth : Method} {c : Code} {Q : State → Prop} {A : Nat → Prop} {dC : Nat → ClassId} {dI : Nat → Nat → Nat} {a : Nat → Nat} {ac : Nat → ClassId} {n : Nat} {r : St} (C : nd_C p l s m args c A (dC, dI) cX2_emit 4 RX2 ow_dm_X2_emit (dk_X2c ac)) (K : nd_Kv p l e (headSpec ow_dm_X2_emit ({ frames := 0, cells := 0, slots := 0, locals := 0 })).room s m args below meth c Q A (dC, dI) cX2_emit (St) (dw_X2c a ac) r) : dj_X2_emit_0 p l e s m args below meth c Q A dC dI a ac (df_X2_emit_0 n) r := by
  obtain ⟨hlt, hx, hb, hml, hown, hts, hN, hA, hK⟩ := id C
  intro v0 v1 s0 H locs ls h hP hD hS hl
  unfold df_X2_emit_0 at h
  refine lv_aload_n hx hb dX2_emit_0 rfl (lv_at hl 0 rfl) ?_
  refine va_get (D := (dC, dI)) (ci := 3) (v := .int (sI s0 8)) (C := RX2) (T := TX2) (N := 20) hx hb hts hi_dm_X2_emit_X2 hown hK hP 0 rfl rfl 18 (by decide) (hts (.fieldLink RX2 64 "TimeMachine$Condition" "fault" "I") (List.mem_of_getElem? (i := 1) rfl)) (fun _ h9 => h9) rfl dX2_emit_1 ?_
  refine lv_if_ne (tgt := 49) hx hb dX2_emit_4 (by decide) (fun c1 => ?_) (fun c1 => ?_)
  · have h := nd_neg h c1
    exact (db_X2_emit_49 C K)  s0 _ _ _ h hP hD hS (lv_sub hl [] rfl)
  · have h := nd_pos h c1
    refine lv_aload_n hx hb dX2_emit_7 rfl (lv_at hl 0 rfl) ?_
    refine va_get (D := (dC, dI)) (ci := 3) (v := .int (sI s0 0)) (C := RX2) (T := TX2) (N := 20) hx hb hts hi_dm_X2_emit_X2 hown hK hP 0 rfl rfl 2 (by decide) (hts (.fieldLink RX2 52 "TimeMachine$Condition" "codes" "I") (List.mem_of_getElem? (i := 2) rfl)) (fun _ h9 => h9) rfl dX2_emit_8 ?_
    refine lv_aload_n hx hb dX2_emit_11 rfl (lv_at hl 0 rfl) ?_
    refine va_get (D := (dC, dI)) (ci := 3) (v := .ref (a 1)) (C := RX2) (T := TX2) (N := 20) hx hb hts hi_dm_X2_emit_X2 hown hK hP 0 rfl rfl 0 (by decide) (hts (.fieldLink RX2 9 "TimeMachine$Condition" "code" "[I") (List.mem_of_getElem? (i := 3) rfl)) (fun _ h9 => h9) rfl dX2_emit_12 ?_
    refine va_alen (v := 160) hx hb hK hP 1 0 rfl rfl (show Int32.ofNat 160 = 160 by decide) dX2_emit_15 ?_
    refine lv_icmp_ge (tgt := 49) hx hb dX2_emit_16 (by decide) (fun c2 => ?_) (fun c2 => ?_)
    · have h := nd_pos h c2
      exact (db_X2_emit_49 C K)  s0 _ _ _ h hP hD hS (lv_sub hl [] rfl)
    · have h := nd_neg h c2
      refine lv_aload_n hx hb dX2_emit_19 rfl (lv_at hl 0 rfl) ?_
      refine va_get (D := (dC, dI)) (ci := 3) (v := .ref (a 1)) (C := RX2) (T := TX2) (N := 20) hx hb hts hi_dm_X2_emit_X2 hown hK hP 0 rfl rfl 0 (by decide) (hts (.fieldLink RX2 9 "TimeMachine$Condition" "code" "[I") (List.mem_of_getElem? (i := 3) rfl)) (fun _ h9 => h9) rfl dX2_emit_20 ?_
      refine lv_aload_n hx hb dX2_emit_23 rfl (lv_at hl 0 rfl) ?_
      refine va_get (D := (dC, dI)) (ci := 3) (v := .int (sI s0 0)) (C := RX2) (T := TX2) (N := 20) hx hb hts hi_dm_X2_emit_X2 hown hK hP 0 rfl rfl 2 (by decide) (hts (.fieldLink RX2 52 "TimeMachine$Condition" "codes" "I") (List.mem_of_getElem? (i := 2) rfl)) (fun _ h9 => h9) rfl dX2_emit_24 ?_
      refine lv_iload_n hx hb dX2_emit_27 rfl (lv_at hl 1 rfl) ?_
      obtain ⟨i3, h⟩ := nd_ck_e h
      refine va_iast (i := (sI s0 0)) (x := v0) hx hb hK hP hD hS 1 0 rfl rfl i3 dX2_emit_28 (fun H locs hP hD hS => ?_)
      obtain ⟨s4, es4, h⟩ := nd_let_e h
      have hP : va_P (dC, dI) vwCl (dw_X2c a ac s4) H := by rw [es4]; exact hP
      have hD : va_D A (dw_X2c a ac s4) := by rw [es4]; exact hD
      refine lv_aload_n hx hb dX2_emit_29 rfl (lv_at hl 0 rfl) ?_
      refine va_get (D := (dC, dI)) (ci := 3) (v := .ref (a 2)) (C := RX2) (T := TX2) (N := 20) hx hb hts hi_dm_X2_emit_X2 hown hK hP 0 rfl rfl 1 (by decide) (hts (.fieldLink RX2 13 "TimeMachine$Condition" "argument" "[J") (List.mem_of_getElem? (i := 4) rfl)) (fun _ h9 => h9) rfl dX2_emit_30 ?_
      refine lv_aload_n hx hb dX2_emit_33 rfl (lv_at hl 0 rfl) ?_
      refine va_get (D := (dC, dI)) (ci := 3) (v := .int (sI s4 0)) (C := RX2) (T := TX2) (N := 20) hx hb hts hi_dm_X2_emit_X2 hown hK hP 0 rfl rfl 2 (by decide) (hts (.fieldLink RX2 52 "TimeMachine$Condition" "codes" "I") (List.mem_of_getElem? (i := 2) rfl)) (fun _ h9 => h9) rfl dX2_emit_34 ?_
      refine lv_lload_n hx hb dX2_emit_37 rfl (lv_at hl 2 rfl) ?_
      obtain ⟨i5, h⟩ := nd_ck_e h
      refine va_last (i := (sI s4 0)) (x := v1) hx hb hK hP hD hS 2 1 rfl rfl i5 dX2_emit_38 (fun H locs hP hD hS => ?_)
      obtain ⟨s6, es6, h⟩ := nd_let_e h
      have hP : va_P (dC, dI) vwCl (dw_X2c a ac s6) H := by rw [es6]; exact hP
      have hD : va_D A (dw_X2c a ac s6) := by rw [es6]; exact hD
      refine lv_aload_n hx hb dX2_emit_39 rfl (lv_at hl 0 rfl) ?_
      refine lv_dup hx hb dX2_emit_40 rfl ?_
      refine va_get (D := (dC, dI)) (ci := 3) (v := .int (sI s6 0)) (C := RX2) (T := TX2) (N := 20) hx hb hts hi_dm_X2_emit_X2 hown hK hP 0 rfl rfl 2 (by decide) (hts (.fieldLink RX2 52 "TimeMachine$Condition" "codes" "I") (List.mem_of_getElem? (i := 2) rfl)) (fun _ h9 => h9) rfl dX2_emit_41 ?_
      refine lv_iconst (v := 1) hx hb dX2_emit_44 (by decide) ?_
      refine lv_iadd hx hb dX2_emit_45 ?_
      refine va_put (D := (dC, dI)) (ci := 3) (v := .int ((sI s6 0) + 1)) (ty := .int) (C := RX2) (T := TX2) (N := 20) hx hb hts hi_dm_X2_emit_X2 tyX2 tyX2_ok nmX2 hown hK hP hD hS 0 rfl rfl 2 (by decide) (hts (.fieldLink RX2 52 "TimeMachine$Condition" "codes" "I") (List.mem_of_getElem? (i := 2) rfl)) (fun _ h9 => h9) rfl (by decide +kernel) rfl rfl (Nat.le_of_ble_eq_true rfl) dX2_emit_46 (fun H locs hP hD hS => ?_)
      obtain ⟨s7, es7, h⟩ := nd_let_e h
      have hP : va_P (dC, dI) vwCl (dw_X2c a ac s7) H := by rw [es7]; exact hP
      have hD : va_D A (dw_X2c a ac s7) := by rw [es7]; exact hD
      exact (db_X2_emit_49 C K)  s7 _ _ _ h hP hD hS (lv_sub hl [] rfl)
set_option maxHeartbeats 40000000 in
set_option maxRecDepth 100000 in
theorem dm_X2_emit (l : Launch) (hlt : l.stackTraces = false) (dC : Nat → ClassId) (dI : Nat → Nat → Nat) (a : Nat → Nat) (ac : Nat → ClassId) (n : Nat) (v0 : Int32) (v1 : Int64) (s0 : St) {r : St} (h : df_X2_emit n v0 v1 s0 = some r) (sz : Nat) : Met l yX2_emit ow_dm_X2_emit ({ frames := 0, cells := 0, slots := 0, locals := 0 }) (va_Pc [.ref (a 0), .int v0, .long v1] (fun U => U.heap.size = sz ∧ va_P (dC, dI) vwCl (dw_X2c a ac s0) U.heap ∧ va_K (dC, dI) vwCl (dk_X2c ac) U ∧ va_D (fun _ => True) (dw_X2c a ac s0) ∧ nv_E (va_A (dw_X2c a ac s0) sz) U)) (va_Qv (fun _ => True) (fun (_ : Unit) t => va_P (dC, dI) vwCl (dw_X2c a ac r) t.heap ∧ va_K (dC, dI) vwCl (dk_X2c ac) t ∧ va_D (va_A (dw_X2c a ac s0) sz) (dw_X2c a ac r)) (va_A (dw_X2c a ac s0) sz)) 0 0 (va_A (dw_X2c a ac s0) sz) := by
  refine Met.ofW (cc := cX2_emit) (maxL := 4) (ret := none) (by decide) rfl ?_
  intro p e s m args below meth c s₁ B hml hv
  obtain ⟨rfl, hsz, hP, hK, hD0, hN⟩ := hv
  have hx := B.exec
  have hb := B.bytes
  have hr := B.returns
  have hts := atoms_spec (ws := ow_dm_X2_emit) B.pre
  have hown : s.vm.findClass RX2 = some m.cls := findClass_of_methodNamed B.named
  have hlocks := B.notSynchronized
  subst hsz
  have hD := hD0.self (sz := s.heap.size)
  generalize hAe : va_A (dw_X2c a ac s0) s.heap.size = A at hD hN ⊢
  have hA : ∀ q : Nat, s.heap.size ≤ q → A q := fun q h => by rw [← hAe]; exact Or.inr h
  have hl := lv_entry ([.ref (a 0), .int v0, .long v1]) (n := 4) (Nat.le_of_ble_eq_true rfl)
  rw [lg_entry_eq]
  generalize (lg_sl ([.ref (a 0), .int v0, .long v1]) ++ List.replicate (4 - (lg_sl ([.ref (a 0), .int v0, .long v1])).length) Slot.unset).toArray = ls at hl ⊢
  have hl : lv_has ls 4 [(0, .ref (a 0)), (1, .int v0), (2, .long v1)] := hl
  exact db_X2_emit_0 (dC := dC) (dI := dI) (a := a) (ac := ac) (n := n) (r := r) ⟨hlt, hx, hb, hml, hown, hts, hN, hA, hK⟩ (fun pc τ H locs ls d er hP hD hS => by subst er; exact W.vret hx hb hr (fun t ht hW => ⟨⟨(), rfl, trivial, by rw [ht]; exact hP, va_K.moved hW.alike hK, hD⟩, hS.F ht⟩) hS.2.2 d) v0 v1 s0 _ _ _ h hP hD va_S.rf (lv_sub hl [0, 1, 2] rfl)
def ow_dm_X2_inSpace : List Cond := .code yX2_inSpace cX2_inSpace 8 (some .long) :: ([.fieldLink RX2 221 "TimeMachine$Machine" "current" "I", .fieldLink RX2 199 "TimeMachine$Condition" "failed" "Z", .constantLong RX2 233 (65536), .methodLink RX2 235 yX6_may, .instanceMethod yX6_may, .selects RX6 yX6_may yX6_may, .initialized RX6, .methodLink RX2 245 yX6_byteAt, .instanceMethod yX6_byteAt, .selects RX6 yX6_byteAt yX6_byteAt, .methodLink RX2 242 yX6_halfAt, .instanceMethod yX6_halfAt, .selects RX6 yX6_halfAt yX6_halfAt, .methodLink RX2 239 yX6_wordAt, .instanceMethod yX6_wordAt, .selects RX6 yX6_wordAt yX6_wordAt] ++ (u_ws RX6 TX6 20 ++ (u_ws RX2 TX2 20 ++ (ow_dm_X6_may ++ (ow_dm_X6_byteAt ++ (ow_dm_X6_halfAt ++ (ow_dm_X6_wordAt ++ [])))))))
theorem gd_dm_X2_inSpace : ∀ w ∈ ow_dm_X2_inSpace, (w.onTables && w.keeps) = true ∨ ∃ ty, w = Cond.arrayClass ty := List.forall_mem_cons.mpr ⟨good_of_word rfl, List.forall_mem_append.mpr ⟨fun w h => good_of_word (List.all_eq_true.mp (by decide +kernel) w h), List.forall_mem_append.mpr ⟨gu_X6, List.forall_mem_append.mpr ⟨gu_X2, List.forall_mem_append.mpr ⟨gd_dm_X6_may, List.forall_mem_append.mpr ⟨gd_dm_X6_byteAt, List.forall_mem_append.mpr ⟨gd_dm_X6_halfAt, List.forall_mem_append.mpr ⟨gd_dm_X6_wordAt, fun _ h => nomatch h⟩⟩⟩⟩⟩⟩⟩⟩
theorem hi_dm_X2_inSpace_X6 : ∀ w ∈ u_ws RX6 TX6 20, w ∈ ow_dm_X2_inSpace := fun w h => List.mem_cons_of_mem _ (List.mem_append_right _ (List.mem_append_left _ h))
theorem hi_dm_X2_inSpace_X2 : ∀ w ∈ u_ws RX2 TX2 20, w ∈ ow_dm_X2_inSpace := fun w h => List.mem_cons_of_mem _ (List.mem_append_right _ (List.mem_append_right _ (List.mem_append_left _ h)))
theorem gi_dm_X2_inSpace_0 : GoodIn ow_dm_X2_inSpace (wsV RX2 235 RX6 yX6_may ow_dm_X6_may) := goodIn_app (goodIn_of _ (by decide +kernel)) (fun w h => ⟨List.mem_cons_of_mem _ (List.mem_append_right _ (List.mem_append_right _ (List.mem_append_right _ (List.mem_append_left _ h)))), gd_dm_X6_may w h⟩)
theorem gi_dm_X2_inSpace_1 : GoodIn ow_dm_X2_inSpace (wsV RX2 245 RX6 yX6_byteAt ow_dm_X6_byteAt) := goodIn_app (goodIn_of _ (by decide +kernel)) (fun w h => ⟨List.mem_cons_of_mem _ (List.mem_append_right _ (List.mem_append_right _ (List.mem_append_right _ (List.mem_append_right _ (List.mem_append_left _ h))))), gd_dm_X6_byteAt w h⟩)
theorem gi_dm_X2_inSpace_2 : GoodIn ow_dm_X2_inSpace (wsV RX2 242 RX6 yX6_halfAt ow_dm_X6_halfAt) := goodIn_app (goodIn_of _ (by decide +kernel)) (fun w h => ⟨List.mem_cons_of_mem _ (List.mem_append_right _ (List.mem_append_right _ (List.mem_append_right _ (List.mem_append_right _ (List.mem_append_right _ (List.mem_append_left _ h)))))), gd_dm_X6_halfAt w h⟩)
theorem gi_dm_X2_inSpace_3 : GoodIn ow_dm_X2_inSpace (wsV RX2 239 RX6 yX6_wordAt ow_dm_X6_wordAt) := goodIn_app (goodIn_of _ (by decide +kernel)) (fun w h => ⟨List.mem_cons_of_mem _ (List.mem_append_right _ (List.mem_append_right _ (List.mem_append_right _ (List.mem_append_right _ (List.mem_append_right _ (List.mem_append_right _ (List.mem_append_left _ h))))))), gd_dm_X6_wordAt w h⟩)
def dj_X2_inSpace_71 (p : Program) (l : Launch) (e : Env) (s : State) (m : MethodId) (args : Array Value) (below : List Frame) (meth : Method) (c : Code) (Q : State → Prop) (A : Nat → Prop) (dC : Nat → ClassId) (dI : Nat → Nat → Nat) (a : Nat → Nat) (ac : Nat → ClassId) (g : (St × (St) × (St × (St))) → Option (Int64 × (St × (St) × (St × (St))))) (r : Int64 × (St × (St) × (St × (St)))) : Prop := ∀ (s0 : St × (St) × (St × (St))) (H : Heap) (locs : List Loc) (ls : Array Slot), g s0 = some r → va_P (dC, dI) vwCl (dw_X2m a ac s0) H → va_D A (dw_X2m a ac s0) → va_S A s.heap H locs → lv_has ls 8 [(0, .ref (a 0))] → W p l e (headSpec ow_dm_X2_inSpace ({ frames := 1, cells := 0, slots := 0, locals := 23 })).room s m args below meth c H locs 0 0 Q (F0 m 71 ls [])
def dj_X2_inSpace_128 (p : Program) (l : Launch) (e : Env) (s : State) (m : MethodId) (args : Array Value) (below : List Frame) (meth : Method) (c : Code) (Q : State → Prop) (A : Nat → Prop) (dC : Nat → ClassId) (dI : Nat → Nat → Nat) (a : Nat → Nat) (ac : Nat → ClassId) (g : Int64 → (St × (St) × (St × (St))) → Option (Int64 × (St × (St) × (St × (St))))) (r : Int64 × (St × (St) × (St × (St)))) : Prop := ∀ (y0 : Int64) (s0 : St × (St) × (St × (St))) (H : Heap) (locs : List Loc) (ls : Array Slot), g y0 s0 = some r → va_P (dC, dI) vwCl (dw_X2m a ac s0) H → va_D A (dw_X2m a ac s0) → va_S A s.heap H locs → lv_has ls 8 [] → W p l e (headSpec ow_dm_X2_inSpace ({ frames := 1, cells := 0, slots := 0, locals := 23 })).room s m args below meth c H locs 0 0 Q (F0 m 128 ls [.long y0])
def dj_X2_inSpace_27 (p : Program) (l : Launch) (e : Env) (s : State) (m : MethodId) (args : Array Value) (below : List Frame) (meth : Method) (c : Code) (Q : State → Prop) (A : Nat → Prop) (dC : Nat → ClassId) (dI : Nat → Nat → Nat) (a : Nat → Nat) (ac : Nat → ClassId) (g : Int64 → Int32 → Int32 → (St × (St) × (St × (St))) → Option (Int64 × (St × (St) × (St × (St))))) (r : Int64 × (St × (St) × (St × (St)))) : Prop := ∀ (x3 : Int64) (x5 : Int32) (y0 : Int32) (s0 : St × (St) × (St × (St))) (H : Heap) (locs : List Loc) (ls : Array Slot), g x3 x5 y0 s0 = some r → va_P (dC, dI) vwCl (dw_X2m a ac s0) H → va_D A (dw_X2m a ac s0) → va_S A s.heap H locs → lv_has ls 8 [(0, .ref (a 0)), (1, .ref (a 9)), (3, .long x3), (5, .int x5)] → W p l e (headSpec ow_dm_X2_inSpace ({ frames := 1, cells := 0, slots := 0, locals := 23 })).room s m args below meth c H locs 0 0 Q (F0 m 27 ls [.int y0])
def dj_X2_inSpace_0 (p : Program) (l : Launch) (e : Env) (s : State) (m : MethodId) (args : Array Value) (below : List Frame) (meth : Method) (c : Code) (Q : State → Prop) (A : Nat → Prop) (dC : Nat → ClassId) (dI : Nat → Nat → Nat) (a : Nat → Nat) (ac : Nat → ClassId) (g : Int32 → Int64 → (St × (St) × (St × (St))) → Option (Int64 × (St × (St) × (St × (St))))) (r : Int64 × (St × (St) × (St × (St)))) : Prop := ∀ (v1 : Int32) (v2 : Int64) (s0 : St × (St) × (St × (St))) (H : Heap) (locs : List Loc) (ls : Array Slot), g v1 v2 s0 = some r → va_P (dC, dI) vwCl (dw_X2m a ac s0) H → va_D A (dw_X2m a ac s0) → va_S A s.heap H locs → lv_has ls 8 [(0, .ref (a 0)), (1, .ref (a 9)), (2, .int v1), (3, .long v2)] → W p l e (headSpec ow_dm_X2_inSpace ({ frames := 1, cells := 0, slots := 0, locals := 23 })).room s m args below meth c H locs 0 0 Q (F0 m 0 ls [])
set_option maxHeartbeats 40000000 in
set_option maxRecDepth 100000 in
theorem db_X2_inSpace_71 {p : Program} {l : Launch} {e : Env} {s : State} {m : MethodId} {args : Array Value} {below : List Frame} {meth : Method} {c : Code} {Q : State → Prop} {A : Nat → Prop} {dC : Nat → ClassId} {dI : Nat → Nat → Nat} {a : Nat → Nat} {ac : Nat → ClassId} {n : Nat} {r : Int64 × (St × (St) × (St × (St)))} (C : nd_C p l s m args c A (dC, dI) cX2_inSpace 8 RX2 ow_dm_X2_inSpace (dk_X2m ac)) (K : nd_Kl p l e (headSpec ow_dm_X2_inSpace ({ frames := 1, cells := 0, slots := 0, locals := 23 })).room s m args below meth c Q A (dC, dI) cX2_inSpace (St × (St) × (St × (St))) (dw_X2m a ac) r) : dj_X2_inSpace_71 p l e s m args below meth c Q A dC dI a ac (df_X2_inSpace_71 n) r := by
  obtain ⟨hlt, hx, hb, hml, hown, hts, hN, hA, hK⟩ := id C
  intro s0 H locs ls h hP hD hS hl
  unfold df_X2_inSpace_71 at h
  refine lv_aload_n hx hb dX2_inSpace_71 rfl (lv_at hl 0 rfl) ?_
  refine lv_iconst (v := 1) hx hb dX2_inSpace_72 (by decide) ?_
  refine va_put (D := (dC, dI)) (ci := 3) (v := .int 1) (ty := .boolean) (C := RX2) (T := TX2) (N := 20) hx hb hts hi_dm_X2_inSpace_X2 tyX2 tyX2_ok nmX2 hown hK hP hD hS 0 rfl rfl 11 (by decide) (hts (.fieldLink RX2 199 "TimeMachine$Condition" "failed" "Z") (List.mem_of_getElem? (i := 2) rfl)) (fun _ h9 => h9) rfl (by decide +kernel) (by first | rfl | decide) rfl (Nat.le_of_ble_eq_true rfl) dX2_inSpace_73 (fun H locs hP hD hS => ?_)
  obtain ⟨s5, es5, h⟩ := nd_let_e h
  have hP : va_P (dC, dI) vwCl (dw_X2m a ac s5) H := by rw [es5]; exact hP
  have hD : va_D A (dw_X2m a ac s5) := by rw [es5]; exact hD
  refine lv_lconst (v := 0) hx hb dX2_inSpace_76 (by decide) ?_
  exact K _ _ _ _ _ _ dX2_inSpace_77 (Option.some.inj h).symm hP hD hS
set_option maxHeartbeats 40000000 in
set_option maxRecDepth 100000 in
theorem db_X2_inSpace_128 {p : Program} {l : Launch} {e : Env} {s : State} {m : MethodId} {args : Array Value} {below : List Frame} {meth : Method} {c : Code} {Q : State → Prop} {A : Nat → Prop} {dC : Nat → ClassId} {dI : Nat → Nat → Nat} {a : Nat → Nat} {ac : Nat → ClassId} {n : Nat} {r : Int64 × (St × (St) × (St × (St)))} (C : nd_C p l s m args c A (dC, dI) cX2_inSpace 8 RX2 ow_dm_X2_inSpace (dk_X2m ac)) (K : nd_Kl p l e (headSpec ow_dm_X2_inSpace ({ frames := 1, cells := 0, slots := 0, locals := 23 })).room s m args below meth c Q A (dC, dI) cX2_inSpace (St × (St) × (St × (St))) (dw_X2m a ac) r) : dj_X2_inSpace_128 p l e s m args below meth c Q A dC dI a ac (df_X2_inSpace_128 n) r := by
  obtain ⟨hlt, hx, hb, hml, hown, hts, hN, hA, hK⟩ := id C
  intro y0 s0 H locs ls h hP hD hS hl
  unfold df_X2_inSpace_128 at h
  exact K _ _ _ _ _ _ dX2_inSpace_128 (Option.some.inj h).symm hP hD hS
set_option maxHeartbeats 40000000 in
set_option maxRecDepth 100000 in
theorem db_X2_inSpace_27 {p : Program} {l : Launch} {e : Env} {s : State} {m : MethodId} {args : Array Value} {below : List Frame} {meth : Method} {c : Code} {Q : State → Prop} {A : Nat → Prop} {dC : Nat → ClassId} {dI : Nat → Nat → Nat} {a : Nat → Nat} {ac : Nat → ClassId} {n : Nat} {r : Int64 × (St × (St) × (St × (St)))} (C : nd_C p l s m args c A (dC, dI) cX2_inSpace 8 RX2 ow_dm_X2_inSpace (dk_X2m ac)) (K : nd_Kl p l e (headSpec ow_dm_X2_inSpace ({ frames := 1, cells := 0, slots := 0, locals := 23 })).room s m args below meth c Q A (dC, dI) cX2_inSpace (St × (St) × (St × (St))) (dw_X2m a ac) r) : dj_X2_inSpace_27 p l e s m args below meth c Q A dC dI a ac (df_X2_inSpace_27 n) r := by
  obtain ⟨hlt, hx, hb, hml, hown, hts, hN, hA, hK⟩ := id C
  intro x3 x5 y0 s0 H locs ls h hP hD hS hl
  unfold df_X2_inSpace_27 at h
  refine lv_istore (lv' := [(6, .int y0), (0, .ref (a 0)), (1, .ref (a 9)), (3, .long x3), (5, .int x5)]) hx hb dX2_inSpace_27 hl (by decide) rfl (fun ls hl => ?_)
  refine lv_iload hx hb dX2_inSpace_29 (lv_at hl 4 rfl) ?_
  refine lv_if_lt (tgt := 71) hx hb dX2_inSpace_31 (by decide) (fun c4 => ?_) (fun c4 => ?_)
  · have h := nd_pos h c4
    exact (db_X2_inSpace_71 C K)  s0 _ _ _ h hP hD hS (lv_sub hl [1] rfl)
  · have h := nd_neg h c4
    refine lv_lload_n hx hb dX2_inSpace_34 rfl (lv_at hl 3 rfl) ?_
    refine lv_lconst (v := 0) hx hb dX2_inSpace_35 (by decide) ?_
    refine W.lcmp hx hb dX2_inSpace_36 ?_
    refine lv_if_lt (tgt := 71) hx hb dX2_inSpace_37 (by decide) (fun c6 => ?_) (fun c6 => ?_)
    · have h := nd_pos h c6
      exact (db_X2_inSpace_71 C K)  s0 _ _ _ h hP hD hS (lv_sub hl [1] rfl)
    · have h := nd_neg h c6
      refine lv_lload_n hx hb dX2_inSpace_40 rfl (lv_at hl 3 rfl) ?_
      refine lv_ldc2 hx hb hown (hts (.constantLong RX2 233 (65536)) (List.mem_of_getElem? (i := 3) rfl)) dX2_inSpace_41 ?_
      refine W.lcmp hx hb dX2_inSpace_44 ?_
      refine lv_if_ge (tgt := 71) hx hb dX2_inSpace_45 (by decide) (fun c7 => ?_) (fun c7 => ?_)
      · have h := nd_pos h c7
        exact (db_X2_inSpace_71 C K)  s0 _ _ _ h hP hD hS (lv_sub hl [1] rfl)
      · have h := nd_neg h c7
        refine lv_lload_n hx hb dX2_inSpace_48 rfl (lv_at hl 3 rfl) ?_
        refine lv_iload hx hb dX2_inSpace_49 (lv_at hl 0 rfl) ?_
        refine lv_i2l hx hb dX2_inSpace_51 rfl ?_
        obtain ⟨i8, h⟩ := nd_nz_e h
        refine lv_lrem hx hb dX2_inSpace_52 i8 ?_
        refine lv_lconst (v := 0) hx hb dX2_inSpace_53 (by decide) ?_
        refine W.lcmp hx hb dX2_inSpace_54 ?_
        refine lv_if_ne (tgt := 71) hx hb dX2_inSpace_55 (by decide) (fun c9 => ?_) (fun c9 => ?_)
        · have h := nd_neg h c9
          exact (db_X2_inSpace_71 C K)  s0 _ _ _ h hP hD hS (lv_sub hl [1] rfl)
        · have h := nd_pos h c9
          refine lv_aload_n hx hb dX2_inSpace_58 rfl (lv_at hl 2 rfl) ?_
          refine lv_iload hx hb dX2_inSpace_59 (lv_at hl 4 rfl) ?_
          refine lv_lload_n hx hb dX2_inSpace_61 rfl (lv_at hl 3 rfl) ?_
          refine lv_l2i hx hb dX2_inSpace_62 rfl ?_
          refine lv_bipush (v := 7) hx hb dX2_inSpace_63 (by decide) ?_
          obtain ⟨q10, s11, hq, h⟩ := nd_b2_e h
          have hPc := dp_X2m_9 hP
          have hDc := dd_X2m_9 hD
          have hKc := dy_X2m_9 hK
          have hFc := nd_rs hDc hS hA
          have hzA : ∀ q : Nat, H.size ≤ q → A q := fun q h => hA q (Nat.le_trans hS.1 h)
          refine nd_cVi (As := [.int x5, .int (x3.toInt32), .int 7]) (rest := []) (q := q10) (w' := dw_X6 (fun k => a (k + 9)) (fun k => ac (k + 9)) s11) ⟨hx, hb, hml, hown, hts⟩ (fun sz => dm_X6_may l hlt dC dI (fun k => a (k + 9)) (fun k => ac (k + 9)) n (x5) ((x3.toInt32)) (7) s0.2.2 hq sz) (cwV 3 hts gi_dm_X2_inSpace_0 rfl rfl rfl (by decide +kernel) ⟨Nat.le_of_ble_eq_true rfl, Nat.le_of_ble_eq_true rfl⟩) hPc hDc hKc hS hA hN (va_recv hKc hPc (ci := 7) (q0 := 0) rfl rfl) rfl hl.1 rfl (Nat.le_of_ble_eq_true rfl) dX2_inSpace_65 (fun H locs hP1 hD1 hk1 hS => ?_)
          obtain ⟨hP, hD⟩ := dn_X2m_9 hP hD hzA hk1 hP1 hD1
          obtain ⟨s13, es13, h⟩ := nd_let_e h
          have hP : va_P (dC, dI) vwCl (dw_X2m a ac s13) H := by rw [es13]; exact hP
          have hD : va_D A (dw_X2m a ac s13) := by rw [es13]; exact hD
          refine lv_if_ne (tgt := 78) hx hb dX2_inSpace_68 (by decide) (fun c14 => ?_) (fun c14 => ?_)
          · have h := nd_neg h c14
            refine lv_lload_n hx hb dX2_inSpace_78 rfl (lv_at hl 3 rfl) ?_
            refine lv_l2i hx hb dX2_inSpace_79 rfl ?_
            refine lv_topi (fun z15 ez15 => ?_)
            have h := nd_at h ez15
            refine lv_istore (lv' := [(7, .int z15), (6, .int y0), (0, .ref (a 0)), (1, .ref (a 9)), (3, .long x3), (5, .int x5)]) hx hb dX2_inSpace_80 hl (by decide) rfl (fun ls hl => ?_)
            refine lv_iload hx hb dX2_inSpace_82 (lv_at hl 1 rfl) ?_
            refine lv_iconst (v := 4) hx hb dX2_inSpace_84 (by decide) ?_
            refine lv_icmp_ne (tgt := 100) hx hb dX2_inSpace_85 (by decide) (fun c16 => ?_) (fun c16 => ?_)
            · have h := nd_neg h c16
              refine lv_iload hx hb dX2_inSpace_100 (lv_at hl 1 rfl) ?_
              refine lv_iconst (v := 2) hx hb dX2_inSpace_102 (by decide) ?_
              refine lv_icmp_ne (tgt := 119) hx hb dX2_inSpace_103 (by decide) (fun c17 => ?_) (fun c17 => ?_)
              · have h := nd_neg h c17
                refine lv_aload_n hx hb dX2_inSpace_119 rfl (lv_at hl 3 rfl) ?_
                refine lv_iload hx hb dX2_inSpace_120 (lv_at hl 5 rfl) ?_
                refine lv_iload hx hb dX2_inSpace_122 (lv_at hl 0 rfl) ?_
                obtain ⟨q18, s19, hq, h⟩ := nd_b2_e h
                have hPc := dp_X2m_9 hP
                have hDc := dd_X2m_9 hD
                have hKc := dy_X2m_9 hK
                have hFc := nd_rs hDc hS hA
                have hzA : ∀ q : Nat, H.size ≤ q → A q := fun q h => hA q (Nat.le_trans hS.1 h)
                refine nd_cVi (As := [.int x5, .int z15]) (rest := []) (q := q18) (w' := dw_X6 (fun k => a (k + 9)) (fun k => ac (k + 9)) s19) ⟨hx, hb, hml, hown, hts⟩ (fun sz => dm_X6_byteAt l hlt dC dI (fun k => a (k + 9)) (fun k => ac (k + 9)) n (x5) (z15) s13.2.2 hq sz) (cwV 2 hts gi_dm_X2_inSpace_1 rfl rfl rfl (by decide +kernel) ⟨Nat.le_of_ble_eq_true rfl, Nat.le_of_ble_eq_true rfl⟩) hPc hDc hKc hS hA hN (va_recv hKc hPc (ci := 7) (q0 := 0) rfl rfl) rfl hl.1 rfl (Nat.le_of_ble_eq_true rfl) dX2_inSpace_124 (fun H locs hP1 hD1 hk1 hS => ?_)
                obtain ⟨hP, hD⟩ := dn_X2m_9 hP hD hzA hk1 hP1 hD1
                obtain ⟨s21, es21, h⟩ := nd_let_e h
                have hP : va_P (dC, dI) vwCl (dw_X2m a ac s21) H := by rw [es21]; exact hP
                have hD : va_D A (dw_X2m a ac s21) := by rw [es21]; exact hD
                refine lv_i2l hx hb dX2_inSpace_127 rfl ?_
                exact (db_X2_inSpace_128 C K) ((q18.toInt64)) s21 _ _ _ h hP hD hS (lv_sub hl [] rfl)
              · have h := nd_pos h c17
                refine lv_aload_n hx hb dX2_inSpace_106 rfl (lv_at hl 3 rfl) ?_
                refine lv_iload hx hb dX2_inSpace_107 (lv_at hl 5 rfl) ?_
                refine lv_iload hx hb dX2_inSpace_109 (lv_at hl 0 rfl) ?_
                obtain ⟨q22, s23, hq, h⟩ := nd_b2_e h
                have hPc := dp_X2m_9 hP
                have hDc := dd_X2m_9 hD
                have hKc := dy_X2m_9 hK
                have hFc := nd_rs hDc hS hA
                have hzA : ∀ q : Nat, H.size ≤ q → A q := fun q h => hA q (Nat.le_trans hS.1 h)
                refine nd_cVi (As := [.int x5, .int z15]) (rest := []) (q := q22) (w' := dw_X6 (fun k => a (k + 9)) (fun k => ac (k + 9)) s23) ⟨hx, hb, hml, hown, hts⟩ (fun sz => dm_X6_halfAt l hlt dC dI (fun k => a (k + 9)) (fun k => ac (k + 9)) n (x5) (z15) s13.2.2 hq sz) (cwV 2 hts gi_dm_X2_inSpace_2 rfl rfl rfl (by decide +kernel) ⟨Nat.le_of_ble_eq_true rfl, Nat.le_of_ble_eq_true rfl⟩) hPc hDc hKc hS hA hN (va_recv hKc hPc (ci := 7) (q0 := 0) rfl rfl) rfl hl.1 rfl (Nat.le_of_ble_eq_true rfl) dX2_inSpace_111 (fun H locs hP1 hD1 hk1 hS => ?_)
                obtain ⟨hP, hD⟩ := dn_X2m_9 hP hD hzA hk1 hP1 hD1
                obtain ⟨s25, es25, h⟩ := nd_let_e h
                have hP : va_P (dC, dI) vwCl (dw_X2m a ac s25) H := by rw [es25]; exact hP
                have hD : va_D A (dw_X2m a ac s25) := by rw [es25]; exact hD
                refine lv_i2s hx hb dX2_inSpace_114 rfl ?_
                refine lv_i2l hx hb dX2_inSpace_115 rfl ?_
                refine lv_goto (tgt := 128) hx hb dX2_inSpace_116 (by decide) ?_
                exact (db_X2_inSpace_128 C K) ((((q22.toInt16.toInt32) : Int32).toInt64)) s25 _ _ _ h hP hD hS (lv_sub hl [] rfl)
            · have h := nd_pos h c16
              refine lv_aload_n hx hb dX2_inSpace_88 rfl (lv_at hl 3 rfl) ?_
              refine lv_iload hx hb dX2_inSpace_89 (lv_at hl 5 rfl) ?_
              refine lv_iload hx hb dX2_inSpace_91 (lv_at hl 0 rfl) ?_
              obtain ⟨q26, s27, hq, h⟩ := nd_b2_e h
              have hPc := dp_X2m_9 hP
              have hDc := dd_X2m_9 hD
              have hKc := dy_X2m_9 hK
              have hFc := nd_rs hDc hS hA
              have hzA : ∀ q : Nat, H.size ≤ q → A q := fun q h => hA q (Nat.le_trans hS.1 h)
              refine nd_cVi (As := [.int x5, .int z15]) (rest := []) (q := q26) (w' := dw_X6 (fun k => a (k + 9)) (fun k => ac (k + 9)) s27) ⟨hx, hb, hml, hown, hts⟩ (fun sz => dm_X6_wordAt l hlt dC dI (fun k => a (k + 9)) (fun k => ac (k + 9)) n (x5) (z15) s13.2.2 hq sz) (cwV 2 hts gi_dm_X2_inSpace_3 rfl rfl rfl (by decide +kernel) ⟨Nat.le_of_ble_eq_true rfl, Nat.le_of_ble_eq_true rfl⟩) hPc hDc hKc hS hA hN (va_recv hKc hPc (ci := 7) (q0 := 0) rfl rfl) rfl hl.1 rfl (Nat.le_of_ble_eq_true rfl) dX2_inSpace_93 (fun H locs hP1 hD1 hk1 hS => ?_)
              obtain ⟨hP, hD⟩ := dn_X2m_9 hP hD hzA hk1 hP1 hD1
              obtain ⟨s29, es29, h⟩ := nd_let_e h
              have hP : va_P (dC, dI) vwCl (dw_X2m a ac s29) H := by rw [es29]; exact hP
              have hD : va_D A (dw_X2m a ac s29) := by rw [es29]; exact hD
              refine lv_i2l hx hb dX2_inSpace_96 rfl ?_
              refine lv_goto (tgt := 128) hx hb dX2_inSpace_97 (by decide) ?_
              exact (db_X2_inSpace_128 C K) ((q26.toInt64)) s29 _ _ _ h hP hD hS (lv_sub hl [] rfl)
          · have h := nd_pos h c14
            exact (db_X2_inSpace_71 C K)  s13 _ _ _ h hP hD hS (lv_sub hl [1] rfl)
set_option maxHeartbeats 40000000 in
set_option maxRecDepth 100000 in
theorem db_X2_inSpace_0 {p : Program} {l : Launch} {e : Env} {s : State} {m : MethodId} {args : Array Value} {below : List Frame} {meth : Method} {c : Code} {Q : State → Prop} {A : Nat → Prop} {dC : Nat → ClassId} {dI : Nat → Nat → Nat} {a : Nat → Nat} {ac : Nat → ClassId} {n : Nat} {r : Int64 × (St × (St) × (St × (St)))} (C : nd_C p l s m args c A (dC, dI) cX2_inSpace 8 RX2 ow_dm_X2_inSpace (dk_X2m ac)) (K : nd_Kl p l e (headSpec ow_dm_X2_inSpace ({ frames := 1, cells := 0, slots := 0, locals := 23 })).room s m args below meth c Q A (dC, dI) cX2_inSpace (St × (St) × (St × (St))) (dw_X2m a ac) r) : dj_X2_inSpace_0 p l e s m args below meth c Q A dC dI a ac (df_X2_inSpace_0 n) r := by
  obtain ⟨hlt, hx, hb, hml, hown, hts, hN, hA, hK⟩ := id C
  intro v1 v2 s0 H locs ls h hP hD hS hl
  unfold df_X2_inSpace_0 at h
  refine lv_aload_n hx hb dX2_inSpace_0 rfl (lv_at hl 1 rfl) ?_
  refine va_get (D := (dC, dI)) (ci := 7) (v := .int (sI s0.2.2.1 3)) (C := RX6) (T := TX6) (N := 20) hx hb hts hi_dm_X2_inSpace_X6 hown hK hP 9 rfl rfl 13 (by decide) (hts (.fieldLink RX2 221 "TimeMachine$Machine" "current" "I") (List.mem_of_getElem? (i := 1) rfl)) (fun _ h9 => h9) rfl dX2_inSpace_1 ?_
  refine lv_topi (fun z1 ez1 => ?_)
  have h := nd_at h ez1
  refine lv_istore (lv' := [(5, .int z1), (0, .ref (a 0)), (1, .ref (a 9)), (2, .int v1), (3, .long v2)]) hx hb dX2_inSpace_4 hl (by decide) rfl (fun ls hl => ?_)
  refine lv_iload_n hx hb dX2_inSpace_6 rfl (lv_at hl 3 rfl) ?_
  refine lv_bipush (v := 25) hx hb dX2_inSpace_7 (by decide) ?_
  refine lv_icmp_ne (tgt := 16) hx hb dX2_inSpace_9 (by decide) (fun c2 => ?_) (fun c2 => ?_)
  · have h := nd_neg h c2
    refine lv_iload_n hx hb dX2_inSpace_16 rfl (lv_at hl 3 rfl) ?_
    refine lv_bipush (v := 26) hx hb dX2_inSpace_17 (by decide) ?_
    refine lv_icmp_ne (tgt := 26) hx hb dX2_inSpace_19 (by decide) (fun c3 => ?_) (fun c3 => ?_)
    · have h := nd_neg h c3
      refine lv_iconst (v := 1) hx hb dX2_inSpace_26 (by decide) ?_
      exact (db_X2_inSpace_27 C K) (v2) (z1) (1) s0 _ _ _ h hP hD hS (lv_sub hl [1, 2, 4, 0] rfl)
    · have h := nd_pos h c3
      refine lv_iconst (v := 2) hx hb dX2_inSpace_22 (by decide) ?_
      refine lv_goto (tgt := 27) hx hb dX2_inSpace_23 (by decide) ?_
      exact (db_X2_inSpace_27 C K) (v2) (z1) (2) s0 _ _ _ h hP hD hS (lv_sub hl [1, 2, 4, 0] rfl)
  · have h := nd_pos h c2
    refine lv_iconst (v := 4) hx hb dX2_inSpace_12 (by decide) ?_
    refine lv_goto (tgt := 27) hx hb dX2_inSpace_13 (by decide) ?_
    exact (db_X2_inSpace_27 C K) (v2) (z1) (4) s0 _ _ _ h hP hD hS (lv_sub hl [1, 2, 4, 0] rfl)
set_option maxHeartbeats 40000000 in
set_option maxRecDepth 100000 in
theorem dm_X2_inSpace (l : Launch) (hlt : l.stackTraces = false) (dC : Nat → ClassId) (dI : Nat → Nat → Nat) (a : Nat → Nat) (ac : Nat → ClassId) (n : Nat) (v1 : Int32) (v2 : Int64) (s0 : St × (St) × (St × (St))) {r : Int64 × (St × (St) × (St × (St)))} (h : df_X2_inSpace n v1 v2 s0 = some r) (sz : Nat) : Met l yX2_inSpace ow_dm_X2_inSpace ({ frames := 1, cells := 0, slots := 0, locals := 23 }) (va_Pc [.ref (a 0), .ref (a 9), .int v1, .long v2] (fun U => U.heap.size = sz ∧ va_P (dC, dI) vwCl (dw_X2m a ac s0) U.heap ∧ va_K (dC, dI) vwCl (dk_X2m ac) U ∧ va_D (fun _ => True) (dw_X2m a ac s0) ∧ nv_E (va_A (dw_X2m a ac s0) sz) U)) (va_Ql (fun x _ => x = r.1) (fun (_ : Unit) t => va_P (dC, dI) vwCl (dw_X2m a ac r.2) t.heap ∧ va_K (dC, dI) vwCl (dk_X2m ac) t ∧ va_D (va_A (dw_X2m a ac s0) sz) (dw_X2m a ac r.2)) (va_A (dw_X2m a ac s0) sz)) 0 0 (va_A (dw_X2m a ac s0) sz) := by
  refine Met.ofW (cc := cX2_inSpace) (maxL := 8) (ret := (some .long)) (by decide) rfl ?_
  intro p e s m args below meth c s₁ B hml hv
  obtain ⟨rfl, hsz, hP, hK, hD0, hN⟩ := hv
  have hx := B.exec
  have hb := B.bytes
  have hr := B.returns
  have hts := atoms_spec (ws := ow_dm_X2_inSpace) B.pre
  have hown : s.vm.findClass RX2 = some m.cls := findClass_of_methodNamed B.named
  have hlocks := B.notSynchronized
  subst hsz
  have hD := hD0.self (sz := s.heap.size)
  generalize hAe : va_A (dw_X2m a ac s0) s.heap.size = A at hD hN ⊢
  have hA : ∀ q : Nat, s.heap.size ≤ q → A q := fun q h => by rw [← hAe]; exact Or.inr h
  have hl := lv_entry ([.ref (a 0), .ref (a 9), .int v1, .long v2]) (n := 8) (Nat.le_of_ble_eq_true rfl)
  rw [lg_entry_eq]
  generalize (lg_sl ([.ref (a 0), .ref (a 9), .int v1, .long v2]) ++ List.replicate (8 - (lg_sl ([.ref (a 0), .ref (a 9), .int v1, .long v2])).length) Slot.unset).toArray = ls at hl ⊢
  have hl : lv_has ls 8 [(0, .ref (a 0)), (1, .ref (a 9)), (2, .int v1), (3, .long v2)] := hl
  exact db_X2_inSpace_0 (dC := dC) (dI := dI) (a := a) (ac := ac) (n := n) (r := r) ⟨hlt, hx, hb, hml, hown, hts, hN, hA, hK⟩ (fun pc v τ H locs ls d er hP hD hS => by subst er; exact W.lret (v := v) hx hb hr (fun t ht hW => ⟨⟨v, (), rfl, rfl, by rw [ht]; exact hP, va_K.moved hW.alike hK, hD⟩, hS.F ht⟩) hS.2.2 d) v1 v2 s0 _ _ _ h hP hD va_S.rf (lv_sub hl [0, 1, 2, 3] rfl)
def ow_dm_X2_single : List Cond := .code yX2_single cX2_single 6 (some .long) :: ([.constantLong RX2 227 (-1), .fieldLink RX2 32 "TimeMachine$Condition" "oldValue" "[J", .methodLink RX2 229 yX2_inSpace, .instanceMethod yX2_inSpace, .selects RX2 yX2_inSpace yX2_inSpace, .initialized RX2] ++ (u_ws RX2 TX2 20 ++ (ow_dm_X2_inSpace ++ [])))
theorem gd_dm_X2_single : ∀ w ∈ ow_dm_X2_single, (w.onTables && w.keeps) = true ∨ ∃ ty, w = Cond.arrayClass ty := List.forall_mem_cons.mpr ⟨good_of_word rfl, List.forall_mem_append.mpr ⟨fun w h => good_of_word (List.all_eq_true.mp (by decide +kernel) w h), List.forall_mem_append.mpr ⟨gu_X2, List.forall_mem_append.mpr ⟨gd_dm_X2_inSpace, fun _ h => nomatch h⟩⟩⟩⟩
theorem hi_dm_X2_single_X2 : ∀ w ∈ u_ws RX2 TX2 20, w ∈ ow_dm_X2_single := fun w h => List.mem_cons_of_mem _ (List.mem_append_right _ (List.mem_append_left _ h))
theorem gi_dm_X2_single_0 : GoodIn ow_dm_X2_single (wsV RX2 229 RX2 yX2_inSpace ow_dm_X2_inSpace) := goodIn_app (goodIn_of _ (by decide +kernel)) (fun w h => ⟨List.mem_cons_of_mem _ (List.mem_append_right _ (List.mem_append_right _ (List.mem_append_left _ h))), gd_dm_X2_inSpace w h⟩)
def dj_X2_single_64 (p : Program) (l : Launch) (e : Env) (s : State) (m : MethodId) (args : Array Value) (below : List Frame) (meth : Method) (c : Code) (Q : State → Prop) (A : Nat → Prop) (dC : Nat → ClassId) (dI : Nat → Nat → Nat) (a : Nat → Nat) (ac : Nat → ClassId) (g : Int64 → (St × (St) × (St × (St))) → Option (Int64 × (St × (St) × (St × (St))))) (r : Int64 × (St × (St) × (St × (St)))) : Prop := ∀ (y0 : Int64) (s0 : St × (St) × (St × (St))) (H : Heap) (locs : List Loc) (ls : Array Slot), g y0 s0 = some r → va_P (dC, dI) vwCl (dw_X2m a ac s0) H → va_D A (dw_X2m a ac s0) → va_S A s.heap H locs → lv_has ls 6 [] → W p l e (headSpec ow_dm_X2_single ({ frames := 2, cells := 0, slots := 0, locals := 50 })).room s m args below meth c H locs 0 0 Q (F0 m 64 ls [.long y0])
def dj_X2_single_106 (p : Program) (l : Launch) (e : Env) (s : State) (m : MethodId) (args : Array Value) (below : List Frame) (meth : Method) (c : Code) (Q : State → Prop) (A : Nat → Prop) (dC : Nat → ClassId) (dI : Nat → Nat → Nat) (a : Nat → Nat) (ac : Nat → ClassId) (g : Int64 → (St × (St) × (St × (St))) → Option (Int64 × (St × (St) × (St × (St))))) (r : Int64 × (St × (St) × (St × (St)))) : Prop := ∀ (y0 : Int64) (s0 : St × (St) × (St × (St))) (H : Heap) (locs : List Loc) (ls : Array Slot), g y0 s0 = some r → va_P (dC, dI) vwCl (dw_X2m a ac s0) H → va_D A (dw_X2m a ac s0) → va_S A s.heap H locs → lv_has ls 6 [] → W p l e (headSpec ow_dm_X2_single ({ frames := 2, cells := 0, slots := 0, locals := 50 })).room s m args below meth c H locs 0 0 Q (F0 m 106 ls [.long y0])
def dj_X2_single_88 (p : Program) (l : Launch) (e : Env) (s : State) (m : MethodId) (args : Array Value) (below : List Frame) (meth : Method) (c : Code) (Q : State → Prop) (A : Nat → Prop) (dC : Nat → ClassId) (dI : Nat → Nat → Nat) (a : Nat → Nat) (ac : Nat → ClassId) (g : Int64 → (St × (St) × (St × (St))) → Option (Int64 × (St × (St) × (St × (St))))) (r : Int64 × (St × (St) × (St × (St)))) : Prop := ∀ (y0 : Int64) (s0 : St × (St) × (St × (St))) (H : Heap) (locs : List Loc) (ls : Array Slot), g y0 s0 = some r → va_P (dC, dI) vwCl (dw_X2m a ac s0) H → va_D A (dw_X2m a ac s0) → va_S A s.heap H locs → lv_has ls 6 [] → W p l e (headSpec ow_dm_X2_single ({ frames := 2, cells := 0, slots := 0, locals := 50 })).room s m args below meth c H locs 0 0 Q (F0 m 88 ls [.long y0])
def dj_X2_single_0 (p : Program) (l : Launch) (e : Env) (s : State) (m : MethodId) (args : Array Value) (below : List Frame) (meth : Method) (c : Code) (Q : State → Prop) (A : Nat → Prop) (dC : Nat → ClassId) (dI : Nat → Nat → Nat) (a : Nat → Nat) (ac : Nat → ClassId) (g : Int32 → Int32 → Int64 → (St × (St) × (St × (St))) → Option (Int64 × (St × (St) × (St × (St))))) (r : Int64 × (St × (St) × (St × (St)))) : Prop := ∀ (v1 : Int32) (v2 : Int32) (v3 : Int64) (s0 : St × (St) × (St × (St))) (H : Heap) (locs : List Loc) (ls : Array Slot), g v1 v2 v3 s0 = some r → va_P (dC, dI) vwCl (dw_X2m a ac s0) H → va_D A (dw_X2m a ac s0) → va_S A s.heap H locs → lv_has ls 6 [(0, .ref (a 0)), (1, .ref (a 9)), (2, .int v1), (3, .int v2), (4, .long v3)] → W p l e (headSpec ow_dm_X2_single ({ frames := 2, cells := 0, slots := 0, locals := 50 })).room s m args below meth c H locs 0 0 Q (F0 m 0 ls [])
set_option maxHeartbeats 40000000 in
set_option maxRecDepth 100000 in
theorem db_X2_single_64 {p : Program} {l : Launch} {e : Env} {s : State} {m : MethodId} {args : Array Value} {below : List Frame} {meth : Method} {c : Code} {Q : State → Prop} {A : Nat → Prop} {dC : Nat → ClassId} {dI : Nat → Nat → Nat} {a : Nat → Nat} {ac : Nat → ClassId} {n : Nat} {r : Int64 × (St × (St) × (St × (St)))} (C : nd_C p l s m args c A (dC, dI) cX2_single 6 RX2 ow_dm_X2_single (dk_X2m ac)) (K : nd_Kl p l e (headSpec ow_dm_X2_single ({ frames := 2, cells := 0, slots := 0, locals := 50 })).room s m args below meth c Q A (dC, dI) cX2_single (St × (St) × (St × (St))) (dw_X2m a ac) r) : dj_X2_single_64 p l e s m args below meth c Q A dC dI a ac (df_X2_single_64 n) r := by
  obtain ⟨hlt, hx, hb, hml, hown, hts, hN, hA, hK⟩ := id C
  intro y0 s0 H locs ls h hP hD hS hl
  unfold df_X2_single_64 at h
  exact K _ _ _ _ _ _ dX2_single_64 (Option.some.inj h).symm hP hD hS
set_option maxHeartbeats 40000000 in
set_option maxRecDepth 100000 in
theorem db_X2_single_106 {p : Program} {l : Launch} {e : Env} {s : State} {m : MethodId} {args : Array Value} {below : List Frame} {meth : Method} {c : Code} {Q : State → Prop} {A : Nat → Prop} {dC : Nat → ClassId} {dI : Nat → Nat → Nat} {a : Nat → Nat} {ac : Nat → ClassId} {n : Nat} {r : Int64 × (St × (St) × (St × (St)))} (C : nd_C p l s m args c A (dC, dI) cX2_single 6 RX2 ow_dm_X2_single (dk_X2m ac)) (K : nd_Kl p l e (headSpec ow_dm_X2_single ({ frames := 2, cells := 0, slots := 0, locals := 50 })).room s m args below meth c Q A (dC, dI) cX2_single (St × (St) × (St × (St))) (dw_X2m a ac) r) : dj_X2_single_106 p l e s m args below meth c Q A dC dI a ac (df_X2_single_106 n) r := by
  obtain ⟨hlt, hx, hb, hml, hown, hts, hN, hA, hK⟩ := id C
  intro y0 s0 H locs ls h hP hD hS hl
  unfold df_X2_single_106 at h
  exact K _ _ _ _ _ _ dX2_single_106 (Option.some.inj h).symm hP hD hS
set_option maxHeartbeats 40000000 in
set_option maxRecDepth 100000 in
theorem db_X2_single_88 {p : Program} {l : Launch} {e : Env} {s : State} {m : MethodId} {args : Array Value} {below : List Frame} {meth : Method} {c : Code} {Q : State → Prop} {A : Nat → Prop} {dC : Nat → ClassId} {dI : Nat → Nat → Nat} {a : Nat → Nat} {ac : Nat → ClassId} {n : Nat} {r : Int64 × (St × (St) × (St × (St)))} (C : nd_C p l s m args c A (dC, dI) cX2_single 6 RX2 ow_dm_X2_single (dk_X2m ac)) (K : nd_Kl p l e (headSpec ow_dm_X2_single ({ frames := 2, cells := 0, slots := 0, locals := 50 })).room s m args below meth c Q A (dC, dI) cX2_single (St × (St) × (St × (St))) (dw_X2m a ac) r) : dj_X2_single_88 p l e s m args below meth c Q A dC dI a ac (df_X2_single_88 n) r := by
  obtain ⟨hlt, hx, hb, hml, hown, hts, hN, hA, hK⟩ := id C
  intro y0 s0 H locs ls h hP hD hS hl
  unfold df_X2_single_88 at h
  exact K _ _ _ _ _ _ dX2_single_88 (Option.some.inj h).symm hP hD hS
set_option maxHeartbeats 40000000 in
set_option maxRecDepth 100000 in
theorem db_X2_single_0 {p : Program} {l : Launch} {e : Env} {s : State} {m : MethodId} {args : Array Value} {below : List Frame} {meth : Method} {c : Code} {Q : State → Prop} {A : Nat → Prop} {dC : Nat → ClassId} {dI : Nat → Nat → Nat} {a : Nat → Nat} {ac : Nat → ClassId} {n : Nat} {r : Int64 × (St × (St) × (St × (St)))} (C : nd_C p l s m args c A (dC, dI) cX2_single 6 RX2 ow_dm_X2_single (dk_X2m ac)) (K : nd_Kl p l e (headSpec ow_dm_X2_single ({ frames := 2, cells := 0, slots := 0, locals := 50 })).room s m args below meth c Q A (dC, dI) cX2_single (St × (St) × (St × (St))) (dw_X2m a ac) r) : dj_X2_single_0 p l e s m args below meth c Q A dC dI a ac (df_X2_single_0 n) r := by
  obtain ⟨hlt, hx, hb, hml, hown, hts, hN, hA, hK⟩ := id C
  intro v1 v2 v3 s0 H locs ls h hP hD hS hl
  unfold df_X2_single_0 at h
  refine lv_iload_n hx hb dX2_single_0 rfl (lv_at hl 2 rfl) ?_
  by_cases c1 : v1 = 19
  · have h := nd_pos h c1
    refine lv_lookup (off := 51) (tgt := 52) hx hb dX2_single_1 (by decide) (by rw [c1]; decide) (by decide) ?_
    refine lv_lload hx hb dX2_single_52 (lv_at hl 4 rfl) ?_
    refine lv_lconst (v := 0) hx hb dX2_single_54 (by decide) ?_
    refine W.lcmp hx hb dX2_single_55 ?_
    refine lv_if_ne (tgt := 63) hx hb dX2_single_56 (by decide) (fun c2 => ?_) (fun c2 => ?_)
    · have h := nd_neg h c2
      refine lv_lconst (v := 0) hx hb dX2_single_63 (by decide) ?_
      exact (db_X2_single_64 C K) (0) s0 _ _ _ h hP hD hS (lv_sub hl [] rfl)
    · have h := nd_pos h c2
      refine lv_lconst (v := 1) hx hb dX2_single_59 (by decide) ?_
      refine lv_goto (tgt := 64) hx hb dX2_single_60 (by decide) ?_
      exact (db_X2_single_64 C K) (1) s0 _ _ _ h hP hD hS (lv_sub hl [] rfl)
  have h := nd_neg h c1
  by_cases c3 : v1 = 20
  · have h := nd_pos h c3
    refine lv_lookup (off := 64) (tgt := 65) hx hb dX2_single_1 (by decide) (by rw [c3]; decide) (by decide) ?_
    refine lv_lload hx hb dX2_single_65 (lv_at hl 4 rfl) ?_
    refine lv_lneg hx hb dX2_single_67 ?_
    exact K _ _ _ _ _ _ dX2_single_68 (Option.some.inj h).symm hP hD hS
  have h := nd_neg h c3
  by_cases c4 : v1 = 21
  · have h := nd_pos h c4
    refine lv_lookup (off := 68) (tgt := 69) hx hb dX2_single_1 (by decide) (by rw [c4]; decide) (by decide) ?_
    refine lv_lload hx hb dX2_single_69 (lv_at hl 4 rfl) ?_
    refine lv_ldc2 hx hb hown (hts (.constantLong RX2 227 (-1)) (List.mem_of_getElem? (i := 1) rfl)) dX2_single_71 ?_
    refine lv_lxor hx hb dX2_single_74 ?_
    exact K _ _ _ _ _ _ dX2_single_75 (Option.some.inj h).symm hP hD hS
  have h := nd_neg h c4
  by_cases c5 : v1 = 24
  · have h := nd_pos h c5
    refine lv_lookup (off := 88) (tgt := 89) hx hb dX2_single_1 (by decide) (by rw [c5]; decide) (by decide) ?_
    refine lv_lload hx hb dX2_single_89 (lv_at hl 4 rfl) ?_
    refine lv_aload_n hx hb dX2_single_91 rfl (lv_at hl 0 rfl) ?_
    refine va_get (D := (dC, dI)) (ci := 3) (v := .ref (a 8)) (C := RX2) (T := TX2) (N := 20) hx hb hts hi_dm_X2_single_X2 hown hK hP 0 rfl rfl 9 (by decide) (hts (.fieldLink RX2 32 "TimeMachine$Condition" "oldValue" "[J") (List.mem_of_getElem? (i := 2) rfl)) (fun _ h9 => h9) rfl dX2_single_92 ?_
    refine lv_iload_n hx hb dX2_single_95 rfl (lv_at hl 3 rfl) ?_
    obtain ⟨i6, h⟩ := nd_ck_e h
    refine va_lald (i := v2) hx hb hK hP 8 7 rfl rfl i6 dX2_single_96 ?_
    refine W.lcmp hx hb dX2_single_97 ?_
    refine lv_if_eq (tgt := 105) hx hb dX2_single_98 (by decide) (fun c7 => ?_) (fun c7 => ?_)
    · have h := nd_pos h c7
      refine lv_lconst (v := 0) hx hb dX2_single_105 (by decide) ?_
      exact (db_X2_single_106 C K) (0) s0 _ _ _ h hP hD hS (lv_sub hl [] rfl)
    · have h := nd_neg h c7
      refine lv_lconst (v := 1) hx hb dX2_single_101 (by decide) ?_
      refine lv_goto (tgt := 106) hx hb dX2_single_102 (by decide) ?_
      exact (db_X2_single_106 C K) (1) s0 _ _ _ h hP hD hS (lv_sub hl [] rfl)
  have h := nd_neg h c5
  by_cases c8 : v1 = 36
  · have h := nd_pos h c8
    refine lv_lookup (off := 75) (tgt := 76) hx hb dX2_single_1 (by decide) (by rw [c8]; decide) (by decide) ?_
    refine lv_lload hx hb dX2_single_76 (lv_at hl 4 rfl) ?_
    refine lv_lconst (v := 0) hx hb dX2_single_78 (by decide) ?_
    refine W.lcmp hx hb dX2_single_79 ?_
    refine lv_if_eq (tgt := 87) hx hb dX2_single_80 (by decide) (fun c9 => ?_) (fun c9 => ?_)
    · have h := nd_pos h c9
      refine lv_lconst (v := 0) hx hb dX2_single_87 (by decide) ?_
      exact (db_X2_single_88 C K) (0) s0 _ _ _ h hP hD hS (lv_sub hl [] rfl)
    · have h := nd_neg h c9
      refine lv_lconst (v := 1) hx hb dX2_single_83 (by decide) ?_
      refine lv_goto (tgt := 88) hx hb dX2_single_84 (by decide) ?_
      exact (db_X2_single_88 C K) (1) s0 _ _ _ h hP hD hS (lv_sub hl [] rfl)
  have h := nd_neg h c8
  refine lv_lookup (off := 106) (tgt := 107) hx hb dX2_single_1 (by decide) (show Op.lookupswitch.offset [(19, 51), (20, 64), (21, 68), (24, 88), (36, 75)] 106 (v1 : Int32).toInt = 106 by rw [lv_osw c1 (by decide), lv_osw c3 (by decide), lv_osw c4 (by decide), lv_osw c5 (by decide), lv_osw c8 (by decide)] <;> rfl) (by decide) ?_
  refine lv_aload_n hx hb dX2_single_107 rfl (lv_at hl 0 rfl) ?_
  refine lv_aload_n hx hb dX2_single_108 rfl (lv_at hl 1 rfl) ?_
  refine lv_iload_n hx hb dX2_single_109 rfl (lv_at hl 2 rfl) ?_
  refine lv_lload hx hb dX2_single_110 (lv_at hl 4 rfl) ?_
  obtain ⟨q10, s11, hq, h⟩ := nd_b2_e h
  have hPc := hP
  have hDc := hD
  have hKc := hK
  have hFc := nd_rs hD hS hA
  refine nd_cVl (As := [.ref (a 9), .int v1, .long v3]) (rest := []) (q := q10) (w' := dw_X2m a ac s11) ⟨hx, hb, hml, hown, hts⟩ (fun sz => dm_X2_inSpace l hlt dC dI a ac n (v1) (v3) s0 hq sz) (cwV 3 hts gi_dm_X2_single_0 rfl rfl rfl (by decide +kernel) ⟨Nat.le_of_ble_eq_true rfl, Nat.le_of_ble_eq_true rfl⟩) hPc hDc hKc hS hA hN (va_recv hKc hPc (ci := 3) (q0 := 0) rfl rfl) rfl hl.1 rfl (Nat.le_of_ble_eq_true rfl) dX2_single_112 (fun H locs hP1 hD1 hk1 hS => ?_)
  have hP := hP1
  have hD := hD1.weaken (fun k q _ h => hFc q.1 h)
  exact K _ _ _ _ _ _ dX2_single_115 (Option.some.inj h).symm hP hD hS
set_option maxHeartbeats 40000000 in
set_option maxRecDepth 100000 in
theorem dm_X2_single (l : Launch) (hlt : l.stackTraces = false) (dC : Nat → ClassId) (dI : Nat → Nat → Nat) (a : Nat → Nat) (ac : Nat → ClassId) (n : Nat) (v1 : Int32) (v2 : Int32) (v3 : Int64) (s0 : St × (St) × (St × (St))) {r : Int64 × (St × (St) × (St × (St)))} (h : df_X2_single n v1 v2 v3 s0 = some r) (sz : Nat) : Met l yX2_single ow_dm_X2_single ({ frames := 2, cells := 0, slots := 0, locals := 50 }) (va_Pc [.ref (a 0), .ref (a 9), .int v1, .int v2, .long v3] (fun U => U.heap.size = sz ∧ va_P (dC, dI) vwCl (dw_X2m a ac s0) U.heap ∧ va_K (dC, dI) vwCl (dk_X2m ac) U ∧ va_D (fun _ => True) (dw_X2m a ac s0) ∧ nv_E (va_A (dw_X2m a ac s0) sz) U)) (va_Ql (fun x _ => x = r.1) (fun (_ : Unit) t => va_P (dC, dI) vwCl (dw_X2m a ac r.2) t.heap ∧ va_K (dC, dI) vwCl (dk_X2m ac) t ∧ va_D (va_A (dw_X2m a ac s0) sz) (dw_X2m a ac r.2)) (va_A (dw_X2m a ac s0) sz)) 0 0 (va_A (dw_X2m a ac s0) sz) := by
  refine Met.ofW (cc := cX2_single) (maxL := 6) (ret := (some .long)) (by decide) rfl ?_
  intro p e s m args below meth c s₁ B hml hv
  obtain ⟨rfl, hsz, hP, hK, hD0, hN⟩ := hv
  have hx := B.exec
  have hb := B.bytes
  have hr := B.returns
  have hts := atoms_spec (ws := ow_dm_X2_single) B.pre
  have hown : s.vm.findClass RX2 = some m.cls := findClass_of_methodNamed B.named
  have hlocks := B.notSynchronized
  subst hsz
  have hD := hD0.self (sz := s.heap.size)
  generalize hAe : va_A (dw_X2m a ac s0) s.heap.size = A at hD hN ⊢
  have hA : ∀ q : Nat, s.heap.size ≤ q → A q := fun q h => by rw [← hAe]; exact Or.inr h
  have hl := lv_entry ([.ref (a 0), .ref (a 9), .int v1, .int v2, .long v3]) (n := 6) (Nat.le_of_ble_eq_true rfl)
  rw [lg_entry_eq]
  generalize (lg_sl ([.ref (a 0), .ref (a 9), .int v1, .int v2, .long v3]) ++ List.replicate (6 - (lg_sl ([.ref (a 0), .ref (a 9), .int v1, .int v2, .long v3])).length) Slot.unset).toArray = ls at hl ⊢
  have hl : lv_has ls 6 [(0, .ref (a 0)), (1, .ref (a 9)), (2, .int v1), (3, .int v2), (4, .long v3)] := hl
  exact db_X2_single_0 (dC := dC) (dI := dI) (a := a) (ac := ac) (n := n) (r := r) ⟨hlt, hx, hb, hml, hown, hts, hN, hA, hK⟩ (fun pc v τ H locs ls d er hP hD hS => by subst er; exact W.lret (v := v) hx hb hr (fun t ht hW => ⟨⟨v, (), rfl, rfl, by rw [ht]; exact hP, va_K.moved hW.alike hK, hD⟩, hS.F ht⟩) hS.2.2 d) v1 v2 v3 s0 _ _ _ h hP hD va_S.rf (lv_sub hl [0, 1, 2, 3, 4] rfl)
def ow_dm_X2_reckoned : List Cond := .code yX2_reckoned cX2_reckoned 6 (some .long) :: ([.fieldLink RX2 199 "TimeMachine$Condition" "failed" "Z"] ++ (u_ws RX2 TX2 20 ++ []))
theorem gd_dm_X2_reckoned : ∀ w ∈ ow_dm_X2_reckoned, (w.onTables && w.keeps) = true ∨ ∃ ty, w = Cond.arrayClass ty := List.forall_mem_cons.mpr ⟨good_of_word rfl, List.forall_mem_append.mpr ⟨fun w h => good_of_word (List.all_eq_true.mp (by decide +kernel) w h), List.forall_mem_append.mpr ⟨gu_X2, fun _ h => nomatch h⟩⟩⟩
theorem hi_dm_X2_reckoned_X2 : ∀ w ∈ u_ws RX2 TX2 20, w ∈ ow_dm_X2_reckoned := fun w h => List.mem_cons_of_mem _ (List.mem_append_right _ (List.mem_append_left _ h))
def dj_X2_reckoned_94 (p : Program) (l : Launch) (e : Env) (s : State) (m : MethodId) (args : Array Value) (below : List Frame) (meth : Method) (c : Code) (Q : State → Prop) (A : Nat → Prop) (dC : Nat → ClassId) (dI : Nat → Nat → Nat) (a : Nat → Nat) (ac : Nat → ClassId) (g : Int64 → (St) → Option (Int64 × (St))) (r : Int64 × (St)) : Prop := ∀ (y0 : Int64) (s0 : St) (H : Heap) (locs : List Loc) (ls : Array Slot), g y0 s0 = some r → va_P (dC, dI) vwCl (dw_X2c a ac s0) H → va_D A (dw_X2c a ac s0) → va_S A s.heap H locs → lv_has ls 6 [] → W p l e (headSpec ow_dm_X2_reckoned ({ frames := 0, cells := 0, slots := 0, locals := 0 })).room s m args below meth c H locs 0 0 Q (F0 m 94 ls [.long y0])
def dj_X2_reckoned_0 (p : Program) (l : Launch) (e : Env) (s : State) (m : MethodId) (args : Array Value) (below : List Frame) (meth : Method) (c : Code) (Q : State → Prop) (A : Nat → Prop) (dC : Nat → ClassId) (dI : Nat → Nat → Nat) (a : Nat → Nat) (ac : Nat → ClassId) (g : Int32 → Int64 → Int64 → (St) → Option (Int64 × (St))) (r : Int64 × (St)) : Prop := ∀ (v0 : Int32) (v1 : Int64) (v2 : Int64) (s0 : St) (H : Heap) (locs : List Loc) (ls : Array Slot), g v0 v1 v2 s0 = some r → va_P (dC, dI) vwCl (dw_X2c a ac s0) H → va_D A (dw_X2c a ac s0) → va_S A s.heap H locs → lv_has ls 6 [(0, .ref (a 0)), (1, .int v0), (2, .long v1), (4, .long v2)] → W p l e (headSpec ow_dm_X2_reckoned ({ frames := 0, cells := 0, slots := 0, locals := 0 })).room s m args below meth c H locs 0 0 Q (F0 m 0 ls [])
set_option maxHeartbeats 40000000 in
set_option maxRecDepth 100000 in
theorem db_X2_reckoned_94 {p : Program} {l : Launch} {e : Env} {s : State} {m : MethodId} {args : Array Value} {below : List Frame} {meth : Method} {c : Code} {Q : State → Prop} {A : Nat → Prop} {dC : Nat → ClassId} {dI : Nat → Nat → Nat} {a : Nat → Nat} {ac : Nat → ClassId} {n : Nat} {r : Int64 × (St)} (C : nd_C p l s m args c A (dC, dI) cX2_reckoned 6 RX2 ow_dm_X2_reckoned (dk_X2c ac)) (K : nd_Kl p l e (headSpec ow_dm_X2_reckoned ({ frames := 0, cells := 0, slots := 0, locals := 0 })).room s m args below meth c Q A (dC, dI) cX2_reckoned (St) (dw_X2c a ac) r) : dj_X2_reckoned_94 p l e s m args below meth c Q A dC dI a ac (df_X2_reckoned_94 n) r := by
  obtain ⟨hlt, hx, hb, hml, hown, hts, hN, hA, hK⟩ := id C
  intro y0 s0 H locs ls h hP hD hS hl
  unfold df_X2_reckoned_94 at h
  exact K _ _ _ _ _ _ dX2_reckoned_94 (Option.some.inj h).symm hP hD hS
set_option maxHeartbeats 40000000 in
set_option maxRecDepth 100000 in
theorem db_X2_reckoned_0 {p : Program} {l : Launch} {e : Env} {s : State} {m : MethodId} {args : Array Value} {below : List Frame} {meth : Method} {c : Code} {Q : State → Prop} {A : Nat → Prop} {dC : Nat → ClassId} {dI : Nat → Nat → Nat} {a : Nat → Nat} {ac : Nat → ClassId} {n : Nat} {r : Int64 × (St)} (C : nd_C p l s m args c A (dC, dI) cX2_reckoned 6 RX2 ow_dm_X2_reckoned (dk_X2c ac)) (K : nd_Kl p l e (headSpec ow_dm_X2_reckoned ({ frames := 0, cells := 0, slots := 0, locals := 0 })).room s m args below meth c Q A (dC, dI) cX2_reckoned (St) (dw_X2c a ac) r) : dj_X2_reckoned_0 p l e s m args below meth c Q A dC dI a ac (df_X2_reckoned_0 n) r := by
  obtain ⟨hlt, hx, hb, hml, hown, hts, hN, hA, hK⟩ := id C
  intro v0 v1 v2 s0 H locs ls h hP hD hS hl
  unfold df_X2_reckoned_0 at h
  refine lv_iload_n hx hb dX2_reckoned_0 rfl (lv_at hl 1 rfl) ?_
  by_cases c1 : v0 = 12
  · have h := nd_pos h c1
    refine lv_tableIn (off := 35) (tgt := 36) hx hb dX2_reckoned_1 (by rw [c1]; decide) (by rw [c1]; decide) (by rw [c1]; decide) (by decide) ?_
    refine lv_lload_n hx hb dX2_reckoned_36 rfl (lv_at hl 2 rfl) ?_
    refine lv_lload hx hb dX2_reckoned_37 (lv_at hl 3 rfl) ?_
    refine lv_l2i hx hb dX2_reckoned_39 rfl ?_
    refine lv_lshl hx hb dX2_reckoned_40 rfl ?_
    exact K _ _ _ _ _ _ dX2_reckoned_41 (Option.some.inj h).symm hP hD hS
  have h := nd_neg h c1
  by_cases c2 : v0 = 13
  · have h := nd_pos h c2
    refine lv_tableIn (off := 41) (tgt := 42) hx hb dX2_reckoned_1 (by rw [c2]; decide) (by rw [c2]; decide) (by rw [c2]; decide) (by decide) ?_
    refine lv_lload_n hx hb dX2_reckoned_42 rfl (lv_at hl 2 rfl) ?_
    refine lv_lload hx hb dX2_reckoned_43 (lv_at hl 3 rfl) ?_
    refine lv_l2i hx hb dX2_reckoned_45 rfl ?_
    refine lv_lshr hx hb dX2_reckoned_46 rfl ?_
    exact K _ _ _ _ _ _ dX2_reckoned_47 (Option.some.inj h).symm hP hD hS
  have h := nd_neg h c2
  by_cases c3 : v0 = 14
  · have h := nd_pos h c3
    refine lv_tableIn (off := 47) (tgt := 48) hx hb dX2_reckoned_1 (by rw [c3]; decide) (by rw [c3]; decide) (by rw [c3]; decide) (by decide) ?_
    refine lv_lload_n hx hb dX2_reckoned_48 rfl (lv_at hl 2 rfl) ?_
    refine lv_lload hx hb dX2_reckoned_49 (lv_at hl 3 rfl) ?_
    refine lv_ladd hx hb dX2_reckoned_51 ?_
    exact K _ _ _ _ _ _ dX2_reckoned_52 (Option.some.inj h).symm hP hD hS
  have h := nd_neg h c3
  by_cases c4 : v0 = 15
  · have h := nd_pos h c4
    refine lv_tableIn (off := 52) (tgt := 53) hx hb dX2_reckoned_1 (by rw [c4]; decide) (by rw [c4]; decide) (by rw [c4]; decide) (by decide) ?_
    refine lv_lload_n hx hb dX2_reckoned_53 rfl (lv_at hl 2 rfl) ?_
    refine lv_lload hx hb dX2_reckoned_54 (lv_at hl 3 rfl) ?_
    refine lv_lsub hx hb dX2_reckoned_56 ?_
    exact K _ _ _ _ _ _ dX2_reckoned_57 (Option.some.inj h).symm hP hD hS
  have h := nd_neg h c4
  by_cases c5 : v0 = 16
  · have h := nd_pos h c5
    refine lv_tableIn (off := 57) (tgt := 58) hx hb dX2_reckoned_1 (by rw [c5]; decide) (by rw [c5]; decide) (by rw [c5]; decide) (by decide) ?_
    refine lv_lload_n hx hb dX2_reckoned_58 rfl (lv_at hl 2 rfl) ?_
    refine lv_lload hx hb dX2_reckoned_59 (lv_at hl 3 rfl) ?_
    refine lv_lmul hx hb dX2_reckoned_61 ?_
    exact K _ _ _ _ _ _ dX2_reckoned_62 (Option.some.inj h).symm hP hD hS
  have h := nd_neg h c5
  refine lv_tableOut (tgt := 63) hx hb dX2_reckoned_1 (by have g0 := nv_nei c1 (k := 12) (by decide); have g1 := nv_nei c2 (k := 13) (by decide); have g2 := nv_nei c3 (k := 14) (by decide); have g3 := nv_nei c4 (k := 15) (by decide); have g4 := nv_nei c5 (k := 16) (by decide); omega) (by decide) ?_
  refine lv_lload hx hb dX2_reckoned_63 (lv_at hl 3 rfl) ?_
  refine lv_lconst (v := 0) hx hb dX2_reckoned_65 (by decide) ?_
  refine W.lcmp hx hb dX2_reckoned_66 ?_
  refine lv_if_ne (tgt := 77) hx hb dX2_reckoned_67 (by decide) (fun c6 => ?_) (fun c6 => ?_)
  · have h := nd_neg h c6
    refine lv_iload_n hx hb dX2_reckoned_77 rfl (lv_at hl 1 rfl) ?_
    refine lv_bipush (v := 17) hx hb dX2_reckoned_78 (by decide) ?_
    refine lv_icmp_ne (tgt := 90) hx hb dX2_reckoned_80 (by decide) (fun c7 => ?_) (fun c7 => ?_)
    · have h := nd_neg h c7
      refine lv_lload_n hx hb dX2_reckoned_90 rfl (lv_at hl 2 rfl) ?_
      refine lv_lload hx hb dX2_reckoned_91 (lv_at hl 3 rfl) ?_
      obtain ⟨i8, h⟩ := nd_nz_e h
      refine lv_lrem hx hb dX2_reckoned_93 i8 ?_
      exact (db_X2_reckoned_94 C K) (((v1 : Int64) - v1 / v2 * v2)) s0 _ _ _ h hP hD hS (lv_sub hl [] rfl)
    · have h := nd_pos h c7
      refine lv_lload_n hx hb dX2_reckoned_83 rfl (lv_at hl 2 rfl) ?_
      refine lv_lload hx hb dX2_reckoned_84 (lv_at hl 3 rfl) ?_
      obtain ⟨i9, h⟩ := nd_nz_e h
      refine lv_ldiv hx hb dX2_reckoned_86 i9 ?_
      refine lv_goto (tgt := 94) hx hb dX2_reckoned_87 (by decide) ?_
      exact (db_X2_reckoned_94 C K) (((v1 : Int64) / v2)) s0 _ _ _ h hP hD hS (lv_sub hl [] rfl)
  · have h := nd_pos h c6
    refine lv_aload_n hx hb dX2_reckoned_70 rfl (lv_at hl 0 rfl) ?_
    refine lv_iconst (v := 1) hx hb dX2_reckoned_71 (by decide) ?_
    refine va_put (D := (dC, dI)) (ci := 3) (v := .int 1) (ty := .boolean) (C := RX2) (T := TX2) (N := 20) hx hb hts hi_dm_X2_reckoned_X2 tyX2 tyX2_ok nmX2 hown hK hP hD hS 0 rfl rfl 11 (by decide) (hts (.fieldLink RX2 199 "TimeMachine$Condition" "failed" "Z") (List.mem_of_getElem? (i := 1) rfl)) (fun _ h9 => h9) rfl (by decide +kernel) (by first | rfl | decide) rfl (Nat.le_of_ble_eq_true rfl) dX2_reckoned_72 (fun H locs hP hD hS => ?_)
    obtain ⟨s10, es10, h⟩ := nd_let_e h
    have hP : va_P (dC, dI) vwCl (dw_X2c a ac s10) H := by rw [es10]; exact hP
    have hD : va_D A (dw_X2c a ac s10) := by rw [es10]; exact hD
    refine lv_lconst (v := 0) hx hb dX2_reckoned_75 (by decide) ?_
    exact K _ _ _ _ _ _ dX2_reckoned_76 (Option.some.inj h).symm hP hD hS
set_option maxHeartbeats 40000000 in
set_option maxRecDepth 100000 in
theorem dm_X2_reckoned (l : Launch) (hlt : l.stackTraces = false) (dC : Nat → ClassId) (dI : Nat → Nat → Nat) (a : Nat → Nat) (ac : Nat → ClassId) (n : Nat) (v0 : Int32) (v1 : Int64) (v2 : Int64) (s0 : St) {r : Int64 × (St)} (h : df_X2_reckoned n v0 v1 v2 s0 = some r) (sz : Nat) : Met l yX2_reckoned ow_dm_X2_reckoned ({ frames := 0, cells := 0, slots := 0, locals := 0 }) (va_Pc [.ref (a 0), .int v0, .long v1, .long v2] (fun U => U.heap.size = sz ∧ va_P (dC, dI) vwCl (dw_X2c a ac s0) U.heap ∧ va_K (dC, dI) vwCl (dk_X2c ac) U ∧ va_D (fun _ => True) (dw_X2c a ac s0) ∧ nv_E (va_A (dw_X2c a ac s0) sz) U)) (va_Ql (fun x _ => x = r.1) (fun (_ : Unit) t => va_P (dC, dI) vwCl (dw_X2c a ac r.2) t.heap ∧ va_K (dC, dI) vwCl (dk_X2c ac) t ∧ va_D (va_A (dw_X2c a ac s0) sz) (dw_X2c a ac r.2)) (va_A (dw_X2c a ac s0) sz)) 0 0 (va_A (dw_X2c a ac s0) sz) := by
  refine Met.ofW (cc := cX2_reckoned) (maxL := 6) (ret := (some .long)) (by decide) rfl ?_
  intro p e s m args below meth c s₁ B hml hv
  obtain ⟨rfl, hsz, hP, hK, hD0, hN⟩ := hv
  have hx := B.exec
  have hb := B.bytes
  have hr := B.returns
  have hts := atoms_spec (ws := ow_dm_X2_reckoned) B.pre
  have hown : s.vm.findClass RX2 = some m.cls := findClass_of_methodNamed B.named
  have hlocks := B.notSynchronized
  subst hsz
  have hD := hD0.self (sz := s.heap.size)
  generalize hAe : va_A (dw_X2c a ac s0) s.heap.size = A at hD hN ⊢
  have hA : ∀ q : Nat, s.heap.size ≤ q → A q := fun q h => by rw [← hAe]; exact Or.inr h
  have hl := lv_entry ([.ref (a 0), .int v0, .long v1, .long v2]) (n := 6) (Nat.le_of_ble_eq_true rfl)
  rw [lg_entry_eq]
  generalize (lg_sl ([.ref (a 0), .int v0, .long v1, .long v2]) ++ List.replicate (6 - (lg_sl ([.ref (a 0), .int v0, .long v1, .long v2])).length) Slot.unset).toArray = ls at hl ⊢
  have hl : lv_has ls 6 [(0, .ref (a 0)), (1, .int v0), (2, .long v1), (4, .long v2)] := hl
  exact db_X2_reckoned_0 (dC := dC) (dI := dI) (a := a) (ac := ac) (n := n) (r := r) ⟨hlt, hx, hb, hml, hown, hts, hN, hA, hK⟩ (fun pc v τ H locs ls d er hP hD hS => by subst er; exact W.lret (v := v) hx hb hr (fun t ht hW => ⟨⟨v, (), rfl, rfl, by rw [ht]; exact hP, va_K.moved hW.alike hK, hD⟩, hS.F ht⟩) hS.2.2 d) v0 v1 v2 s0 _ _ _ h hP hD va_S.rf (lv_sub hl [0, 1, 2, 3] rfl)
def ow_dm_X2_joined : List Cond := .code yX2_joined cX2_joined 6 (some .long) :: ([.methodLink RX2 248 yX2_reckoned, .instanceMethod yX2_reckoned, .selects RX2 yX2_reckoned yX2_reckoned, .initialized RX2] ++ (ow_dm_X2_reckoned ++ []))
theorem gd_dm_X2_joined : ∀ w ∈ ow_dm_X2_joined, (w.onTables && w.keeps) = true ∨ ∃ ty, w = Cond.arrayClass ty := List.forall_mem_cons.mpr ⟨good_of_word rfl, List.forall_mem_append.mpr ⟨fun w h => good_of_word (List.all_eq_true.mp (by decide +kernel) w h), List.forall_mem_append.mpr ⟨gd_dm_X2_reckoned, fun _ h => nomatch h⟩⟩⟩
theorem gi_dm_X2_joined_0 : GoodIn ow_dm_X2_joined (wsV RX2 248 RX2 yX2_reckoned ow_dm_X2_reckoned) := goodIn_app (goodIn_of _ (by decide +kernel)) (fun w h => ⟨List.mem_cons_of_mem _ (List.mem_append_right _ (List.mem_append_left _ h)), gd_dm_X2_reckoned w h⟩)
def dj_X2_joined_64 (p : Program) (l : Launch) (e : Env) (s : State) (m : MethodId) (args : Array Value) (below : List Frame) (meth : Method) (c : Code) (Q : State → Prop) (A : Nat → Prop) (dC : Nat → ClassId) (dI : Nat → Nat → Nat) (a : Nat → Nat) (ac : Nat → ClassId) (g : Int64 → (St) → Option (Int64 × (St))) (r : Int64 × (St)) : Prop := ∀ (y0 : Int64) (s0 : St) (H : Heap) (locs : List Loc) (ls : Array Slot), g y0 s0 = some r → va_P (dC, dI) vwCl (dw_X2c a ac s0) H → va_D A (dw_X2c a ac s0) → va_S A s.heap H locs → lv_has ls 6 [] → W p l e (headSpec ow_dm_X2_joined ({ frames := 1, cells := 0, slots := 0, locals := 25 })).room s m args below meth c H locs 0 0 Q (F0 m 64 ls [.long y0])
def dj_X2_joined_77 (p : Program) (l : Launch) (e : Env) (s : State) (m : MethodId) (args : Array Value) (below : List Frame) (meth : Method) (c : Code) (Q : State → Prop) (A : Nat → Prop) (dC : Nat → ClassId) (dI : Nat → Nat → Nat) (a : Nat → Nat) (ac : Nat → ClassId) (g : Int64 → (St) → Option (Int64 × (St))) (r : Int64 × (St)) : Prop := ∀ (y0 : Int64) (s0 : St) (H : Heap) (locs : List Loc) (ls : Array Slot), g y0 s0 = some r → va_P (dC, dI) vwCl (dw_X2c a ac s0) H → va_D A (dw_X2c a ac s0) → va_S A s.heap H locs → lv_has ls 6 [] → W p l e (headSpec ow_dm_X2_joined ({ frames := 1, cells := 0, slots := 0, locals := 25 })).room s m args below meth c H locs 0 0 Q (F0 m 77 ls [.long y0])
def dj_X2_joined_90 (p : Program) (l : Launch) (e : Env) (s : State) (m : MethodId) (args : Array Value) (below : List Frame) (meth : Method) (c : Code) (Q : State → Prop) (A : Nat → Prop) (dC : Nat → ClassId) (dI : Nat → Nat → Nat) (a : Nat → Nat) (ac : Nat → ClassId) (g : Int64 → (St) → Option (Int64 × (St))) (r : Int64 × (St)) : Prop := ∀ (y0 : Int64) (s0 : St) (H : Heap) (locs : List Loc) (ls : Array Slot), g y0 s0 = some r → va_P (dC, dI) vwCl (dw_X2c a ac s0) H → va_D A (dw_X2c a ac s0) → va_S A s.heap H locs → lv_has ls 6 [] → W p l e (headSpec ow_dm_X2_joined ({ frames := 1, cells := 0, slots := 0, locals := 25 })).room s m args below meth c H locs 0 0 Q (F0 m 90 ls [.long y0])
def dj_X2_joined_103 (p : Program) (l : Launch) (e : Env) (s : State) (m : MethodId) (args : Array Value) (below : List Frame) (meth : Method) (c : Code) (Q : State → Prop) (A : Nat → Prop) (dC : Nat → ClassId) (dI : Nat → Nat → Nat) (a : Nat → Nat) (ac : Nat → ClassId) (g : Int64 → (St) → Option (Int64 × (St))) (r : Int64 × (St)) : Prop := ∀ (y0 : Int64) (s0 : St) (H : Heap) (locs : List Loc) (ls : Array Slot), g y0 s0 = some r → va_P (dC, dI) vwCl (dw_X2c a ac s0) H → va_D A (dw_X2c a ac s0) → va_S A s.heap H locs → lv_has ls 6 [] → W p l e (headSpec ow_dm_X2_joined ({ frames := 1, cells := 0, slots := 0, locals := 25 })).room s m args below meth c H locs 0 0 Q (F0 m 103 ls [.long y0])
def dj_X2_joined_116 (p : Program) (l : Launch) (e : Env) (s : State) (m : MethodId) (args : Array Value) (below : List Frame) (meth : Method) (c : Code) (Q : State → Prop) (A : Nat → Prop) (dC : Nat → ClassId) (dI : Nat → Nat → Nat) (a : Nat → Nat) (ac : Nat → ClassId) (g : Int64 → (St) → Option (Int64 × (St))) (r : Int64 × (St)) : Prop := ∀ (y0 : Int64) (s0 : St) (H : Heap) (locs : List Loc) (ls : Array Slot), g y0 s0 = some r → va_P (dC, dI) vwCl (dw_X2c a ac s0) H → va_D A (dw_X2c a ac s0) → va_S A s.heap H locs → lv_has ls 6 [] → W p l e (headSpec ow_dm_X2_joined ({ frames := 1, cells := 0, slots := 0, locals := 25 })).room s m args below meth c H locs 0 0 Q (F0 m 116 ls [.long y0])
def dj_X2_joined_129 (p : Program) (l : Launch) (e : Env) (s : State) (m : MethodId) (args : Array Value) (below : List Frame) (meth : Method) (c : Code) (Q : State → Prop) (A : Nat → Prop) (dC : Nat → ClassId) (dI : Nat → Nat → Nat) (a : Nat → Nat) (ac : Nat → ClassId) (g : Int64 → (St) → Option (Int64 × (St))) (r : Int64 × (St)) : Prop := ∀ (y0 : Int64) (s0 : St) (H : Heap) (locs : List Loc) (ls : Array Slot), g y0 s0 = some r → va_P (dC, dI) vwCl (dw_X2c a ac s0) H → va_D A (dw_X2c a ac s0) → va_S A s.heap H locs → lv_has ls 6 [] → W p l e (headSpec ow_dm_X2_joined ({ frames := 1, cells := 0, slots := 0, locals := 25 })).room s m args below meth c H locs 0 0 Q (F0 m 129 ls [.long y0])
def dj_X2_joined_0 (p : Program) (l : Launch) (e : Env) (s : State) (m : MethodId) (args : Array Value) (below : List Frame) (meth : Method) (c : Code) (Q : State → Prop) (A : Nat → Prop) (dC : Nat → ClassId) (dI : Nat → Nat → Nat) (a : Nat → Nat) (ac : Nat → ClassId) (g : Int32 → Int64 → Int64 → (St) → Option (Int64 × (St))) (r : Int64 × (St)) : Prop := ∀ (v0 : Int32) (v1 : Int64) (v2 : Int64) (s0 : St) (H : Heap) (locs : List Loc) (ls : Array Slot), g v0 v1 v2 s0 = some r → va_P (dC, dI) vwCl (dw_X2c a ac s0) H → va_D A (dw_X2c a ac s0) → va_S A s.heap H locs → lv_has ls 6 [(0, .ref (a 0)), (1, .int v0), (2, .long v1), (4, .long v2)] → W p l e (headSpec ow_dm_X2_joined ({ frames := 1, cells := 0, slots := 0, locals := 25 })).room s m args below meth c H locs 0 0 Q (F0 m 0 ls [])
set_option maxHeartbeats 40000000 in
set_option maxRecDepth 100000 in
theorem db_X2_joined_64 {p : Program} {l : Launch} {e : Env} {s : State} {m : MethodId} {args : Array Value} {below : List Frame} {meth : Method} {c : Code} {Q : State → Prop} {A : Nat → Prop} {dC : Nat → ClassId} {dI : Nat → Nat → Nat} {a : Nat → Nat} {ac : Nat → ClassId} {n : Nat} {r : Int64 × (St)} (C : nd_C p l s m args c A (dC, dI) cX2_joined 6 RX2 ow_dm_X2_joined (dk_X2c ac)) (K : nd_Kl p l e (headSpec ow_dm_X2_joined ({ frames := 1, cells := 0, slots := 0, locals := 25 })).room s m args below meth c Q A (dC, dI) cX2_joined (St) (dw_X2c a ac) r) : dj_X2_joined_64 p l e s m args below meth c Q A dC dI a ac (df_X2_joined_64 n) r := by
  obtain ⟨hlt, hx, hb, hml, hown, hts, hN, hA, hK⟩ := id C
  intro y0 s0 H locs ls h hP hD hS hl
  unfold df_X2_joined_64 at h
  exact K _ _ _ _ _ _ dX2_joined_64 (Option.some.inj h).symm hP hD hS
set_option maxHeartbeats 40000000 in
set_option maxRecDepth 100000 in
theorem db_X2_joined_77 {p : Program} {l : Launch} {e : Env} {s : State} {m : MethodId} {args : Array Value} {below : List Frame} {meth : Method} {c : Code} {Q : State → Prop} {A : Nat → Prop} {dC : Nat → ClassId} {dI : Nat → Nat → Nat} {a : Nat → Nat} {ac : Nat → ClassId} {n : Nat} {r : Int64 × (St)} (C : nd_C p l s m args c A (dC, dI) cX2_joined 6 RX2 ow_dm_X2_joined (dk_X2c ac)) (K : nd_Kl p l e (headSpec ow_dm_X2_joined ({ frames := 1, cells := 0, slots := 0, locals := 25 })).room s m args below meth c Q A (dC, dI) cX2_joined (St) (dw_X2c a ac) r) : dj_X2_joined_77 p l e s m args below meth c Q A dC dI a ac (df_X2_joined_77 n) r := by
  obtain ⟨hlt, hx, hb, hml, hown, hts, hN, hA, hK⟩ := id C
  intro y0 s0 H locs ls h hP hD hS hl
  unfold df_X2_joined_77 at h
  exact K _ _ _ _ _ _ dX2_joined_77 (Option.some.inj h).symm hP hD hS
set_option maxHeartbeats 40000000 in
set_option maxRecDepth 100000 in
theorem db_X2_joined_90 {p : Program} {l : Launch} {e : Env} {s : State} {m : MethodId} {args : Array Value} {below : List Frame} {meth : Method} {c : Code} {Q : State → Prop} {A : Nat → Prop} {dC : Nat → ClassId} {dI : Nat → Nat → Nat} {a : Nat → Nat} {ac : Nat → ClassId} {n : Nat} {r : Int64 × (St)} (C : nd_C p l s m args c A (dC, dI) cX2_joined 6 RX2 ow_dm_X2_joined (dk_X2c ac)) (K : nd_Kl p l e (headSpec ow_dm_X2_joined ({ frames := 1, cells := 0, slots := 0, locals := 25 })).room s m args below meth c Q A (dC, dI) cX2_joined (St) (dw_X2c a ac) r) : dj_X2_joined_90 p l e s m args below meth c Q A dC dI a ac (df_X2_joined_90 n) r := by
  obtain ⟨hlt, hx, hb, hml, hown, hts, hN, hA, hK⟩ := id C
  intro y0 s0 H locs ls h hP hD hS hl
  unfold df_X2_joined_90 at h
  exact K _ _ _ _ _ _ dX2_joined_90 (Option.some.inj h).symm hP hD hS
set_option maxHeartbeats 40000000 in
set_option maxRecDepth 100000 in
theorem db_X2_joined_103 {p : Program} {l : Launch} {e : Env} {s : State} {m : MethodId} {args : Array Value} {below : List Frame} {meth : Method} {c : Code} {Q : State → Prop} {A : Nat → Prop} {dC : Nat → ClassId} {dI : Nat → Nat → Nat} {a : Nat → Nat} {ac : Nat → ClassId} {n : Nat} {r : Int64 × (St)} (C : nd_C p l s m args c A (dC, dI) cX2_joined 6 RX2 ow_dm_X2_joined (dk_X2c ac)) (K : nd_Kl p l e (headSpec ow_dm_X2_joined ({ frames := 1, cells := 0, slots := 0, locals := 25 })).room s m args below meth c Q A (dC, dI) cX2_joined (St) (dw_X2c a ac) r) : dj_X2_joined_103 p l e s m args below meth c Q A dC dI a ac (df_X2_joined_103 n) r := by
  obtain ⟨hlt, hx, hb, hml, hown, hts, hN, hA, hK⟩ := id C
  intro y0 s0 H locs ls h hP hD hS hl
  unfold df_X2_joined_103 at h
  exact K _ _ _ _ _ _ dX2_joined_103 (Option.some.inj h).symm hP hD hS
set_option maxHeartbeats 40000000 in
set_option maxRecDepth 100000 in
theorem db_X2_joined_116 {p : Program} {l : Launch} {e : Env} {s : State} {m : MethodId} {args : Array Value} {below : List Frame} {meth : Method} {c : Code} {Q : State → Prop} {A : Nat → Prop} {dC : Nat → ClassId} {dI : Nat → Nat → Nat} {a : Nat → Nat} {ac : Nat → ClassId} {n : Nat} {r : Int64 × (St)} (C : nd_C p l s m args c A (dC, dI) cX2_joined 6 RX2 ow_dm_X2_joined (dk_X2c ac)) (K : nd_Kl p l e (headSpec ow_dm_X2_joined ({ frames := 1, cells := 0, slots := 0, locals := 25 })).room s m args below meth c Q A (dC, dI) cX2_joined (St) (dw_X2c a ac) r) : dj_X2_joined_116 p l e s m args below meth c Q A dC dI a ac (df_X2_joined_116 n) r := by
  obtain ⟨hlt, hx, hb, hml, hown, hts, hN, hA, hK⟩ := id C
  intro y0 s0 H locs ls h hP hD hS hl
  unfold df_X2_joined_116 at h
  exact K _ _ _ _ _ _ dX2_joined_116 (Option.some.inj h).symm hP hD hS
set_option maxHeartbeats 40000000 in
set_option maxRecDepth 100000 in
theorem db_X2_joined_129 {p : Program} {l : Launch} {e : Env} {s : State} {m : MethodId} {args : Array Value} {below : List Frame} {meth : Method} {c : Code} {Q : State → Prop} {A : Nat → Prop} {dC : Nat → ClassId} {dI : Nat → Nat → Nat} {a : Nat → Nat} {ac : Nat → ClassId} {n : Nat} {r : Int64 × (St)} (C : nd_C p l s m args c A (dC, dI) cX2_joined 6 RX2 ow_dm_X2_joined (dk_X2c ac)) (K : nd_Kl p l e (headSpec ow_dm_X2_joined ({ frames := 1, cells := 0, slots := 0, locals := 25 })).room s m args below meth c Q A (dC, dI) cX2_joined (St) (dw_X2c a ac) r) : dj_X2_joined_129 p l e s m args below meth c Q A dC dI a ac (df_X2_joined_129 n) r := by
  obtain ⟨hlt, hx, hb, hml, hown, hts, hN, hA, hK⟩ := id C
  intro y0 s0 H locs ls h hP hD hS hl
  unfold df_X2_joined_129 at h
  exact K _ _ _ _ _ _ dX2_joined_129 (Option.some.inj h).symm hP hD hS
set_option maxHeartbeats 40000000 in
set_option maxRecDepth 100000 in
theorem db_X2_joined_0 {p : Program} {l : Launch} {e : Env} {s : State} {m : MethodId} {args : Array Value} {below : List Frame} {meth : Method} {c : Code} {Q : State → Prop} {A : Nat → Prop} {dC : Nat → ClassId} {dI : Nat → Nat → Nat} {a : Nat → Nat} {ac : Nat → ClassId} {n : Nat} {r : Int64 × (St)} (C : nd_C p l s m args c A (dC, dI) cX2_joined 6 RX2 ow_dm_X2_joined (dk_X2c ac)) (K : nd_Kl p l e (headSpec ow_dm_X2_joined ({ frames := 1, cells := 0, slots := 0, locals := 25 })).room s m args below meth c Q A (dC, dI) cX2_joined (St) (dw_X2c a ac) r) : dj_X2_joined_0 p l e s m args below meth c Q A dC dI a ac (df_X2_joined_0 n) r := by
  obtain ⟨hlt, hx, hb, hml, hown, hts, hN, hA, hK⟩ := id C
  intro v0 v1 v2 s0 H locs ls h hP hD hS hl
  unfold df_X2_joined_0 at h
  refine lv_iload_n hx hb dX2_joined_0 rfl (lv_at hl 1 rfl) ?_
  by_cases c1 : v0 = 3
  · have h := nd_pos h c1
    refine lv_tableIn (off := 51) (tgt := 52) hx hb dX2_joined_1 (by rw [c1]; decide) (by rw [c1]; decide) (by rw [c1]; decide) (by decide) ?_
    refine lv_lload_n hx hb dX2_joined_52 rfl (lv_at hl 2 rfl) ?_
    refine lv_lload hx hb dX2_joined_53 (lv_at hl 3 rfl) ?_
    refine W.lcmp hx hb dX2_joined_55 ?_
    refine lv_if_ne (tgt := 63) hx hb dX2_joined_56 (by decide) (fun c2 => ?_) (fun c2 => ?_)
    · have h := nd_neg h c2
      refine lv_lconst (v := 0) hx hb dX2_joined_63 (by decide) ?_
      exact (db_X2_joined_64 C K) (0) s0 _ _ _ h hP hD hS (lv_sub hl [] rfl)
    · have h := nd_pos h c2
      refine lv_lconst (v := 1) hx hb dX2_joined_59 (by decide) ?_
      refine lv_goto (tgt := 64) hx hb dX2_joined_60 (by decide) ?_
      exact (db_X2_joined_64 C K) (1) s0 _ _ _ h hP hD hS (lv_sub hl [] rfl)
  have h := nd_neg h c1
  by_cases c3 : v0 = 4
  · have h := nd_pos h c3
    refine lv_tableIn (off := 64) (tgt := 65) hx hb dX2_joined_1 (by rw [c3]; decide) (by rw [c3]; decide) (by rw [c3]; decide) (by decide) ?_
    refine lv_lload_n hx hb dX2_joined_65 rfl (lv_at hl 2 rfl) ?_
    refine lv_lload hx hb dX2_joined_66 (lv_at hl 3 rfl) ?_
    refine W.lcmp hx hb dX2_joined_68 ?_
    refine lv_if_eq (tgt := 76) hx hb dX2_joined_69 (by decide) (fun c4 => ?_) (fun c4 => ?_)
    · have h := nd_pos h c4
      refine lv_lconst (v := 0) hx hb dX2_joined_76 (by decide) ?_
      exact (db_X2_joined_77 C K) (0) s0 _ _ _ h hP hD hS (lv_sub hl [] rfl)
    · have h := nd_neg h c4
      refine lv_lconst (v := 1) hx hb dX2_joined_72 (by decide) ?_
      refine lv_goto (tgt := 77) hx hb dX2_joined_73 (by decide) ?_
      exact (db_X2_joined_77 C K) (1) s0 _ _ _ h hP hD hS (lv_sub hl [] rfl)
  have h := nd_neg h c3
  by_cases c5 : v0 = 5
  · have h := nd_pos h c5
    refine lv_tableIn (off := 77) (tgt := 78) hx hb dX2_joined_1 (by rw [c5]; decide) (by rw [c5]; decide) (by rw [c5]; decide) (by decide) ?_
    refine lv_lload_n hx hb dX2_joined_78 rfl (lv_at hl 2 rfl) ?_
    refine lv_lload hx hb dX2_joined_79 (lv_at hl 3 rfl) ?_
    refine W.lcmp hx hb dX2_joined_81 ?_
    refine lv_if_ge (tgt := 89) hx hb dX2_joined_82 (by decide) (fun c6 => ?_) (fun c6 => ?_)
    · have h := nd_pos h c6
      refine lv_lconst (v := 0) hx hb dX2_joined_89 (by decide) ?_
      exact (db_X2_joined_90 C K) (0) s0 _ _ _ h hP hD hS (lv_sub hl [] rfl)
    · have h := nd_neg h c6
      refine lv_lconst (v := 1) hx hb dX2_joined_85 (by decide) ?_
      refine lv_goto (tgt := 90) hx hb dX2_joined_86 (by decide) ?_
      exact (db_X2_joined_90 C K) (1) s0 _ _ _ h hP hD hS (lv_sub hl [] rfl)
  have h := nd_neg h c5
  by_cases c7 : v0 = 6
  · have h := nd_pos h c7
    refine lv_tableIn (off := 90) (tgt := 91) hx hb dX2_joined_1 (by rw [c7]; decide) (by rw [c7]; decide) (by rw [c7]; decide) (by decide) ?_
    refine lv_lload_n hx hb dX2_joined_91 rfl (lv_at hl 2 rfl) ?_
    refine lv_lload hx hb dX2_joined_92 (lv_at hl 3 rfl) ?_
    refine W.lcmp hx hb dX2_joined_94 ?_
    refine lv_if_gt (tgt := 102) hx hb dX2_joined_95 (by decide) (fun c8 => ?_) (fun c8 => ?_)
    · have h := nd_pos h c8
      refine lv_lconst (v := 0) hx hb dX2_joined_102 (by decide) ?_
      exact (db_X2_joined_103 C K) (0) s0 _ _ _ h hP hD hS (lv_sub hl [] rfl)
    · have h := nd_neg h c8
      refine lv_lconst (v := 1) hx hb dX2_joined_98 (by decide) ?_
      refine lv_goto (tgt := 103) hx hb dX2_joined_99 (by decide) ?_
      exact (db_X2_joined_103 C K) (1) s0 _ _ _ h hP hD hS (lv_sub hl [] rfl)
  have h := nd_neg h c7
  by_cases c9 : v0 = 7
  · have h := nd_pos h c9
    refine lv_tableIn (off := 103) (tgt := 104) hx hb dX2_joined_1 (by rw [c9]; decide) (by rw [c9]; decide) (by rw [c9]; decide) (by decide) ?_
    refine lv_lload_n hx hb dX2_joined_104 rfl (lv_at hl 2 rfl) ?_
    refine lv_lload hx hb dX2_joined_105 (lv_at hl 3 rfl) ?_
    refine W.lcmp hx hb dX2_joined_107 ?_
    refine lv_if_le (tgt := 115) hx hb dX2_joined_108 (by decide) (fun c10 => ?_) (fun c10 => ?_)
    · have h := nd_pos h c10
      refine lv_lconst (v := 0) hx hb dX2_joined_115 (by decide) ?_
      exact (db_X2_joined_116 C K) (0) s0 _ _ _ h hP hD hS (lv_sub hl [] rfl)
    · have h := nd_neg h c10
      refine lv_lconst (v := 1) hx hb dX2_joined_111 (by decide) ?_
      refine lv_goto (tgt := 116) hx hb dX2_joined_112 (by decide) ?_
      exact (db_X2_joined_116 C K) (1) s0 _ _ _ h hP hD hS (lv_sub hl [] rfl)
  have h := nd_neg h c9
  by_cases c11 : v0 = 8
  · have h := nd_pos h c11
    refine lv_tableIn (off := 116) (tgt := 117) hx hb dX2_joined_1 (by rw [c11]; decide) (by rw [c11]; decide) (by rw [c11]; decide) (by decide) ?_
    refine lv_lload_n hx hb dX2_joined_117 rfl (lv_at hl 2 rfl) ?_
    refine lv_lload hx hb dX2_joined_118 (lv_at hl 3 rfl) ?_
    refine W.lcmp hx hb dX2_joined_120 ?_
    refine lv_if_lt (tgt := 128) hx hb dX2_joined_121 (by decide) (fun c12 => ?_) (fun c12 => ?_)
    · have h := nd_pos h c12
      refine lv_lconst (v := 0) hx hb dX2_joined_128 (by decide) ?_
      exact (db_X2_joined_129 C K) (0) s0 _ _ _ h hP hD hS (lv_sub hl [] rfl)
    · have h := nd_neg h c12
      refine lv_lconst (v := 1) hx hb dX2_joined_124 (by decide) ?_
      refine lv_goto (tgt := 129) hx hb dX2_joined_125 (by decide) ?_
      exact (db_X2_joined_129 C K) (1) s0 _ _ _ h hP hD hS (lv_sub hl [] rfl)
  have h := nd_neg h c11
  by_cases c13 : v0 = 9
  · have h := nd_pos h c13
    refine lv_tableIn (off := 129) (tgt := 130) hx hb dX2_joined_1 (by rw [c13]; decide) (by rw [c13]; decide) (by rw [c13]; decide) (by decide) ?_
    refine lv_lload_n hx hb dX2_joined_130 rfl (lv_at hl 2 rfl) ?_
    refine lv_lload hx hb dX2_joined_131 (lv_at hl 3 rfl) ?_
    refine lv_lor hx hb dX2_joined_133 ?_
    exact K _ _ _ _ _ _ dX2_joined_134 (Option.some.inj h).symm hP hD hS
  have h := nd_neg h c13
  by_cases c14 : v0 = 10
  · have h := nd_pos h c14
    refine lv_tableIn (off := 134) (tgt := 135) hx hb dX2_joined_1 (by rw [c14]; decide) (by rw [c14]; decide) (by rw [c14]; decide) (by decide) ?_
    refine lv_lload_n hx hb dX2_joined_135 rfl (lv_at hl 2 rfl) ?_
    refine lv_lload hx hb dX2_joined_136 (lv_at hl 3 rfl) ?_
    refine lv_lxor hx hb dX2_joined_138 ?_
    exact K _ _ _ _ _ _ dX2_joined_139 (Option.some.inj h).symm hP hD hS
  have h := nd_neg h c14
  by_cases c15 : v0 = 11
  · have h := nd_pos h c15
    refine lv_tableIn (off := 139) (tgt := 140) hx hb dX2_joined_1 (by rw [c15]; decide) (by rw [c15]; decide) (by rw [c15]; decide) (by decide) ?_
    refine lv_lload_n hx hb dX2_joined_140 rfl (lv_at hl 2 rfl) ?_
    refine lv_lload hx hb dX2_joined_141 (lv_at hl 3 rfl) ?_
    refine lv_land hx hb dX2_joined_143 ?_
    exact K _ _ _ _ _ _ dX2_joined_144 (Option.some.inj h).symm hP hD hS
  have h := nd_neg h c15
  refine lv_tableOut (tgt := 145) hx hb dX2_joined_1 (by have g0 := nv_nei c1 (k := 3) (by decide); have g1 := nv_nei c3 (k := 4) (by decide); have g2 := nv_nei c5 (k := 5) (by decide); have g3 := nv_nei c7 (k := 6) (by decide); have g4 := nv_nei c9 (k := 7) (by decide); have g5 := nv_nei c11 (k := 8) (by decide); have g6 := nv_nei c13 (k := 9) (by decide); have g7 := nv_nei c14 (k := 10) (by decide); have g8 := nv_nei c15 (k := 11) (by decide); omega) (by decide) ?_
  refine lv_aload_n hx hb dX2_joined_145 rfl (lv_at hl 0 rfl) ?_
  refine lv_iload_n hx hb dX2_joined_146 rfl (lv_at hl 1 rfl) ?_
  refine lv_lload_n hx hb dX2_joined_147 rfl (lv_at hl 2 rfl) ?_
  refine lv_lload hx hb dX2_joined_148 (lv_at hl 3 rfl) ?_
  obtain ⟨q16, s17, hq, h⟩ := nd_b2_e h
  have hPc := hP
  have hDc := hD
  have hKc := hK
  have hFc := nd_rs hD hS hA
  refine nd_cVl (As := [.int v0, .long v1, .long v2]) (rest := []) (q := q16) (w' := dw_X2c a ac s17) ⟨hx, hb, hml, hown, hts⟩ (fun sz => dm_X2_reckoned l hlt dC dI a ac n (v0) (v1) (v2) s0 hq sz) (cwV 3 hts gi_dm_X2_joined_0 rfl rfl rfl (by decide +kernel) ⟨Nat.le_of_ble_eq_true rfl, Nat.le_of_ble_eq_true rfl⟩) hPc hDc hKc hS hA hN (va_recv hKc hPc (ci := 3) (q0 := 0) rfl rfl) rfl hl.1 rfl (Nat.le_of_ble_eq_true rfl) dX2_joined_150 (fun H locs hP1 hD1 hk1 hS => ?_)
  have hP := hP1
  have hD := hD1.weaken (fun k q _ h => hFc q.1 h)
  exact K _ _ _ _ _ _ dX2_joined_153 (Option.some.inj h).symm hP hD hS
set_option maxHeartbeats 40000000 in
set_option maxRecDepth 100000 in
theorem dm_X2_joined (l : Launch) (hlt : l.stackTraces = false) (dC : Nat → ClassId) (dI : Nat → Nat → Nat) (a : Nat → Nat) (ac : Nat → ClassId) (n : Nat) (v0 : Int32) (v1 : Int64) (v2 : Int64) (s0 : St) {r : Int64 × (St)} (h : df_X2_joined n v0 v1 v2 s0 = some r) (sz : Nat) : Met l yX2_joined ow_dm_X2_joined ({ frames := 1, cells := 0, slots := 0, locals := 25 }) (va_Pc [.ref (a 0), .int v0, .long v1, .long v2] (fun U => U.heap.size = sz ∧ va_P (dC, dI) vwCl (dw_X2c a ac s0) U.heap ∧ va_K (dC, dI) vwCl (dk_X2c ac) U ∧ va_D (fun _ => True) (dw_X2c a ac s0) ∧ nv_E (va_A (dw_X2c a ac s0) sz) U)) (va_Ql (fun x _ => x = r.1) (fun (_ : Unit) t => va_P (dC, dI) vwCl (dw_X2c a ac r.2) t.heap ∧ va_K (dC, dI) vwCl (dk_X2c ac) t ∧ va_D (va_A (dw_X2c a ac s0) sz) (dw_X2c a ac r.2)) (va_A (dw_X2c a ac s0) sz)) 0 0 (va_A (dw_X2c a ac s0) sz) := by
  refine Met.ofW (cc := cX2_joined) (maxL := 6) (ret := (some .long)) (by decide) rfl ?_
  intro p e s m args below meth c s₁ B hml hv
  obtain ⟨rfl, hsz, hP, hK, hD0, hN⟩ := hv
  have hx := B.exec
  have hb := B.bytes
  have hr := B.returns
  have hts := atoms_spec (ws := ow_dm_X2_joined) B.pre
  have hown : s.vm.findClass RX2 = some m.cls := findClass_of_methodNamed B.named
  have hlocks := B.notSynchronized
  subst hsz
  have hD := hD0.self (sz := s.heap.size)
  generalize hAe : va_A (dw_X2c a ac s0) s.heap.size = A at hD hN ⊢
  have hA : ∀ q : Nat, s.heap.size ≤ q → A q := fun q h => by rw [← hAe]; exact Or.inr h
  have hl := lv_entry ([.ref (a 0), .int v0, .long v1, .long v2]) (n := 6) (Nat.le_of_ble_eq_true rfl)
  rw [lg_entry_eq]
  generalize (lg_sl ([.ref (a 0), .int v0, .long v1, .long v2]) ++ List.replicate (6 - (lg_sl ([.ref (a 0), .int v0, .long v1, .long v2])).length) Slot.unset).toArray = ls at hl ⊢
  have hl : lv_has ls 6 [(0, .ref (a 0)), (1, .int v0), (2, .long v1), (4, .long v2)] := hl
  exact db_X2_joined_0 (dC := dC) (dI := dI) (a := a) (ac := ac) (n := n) (r := r) ⟨hlt, hx, hb, hml, hown, hts, hN, hA, hK⟩ (fun pc v τ H locs ls d er hP hD hS => by subst er; exact W.lret (v := v) hx hb hr (fun t ht hW => ⟨⟨v, (), rfl, rfl, by rw [ht]; exact hP, va_K.moved hW.alike hK, hD⟩, hS.F ht⟩) hS.2.2 d) v0 v1 v2 s0 _ _ _ h hP hD va_S.rf (lv_sub hl [0, 1, 2, 3] rfl)
def ow_dm_X2_put : List Cond := .code yX2_put cX2_put 3 none :: ([.fieldLink RX2 55 "TimeMachine$Condition" "top" "I", .fieldLink RX2 17 "TimeMachine$Condition" "stack" "[J"] ++ (u_ws RX2 TX2 20 ++ []))
theorem gd_dm_X2_put : ∀ w ∈ ow_dm_X2_put, (w.onTables && w.keeps) = true ∨ ∃ ty, w = Cond.arrayClass ty := List.forall_mem_cons.mpr ⟨good_of_word rfl, List.forall_mem_append.mpr ⟨fun w h => good_of_word (List.all_eq_true.mp (by decide +kernel) w h), List.forall_mem_append.mpr ⟨gu_X2, fun _ h => nomatch h⟩⟩⟩
theorem hi_dm_X2_put_X2 : ∀ w ∈ u_ws RX2 TX2 20, w ∈ ow_dm_X2_put := fun w h => List.mem_cons_of_mem _ (List.mem_append_right _ (List.mem_append_left _ h))
def dj_X2_put_32 (p : Program) (l : Launch) (e : Env) (s : State) (m : MethodId) (args : Array Value) (below : List Frame) (meth : Method) (c : Code) (Q : State → Prop) (A : Nat → Prop) (dC : Nat → ClassId) (dI : Nat → Nat → Nat) (a : Nat → Nat) (ac : Nat → ClassId) (g : (St) → Option (St)) (r : St) : Prop := ∀ (s0 : St) (H : Heap) (locs : List Loc) (ls : Array Slot), g s0 = some r → va_P (dC, dI) vwCl (dw_X2c a ac s0) H → va_D A (dw_X2c a ac s0) → va_S A s.heap H locs → lv_has ls 3 [] → W p l e (headSpec ow_dm_X2_put ({ frames := 0, cells := 0, slots := 0, locals := 0 })).room s m args below meth c H locs 0 0 Q (F0 m 32 ls [])
def dj_X2_put_0 (p : Program) (l : Launch) (e : Env) (s : State) (m : MethodId) (args : Array Value) (below : List Frame) (meth : Method) (c : Code) (Q : State → Prop) (A : Nat → Prop) (dC : Nat → ClassId) (dI : Nat → Nat → Nat) (a : Nat → Nat) (ac : Nat → ClassId) (g : Int64 → (St) → Option (St)) (r : St) : Prop := ∀ (v0 : Int64) (s0 : St) (H : Heap) (locs : List Loc) (ls : Array Slot), g v0 s0 = some r → va_P (dC, dI) vwCl (dw_X2c a ac s0) H → va_D A (dw_X2c a ac s0) → va_S A s.heap H locs → lv_has ls 3 [(0, .ref (a 0)), (1, .long v0)] → W p l e (headSpec ow_dm_X2_put ({ frames := 0, cells := 0, slots := 0, locals := 0 })).room s m args below meth c H locs 0 0 Q (F0 m 0 ls [])
set_option maxHeartbeats 40000000 in
set_option maxRecDepth 100000 in
theorem db_X2_put_32 {p : Program} {l : Launch} {e : Env} {s : State} {m : MethodId} {args : Array Value} {below : List Frame} {meth : Method} {c : Code} {Q : State → Prop} {A : Nat → Prop} {dC : Nat → ClassId} {dI : Nat → Nat → Nat} {a : Nat → Nat} {ac : Nat → ClassId} {n : Nat} {r : St} (C : nd_C p l s m args c A (dC, dI) cX2_put 3 RX2 ow_dm_X2_put (dk_X2c ac)) (K : nd_Kv p l e (headSpec ow_dm_X2_put ({ frames := 0, cells := 0, slots := 0, locals := 0 })).room s m args below meth c Q A (dC, dI) cX2_put (St) (dw_X2c a ac) r) : dj_X2_put_32 p l e s m args below meth c Q A dC dI a ac (df_X2_put_32 n) r := by
  obtain ⟨hlt, hx, hb, hml, hown, hts, hN, hA, hK⟩ := id C
  intro s0 H locs ls h hP hD hS hl
  unfold df_X2_put_32 at h
  exact K _ _ _ _ _ dX2_put_32 (Option.some.inj h).symm hP hD hS
set_option maxHeartbeats 40000000 in
set_option maxRecDepth 100000 in
theorem db_X2_put_0 {p : Program} {l : Launch} {e : Env} {s : State} {m : MethodId} {args : Array Value} {below : List Frame} {meth : Method} {c : Code} {Q : State → Prop} {A : Nat → Prop} {dC : Nat → ClassId} {dI : Nat → Nat → Nat} {a : Nat → Nat} {ac : Nat → ClassId} {n : Nat} {r : St} (C : nd_C p l s m args c A (dC, dI) cX2_put 3 RX2 ow_dm_X2_put (dk_X2c ac)) (K : nd_Kv p l e (headSpec ow_dm_X2_put ({ frames := 0, cells := 0, slots := 0, locals := 0 })).room s m args below meth c Q A (dC, dI) cX2_put (St) (dw_X2c a ac) r) : dj_X2_put_0 p l e s m args below meth c Q A dC dI a ac (df_X2_put_0 n) r := by
  obtain ⟨hlt, hx, hb, hml, hown, hts, hN, hA, hK⟩ := id C
  intro v0 s0 H locs ls h hP hD hS hl
  unfold df_X2_put_0 at h
  refine lv_aload_n hx hb dX2_put_0 rfl (lv_at hl 0 rfl) ?_
  refine va_get (D := (dC, dI)) (ci := 3) (v := .int (sI s0 1)) (C := RX2) (T := TX2) (N := 20) hx hb hts hi_dm_X2_put_X2 hown hK hP 0 rfl rfl 4 (by decide) (hts (.fieldLink RX2 55 "TimeMachine$Condition" "top" "I") (List.mem_of_getElem? (i := 1) rfl)) (fun _ h9 => h9) rfl dX2_put_1 ?_
  refine lv_aload_n hx hb dX2_put_4 rfl (lv_at hl 0 rfl) ?_
  refine va_get (D := (dC, dI)) (ci := 3) (v := .ref (a 3)) (C := RX2) (T := TX2) (N := 20) hx hb hts hi_dm_X2_put_X2 hown hK hP 0 rfl rfl 3 (by decide) (hts (.fieldLink RX2 17 "TimeMachine$Condition" "stack" "[J") (List.mem_of_getElem? (i := 2) rfl)) (fun _ h9 => h9) rfl dX2_put_5 ?_
  refine va_alen (v := 41) hx hb hK hP 3 2 rfl rfl (show Int32.ofNat 41 = 41 by decide) dX2_put_8 ?_
  refine lv_icmp_ge (tgt := 32) hx hb dX2_put_9 (by decide) (fun c1 => ?_) (fun c1 => ?_)
  · have h := nd_pos h c1
    exact (db_X2_put_32 C K)  s0 _ _ _ h hP hD hS (lv_sub hl [] rfl)
  · have h := nd_neg h c1
    refine lv_aload_n hx hb dX2_put_12 rfl (lv_at hl 0 rfl) ?_
    refine va_get (D := (dC, dI)) (ci := 3) (v := .ref (a 3)) (C := RX2) (T := TX2) (N := 20) hx hb hts hi_dm_X2_put_X2 hown hK hP 0 rfl rfl 3 (by decide) (hts (.fieldLink RX2 17 "TimeMachine$Condition" "stack" "[J") (List.mem_of_getElem? (i := 2) rfl)) (fun _ h9 => h9) rfl dX2_put_13 ?_
    refine lv_aload_n hx hb dX2_put_16 rfl (lv_at hl 0 rfl) ?_
    refine va_get (D := (dC, dI)) (ci := 3) (v := .int (sI s0 1)) (C := RX2) (T := TX2) (N := 20) hx hb hts hi_dm_X2_put_X2 hown hK hP 0 rfl rfl 4 (by decide) (hts (.fieldLink RX2 55 "TimeMachine$Condition" "top" "I") (List.mem_of_getElem? (i := 1) rfl)) (fun _ h9 => h9) rfl dX2_put_17 ?_
    refine lv_lload_n hx hb dX2_put_20 rfl (lv_at hl 1 rfl) ?_
    obtain ⟨i2, h⟩ := nd_ck_e h
    refine va_last (i := (sI s0 1)) (x := v0) hx hb hK hP hD hS 3 2 rfl rfl i2 dX2_put_21 (fun H locs hP hD hS => ?_)
    obtain ⟨s3, es3, h⟩ := nd_let_e h
    have hP : va_P (dC, dI) vwCl (dw_X2c a ac s3) H := by rw [es3]; exact hP
    have hD : va_D A (dw_X2c a ac s3) := by rw [es3]; exact hD
    refine lv_aload_n hx hb dX2_put_22 rfl (lv_at hl 0 rfl) ?_
    refine lv_dup hx hb dX2_put_23 rfl ?_
    refine va_get (D := (dC, dI)) (ci := 3) (v := .int (sI s3 1)) (C := RX2) (T := TX2) (N := 20) hx hb hts hi_dm_X2_put_X2 hown hK hP 0 rfl rfl 4 (by decide) (hts (.fieldLink RX2 55 "TimeMachine$Condition" "top" "I") (List.mem_of_getElem? (i := 1) rfl)) (fun _ h9 => h9) rfl dX2_put_24 ?_
    refine lv_iconst (v := 1) hx hb dX2_put_27 (by decide) ?_
    refine lv_iadd hx hb dX2_put_28 ?_
    refine va_put (D := (dC, dI)) (ci := 3) (v := .int ((sI s3 1) + 1)) (ty := .int) (C := RX2) (T := TX2) (N := 20) hx hb hts hi_dm_X2_put_X2 tyX2 tyX2_ok nmX2 hown hK hP hD hS 0 rfl rfl 4 (by decide) (hts (.fieldLink RX2 55 "TimeMachine$Condition" "top" "I") (List.mem_of_getElem? (i := 1) rfl)) (fun _ h9 => h9) rfl (by decide +kernel) rfl rfl (Nat.le_of_ble_eq_true rfl) dX2_put_29 (fun H locs hP hD hS => ?_)
    obtain ⟨s4, es4, h⟩ := nd_let_e h
    have hP : va_P (dC, dI) vwCl (dw_X2c a ac s4) H := by rw [es4]; exact hP
    have hD : va_D A (dw_X2c a ac s4) := by rw [es4]; exact hD
    exact (db_X2_put_32 C K)  s4 _ _ _ h hP hD hS (lv_sub hl [] rfl)
set_option maxHeartbeats 40000000 in
set_option maxRecDepth 100000 in
theorem dm_X2_put (l : Launch) (hlt : l.stackTraces = false) (dC : Nat → ClassId) (dI : Nat → Nat → Nat) (a : Nat → Nat) (ac : Nat → ClassId) (n : Nat) (v0 : Int64) (s0 : St) {r : St} (h : df_X2_put n v0 s0 = some r) (sz : Nat) : Met l yX2_put ow_dm_X2_put ({ frames := 0, cells := 0, slots := 0, locals := 0 }) (va_Pc [.ref (a 0), .long v0] (fun U => U.heap.size = sz ∧ va_P (dC, dI) vwCl (dw_X2c a ac s0) U.heap ∧ va_K (dC, dI) vwCl (dk_X2c ac) U ∧ va_D (fun _ => True) (dw_X2c a ac s0) ∧ nv_E (va_A (dw_X2c a ac s0) sz) U)) (va_Qv (fun _ => True) (fun (_ : Unit) t => va_P (dC, dI) vwCl (dw_X2c a ac r) t.heap ∧ va_K (dC, dI) vwCl (dk_X2c ac) t ∧ va_D (va_A (dw_X2c a ac s0) sz) (dw_X2c a ac r)) (va_A (dw_X2c a ac s0) sz)) 0 0 (va_A (dw_X2c a ac s0) sz) := by
  refine Met.ofW (cc := cX2_put) (maxL := 3) (ret := none) (by decide) rfl ?_
  intro p e s m args below meth c s₁ B hml hv
  obtain ⟨rfl, hsz, hP, hK, hD0, hN⟩ := hv
  have hx := B.exec
  have hb := B.bytes
  have hr := B.returns
  have hts := atoms_spec (ws := ow_dm_X2_put) B.pre
  have hown : s.vm.findClass RX2 = some m.cls := findClass_of_methodNamed B.named
  have hlocks := B.notSynchronized
  subst hsz
  have hD := hD0.self (sz := s.heap.size)
  generalize hAe : va_A (dw_X2c a ac s0) s.heap.size = A at hD hN ⊢
  have hA : ∀ q : Nat, s.heap.size ≤ q → A q := fun q h => by rw [← hAe]; exact Or.inr h
  have hl := lv_entry ([.ref (a 0), .long v0]) (n := 3) (Nat.le_of_ble_eq_true rfl)
  rw [lg_entry_eq]
  generalize (lg_sl ([.ref (a 0), .long v0]) ++ List.replicate (3 - (lg_sl ([.ref (a 0), .long v0])).length) Slot.unset).toArray = ls at hl ⊢
  have hl : lv_has ls 3 [(0, .ref (a 0)), (1, .long v0)] := hl
  exact db_X2_put_0 (dC := dC) (dI := dI) (a := a) (ac := ac) (n := n) (r := r) ⟨hlt, hx, hb, hml, hown, hts, hN, hA, hK⟩ (fun pc τ H locs ls d er hP hD hS => by subst er; exact W.vret hx hb hr (fun t ht hW => ⟨⟨(), rfl, trivial, by rw [ht]; exact hP, va_K.moved hW.alike hK, hD⟩, hS.F ht⟩) hS.2.2 d) v0 s0 _ _ _ h hP hD va_S.rf (lv_sub hl [0, 1] rfl)
def ow_dm_X2_operand : List Cond := .code yX2_operand cX2_operand 5 (some .long) :: ([.fieldLink RX2 221 "TimeMachine$Machine" "current" "I", .methodLink RX2 224 yX6_registerOf, .instanceMethod yX6_registerOf, .selects RX6 yX6_registerOf yX6_registerOf, .initialized RX6] ++ (u_ws RX6 TX6 20 ++ (ow_dm_X6_registerOf ++ [])))
theorem gd_dm_X2_operand : ∀ w ∈ ow_dm_X2_operand, (w.onTables && w.keeps) = true ∨ ∃ ty, w = Cond.arrayClass ty := List.forall_mem_cons.mpr ⟨good_of_word rfl, List.forall_mem_append.mpr ⟨fun w h => good_of_word (List.all_eq_true.mp (by decide +kernel) w h), List.forall_mem_append.mpr ⟨gu_X6, List.forall_mem_append.mpr ⟨gd_dm_X6_registerOf, fun _ h => nomatch h⟩⟩⟩⟩
theorem hi_dm_X2_operand_X6 : ∀ w ∈ u_ws RX6 TX6 20, w ∈ ow_dm_X2_operand := fun w h => List.mem_cons_of_mem _ (List.mem_append_right _ (List.mem_append_left _ h))
theorem gi_dm_X2_operand_0 : GoodIn ow_dm_X2_operand (wsV RX2 224 RX6 yX6_registerOf ow_dm_X6_registerOf) := goodIn_app (goodIn_of _ (by decide +kernel)) (fun w h => ⟨List.mem_cons_of_mem _ (List.mem_append_right _ (List.mem_append_right _ (List.mem_append_left _ h))), gd_dm_X6_registerOf w h⟩)
def dj_X2_operand_50 (p : Program) (l : Launch) (e : Env) (s : State) (m : MethodId) (args : Array Value) (below : List Frame) (meth : Method) (c : Code) (Q : State → Prop) (A : Nat → Prop) (dC : Nat → ClassId) (dI : Nat → Nat → Nat) (a : Nat → Nat) (ac : Nat → ClassId) (g : Int64 → (St × (St)) → Option (Int64 × (St × (St)))) (r : Int64 × (St × (St))) : Prop := ∀ (y0 : Int64) (s0 : St × (St)) (H : Heap) (locs : List Loc) (ls : Array Slot), g y0 s0 = some r → va_P (dC, dI) vwCl (dw_X6 a ac s0) H → va_D A (dw_X6 a ac s0) → va_S A s.heap H locs → lv_has ls 5 [] → W p l e (headSpec ow_dm_X2_operand ({ frames := 2, cells := 0, slots := 0, locals := 43 })).room s m args below meth c H locs 0 0 Q (F0 m 50 ls [.long y0])
def dj_X2_operand_0 (p : Program) (l : Launch) (e : Env) (s : State) (m : MethodId) (args : Array Value) (below : List Frame) (meth : Method) (c : Code) (Q : State → Prop) (A : Nat → Prop) (dC : Nat → ClassId) (dI : Nat → Nat → Nat) (a : Nat → Nat) (ac : Nat → ClassId) (g : Int32 → Int32 → Int64 → (St × (St)) → Option (Int64 × (St × (St)))) (r : Int64 × (St × (St))) : Prop := ∀ (v1 : Int32) (v2 : Int32) (v3 : Int64) (s0 : St × (St)) (H : Heap) (locs : List Loc) (ls : Array Slot), g v1 v2 v3 s0 = some r → va_P (dC, dI) vwCl (dw_X6 a ac s0) H → va_D A (dw_X6 a ac s0) → va_S A s.heap H locs → lv_has ls 5 [(0, .ref (a 0)), (1, .int v1), (2, .int v2), (3, .long v3)] → W p l e (headSpec ow_dm_X2_operand ({ frames := 2, cells := 0, slots := 0, locals := 43 })).room s m args below meth c H locs 0 0 Q (F0 m 0 ls [])
set_option maxHeartbeats 40000000 in
set_option maxRecDepth 100000 in
theorem db_X2_operand_50 {p : Program} {l : Launch} {e : Env} {s : State} {m : MethodId} {args : Array Value} {below : List Frame} {meth : Method} {c : Code} {Q : State → Prop} {A : Nat → Prop} {dC : Nat → ClassId} {dI : Nat → Nat → Nat} {a : Nat → Nat} {ac : Nat → ClassId} {n : Nat} {r : Int64 × (St × (St))} (C : nd_C p l s m args c A (dC, dI) cX2_operand 5 RX2 ow_dm_X2_operand (dk_X6 ac)) (K : nd_Kl p l e (headSpec ow_dm_X2_operand ({ frames := 2, cells := 0, slots := 0, locals := 43 })).room s m args below meth c Q A (dC, dI) cX2_operand (St × (St)) (dw_X6 a ac) r) : dj_X2_operand_50 p l e s m args below meth c Q A dC dI a ac (df_X2_operand_50 n) r := by
  obtain ⟨hlt, hx, hb, hml, hown, hts, hN, hA, hK⟩ := id C
  intro y0 s0 H locs ls h hP hD hS hl
  unfold df_X2_operand_50 at h
  exact K _ _ _ _ _ _ dX2_operand_50 (Option.some.inj h).symm hP hD hS
set_option maxHeartbeats 40000000 in
set_option maxRecDepth 100000 in
theorem db_X2_operand_0 {p : Program} {l : Launch} {e : Env} {s : State} {m : MethodId} {args : Array Value} {below : List Frame} {meth : Method} {c : Code} {Q : State → Prop} {A : Nat → Prop} {dC : Nat → ClassId} {dI : Nat → Nat → Nat} {a : Nat → Nat} {ac : Nat → ClassId} {n : Nat} {r : Int64 × (St × (St))} (C : nd_C p l s m args c A (dC, dI) cX2_operand 5 RX2 ow_dm_X2_operand (dk_X6 ac)) (K : nd_Kl p l e (headSpec ow_dm_X2_operand ({ frames := 2, cells := 0, slots := 0, locals := 43 })).room s m args below meth c Q A (dC, dI) cX2_operand (St × (St)) (dw_X6 a ac) r) : dj_X2_operand_0 p l e s m args below meth c Q A dC dI a ac (df_X2_operand_0 n) r := by
  obtain ⟨hlt, hx, hb, hml, hown, hts, hN, hA, hK⟩ := id C
  intro v1 v2 v3 s0 H locs ls h hP hD hS hl
  unfold df_X2_operand_0 at h
  refine lv_iload_n hx hb dX2_operand_0 rfl (lv_at hl 2 rfl) ?_
  by_cases c1 : v2 = 31
  · have h := nd_pos h c1
    refine lv_tableIn (off := 27) (tgt := 28) hx hb dX2_operand_1 (by rw [c1]; decide) (by rw [c1]; decide) (by rw [c1]; decide) (by decide) ?_
    refine lv_aload_n hx hb dX2_operand_28 rfl (lv_at hl 0 rfl) ?_
    refine va_get (D := (dC, dI)) (ci := 7) (v := .int (sI s0.1 3)) (C := RX6) (T := TX6) (N := 20) hx hb hts hi_dm_X2_operand_X6 hown hK hP 0 rfl rfl 13 (by decide) (hts (.fieldLink RX2 221 "TimeMachine$Machine" "current" "I") (List.mem_of_getElem? (i := 1) rfl)) (fun _ h9 => h9) rfl dX2_operand_29 ?_
    refine lv_if_ge (tgt := 39) hx hb dX2_operand_32 (by decide) (fun c2 => ?_) (fun c2 => ?_)
    · have h := nd_pos h c2
      refine lv_aload_n hx hb dX2_operand_39 rfl (lv_at hl 0 rfl) ?_
      refine lv_aload_n hx hb dX2_operand_40 rfl (lv_at hl 0 rfl) ?_
      refine va_get (D := (dC, dI)) (ci := 7) (v := .int (sI s0.1 3)) (C := RX6) (T := TX6) (N := 20) hx hb hts hi_dm_X2_operand_X6 hown hK hP 0 rfl rfl 13 (by decide) (hts (.fieldLink RX2 221 "TimeMachine$Machine" "current" "I") (List.mem_of_getElem? (i := 1) rfl)) (fun _ h9 => h9) rfl dX2_operand_41 ?_
      refine lv_lload_n hx hb dX2_operand_44 rfl (lv_at hl 3 rfl) ?_
      refine lv_l2i hx hb dX2_operand_45 rfl ?_
      obtain ⟨q3, s4, hq, h⟩ := nd_b2_e h
      have hPc := hP
      have hDc := hD
      have hKc := hK
      have hFc := nd_rs hD hS hA
      refine nd_cVi (As := [.int (sI s0.1 3), .int (v3.toInt32)]) (rest := []) (q := q3) (w' := dw_X6 a ac s4) ⟨hx, hb, hml, hown, hts⟩ (fun sz => dm_X6_registerOf l hlt dC dI a ac n ((sI s0.1 3)) ((v3.toInt32)) s0 hq sz) (cwV 2 hts gi_dm_X2_operand_0 rfl rfl rfl (by decide +kernel) ⟨Nat.le_of_ble_eq_true rfl, Nat.le_of_ble_eq_true rfl⟩) hPc hDc hKc hS hA hN (va_recv hKc hPc (ci := 7) (q0 := 0) rfl rfl) rfl hl.1 rfl (Nat.le_of_ble_eq_true rfl) dX2_operand_46 (fun H locs hP1 hD1 hk1 hS => ?_)
      have hP := hP1
      have hD := hD1.weaken (fun k q _ h => hFc q.1 h)
      refine lv_i2l hx hb dX2_operand_49 rfl ?_
      exact (db_X2_operand_50 C K) ((q3.toInt64)) s4 _ _ _ h hP hD hS (lv_sub hl [] rfl)
    · have h := nd_neg h c2
      refine lv_lconst (v := 0) hx hb dX2_operand_35 (by decide) ?_
      refine lv_goto (tgt := 50) hx hb dX2_operand_36 (by decide) ?_
      exact (db_X2_operand_50 C K) (0) s0 _ _ _ h hP hD hS (lv_sub hl [] rfl)
  have h := nd_neg h c1
  by_cases c6 : v2 = 32
  · have h := nd_pos h c6
    refine lv_tableIn (off := 50) (tgt := 51) hx hb dX2_operand_1 (by rw [c6]; decide) (by rw [c6]; decide) (by rw [c6]; decide) (by decide) ?_
    refine lv_aload_n hx hb dX2_operand_51 rfl (lv_at hl 0 rfl) ?_
    refine va_get (D := (dC, dI)) (ci := 7) (v := .int (sI s0.1 3)) (C := RX6) (T := TX6) (N := 20) hx hb hts hi_dm_X2_operand_X6 hown hK hP 0 rfl rfl 13 (by decide) (hts (.fieldLink RX2 221 "TimeMachine$Machine" "current" "I") (List.mem_of_getElem? (i := 1) rfl)) (fun _ h9 => h9) rfl dX2_operand_52 ?_
    refine lv_i2l hx hb dX2_operand_55 rfl ?_
    exact K _ _ _ _ _ _ dX2_operand_56 (Option.some.inj h).symm hP hD hS
  have h := nd_neg h c6
  by_cases c7 : v2 = 33
  · have h := nd_pos h c7
    refine lv_tableIn (off := 56) (tgt := 57) hx hb dX2_operand_1 (by rw [c7]; decide) (by rw [c7]; decide) (by rw [c7]; decide) (by decide) ?_
    refine lv_iload_n hx hb dX2_operand_57 rfl (lv_at hl 1 rfl) ?_
    refine lv_i2l hx hb dX2_operand_58 rfl ?_
    exact K _ _ _ _ _ _ dX2_operand_59 (Option.some.inj h).symm hP hD hS
  have h := nd_neg h c7
  refine lv_tableOut (tgt := 60) hx hb dX2_operand_1 (by have g0 := nv_nei c1 (k := 31) (by decide); have g1 := nv_nei c6 (k := 32) (by decide); have g2 := nv_nei c7 (k := 33) (by decide); omega) (by decide) ?_
  refine lv_lload_n hx hb dX2_operand_60 rfl (lv_at hl 3 rfl) ?_
  exact K _ _ _ _ _ _ dX2_operand_61 (Option.some.inj h).symm hP hD hS
set_option maxHeartbeats 40000000 in
set_option maxRecDepth 100000 in
theorem dm_X2_operand (l : Launch) (hlt : l.stackTraces = false) (dC : Nat → ClassId) (dI : Nat → Nat → Nat) (a : Nat → Nat) (ac : Nat → ClassId) (n : Nat) (v1 : Int32) (v2 : Int32) (v3 : Int64) (s0 : St × (St)) {r : Int64 × (St × (St))} (h : df_X2_operand n v1 v2 v3 s0 = some r) (sz : Nat) : Met l yX2_operand ow_dm_X2_operand ({ frames := 2, cells := 0, slots := 0, locals := 43 }) (va_Pc [.ref (a 0), .int v1, .int v2, .long v3] (fun U => U.heap.size = sz ∧ va_P (dC, dI) vwCl (dw_X6 a ac s0) U.heap ∧ va_K (dC, dI) vwCl (dk_X6 ac) U ∧ va_D (fun _ => True) (dw_X6 a ac s0) ∧ nv_E (va_A (dw_X6 a ac s0) sz) U)) (va_Ql (fun x _ => x = r.1) (fun (_ : Unit) t => va_P (dC, dI) vwCl (dw_X6 a ac r.2) t.heap ∧ va_K (dC, dI) vwCl (dk_X6 ac) t ∧ va_D (va_A (dw_X6 a ac s0) sz) (dw_X6 a ac r.2)) (va_A (dw_X6 a ac s0) sz)) 0 0 (va_A (dw_X6 a ac s0) sz) := by
  refine Met.ofW (cc := cX2_operand) (maxL := 5) (ret := (some .long)) (by decide) rfl ?_
  intro p e s m args below meth c s₁ B hml hv
  obtain ⟨rfl, hsz, hP, hK, hD0, hN⟩ := hv
  have hx := B.exec
  have hb := B.bytes
  have hr := B.returns
  have hts := atoms_spec (ws := ow_dm_X2_operand) B.pre
  have hown : s.vm.findClass RX2 = some m.cls := findClass_of_methodNamed B.named
  have hlocks := B.notSynchronized
  subst hsz
  have hD := hD0.self (sz := s.heap.size)
  generalize hAe : va_A (dw_X6 a ac s0) s.heap.size = A at hD hN ⊢
  have hA : ∀ q : Nat, s.heap.size ≤ q → A q := fun q h => by rw [← hAe]; exact Or.inr h
  have hl := lv_entry ([.ref (a 0), .int v1, .int v2, .long v3]) (n := 5) (Nat.le_of_ble_eq_true rfl)
  rw [lg_entry_eq]
  generalize (lg_sl ([.ref (a 0), .int v1, .int v2, .long v3]) ++ List.replicate (5 - (lg_sl ([.ref (a 0), .int v1, .int v2, .long v3])).length) Slot.unset).toArray = ls at hl ⊢
  have hl : lv_has ls 5 [(0, .ref (a 0)), (1, .int v1), (2, .int v2), (3, .long v3)] := hl
  exact db_X2_operand_0 (dC := dC) (dI := dI) (a := a) (ac := ac) (n := n) (r := r) ⟨hlt, hx, hb, hml, hown, hts, hN, hA, hK⟩ (fun pc v τ H locs ls d er hP hD hS => by subst er; exact W.lret (v := v) hx hb hr (fun t ht hW => ⟨⟨v, (), rfl, rfl, by rw [ht]; exact hP, va_K.moved hW.alike hK, hD⟩, hS.F ht⟩) hS.2.2 d) v1 v2 v3 s0 _ _ _ h hP hD va_S.rf (lv_sub hl [0, 1, 2, 3] rfl)
def ow_dm_X2_evaluate : List Cond := .code yX2_evaluate cX2_evaluate 8 (some .long) :: ([.fieldLink RX2 199 "TimeMachine$Condition" "failed" "Z", .fieldLink RX2 55 "TimeMachine$Condition" "top" "I", .fieldLink RX2 17 "TimeMachine$Condition" "stack" "[J", .fieldLink RX2 9 "TimeMachine$Condition" "code" "[I", .fieldLink RX2 13 "TimeMachine$Condition" "argument" "[J", .methodLink RX2 211 Lib.Math.max.name, .static Lib.Math.max.name, .initialized "java/lang/Math", .code Lib.Math.max.name Lib.Math.max.code 2 (some .int), .methodLink RX2 218 yX2_single, .instanceMethod yX2_single, .selects RX2 yX2_single yX2_single, .initialized RX2, .methodLink RX2 214 yX2_joined, .instanceMethod yX2_joined, .selects RX2 yX2_joined yX2_joined, .fieldLink RX2 32 "TimeMachine$Condition" "oldValue" "[J", .methodLink RX2 207 yX2_put, .instanceMethod yX2_put, .selects RX2 yX2_put yX2_put, .fieldLink RX2 29 "TimeMachine$Condition" "oldTo" "[I", .methodLink RX2 203 yX2_operand, .static yX2_operand] ++ (u_ws RX2 TX2 20 ++ (ow_dm_X2_single ++ (ow_dm_X2_joined ++ (ow_dm_X2_put ++ (ow_dm_X2_operand ++ []))))))
theorem gd_dm_X2_evaluate : ∀ w ∈ ow_dm_X2_evaluate, (w.onTables && w.keeps) = true ∨ ∃ ty, w = Cond.arrayClass ty := List.forall_mem_cons.mpr ⟨good_of_word rfl, List.forall_mem_append.mpr ⟨fun w h => good_of_word (List.all_eq_true.mp (by decide +kernel) w h), List.forall_mem_append.mpr ⟨gu_X2, List.forall_mem_append.mpr ⟨gd_dm_X2_single, List.forall_mem_append.mpr ⟨gd_dm_X2_joined, List.forall_mem_append.mpr ⟨gd_dm_X2_put, List.forall_mem_append.mpr ⟨gd_dm_X2_operand, fun _ h => nomatch h⟩⟩⟩⟩⟩⟩⟩
theorem hi_dm_X2_evaluate_X2 : ∀ w ∈ u_ws RX2 TX2 20, w ∈ ow_dm_X2_evaluate := fun w h => List.mem_cons_of_mem _ (List.mem_append_right _ (List.mem_append_left _ h))
theorem gi_dm_X2_evaluate_0 : GoodIn ow_dm_X2_evaluate (wsV RX2 218 RX2 yX2_single ow_dm_X2_single) := goodIn_app (goodIn_of _ (by decide +kernel)) (fun w h => ⟨List.mem_cons_of_mem _ (List.mem_append_right _ (List.mem_append_right _ (List.mem_append_left _ h))), gd_dm_X2_single w h⟩)
theorem gi_dm_X2_evaluate_1 : GoodIn ow_dm_X2_evaluate (wsV RX2 214 RX2 yX2_joined ow_dm_X2_joined) := goodIn_app (goodIn_of _ (by decide +kernel)) (fun w h => ⟨List.mem_cons_of_mem _ (List.mem_append_right _ (List.mem_append_right _ (List.mem_append_right _ (List.mem_append_left _ h)))), gd_dm_X2_joined w h⟩)
theorem gi_dm_X2_evaluate_2 : GoodIn ow_dm_X2_evaluate (wsV RX2 207 RX2 yX2_put ow_dm_X2_put) := goodIn_app (goodIn_of _ (by decide +kernel)) (fun w h => ⟨List.mem_cons_of_mem _ (List.mem_append_right _ (List.mem_append_right _ (List.mem_append_right _ (List.mem_append_right _ (List.mem_append_left _ h))))), gd_dm_X2_put w h⟩)
theorem gi_dm_X2_evaluate_3 : GoodIn ow_dm_X2_evaluate (wsS RX2 203 yX2_operand ow_dm_X2_operand) := goodIn_app (goodIn_of _ (by decide +kernel)) (fun w h => ⟨List.mem_cons_of_mem _ (List.mem_append_right _ (List.mem_append_right _ (List.mem_append_right _ (List.mem_append_right _ (List.mem_append_right _ (List.mem_append_left _ h)))))), gd_dm_X2_operand w h⟩)
def dj_X2_evaluate_372 (p : Program) (l : Launch) (e : Env) (s : State) (m : MethodId) (args : Array Value) (below : List Frame) (meth : Method) (c : Code) (Q : State → Prop) (A : Nat → Prop) (dC : Nat → ClassId) (dI : Nat → Nat → Nat) (a : Nat → Nat) (ac : Nat → ClassId) (g : Int64 → (St × (St) × (St × (St))) → Option (Int64 × (St × (St) × (St × (St))))) (r : Int64 × (St × (St) × (St × (St)))) : Prop := ∀ (y0 : Int64) (s0 : St × (St) × (St × (St))) (H : Heap) (locs : List Loc) (ls : Array Slot), g y0 s0 = some r → va_P (dC, dI) vwCl (dw_X2m a ac s0) H → va_D A (dw_X2m a ac s0) → va_S A s.heap H locs → lv_has ls 8 [] → W p l e (headSpec ow_dm_X2_evaluate ({ frames := 3, cells := 0, slots := 0, locals := 75 })).room s m args below meth c H locs 0 0 Q (F0 m 372 ls [.long y0])
def dj_X2_evaluate_355 (p : Program) (l : Launch) (e : Env) (s : State) (m : MethodId) (args : Array Value) (below : List Frame) (meth : Method) (c : Code) (Q : State → Prop) (A : Nat → Prop) (dC : Nat → ClassId) (dI : Nat → Nat → Nat) (a : Nat → Nat) (ac : Nat → ClassId) (g : (St × (St) × (St × (St))) → Option (Int64 × (St × (St) × (St × (St))))) (r : Int64 × (St × (St) × (St × (St)))) : Prop := ∀ (s0 : St × (St) × (St × (St))) (H : Heap) (locs : List Loc) (ls : Array Slot), g s0 = some r → va_P (dC, dI) vwCl (dw_X2m a ac s0) H → va_D A (dw_X2m a ac s0) → va_S A s.heap H locs → lv_has ls 8 [(0, .ref (a 0))] → W p l e (headSpec ow_dm_X2_evaluate ({ frames := 3, cells := 0, slots := 0, locals := 75 })).room s m args below meth c H locs 0 0 Q (F0 m 355 ls [])
def dj_X2_evaluate_349 (p : Program) (l : Launch) (e : Env) (s : State) (m : MethodId) (args : Array Value) (below : List Frame) (meth : Method) (c : Code) (Q : State → Prop) (A : Nat → Prop) (dC : Nat → ClassId) (dI : Nat → Nat → Nat) (a : Nat → Nat) (ac : Nat → ClassId) (g : Int32 → Int32 → Int32 → (St × (St) × (St × (St))) → Option (Int64 × (St × (St) × (St × (St))))) (r : Int64 × (St × (St) × (St × (St)))) : Prop := ∀ (x2 : Int32) (x4 : Int32) (x5 : Int32) (s0 : St × (St) × (St × (St))) (H : Heap) (locs : List Loc) (ls : Array Slot), g x2 x4 x5 s0 = some r → va_P (dC, dI) vwCl (dw_X2m a ac s0) H → va_D A (dw_X2m a ac s0) → va_S A s.heap H locs → lv_has ls 8 [(0, .ref (a 0)), (1, .ref (a 9)), (2, .int x2), (4, .int x4), (5, .int x5)] → W p l e (headSpec ow_dm_X2_evaluate ({ frames := 3, cells := 0, slots := 0, locals := 75 })).room s m args below meth c H locs 0 0 Q (F0 m 349 ls [])
def dj_X2_evaluate_141 (p : Program) (l : Launch) (e : Env) (s : State) (m : MethodId) (args : Array Value) (below : List Frame) (meth : Method) (c : Code) (Q : State → Prop) (A : Nat → Prop) (dC : Nat → ClassId) (dI : Nat → Nat → Nat) (a : Nat → Nat) (ac : Nat → ClassId) (g : Int32 → Int32 → Int32 → (St × (St) × (St × (St))) → Option (Int64 × (St × (St) × (St × (St))))) (r : Int64 × (St × (St) × (St × (St)))) : Prop := ∀ (x2 : Int32) (x4 : Int32) (x5 : Int32) (s0 : St × (St) × (St × (St))) (H : Heap) (locs : List Loc) (ls : Array Slot), g x2 x4 x5 s0 = some r → va_P (dC, dI) vwCl (dw_X2m a ac s0) H → va_D A (dw_X2m a ac s0) → va_S A s.heap H locs → lv_has ls 8 [(0, .ref (a 0)), (1, .ref (a 9)), (2, .int x2), (4, .int x4), (5, .int x5)] → W p l e (headSpec ow_dm_X2_evaluate ({ frames := 3, cells := 0, slots := 0, locals := 75 })).room s m args below meth c H locs 0 0 Q (F0 m 141 ls [])
def dj_X2_evaluate_221 (p : Program) (l : Launch) (e : Env) (s : State) (m : MethodId) (args : Array Value) (below : List Frame) (meth : Method) (c : Code) (Q : State → Prop) (A : Nat → Prop) (dC : Nat → ClassId) (dI : Nat → Nat → Nat) (a : Nat → Nat) (ac : Nat → ClassId) (g : Int32 → Int32 → Int32 → Int32 → Int64 → (St × (St) × (St × (St))) → Option (Int64 × (St × (St) × (St × (St))))) (r : Int64 × (St × (St) × (St × (St)))) : Prop := ∀ (x2 : Int32) (x4 : Int32) (x5 : Int32) (y1 : Int32) (y2 : Int64) (s0 : St × (St) × (St × (St))) (H : Heap) (locs : List Loc) (ls : Array Slot), g x2 x4 x5 y1 y2 s0 = some r → va_P (dC, dI) vwCl (dw_X2m a ac s0) H → va_D A (dw_X2m a ac s0) → va_S A s.heap H locs → lv_has ls 8 [(0, .ref (a 0)), (1, .ref (a 9)), (2, .int x2), (4, .int x4), (5, .int x5)] → W p l e (headSpec ow_dm_X2_evaluate ({ frames := 3, cells := 0, slots := 0, locals := 75 })).room s m args below meth c H locs 0 0 Q (F0 m 221 ls [.long y2, .int y1, .ref (a 3)])
def dj_X2_evaluate_196 (p : Program) (l : Launch) (e : Env) (s : State) (m : MethodId) (args : Array Value) (below : List Frame) (meth : Method) (c : Code) (Q : State → Prop) (A : Nat → Prop) (dC : Nat → ClassId) (dI : Nat → Nat → Nat) (a : Nat → Nat) (ac : Nat → ClassId) (g : Int32 → Int32 → Int32 → Int32 → Int32 → Int32 → (St × (St) × (St × (St))) → Option (Int64 × (St × (St) × (St × (St))))) (r : Int64 × (St × (St) × (St × (St)))) : Prop := ∀ (x2 : Int32) (x4 : Int32) (x5 : Int32) (x6 : Int32) (y0 : Int32) (y1 : Int32) (s0 : St × (St) × (St × (St))) (H : Heap) (locs : List Loc) (ls : Array Slot), g x2 x4 x5 x6 y0 y1 s0 = some r → va_P (dC, dI) vwCl (dw_X2m a ac s0) H → va_D A (dw_X2m a ac s0) → va_S A s.heap H locs → lv_has ls 8 [(0, .ref (a 0)), (1, .ref (a 9)), (2, .int x2), (4, .int x4), (5, .int x5), (6, .int x6)] → W p l e (headSpec ow_dm_X2_evaluate ({ frames := 3, cells := 0, slots := 0, locals := 75 })).room s m args below meth c H locs 0 0 Q (F0 m 196 ls [.int y1, .int y0])
def dj_X2_evaluate_184 (p : Program) (l : Launch) (e : Env) (s : State) (m : MethodId) (args : Array Value) (below : List Frame) (meth : Method) (c : Code) (Q : State → Prop) (A : Nat → Prop) (dC : Nat → ClassId) (dI : Nat → Nat → Nat) (a : Nat → Nat) (ac : Nat → ClassId) (g : Int32 → Int32 → Int32 → Int32 → Int32 → (St × (St) × (St × (St))) → Option (Int64 × (St × (St) × (St × (St))))) (r : Int64 × (St × (St) × (St × (St)))) : Prop := ∀ (x2 : Int32) (x4 : Int32) (x5 : Int32) (x6 : Int32) (y0 : Int32) (s0 : St × (St) × (St × (St))) (H : Heap) (locs : List Loc) (ls : Array Slot), g x2 x4 x5 x6 y0 s0 = some r → va_P (dC, dI) vwCl (dw_X2m a ac s0) H → va_D A (dw_X2m a ac s0) → va_S A s.heap H locs → lv_has ls 8 [(0, .ref (a 0)), (1, .ref (a 9)), (2, .int x2), (4, .int x4), (5, .int x5), (6, .int x6)] → W p l e (headSpec ow_dm_X2_evaluate ({ frames := 3, cells := 0, slots := 0, locals := 75 })).room s m args below meth c H locs 0 0 Q (F0 m 184 ls [.int y0])
def dj_X2_evaluate_163 (p : Program) (l : Launch) (e : Env) (s : State) (m : MethodId) (args : Array Value) (below : List Frame) (meth : Method) (c : Code) (Q : State → Prop) (A : Nat → Prop) (dC : Nat → ClassId) (dI : Nat → Nat → Nat) (a : Nat → Nat) (ac : Nat → ClassId) (g : Int32 → Int32 → Int32 → Int32 → (St × (St) × (St × (St))) → Option (Int64 × (St × (St) × (St × (St))))) (r : Int64 × (St × (St) × (St × (St)))) : Prop := ∀ (x2 : Int32) (x4 : Int32) (x5 : Int32) (x6 : Int32) (s0 : St × (St) × (St × (St))) (H : Heap) (locs : List Loc) (ls : Array Slot), g x2 x4 x5 x6 s0 = some r → va_P (dC, dI) vwCl (dw_X2m a ac s0) H → va_D A (dw_X2m a ac s0) → va_S A s.heap H locs → lv_has ls 8 [(0, .ref (a 0)), (1, .ref (a 9)), (2, .int x2), (4, .int x4), (5, .int x5), (6, .int x6)] → W p l e (headSpec ow_dm_X2_evaluate ({ frames := 3, cells := 0, slots := 0, locals := 75 })).room s m args below meth c H locs 0 0 Q (F0 m 163 ls [])
def dj_X2_evaluate_149 (p : Program) (l : Launch) (e : Env) (s : State) (m : MethodId) (args : Array Value) (below : List Frame) (meth : Method) (c : Code) (Q : State → Prop) (A : Nat → Prop) (dC : Nat → ClassId) (dI : Nat → Nat → Nat) (a : Nat → Nat) (ac : Nat → ClassId) (g : Int32 → Int32 → Int32 → Int32 → (St × (St) × (St × (St))) → Option (Int64 × (St × (St) × (St × (St))))) (r : Int64 × (St × (St) × (St × (St)))) : Prop := ∀ (x2 : Int32) (x4 : Int32) (x5 : Int32) (x6 : Int32) (s0 : St × (St) × (St × (St))) (H : Heap) (locs : List Loc) (ls : Array Slot), g x2 x4 x5 x6 s0 = some r → va_P (dC, dI) vwCl (dw_X2m a ac s0) H → va_D A (dw_X2m a ac s0) → va_S A s.heap H locs → lv_has ls 8 [(0, .ref (a 0)), (1, .ref (a 9)), (2, .int x2), (4, .int x4), (5, .int x5), (6, .int x6)] → W p l e (headSpec ow_dm_X2_evaluate ({ frames := 3, cells := 0, slots := 0, locals := 75 })).room s m args below meth c H locs 0 0 Q (F0 m 149 ls [])
def dj_X2_evaluate_71 (p : Program) (l : Launch) (e : Env) (s : State) (m : MethodId) (args : Array Value) (below : List Frame) (meth : Method) (c : Code) (Q : State → Prop) (A : Nat → Prop) (dC : Nat → ClassId) (dI : Nat → Nat → Nat) (a : Nat → Nat) (ac : Nat → ClassId) (g : Int32 → Int32 → Int32 → Int32 → (St × (St) × (St × (St))) → Option (Int64 × (St × (St) × (St × (St))))) (r : Int64 × (St × (St) × (St × (St)))) : Prop := ∀ (x2 : Int32) (x4 : Int32) (x5 : Int32) (x6 : Int32) (s0 : St × (St) × (St × (St))) (H : Heap) (locs : List Loc) (ls : Array Slot), g x2 x4 x5 x6 s0 = some r → va_P (dC, dI) vwCl (dw_X2m a ac s0) H → va_D A (dw_X2m a ac s0) → va_S A s.heap H locs → lv_has ls 8 [(0, .ref (a 0)), (1, .ref (a 9)), (2, .int x2), (4, .int x4), (5, .int x5), (6, .int x6)] → W p l e (headSpec ow_dm_X2_evaluate ({ frames := 3, cells := 0, slots := 0, locals := 75 })).room s m args below meth c H locs 0 0 Q (F0 m 71 ls [])
def dj_X2_evaluate_13 (p : Program) (l : Launch) (e : Env) (s : State) (m : MethodId) (args : Array Value) (below : List Frame) (meth : Method) (c : Code) (Q : State → Prop) (A : Nat → Prop) (dC : Nat → ClassId) (dI : Nat → Nat → Nat) (a : Nat → Nat) (ac : Nat → ClassId) (g : Int32 → Int32 → Int32 → (St × (St) × (St × (St))) → Option (Int64 × (St × (St) × (St × (St))))) (r : Int64 × (St × (St) × (St × (St)))) : Prop := ∀ (x2 : Int32) (x4 : Int32) (x5 : Int32) (s0 : St × (St) × (St × (St))) (H : Heap) (locs : List Loc) (ls : Array Slot), g x2 x4 x5 s0 = some r → va_P (dC, dI) vwCl (dw_X2m a ac s0) H → va_D A (dw_X2m a ac s0) → va_S A s.heap H locs → lv_has ls 8 [(0, .ref (a 0)), (1, .ref (a 9)), (2, .int x2), (4, .int x4), (5, .int x5)] → W p l e (headSpec ow_dm_X2_evaluate ({ frames := 3, cells := 0, slots := 0, locals := 75 })).room s m args below meth c H locs 0 0 Q (F0 m 13 ls [])
def dj_X2_evaluate_0 (p : Program) (l : Launch) (e : Env) (s : State) (m : MethodId) (args : Array Value) (below : List Frame) (meth : Method) (c : Code) (Q : State → Prop) (A : Nat → Prop) (dC : Nat → ClassId) (dI : Nat → Nat → Nat) (a : Nat → Nat) (ac : Nat → ClassId) (g : Int32 → Int32 → Int32 → (St × (St) × (St × (St))) → Option (Int64 × (St × (St) × (St × (St))))) (r : Int64 × (St × (St) × (St × (St)))) : Prop := ∀ (v1 : Int32) (v2 : Int32) (v3 : Int32) (s0 : St × (St) × (St × (St))) (H : Heap) (locs : List Loc) (ls : Array Slot), g v1 v2 v3 s0 = some r → va_P (dC, dI) vwCl (dw_X2m a ac s0) H → va_D A (dw_X2m a ac s0) → va_S A s.heap H locs → lv_has ls 8 [(0, .ref (a 0)), (1, .ref (a 9)), (2, .int v1), (3, .int v2), (4, .int v3)] → W p l e (headSpec ow_dm_X2_evaluate ({ frames := 3, cells := 0, slots := 0, locals := 75 })).room s m args below meth c H locs 0 0 Q (F0 m 0 ls [])
set_option maxHeartbeats 40000000 in
set_option maxRecDepth 100000 in
theorem db_X2_evaluate_372 {p : Program} {l : Launch} {e : Env} {s : State} {m : MethodId} {args : Array Value} {below : List Frame} {meth : Method} {c : Code} {Q : State → Prop} {A : Nat → Prop} {dC : Nat → ClassId} {dI : Nat → Nat → Nat} {a : Nat → Nat} {ac : Nat → ClassId} {n : Nat} {r : Int64 × (St × (St) × (St × (St)))} (C : nd_C p l s m args c A (dC, dI) cX2_evaluate 8 RX2 ow_dm_X2_evaluate (dk_X2m ac)) (K : nd_Kl p l e (headSpec ow_dm_X2_evaluate ({ frames := 3, cells := 0, slots := 0, locals := 75 })).room s m args below meth c Q A (dC, dI) cX2_evaluate (St × (St) × (St × (St))) (dw_X2m a ac) r) : dj_X2_evaluate_372 p l e s m args below meth c Q A dC dI a ac (df_X2_evaluate_372 n) r := by
  obtain ⟨hlt, hx, hb, hml, hown, hts, hN, hA, hK⟩ := id C
  intro y0 s0 H locs ls h hP hD hS hl
  unfold df_X2_evaluate_372 at h
  exact K _ _ _ _ _ _ dX2_evaluate_372 (Option.some.inj h).symm hP hD hS
set_option maxHeartbeats 40000000 in
set_option maxRecDepth 100000 in
theorem db_X2_evaluate_355 {p : Program} {l : Launch} {e : Env} {s : State} {m : MethodId} {args : Array Value} {below : List Frame} {meth : Method} {c : Code} {Q : State → Prop} {A : Nat → Prop} {dC : Nat → ClassId} {dI : Nat → Nat → Nat} {a : Nat → Nat} {ac : Nat → ClassId} {n : Nat} {r : Int64 × (St × (St) × (St × (St)))} (C : nd_C p l s m args c A (dC, dI) cX2_evaluate 8 RX2 ow_dm_X2_evaluate (dk_X2m ac)) (K : nd_Kl p l e (headSpec ow_dm_X2_evaluate ({ frames := 3, cells := 0, slots := 0, locals := 75 })).room s m args below meth c Q A (dC, dI) cX2_evaluate (St × (St) × (St × (St))) (dw_X2m a ac) r) : dj_X2_evaluate_355 p l e s m args below meth c Q A dC dI a ac (df_X2_evaluate_355 n) r := by
  obtain ⟨hlt, hx, hb, hml, hown, hts, hN, hA, hK⟩ := id C
  intro s0 H locs ls h hP hD hS hl
  unfold df_X2_evaluate_355 at h
  refine lv_aload_n hx hb dX2_evaluate_355 rfl (lv_at hl 0 rfl) ?_
  refine va_get (D := (dC, dI)) (ci := 3) (v := .int (sI s0.2.1 1)) (C := RX2) (T := TX2) (N := 20) hx hb hts hi_dm_X2_evaluate_X2 hown hK hP 0 rfl rfl 4 (by decide) (hts (.fieldLink RX2 55 "TimeMachine$Condition" "top" "I") (List.mem_of_getElem? (i := 2) rfl)) (fun _ h9 => h9) rfl dX2_evaluate_356 ?_
  refine lv_if_le (tgt := 371) hx hb dX2_evaluate_359 (by decide) (fun c4 => ?_) (fun c4 => ?_)
  · have h := nd_pos h c4
    refine lv_lconst (v := 0) hx hb dX2_evaluate_371 (by decide) ?_
    exact (db_X2_evaluate_372 C K) (0) s0 _ _ _ h hP hD hS (lv_sub hl [] rfl)
  · have h := nd_neg h c4
    refine lv_aload_n hx hb dX2_evaluate_362 rfl (lv_at hl 0 rfl) ?_
    refine va_get (D := (dC, dI)) (ci := 3) (v := .ref (a 3)) (C := RX2) (T := TX2) (N := 20) hx hb hts hi_dm_X2_evaluate_X2 hown hK hP 0 rfl rfl 3 (by decide) (hts (.fieldLink RX2 17 "TimeMachine$Condition" "stack" "[J") (List.mem_of_getElem? (i := 3) rfl)) (fun _ h9 => h9) rfl dX2_evaluate_363 ?_
    refine lv_iconst (v := 0) hx hb dX2_evaluate_366 (by decide) ?_
    refine va_lald (i := 0) hx hb hK hP 3 2 rfl rfl (vp_in_iff.mpr ⟨by decide, by decide⟩) dX2_evaluate_367 ?_
    refine lv_goto (tgt := 372) hx hb dX2_evaluate_368 (by decide) ?_
    exact (db_X2_evaluate_372 C K) ((sQ s0.2.1 1 (Int32.toNatClampNeg 0))) s0 _ _ _ h hP hD hS (lv_sub hl [] rfl)
set_option maxHeartbeats 40000000 in
set_option maxRecDepth 100000 in
theorem db_X2_evaluate_349 {p : Program} {l : Launch} {e : Env} {s : State} {m : MethodId} {args : Array Value} {below : List Frame} {meth : Method} {c : Code} {Q : State → Prop} {A : Nat → Prop} {dC : Nat → ClassId} {dI : Nat → Nat → Nat} {a : Nat → Nat} {ac : Nat → ClassId} {n : Nat} {r : Int64 × (St × (St) × (St × (St)))} (C : nd_C p l s m args c A (dC, dI) cX2_evaluate 8 RX2 ow_dm_X2_evaluate (dk_X2m ac)) (K : nd_Kl p l e (headSpec ow_dm_X2_evaluate ({ frames := 3, cells := 0, slots := 0, locals := 75 })).room s m args below meth c Q A (dC, dI) cX2_evaluate (St × (St) × (St × (St))) (dw_X2m a ac) r) {g13 : Int32 → Int32 → Int32 → (St × (St) × (St × (St))) → Option (Int64 × (St × (St) × (St × (St))))} (J13 : dj_X2_evaluate_13 p l e s m args below meth c Q A dC dI a ac g13 r) : dj_X2_evaluate_349 p l e s m args below meth c Q A dC dI a ac (df_X2_evaluate_349 n g13) r := by
  obtain ⟨hlt, hx, hb, hml, hown, hts, hN, hA, hK⟩ := id C
  intro x2 x4 x5 s0 H locs ls h hP hD hS hl
  unfold df_X2_evaluate_349 at h
  obtain ⟨z12, ez12, h⟩ := nd_let_e h
  refine lv_iinc (v := z12) (lv' := [(5, .int z12), (0, .ref (a 0)), (1, .ref (a 9)), (2, .int x2), (4, .int x4)]) hx hb dX2_evaluate_349 hl (k := 4) rfl (by rw [ez12]) (by decide) rfl (fun ls hl => ?_)
  refine lv_goto (tgt := 13) hx hb dX2_evaluate_352 (by decide) ?_
  exact (J13) (x2) (x4) (z12) s0 _ _ _ h hP hD hS (lv_sub hl [1, 2, 3, 4, 0] rfl)
set_option maxHeartbeats 40000000 in
set_option maxRecDepth 100000 in
theorem db_X2_evaluate_141 {p : Program} {l : Launch} {e : Env} {s : State} {m : MethodId} {args : Array Value} {below : List Frame} {meth : Method} {c : Code} {Q : State → Prop} {A : Nat → Prop} {dC : Nat → ClassId} {dI : Nat → Nat → Nat} {a : Nat → Nat} {ac : Nat → ClassId} {n : Nat} {r : Int64 × (St × (St) × (St × (St)))} (C : nd_C p l s m args c A (dC, dI) cX2_evaluate 8 RX2 ow_dm_X2_evaluate (dk_X2m ac)) (K : nd_Kl p l e (headSpec ow_dm_X2_evaluate ({ frames := 3, cells := 0, slots := 0, locals := 75 })).room s m args below meth c Q A (dC, dI) cX2_evaluate (St × (St) × (St × (St))) (dw_X2m a ac) r) {g13 : Int32 → Int32 → Int32 → (St × (St) × (St × (St))) → Option (Int64 × (St × (St) × (St × (St))))} (J13 : dj_X2_evaluate_13 p l e s m args below meth c Q A dC dI a ac g13 r) : dj_X2_evaluate_141 p l e s m args below meth c Q A dC dI a ac (df_X2_evaluate_141 n g13) r := by
  obtain ⟨hlt, hx, hb, hml, hown, hts, hN, hA, hK⟩ := id C
  intro x2 x4 x5 s0 H locs ls h hP hD hS hl
  unfold df_X2_evaluate_141 at h
  refine lv_aload_n hx hb dX2_evaluate_141 rfl (lv_at hl 0 rfl) ?_
  refine lv_iconst (v := 1) hx hb dX2_evaluate_142 (by decide) ?_
  refine va_put (D := (dC, dI)) (ci := 3) (v := .int 1) (ty := .boolean) (C := RX2) (T := TX2) (N := 20) hx hb hts hi_dm_X2_evaluate_X2 tyX2 tyX2_ok nmX2 hown hK hP hD hS 0 rfl rfl 11 (by decide) (hts (.fieldLink RX2 199 "TimeMachine$Condition" "failed" "Z") (List.mem_of_getElem? (i := 1) rfl)) (fun _ h9 => h9) rfl (by decide +kernel) (by first | rfl | decide) rfl (Nat.le_of_ble_eq_true rfl) dX2_evaluate_143 (fun H locs hP hD hS => ?_)
  obtain ⟨s11, es11, h⟩ := nd_let_e h
  have hP : va_P (dC, dI) vwCl (dw_X2m a ac s11) H := by rw [es11]; exact hP
  have hD : va_D A (dw_X2m a ac s11) := by rw [es11]; exact hD
  refine lv_goto (tgt := 349) hx hb dX2_evaluate_146 (by decide) ?_
  exact (db_X2_evaluate_349 C K J13) (x2) (x4) (x5) s11 _ _ _ h hP hD hS (lv_sub hl [0, 1, 2, 3, 4] rfl)
set_option maxHeartbeats 40000000 in
set_option maxRecDepth 100000 in
theorem db_X2_evaluate_221 {p : Program} {l : Launch} {e : Env} {s : State} {m : MethodId} {args : Array Value} {below : List Frame} {meth : Method} {c : Code} {Q : State → Prop} {A : Nat → Prop} {dC : Nat → ClassId} {dI : Nat → Nat → Nat} {a : Nat → Nat} {ac : Nat → ClassId} {n : Nat} {r : Int64 × (St × (St) × (St × (St)))} (C : nd_C p l s m args c A (dC, dI) cX2_evaluate 8 RX2 ow_dm_X2_evaluate (dk_X2m ac)) (K : nd_Kl p l e (headSpec ow_dm_X2_evaluate ({ frames := 3, cells := 0, slots := 0, locals := 75 })).room s m args below meth c Q A (dC, dI) cX2_evaluate (St × (St) × (St × (St))) (dw_X2m a ac) r) {g13 : Int32 → Int32 → Int32 → (St × (St) × (St × (St))) → Option (Int64 × (St × (St) × (St × (St))))} (J13 : dj_X2_evaluate_13 p l e s m args below meth c Q A dC dI a ac g13 r) : dj_X2_evaluate_221 p l e s m args below meth c Q A dC dI a ac (df_X2_evaluate_221 n g13) r := by
  obtain ⟨hlt, hx, hb, hml, hown, hts, hN, hA, hK⟩ := id C
  intro x2 x4 x5 y1 y2 s0 H locs ls h hP hD hS hl
  unfold df_X2_evaluate_221 at h
  obtain ⟨i21, h⟩ := nd_ck_e h
  refine va_last (i := y1) (x := y2) hx hb hK hP hD hS 3 2 rfl rfl i21 dX2_evaluate_221 (fun H locs hP hD hS => ?_)
  obtain ⟨s22, es22, h⟩ := nd_let_e h
  have hP : va_P (dC, dI) vwCl (dw_X2m a ac s22) H := by rw [es22]; exact hP
  have hD : va_D A (dw_X2m a ac s22) := by rw [es22]; exact hD
  refine lv_iload hx hb dX2_evaluate_222 (lv_at hl 4 rfl) ?_
  refine lv_aload_n hx hb dX2_evaluate_224 rfl (lv_at hl 0 rfl) ?_
  refine va_get (D := (dC, dI)) (ci := 3) (v := .ref (a 2)) (C := RX2) (T := TX2) (N := 20) hx hb hts hi_dm_X2_evaluate_X2 hown hK hP 0 rfl rfl 1 (by decide) (hts (.fieldLink RX2 13 "TimeMachine$Condition" "argument" "[J") (List.mem_of_getElem? (i := 5) rfl)) (fun _ h9 => h9) rfl dX2_evaluate_225 ?_
  refine lv_iload hx hb dX2_evaluate_228 (lv_at hl 4 rfl) ?_
  obtain ⟨i23, h⟩ := nd_ck_e h
  refine va_lald (i := x5) hx hb hK hP 2 1 rfl rfl i23 dX2_evaluate_230 ?_
  refine lv_l2i hx hb dX2_evaluate_231 rfl ?_
  refine lv_iconst (v := 1) hx hb dX2_evaluate_232 (by decide) ?_
  refine lv_isub hx hb dX2_evaluate_233 ?_
  refine va_mmax hx hb (by rw [hml]; exact hl.1.symm) hown (hts (.methodLink RX2 211 Lib.Math.max.name) (List.mem_of_getElem? (i := 6) rfl)) (hts (.static Lib.Math.max.name) (List.mem_of_getElem? (i := 7) rfl)) (hts (.initialized "java/lang/Math") (List.mem_of_getElem? (i := 8) rfl)) (hts (.code Lib.Math.max.name Lib.Math.max.code 2 (some .int)) (List.mem_of_getElem? (i := 9) rfl)) (Nat.le_of_ble_eq_true rfl) (Nat.le_of_ble_eq_true rfl) (by decide +kernel) (by decide +kernel) dX2_evaluate_234 ?_
  refine lv_topi (fun z24 ez24 => ?_)
  have h := nd_at h ez24
  refine lv_istore (lv' := [(5, .int z24), (0, .ref (a 0)), (1, .ref (a 9)), (2, .int x2), (4, .int x4)]) hx hb dX2_evaluate_237 hl (by decide) rfl (fun ls hl => ?_)
  refine lv_goto (tgt := 349) hx hb dX2_evaluate_239 (by decide) ?_
  exact (db_X2_evaluate_349 C K J13) (x2) (x4) (z24) s22 _ _ _ h hP hD hS (lv_sub hl [1, 2, 3, 4, 0] rfl)
set_option maxHeartbeats 40000000 in
set_option maxRecDepth 100000 in
theorem db_X2_evaluate_196 {p : Program} {l : Launch} {e : Env} {s : State} {m : MethodId} {args : Array Value} {below : List Frame} {meth : Method} {c : Code} {Q : State → Prop} {A : Nat → Prop} {dC : Nat → ClassId} {dI : Nat → Nat → Nat} {a : Nat → Nat} {ac : Nat → ClassId} {n : Nat} {r : Int64 × (St × (St) × (St × (St)))} (C : nd_C p l s m args c A (dC, dI) cX2_evaluate 8 RX2 ow_dm_X2_evaluate (dk_X2m ac)) (K : nd_Kl p l e (headSpec ow_dm_X2_evaluate ({ frames := 3, cells := 0, slots := 0, locals := 75 })).room s m args below meth c Q A (dC, dI) cX2_evaluate (St × (St) × (St × (St))) (dw_X2m a ac) r) {g13 : Int32 → Int32 → Int32 → (St × (St) × (St × (St))) → Option (Int64 × (St × (St) × (St × (St))))} (J13 : dj_X2_evaluate_13 p l e s m args below meth c Q A dC dI a ac g13 r) : dj_X2_evaluate_196 p l e s m args below meth c Q A dC dI a ac (df_X2_evaluate_196 n g13) r := by
  obtain ⟨hlt, hx, hb, hml, hown, hts, hN, hA, hK⟩ := id C
  intro x2 x4 x5 x6 y0 y1 s0 H locs ls h hP hD hS hl
  unfold df_X2_evaluate_196 at h
  refine lv_icmp_ne (tgt := 242) hx hb dX2_evaluate_196 (by decide) (fun c18 => ?_) (fun c18 => ?_)
  · have h := nd_neg h c18
    refine lv_aload_n hx hb dX2_evaluate_242 rfl (lv_at hl 0 rfl) ?_
    refine lv_dup hx hb dX2_evaluate_243 rfl ?_
    refine va_get (D := (dC, dI)) (ci := 3) (v := .int (sI s0.2.1 1)) (C := RX2) (T := TX2) (N := 20) hx hb hts hi_dm_X2_evaluate_X2 hown hK hP 0 rfl rfl 4 (by decide) (hts (.fieldLink RX2 55 "TimeMachine$Condition" "top" "I") (List.mem_of_getElem? (i := 2) rfl)) (fun _ h9 => h9) rfl dX2_evaluate_244 ?_
    refine lv_iconst (v := 1) hx hb dX2_evaluate_247 (by decide) ?_
    refine lv_isub hx hb dX2_evaluate_248 ?_
    refine va_put (D := (dC, dI)) (ci := 3) (v := .int ((sI s0.2.1 1) - 1)) (ty := .int) (C := RX2) (T := TX2) (N := 20) hx hb hts hi_dm_X2_evaluate_X2 tyX2 tyX2_ok nmX2 hown hK hP hD hS 0 rfl rfl 4 (by decide) (hts (.fieldLink RX2 55 "TimeMachine$Condition" "top" "I") (List.mem_of_getElem? (i := 2) rfl)) (fun _ h9 => h9) rfl (by decide +kernel) rfl rfl (Nat.le_of_ble_eq_true rfl) dX2_evaluate_249 (fun H locs hP hD hS => ?_)
    obtain ⟨s19, es19, h⟩ := nd_let_e h
    have hP : va_P (dC, dI) vwCl (dw_X2m a ac s19) H := by rw [es19]; exact hP
    have hD : va_D A (dw_X2m a ac s19) := by rw [es19]; exact hD
    refine lv_goto (tgt := 349) hx hb dX2_evaluate_252 (by decide) ?_
    exact (db_X2_evaluate_349 C K J13) (x2) (x4) (x5) s19 _ _ _ h hP hD hS (lv_sub hl [0, 1, 2, 3, 4] rfl)
  · have h := nd_pos h c18
    refine lv_aload_n hx hb dX2_evaluate_199 rfl (lv_at hl 0 rfl) ?_
    refine va_get (D := (dC, dI)) (ci := 3) (v := .ref (a 3)) (C := RX2) (T := TX2) (N := 20) hx hb hts hi_dm_X2_evaluate_X2 hown hK hP 0 rfl rfl 3 (by decide) (hts (.fieldLink RX2 17 "TimeMachine$Condition" "stack" "[J") (List.mem_of_getElem? (i := 3) rfl)) (fun _ h9 => h9) rfl dX2_evaluate_200 ?_
    refine lv_aload_n hx hb dX2_evaluate_203 rfl (lv_at hl 0 rfl) ?_
    refine va_get (D := (dC, dI)) (ci := 3) (v := .int (sI s0.2.1 1)) (C := RX2) (T := TX2) (N := 20) hx hb hts hi_dm_X2_evaluate_X2 hown hK hP 0 rfl rfl 4 (by decide) (hts (.fieldLink RX2 55 "TimeMachine$Condition" "top" "I") (List.mem_of_getElem? (i := 2) rfl)) (fun _ h9 => h9) rfl dX2_evaluate_204 ?_
    refine lv_iconst (v := 1) hx hb dX2_evaluate_207 (by decide) ?_
    refine lv_isub hx hb dX2_evaluate_208 ?_
    refine lv_iload hx hb dX2_evaluate_209 (lv_at hl 5 rfl) ?_
    refine lv_bipush (v := 35) hx hb dX2_evaluate_211 (by decide) ?_
    refine lv_icmp_ne (tgt := 220) hx hb dX2_evaluate_213 (by decide) (fun c20 => ?_) (fun c20 => ?_)
    · have h := nd_neg h c20
      refine lv_lconst (v := 0) hx hb dX2_evaluate_220 (by decide) ?_
      exact (db_X2_evaluate_221 C K J13) (x2) (x4) (x5) (((sI s0.2.1 1) - 1)) (0) s0 _ _ _ h hP hD hS (lv_sub hl [0, 1, 2, 3, 4] rfl)
    · have h := nd_pos h c20
      refine lv_lconst (v := 1) hx hb dX2_evaluate_216 (by decide) ?_
      refine lv_goto (tgt := 221) hx hb dX2_evaluate_217 (by decide) ?_
      exact (db_X2_evaluate_221 C K J13) (x2) (x4) (x5) (((sI s0.2.1 1) - 1)) (1) s0 _ _ _ h hP hD hS (lv_sub hl [0, 1, 2, 3, 4] rfl)
set_option maxHeartbeats 40000000 in
set_option maxRecDepth 100000 in
theorem db_X2_evaluate_184 {p : Program} {l : Launch} {e : Env} {s : State} {m : MethodId} {args : Array Value} {below : List Frame} {meth : Method} {c : Code} {Q : State → Prop} {A : Nat → Prop} {dC : Nat → ClassId} {dI : Nat → Nat → Nat} {a : Nat → Nat} {ac : Nat → ClassId} {n : Nat} {r : Int64 × (St × (St) × (St × (St)))} (C : nd_C p l s m args c A (dC, dI) cX2_evaluate 8 RX2 ow_dm_X2_evaluate (dk_X2m ac)) (K : nd_Kl p l e (headSpec ow_dm_X2_evaluate ({ frames := 3, cells := 0, slots := 0, locals := 75 })).room s m args below meth c Q A (dC, dI) cX2_evaluate (St × (St) × (St × (St))) (dw_X2m a ac) r) {g13 : Int32 → Int32 → Int32 → (St × (St) × (St × (St))) → Option (Int64 × (St × (St) × (St × (St))))} (J13 : dj_X2_evaluate_13 p l e s m args below meth c Q A dC dI a ac g13 r) : dj_X2_evaluate_184 p l e s m args below meth c Q A dC dI a ac (df_X2_evaluate_184 n g13) r := by
  obtain ⟨hlt, hx, hb, hml, hown, hts, hN, hA, hK⟩ := id C
  intro x2 x4 x5 x6 y0 s0 H locs ls h hP hD hS hl
  unfold df_X2_evaluate_184 at h
  refine lv_iload hx hb dX2_evaluate_184 (lv_at hl 5 rfl) ?_
  refine lv_bipush (v := 35) hx hb dX2_evaluate_186 (by decide) ?_
  refine lv_icmp_ne (tgt := 195) hx hb dX2_evaluate_188 (by decide) (fun c17 => ?_) (fun c17 => ?_)
  · have h := nd_neg h c17
    refine lv_iconst (v := 0) hx hb dX2_evaluate_195 (by decide) ?_
    exact (db_X2_evaluate_196 C K J13) (x2) (x4) (x5) (x6) (y0) (0) s0 _ _ _ h hP hD hS (lv_sub hl [0, 1, 2, 3, 4, 5] rfl)
  · have h := nd_pos h c17
    refine lv_iconst (v := 1) hx hb dX2_evaluate_191 (by decide) ?_
    refine lv_goto (tgt := 196) hx hb dX2_evaluate_192 (by decide) ?_
    exact (db_X2_evaluate_196 C K J13) (x2) (x4) (x5) (x6) (y0) (1) s0 _ _ _ h hP hD hS (lv_sub hl [0, 1, 2, 3, 4, 5] rfl)
set_option maxHeartbeats 40000000 in
set_option maxRecDepth 100000 in
theorem db_X2_evaluate_163 {p : Program} {l : Launch} {e : Env} {s : State} {m : MethodId} {args : Array Value} {below : List Frame} {meth : Method} {c : Code} {Q : State → Prop} {A : Nat → Prop} {dC : Nat → ClassId} {dI : Nat → Nat → Nat} {a : Nat → Nat} {ac : Nat → ClassId} {n : Nat} {r : Int64 × (St × (St) × (St × (St)))} (C : nd_C p l s m args c A (dC, dI) cX2_evaluate 8 RX2 ow_dm_X2_evaluate (dk_X2m ac)) (K : nd_Kl p l e (headSpec ow_dm_X2_evaluate ({ frames := 3, cells := 0, slots := 0, locals := 75 })).room s m args below meth c Q A (dC, dI) cX2_evaluate (St × (St) × (St × (St))) (dw_X2m a ac) r) {g13 : Int32 → Int32 → Int32 → (St × (St) × (St × (St))) → Option (Int64 × (St × (St) × (St × (St))))} (J13 : dj_X2_evaluate_13 p l e s m args below meth c Q A dC dI a ac g13 r) : dj_X2_evaluate_163 p l e s m args below meth c Q A dC dI a ac (df_X2_evaluate_163 n g13) r := by
  obtain ⟨hlt, hx, hb, hml, hown, hts, hN, hA, hK⟩ := id C
  intro x2 x4 x5 x6 s0 H locs ls h hP hD hS hl
  unfold df_X2_evaluate_163 at h
  refine lv_aload_n hx hb dX2_evaluate_163 rfl (lv_at hl 0 rfl) ?_
  refine va_get (D := (dC, dI)) (ci := 3) (v := .ref (a 3)) (C := RX2) (T := TX2) (N := 20) hx hb hts hi_dm_X2_evaluate_X2 hown hK hP 0 rfl rfl 3 (by decide) (hts (.fieldLink RX2 17 "TimeMachine$Condition" "stack" "[J") (List.mem_of_getElem? (i := 3) rfl)) (fun _ h9 => h9) rfl dX2_evaluate_164 ?_
  refine lv_aload_n hx hb dX2_evaluate_167 rfl (lv_at hl 0 rfl) ?_
  refine va_get (D := (dC, dI)) (ci := 3) (v := .int (sI s0.2.1 1)) (C := RX2) (T := TX2) (N := 20) hx hb hts hi_dm_X2_evaluate_X2 hown hK hP 0 rfl rfl 4 (by decide) (hts (.fieldLink RX2 55 "TimeMachine$Condition" "top" "I") (List.mem_of_getElem? (i := 2) rfl)) (fun _ h9 => h9) rfl dX2_evaluate_168 ?_
  refine lv_iconst (v := 1) hx hb dX2_evaluate_171 (by decide) ?_
  refine lv_isub hx hb dX2_evaluate_172 ?_
  obtain ⟨i15, h⟩ := nd_ck_e h
  refine va_lald (i := ((sI s0.2.1 1) - 1)) hx hb hK hP 3 2 rfl rfl i15 dX2_evaluate_173 ?_
  refine lv_lconst (v := 0) hx hb dX2_evaluate_174 (by decide) ?_
  refine W.lcmp hx hb dX2_evaluate_175 ?_
  refine lv_if_eq (tgt := 183) hx hb dX2_evaluate_176 (by decide) (fun c16 => ?_) (fun c16 => ?_)
  · have h := nd_pos h c16
    refine lv_iconst (v := 0) hx hb dX2_evaluate_183 (by decide) ?_
    exact (db_X2_evaluate_184 C K J13) (x2) (x4) (x5) (x6) (0) s0 _ _ _ h hP hD hS (lv_sub hl [0, 1, 2, 3, 4, 5] rfl)
  · have h := nd_neg h c16
    refine lv_iconst (v := 1) hx hb dX2_evaluate_179 (by decide) ?_
    refine lv_goto (tgt := 184) hx hb dX2_evaluate_180 (by decide) ?_
    exact (db_X2_evaluate_184 C K J13) (x2) (x4) (x5) (x6) (1) s0 _ _ _ h hP hD hS (lv_sub hl [0, 1, 2, 3, 4, 5] rfl)
set_option maxHeartbeats 40000000 in
set_option maxRecDepth 100000 in
theorem db_X2_evaluate_149 {p : Program} {l : Launch} {e : Env} {s : State} {m : MethodId} {args : Array Value} {below : List Frame} {meth : Method} {c : Code} {Q : State → Prop} {A : Nat → Prop} {dC : Nat → ClassId} {dI : Nat → Nat → Nat} {a : Nat → Nat} {ac : Nat → ClassId} {n : Nat} {r : Int64 × (St × (St) × (St × (St)))} (C : nd_C p l s m args c A (dC, dI) cX2_evaluate 8 RX2 ow_dm_X2_evaluate (dk_X2m ac)) (K : nd_Kl p l e (headSpec ow_dm_X2_evaluate ({ frames := 3, cells := 0, slots := 0, locals := 75 })).room s m args below meth c Q A (dC, dI) cX2_evaluate (St × (St) × (St × (St))) (dw_X2m a ac) r) {g13 : Int32 → Int32 → Int32 → (St × (St) × (St × (St))) → Option (Int64 × (St × (St) × (St × (St))))} (J13 : dj_X2_evaluate_13 p l e s m args below meth c Q A dC dI a ac g13 r) : dj_X2_evaluate_149 p l e s m args below meth c Q A dC dI a ac (df_X2_evaluate_149 n g13) r := by
  obtain ⟨hlt, hx, hb, hml, hown, hts, hN, hA, hK⟩ := id C
  intro x2 x4 x5 x6 s0 H locs ls h hP hD hS hl
  unfold df_X2_evaluate_149 at h
  refine lv_iload hx hb dX2_evaluate_149 (lv_at hl 5 rfl) ?_
  refine lv_bipush (v := 35) hx hb dX2_evaluate_151 (by decide) ?_
  refine lv_icmp_eq (tgt := 163) hx hb dX2_evaluate_153 (by decide) (fun c14 => ?_) (fun c14 => ?_)
  · have h := nd_pos h c14
    exact (db_X2_evaluate_163 C K J13) (x2) (x4) (x5) (x6) s0 _ _ _ h hP hD hS (lv_sub hl [0, 1, 2, 3, 4, 5] rfl)
  · have h := nd_neg h c14
    refine lv_iload hx hb dX2_evaluate_156 (lv_at hl 5 rfl) ?_
    refine lv_bipush (v := 34) hx hb dX2_evaluate_158 (by decide) ?_
    refine lv_icmp_ne (tgt := 255) hx hb dX2_evaluate_160 (by decide) (fun c25 => ?_) (fun c25 => ?_)
    · have h := nd_neg h c25
      refine lv_iload hx hb dX2_evaluate_255 (lv_at hl 5 rfl) ?_
      refine lv_bipush (v := 19) hx hb dX2_evaluate_257 (by decide) ?_
      refine lv_icmp_ge (tgt := 312) hx hb dX2_evaluate_259 (by decide) (fun c26 => ?_) (fun c26 => ?_)
      · have h := nd_pos h c26
        refine lv_aload_n hx hb dX2_evaluate_312 rfl (lv_at hl 0 rfl) ?_
        refine va_get (D := (dC, dI)) (ci := 3) (v := .ref (a 3)) (C := RX2) (T := TX2) (N := 20) hx hb hts hi_dm_X2_evaluate_X2 hown hK hP 0 rfl rfl 3 (by decide) (hts (.fieldLink RX2 17 "TimeMachine$Condition" "stack" "[J") (List.mem_of_getElem? (i := 3) rfl)) (fun _ h9 => h9) rfl dX2_evaluate_313 ?_
        refine lv_aload_n hx hb dX2_evaluate_316 rfl (lv_at hl 0 rfl) ?_
        refine va_get (D := (dC, dI)) (ci := 3) (v := .int (sI s0.2.1 1)) (C := RX2) (T := TX2) (N := 20) hx hb hts hi_dm_X2_evaluate_X2 hown hK hP 0 rfl rfl 4 (by decide) (hts (.fieldLink RX2 55 "TimeMachine$Condition" "top" "I") (List.mem_of_getElem? (i := 2) rfl)) (fun _ h9 => h9) rfl dX2_evaluate_317 ?_
        refine lv_iconst (v := 1) hx hb dX2_evaluate_320 (by decide) ?_
        refine lv_isub hx hb dX2_evaluate_321 ?_
        refine lv_aload_n hx hb dX2_evaluate_322 rfl (lv_at hl 0 rfl) ?_
        refine lv_aload_n hx hb dX2_evaluate_323 rfl (lv_at hl 1 rfl) ?_
        refine lv_iload hx hb dX2_evaluate_324 (lv_at hl 5 rfl) ?_
        refine lv_aload_n hx hb dX2_evaluate_326 rfl (lv_at hl 0 rfl) ?_
        refine va_get (D := (dC, dI)) (ci := 3) (v := .ref (a 2)) (C := RX2) (T := TX2) (N := 20) hx hb hts hi_dm_X2_evaluate_X2 hown hK hP 0 rfl rfl 1 (by decide) (hts (.fieldLink RX2 13 "TimeMachine$Condition" "argument" "[J") (List.mem_of_getElem? (i := 5) rfl)) (fun _ h9 => h9) rfl dX2_evaluate_327 ?_
        refine lv_iload hx hb dX2_evaluate_330 (lv_at hl 4 rfl) ?_
        obtain ⟨i27, h⟩ := nd_ck_e h
        refine va_lald (i := x5) hx hb hK hP 2 1 rfl rfl i27 dX2_evaluate_332 ?_
        refine lv_l2i hx hb dX2_evaluate_333 rfl ?_
        refine lv_aload_n hx hb dX2_evaluate_334 rfl (lv_at hl 0 rfl) ?_
        refine va_get (D := (dC, dI)) (ci := 3) (v := .ref (a 3)) (C := RX2) (T := TX2) (N := 20) hx hb hts hi_dm_X2_evaluate_X2 hown hK hP 0 rfl rfl 3 (by decide) (hts (.fieldLink RX2 17 "TimeMachine$Condition" "stack" "[J") (List.mem_of_getElem? (i := 3) rfl)) (fun _ h9 => h9) rfl dX2_evaluate_335 ?_
        refine lv_aload_n hx hb dX2_evaluate_338 rfl (lv_at hl 0 rfl) ?_
        refine va_get (D := (dC, dI)) (ci := 3) (v := .int (sI s0.2.1 1)) (C := RX2) (T := TX2) (N := 20) hx hb hts hi_dm_X2_evaluate_X2 hown hK hP 0 rfl rfl 4 (by decide) (hts (.fieldLink RX2 55 "TimeMachine$Condition" "top" "I") (List.mem_of_getElem? (i := 2) rfl)) (fun _ h9 => h9) rfl dX2_evaluate_339 ?_
        refine lv_iconst (v := 1) hx hb dX2_evaluate_342 (by decide) ?_
        refine lv_isub hx hb dX2_evaluate_343 ?_
        obtain ⟨i28, h⟩ := nd_ck_e h
        refine va_lald (i := ((sI s0.2.1 1) - 1)) hx hb hK hP 3 2 rfl rfl i28 dX2_evaluate_344 ?_
        obtain ⟨q29, s30, hq, h⟩ := nd_b2_e h
        have hPc := hP
        have hDc := hD
        have hKc := hK
        have hFc := nd_rs hD hS hA
        refine nd_cVl (As := [.ref (a 9), .int x6, .int ((sQ s0.2.1 0 (Int32.toNatClampNeg x5)).toInt32), .long (sQ s0.2.1 1 (Int32.toNatClampNeg ((sI s0.2.1 1) - 1)))]) (rest := [.int ((sI s0.2.1 1) - 1), .ref (a 3)]) (q := q29) (w' := dw_X2m a ac s30) ⟨hx, hb, hml, hown, hts⟩ (fun sz => dm_X2_single l hlt dC dI a ac n (x6) (((sQ s0.2.1 0 (Int32.toNatClampNeg x5)).toInt32)) ((sQ s0.2.1 1 (Int32.toNatClampNeg ((sI s0.2.1 1) - 1)))) s0 hq sz) (cwV 4 hts gi_dm_X2_evaluate_0 rfl rfl rfl (by decide +kernel) ⟨Nat.le_of_ble_eq_true rfl, Nat.le_of_ble_eq_true rfl⟩) hPc hDc hKc hS hA hN (va_recv hKc hPc (ci := 3) (q0 := 0) rfl rfl) rfl hl.1 rfl (Nat.le_of_ble_eq_true rfl) dX2_evaluate_345 (fun H locs hP1 hD1 hk1 hS => ?_)
        have hP := hP1
        have hD := hD1.weaken (fun k q _ h => hFc q.1 h)
        obtain ⟨i32, h⟩ := nd_ck_e h
        refine va_last (i := ((sI s0.2.1 1) - 1)) (x := q29) hx hb hK hP hD hS 3 2 rfl rfl i32 dX2_evaluate_348 (fun H locs hP hD hS => ?_)
        obtain ⟨s33, es33, h⟩ := nd_let_e h
        have hP : va_P (dC, dI) vwCl (dw_X2m a ac s33) H := by rw [es33]; exact hP
        have hD : va_D A (dw_X2m a ac s33) := by rw [es33]; exact hD
        exact (db_X2_evaluate_349 C K J13) (x2) (x4) (x5) s33 _ _ _ h hP hD hS (lv_sub hl [0, 1, 2, 3, 4] rfl)
      · have h := nd_neg h c26
        refine lv_aload_n hx hb dX2_evaluate_262 rfl (lv_at hl 0 rfl) ?_
        refine lv_dup hx hb dX2_evaluate_263 rfl ?_
        refine va_get (D := (dC, dI)) (ci := 3) (v := .int (sI s0.2.1 1)) (C := RX2) (T := TX2) (N := 20) hx hb hts hi_dm_X2_evaluate_X2 hown hK hP 0 rfl rfl 4 (by decide) (hts (.fieldLink RX2 55 "TimeMachine$Condition" "top" "I") (List.mem_of_getElem? (i := 2) rfl)) (fun _ h9 => h9) rfl dX2_evaluate_264 ?_
        refine lv_iconst (v := 1) hx hb dX2_evaluate_267 (by decide) ?_
        refine lv_isub hx hb dX2_evaluate_268 ?_
        refine va_put (D := (dC, dI)) (ci := 3) (v := .int ((sI s0.2.1 1) - 1)) (ty := .int) (C := RX2) (T := TX2) (N := 20) hx hb hts hi_dm_X2_evaluate_X2 tyX2 tyX2_ok nmX2 hown hK hP hD hS 0 rfl rfl 4 (by decide) (hts (.fieldLink RX2 55 "TimeMachine$Condition" "top" "I") (List.mem_of_getElem? (i := 2) rfl)) (fun _ h9 => h9) rfl (by decide +kernel) rfl rfl (Nat.le_of_ble_eq_true rfl) dX2_evaluate_269 (fun H locs hP hD hS => ?_)
        obtain ⟨s34, es34, h⟩ := nd_let_e h
        have hP : va_P (dC, dI) vwCl (dw_X2m a ac s34) H := by rw [es34]; exact hP
        have hD : va_D A (dw_X2m a ac s34) := by rw [es34]; exact hD
        refine lv_aload_n hx hb dX2_evaluate_272 rfl (lv_at hl 0 rfl) ?_
        refine va_get (D := (dC, dI)) (ci := 3) (v := .ref (a 3)) (C := RX2) (T := TX2) (N := 20) hx hb hts hi_dm_X2_evaluate_X2 hown hK hP 0 rfl rfl 3 (by decide) (hts (.fieldLink RX2 17 "TimeMachine$Condition" "stack" "[J") (List.mem_of_getElem? (i := 3) rfl)) (fun _ h9 => h9) rfl dX2_evaluate_273 ?_
        refine lv_aload_n hx hb dX2_evaluate_276 rfl (lv_at hl 0 rfl) ?_
        refine va_get (D := (dC, dI)) (ci := 3) (v := .int (sI s34.2.1 1)) (C := RX2) (T := TX2) (N := 20) hx hb hts hi_dm_X2_evaluate_X2 hown hK hP 0 rfl rfl 4 (by decide) (hts (.fieldLink RX2 55 "TimeMachine$Condition" "top" "I") (List.mem_of_getElem? (i := 2) rfl)) (fun _ h9 => h9) rfl dX2_evaluate_277 ?_
        refine lv_iconst (v := 1) hx hb dX2_evaluate_280 (by decide) ?_
        refine lv_isub hx hb dX2_evaluate_281 ?_
        refine lv_aload_n hx hb dX2_evaluate_282 rfl (lv_at hl 0 rfl) ?_
        refine lv_iload hx hb dX2_evaluate_283 (lv_at hl 5 rfl) ?_
        refine lv_aload_n hx hb dX2_evaluate_285 rfl (lv_at hl 0 rfl) ?_
        refine va_get (D := (dC, dI)) (ci := 3) (v := .ref (a 3)) (C := RX2) (T := TX2) (N := 20) hx hb hts hi_dm_X2_evaluate_X2 hown hK hP 0 rfl rfl 3 (by decide) (hts (.fieldLink RX2 17 "TimeMachine$Condition" "stack" "[J") (List.mem_of_getElem? (i := 3) rfl)) (fun _ h9 => h9) rfl dX2_evaluate_286 ?_
        refine lv_aload_n hx hb dX2_evaluate_289 rfl (lv_at hl 0 rfl) ?_
        refine va_get (D := (dC, dI)) (ci := 3) (v := .int (sI s34.2.1 1)) (C := RX2) (T := TX2) (N := 20) hx hb hts hi_dm_X2_evaluate_X2 hown hK hP 0 rfl rfl 4 (by decide) (hts (.fieldLink RX2 55 "TimeMachine$Condition" "top" "I") (List.mem_of_getElem? (i := 2) rfl)) (fun _ h9 => h9) rfl dX2_evaluate_290 ?_
        refine lv_iconst (v := 1) hx hb dX2_evaluate_293 (by decide) ?_
        refine lv_isub hx hb dX2_evaluate_294 ?_
        obtain ⟨i35, h⟩ := nd_ck_e h
        refine va_lald (i := ((sI s34.2.1 1) - 1)) hx hb hK hP 3 2 rfl rfl i35 dX2_evaluate_295 ?_
        refine lv_aload_n hx hb dX2_evaluate_296 rfl (lv_at hl 0 rfl) ?_
        refine va_get (D := (dC, dI)) (ci := 3) (v := .ref (a 3)) (C := RX2) (T := TX2) (N := 20) hx hb hts hi_dm_X2_evaluate_X2 hown hK hP 0 rfl rfl 3 (by decide) (hts (.fieldLink RX2 17 "TimeMachine$Condition" "stack" "[J") (List.mem_of_getElem? (i := 3) rfl)) (fun _ h9 => h9) rfl dX2_evaluate_297 ?_
        refine lv_aload_n hx hb dX2_evaluate_300 rfl (lv_at hl 0 rfl) ?_
        refine va_get (D := (dC, dI)) (ci := 3) (v := .int (sI s34.2.1 1)) (C := RX2) (T := TX2) (N := 20) hx hb hts hi_dm_X2_evaluate_X2 hown hK hP 0 rfl rfl 4 (by decide) (hts (.fieldLink RX2 55 "TimeMachine$Condition" "top" "I") (List.mem_of_getElem? (i := 2) rfl)) (fun _ h9 => h9) rfl dX2_evaluate_301 ?_
        obtain ⟨i36, h⟩ := nd_ck_e h
        refine va_lald (i := (sI s34.2.1 1)) hx hb hK hP 3 2 rfl rfl i36 dX2_evaluate_304 ?_
        obtain ⟨q37, s38, hq, h⟩ := nd_b2_e h
        have hPc := dp_X2m_0 hP
        have hDc := dd_X2m_0 hD
        have hKc := dy_X2m_0 hK
        have hFc := nd_rs hDc hS hA
        have hzA : ∀ q : Nat, H.size ≤ q → A q := fun q h => hA q (Nat.le_trans hS.1 h)
        refine nd_cVl (As := [.int x6, .long (sQ s34.2.1 1 (Int32.toNatClampNeg ((sI s34.2.1 1) - 1))), .long (sQ s34.2.1 1 (Int32.toNatClampNeg (sI s34.2.1 1)))]) (rest := [.int ((sI s34.2.1 1) - 1), .ref (a 3)]) (q := q37) (w' := dw_X2c (fun k => a (k + 0)) (fun k => ac (k + 0)) s38) ⟨hx, hb, hml, hown, hts⟩ (fun sz => dm_X2_joined l hlt dC dI (fun k => a (k + 0)) (fun k => ac (k + 0)) n (x6) ((sQ s34.2.1 1 (Int32.toNatClampNeg ((sI s34.2.1 1) - 1)))) ((sQ s34.2.1 1 (Int32.toNatClampNeg (sI s34.2.1 1)))) s34.2.1 hq sz) (cwV 3 hts gi_dm_X2_evaluate_1 rfl rfl rfl (by decide +kernel) ⟨Nat.le_of_ble_eq_true rfl, Nat.le_of_ble_eq_true rfl⟩) hPc hDc hKc hS hA hN (va_recv hKc hPc (ci := 3) (q0 := 0) rfl rfl) rfl hl.1 rfl (Nat.le_of_ble_eq_true rfl) dX2_evaluate_305 (fun H locs hP1 hD1 hk1 hS => ?_)
        obtain ⟨hP, hD⟩ := dn_X2m_0 hP hD hzA hk1 hP1 hD1
        obtain ⟨s40, es40, h⟩ := nd_let_e h
        have hP : va_P (dC, dI) vwCl (dw_X2m a ac s40) H := by rw [es40]; exact hP
        have hD : va_D A (dw_X2m a ac s40) := by rw [es40]; exact hD
        obtain ⟨i41, h⟩ := nd_ck_e h
        refine va_last (i := ((sI s34.2.1 1) - 1)) (x := q37) hx hb hK hP hD hS 3 2 rfl rfl i41 dX2_evaluate_308 (fun H locs hP hD hS => ?_)
        obtain ⟨s42, es42, h⟩ := nd_let_e h
        have hP : va_P (dC, dI) vwCl (dw_X2m a ac s42) H := by rw [es42]; exact hP
        have hD : va_D A (dw_X2m a ac s42) := by rw [es42]; exact hD
        refine lv_goto (tgt := 349) hx hb dX2_evaluate_309 (by decide) ?_
        exact (db_X2_evaluate_349 C K J13) (x2) (x4) (x5) s42 _ _ _ h hP hD hS (lv_sub hl [0, 1, 2, 3, 4] rfl)
    · have h := nd_pos h c25
      exact (db_X2_evaluate_163 C K J13) (x2) (x4) (x5) (x6) s0 _ _ _ h hP hD hS (lv_sub hl [0, 1, 2, 3, 4, 5] rfl)
set_option maxHeartbeats 40000000 in
set_option maxRecDepth 100000 in
theorem db_X2_evaluate_71 {p : Program} {l : Launch} {e : Env} {s : State} {m : MethodId} {args : Array Value} {below : List Frame} {meth : Method} {c : Code} {Q : State → Prop} {A : Nat → Prop} {dC : Nat → ClassId} {dI : Nat → Nat → Nat} {a : Nat → Nat} {ac : Nat → ClassId} {n : Nat} {r : Int64 × (St × (St) × (St × (St)))} (C : nd_C p l s m args c A (dC, dI) cX2_evaluate 8 RX2 ow_dm_X2_evaluate (dk_X2m ac)) (K : nd_Kl p l e (headSpec ow_dm_X2_evaluate ({ frames := 3, cells := 0, slots := 0, locals := 75 })).room s m args below meth c Q A (dC, dI) cX2_evaluate (St × (St) × (St × (St))) (dw_X2m a ac) r) {g13 : Int32 → Int32 → Int32 → (St × (St) × (St × (St))) → Option (Int64 × (St × (St) × (St × (St))))} (J13 : dj_X2_evaluate_13 p l e s m args below meth c Q A dC dI a ac g13 r) : dj_X2_evaluate_71 p l e s m args below meth c Q A dC dI a ac (df_X2_evaluate_71 n g13) r := by
  obtain ⟨hlt, hx, hb, hml, hown, hts, hN, hA, hK⟩ := id C
  intro x2 x4 x5 x6 s0 H locs ls h hP hD hS hl
  unfold df_X2_evaluate_71 at h
  refine lv_iload hx hb dX2_evaluate_71 (lv_at hl 5 rfl) ?_
  refine lv_bipush (v := 23) hx hb dX2_evaluate_73 (by decide) ?_
  refine lv_icmp_ne (tgt := 118) hx hb dX2_evaluate_75 (by decide) (fun c9 => ?_) (fun c9 => ?_)
  · have h := nd_neg h c9
    refine lv_aload_n hx hb dX2_evaluate_118 rfl (lv_at hl 0 rfl) ?_
    refine va_get (D := (dC, dI)) (ci := 3) (v := .int (sI s0.2.1 1)) (C := RX2) (T := TX2) (N := 20) hx hb hts hi_dm_X2_evaluate_X2 hown hK hP 0 rfl rfl 4 (by decide) (hts (.fieldLink RX2 55 "TimeMachine$Condition" "top" "I") (List.mem_of_getElem? (i := 2) rfl)) (fun _ h9 => h9) rfl dX2_evaluate_119 ?_
    refine lv_iconst (v := 1) hx hb dX2_evaluate_122 (by decide) ?_
    refine lv_icmp_lt (tgt := 141) hx hb dX2_evaluate_123 (by decide) (fun c10 => ?_) (fun c10 => ?_)
    · have h := nd_pos h c10
      exact (db_X2_evaluate_141 C K J13) (x2) (x4) (x5) s0 _ _ _ h hP hD hS (lv_sub hl [0, 1, 2, 3, 4] rfl)
    · have h := nd_neg h c10
      refine lv_iload hx hb dX2_evaluate_126 (lv_at hl 5 rfl) ?_
      refine lv_bipush (v := 19) hx hb dX2_evaluate_128 (by decide) ?_
      refine lv_icmp_ge (tgt := 149) hx hb dX2_evaluate_130 (by decide) (fun c13 => ?_) (fun c13 => ?_)
      · have h := nd_pos h c13
        exact (db_X2_evaluate_149 C K J13) (x2) (x4) (x5) (x6) s0 _ _ _ h hP hD hS (lv_sub hl [0, 1, 2, 3, 4, 5] rfl)
      · have h := nd_neg h c13
        refine lv_aload_n hx hb dX2_evaluate_133 rfl (lv_at hl 0 rfl) ?_
        refine va_get (D := (dC, dI)) (ci := 3) (v := .int (sI s0.2.1 1)) (C := RX2) (T := TX2) (N := 20) hx hb hts hi_dm_X2_evaluate_X2 hown hK hP 0 rfl rfl 4 (by decide) (hts (.fieldLink RX2 55 "TimeMachine$Condition" "top" "I") (List.mem_of_getElem? (i := 2) rfl)) (fun _ h9 => h9) rfl dX2_evaluate_134 ?_
        refine lv_iconst (v := 2) hx hb dX2_evaluate_137 (by decide) ?_
        refine lv_icmp_ge (tgt := 149) hx hb dX2_evaluate_138 (by decide) (fun c43 => ?_) (fun c43 => ?_)
        · have h := nd_pos h c43
          exact (db_X2_evaluate_149 C K J13) (x2) (x4) (x5) (x6) s0 _ _ _ h hP hD hS (lv_sub hl [0, 1, 2, 3, 4, 5] rfl)
        · have h := nd_neg h c43
          exact (db_X2_evaluate_141 C K J13) (x2) (x4) (x5) s0 _ _ _ h hP hD hS (lv_sub hl [0, 1, 2, 3, 4] rfl)
  · have h := nd_pos h c9
    refine lv_aload_n hx hb dX2_evaluate_78 rfl (lv_at hl 0 rfl) ?_
    refine va_get (D := (dC, dI)) (ci := 3) (v := .ref (a 2)) (C := RX2) (T := TX2) (N := 20) hx hb hts hi_dm_X2_evaluate_X2 hown hK hP 0 rfl rfl 1 (by decide) (hts (.fieldLink RX2 13 "TimeMachine$Condition" "argument" "[J") (List.mem_of_getElem? (i := 5) rfl)) (fun _ h9 => h9) rfl dX2_evaluate_79 ?_
    refine lv_iload hx hb dX2_evaluate_82 (lv_at hl 4 rfl) ?_
    obtain ⟨i44, h⟩ := nd_ck_e h
    refine va_lald (i := x5) hx hb hK hP 2 1 rfl rfl i44 dX2_evaluate_84 ?_
    refine lv_l2i hx hb dX2_evaluate_85 rfl ?_
    refine lv_topi (fun z45 ez45 => ?_)
    have h := nd_at h ez45
    refine lv_istore (lv' := [(7, .int z45), (0, .ref (a 0)), (1, .ref (a 9)), (2, .int x2), (4, .int x4), (5, .int x5), (6, .int x6)]) hx hb dX2_evaluate_86 hl (by decide) rfl (fun ls hl => ?_)
    refine lv_aload_n hx hb dX2_evaluate_88 rfl (lv_at hl 1 rfl) ?_
    refine lv_aload_n hx hb dX2_evaluate_89 rfl (lv_at hl 1 rfl) ?_
    refine va_get (D := (dC, dI)) (ci := 3) (v := .ref (a 8)) (C := RX2) (T := TX2) (N := 20) hx hb hts hi_dm_X2_evaluate_X2 hown hK hP 0 rfl rfl 9 (by decide) (hts (.fieldLink RX2 32 "TimeMachine$Condition" "oldValue" "[J") (List.mem_of_getElem? (i := 17) rfl)) (fun _ h9 => h9) rfl dX2_evaluate_90 ?_
    refine lv_iload hx hb dX2_evaluate_93 (lv_at hl 0 rfl) ?_
    obtain ⟨i46, h⟩ := nd_ck_e h
    refine va_lald (i := z45) hx hb hK hP 8 7 rfl rfl i46 dX2_evaluate_95 ?_
    obtain ⟨s48, hq, h⟩ := nd_b1_e h
    have hPc := dp_X2m_0 hP
    have hDc := dd_X2m_0 hD
    have hKc := dy_X2m_0 hK
    have hFc := nd_rs hDc hS hA
    have hzA : ∀ q : Nat, H.size ≤ q → A q := fun q h => hA q (Nat.le_trans hS.1 h)
    refine nd_cVv (As := [.long (sQ s0.2.1 2 (Int32.toNatClampNeg z45))]) (rest := []) (w' := dw_X2c (fun k => a (k + 0)) (fun k => ac (k + 0)) s48) ⟨hx, hb, hml, hown, hts⟩ (fun sz => dm_X2_put l hlt dC dI (fun k => a (k + 0)) (fun k => ac (k + 0)) n ((sQ s0.2.1 2 (Int32.toNatClampNeg z45))) s0.2.1 hq sz) (cwV 1 hts gi_dm_X2_evaluate_2 rfl rfl rfl (by decide +kernel) ⟨Nat.le_of_ble_eq_true rfl, Nat.le_of_ble_eq_true rfl⟩) hPc hDc hKc hS hA hN (va_recv hKc hPc (ci := 3) (q0 := 0) rfl rfl) rfl hl.1 rfl (Nat.le_of_ble_eq_true rfl) dX2_evaluate_96 (fun H locs hP1 hD1 hk1 hS => ?_)
    obtain ⟨hP, hD⟩ := dn_X2m_0 hP hD hzA hk1 hP1 hD1
    obtain ⟨s50, es50, h⟩ := nd_let_e h
    have hP : va_P (dC, dI) vwCl (dw_X2m a ac s50) H := by rw [es50]; exact hP
    have hD : va_D A (dw_X2m a ac s50) := by rw [es50]; exact hD
    refine lv_iload hx hb dX2_evaluate_99 (lv_at hl 5 rfl) ?_
    refine lv_aload_n hx hb dX2_evaluate_101 rfl (lv_at hl 1 rfl) ?_
    refine va_get (D := (dC, dI)) (ci := 3) (v := .ref (a 7)) (C := RX2) (T := TX2) (N := 20) hx hb hts hi_dm_X2_evaluate_X2 hown hK hP 0 rfl rfl 8 (by decide) (hts (.fieldLink RX2 29 "TimeMachine$Condition" "oldTo" "[I") (List.mem_of_getElem? (i := 21) rfl)) (fun _ h9 => h9) rfl dX2_evaluate_102 ?_
    refine lv_iload hx hb dX2_evaluate_105 (lv_at hl 0 rfl) ?_
    obtain ⟨i51, h⟩ := nd_ck_e h
    refine va_iald (i := z45) hx hb hK hP 7 6 rfl rfl i51 dX2_evaluate_107 ?_
    refine lv_iconst (v := 1) hx hb dX2_evaluate_108 (by decide) ?_
    refine lv_isub hx hb dX2_evaluate_109 ?_
    refine va_mmax hx hb (by rw [hml]; exact hl.1.symm) hown (hts (.methodLink RX2 211 Lib.Math.max.name) (List.mem_of_getElem? (i := 6) rfl)) (hts (.static Lib.Math.max.name) (List.mem_of_getElem? (i := 7) rfl)) (hts (.initialized "java/lang/Math") (List.mem_of_getElem? (i := 8) rfl)) (hts (.code Lib.Math.max.name Lib.Math.max.code 2 (some .int)) (List.mem_of_getElem? (i := 9) rfl)) (Nat.le_of_ble_eq_true rfl) (Nat.le_of_ble_eq_true rfl) (by decide +kernel) (by decide +kernel) dX2_evaluate_110 ?_
    refine lv_topi (fun z52 ez52 => ?_)
    have h := nd_at h ez52
    refine lv_istore (lv' := [(5, .int z52), (7, .int z45), (0, .ref (a 0)), (1, .ref (a 9)), (2, .int x2), (4, .int x4), (6, .int x6)]) hx hb dX2_evaluate_113 hl (by decide) rfl (fun ls hl => ?_)
    refine lv_goto (tgt := 349) hx hb dX2_evaluate_115 (by decide) ?_
    exact (db_X2_evaluate_349 C K J13) (x2) (x4) (z52) s50 _ _ _ h hP hD hS (lv_sub hl [2, 3, 4, 5, 0] rfl)
set_option maxHeartbeats 40000000 in
set_option maxRecDepth 100000 in
theorem dB_X2_evaluate_13 {p : Program} {l : Launch} {e : Env} {s : State} {m : MethodId} {args : Array Value} {below : List Frame} {meth : Method} {c : Code} {Q : State → Prop} {A : Nat → Prop} {dC : Nat → ClassId} {dI : Nat → Nat → Nat} {a : Nat → Nat} {ac : Nat → ClassId} {n : Nat} {r : Int64 × (St × (St) × (St × (St)))} (C : nd_C p l s m args c A (dC, dI) cX2_evaluate 8 RX2 ow_dm_X2_evaluate (dk_X2m ac)) (K : nd_Kl p l e (headSpec ow_dm_X2_evaluate ({ frames := 3, cells := 0, slots := 0, locals := 75 })).room s m args below meth c Q A (dC, dI) cX2_evaluate (St × (St) × (St × (St))) (dw_X2m a ac) r) {g13 : Int32 → Int32 → Int32 → (St × (St) × (St × (St))) → Option (Int64 × (St × (St) × (St × (St))))} (J13 : dj_X2_evaluate_13 p l e s m args below meth c Q A dC dI a ac g13 r) : dj_X2_evaluate_13 p l e s m args below meth c Q A dC dI a ac (dF_X2_evaluate_13 n g13) r := by
  obtain ⟨hlt, hx, hb, hml, hown, hts, hN, hA, hK⟩ := id C
  intro x2 x4 x5 s0 H locs ls h hP hD hS hl
  unfold dF_X2_evaluate_13 at h
  refine lv_iload hx hb dX2_evaluate_13 (lv_at hl 4 rfl) ?_
  refine lv_iload hx hb dX2_evaluate_15 (lv_at hl 3 rfl) ?_
  refine lv_icmp_ge (tgt := 355) hx hb dX2_evaluate_17 (by decide) (fun c3 => ?_) (fun c3 => ?_)
  · have h := nd_pos h c3
    exact (db_X2_evaluate_355 C K)  s0 _ _ _ h hP hD hS (lv_sub hl [0] rfl)
  · have h := nd_neg h c3
    refine lv_aload_n hx hb dX2_evaluate_20 rfl (lv_at hl 0 rfl) ?_
    refine va_get (D := (dC, dI)) (ci := 3) (v := .int (sI s0.2.1 3)) (C := RX2) (T := TX2) (N := 20) hx hb hts hi_dm_X2_evaluate_X2 hown hK hP 0 rfl rfl 11 (by decide) (hts (.fieldLink RX2 199 "TimeMachine$Condition" "failed" "Z") (List.mem_of_getElem? (i := 1) rfl)) (fun _ h9 => h9) rfl dX2_evaluate_21 ?_
    refine lv_if_ne (tgt := 355) hx hb dX2_evaluate_24 (by decide) (fun c5 => ?_) (fun c5 => ?_)
    · have h := nd_neg h c5
      exact (db_X2_evaluate_355 C K)  s0 _ _ _ h hP hD hS (lv_sub hl [0] rfl)
    · have h := nd_pos h c5
      refine lv_aload_n hx hb dX2_evaluate_27 rfl (lv_at hl 0 rfl) ?_
      refine va_get (D := (dC, dI)) (ci := 3) (v := .ref (a 1)) (C := RX2) (T := TX2) (N := 20) hx hb hts hi_dm_X2_evaluate_X2 hown hK hP 0 rfl rfl 0 (by decide) (hts (.fieldLink RX2 9 "TimeMachine$Condition" "code" "[I") (List.mem_of_getElem? (i := 4) rfl)) (fun _ h9 => h9) rfl dX2_evaluate_28 ?_
      refine lv_iload hx hb dX2_evaluate_31 (lv_at hl 4 rfl) ?_
      obtain ⟨i6, h⟩ := nd_ck_e h
      refine va_iald (i := x5) hx hb hK hP 1 0 rfl rfl i6 dX2_evaluate_33 ?_
      refine lv_topi (fun z7 ez7 => ?_)
      have h := nd_at h ez7
      refine lv_istore (lv' := [(6, .int z7), (0, .ref (a 0)), (1, .ref (a 9)), (2, .int x2), (4, .int x4), (5, .int x5)]) hx hb dX2_evaluate_34 hl (by decide) rfl (fun ls hl => ?_)
      refine lv_iload hx hb dX2_evaluate_36 (lv_at hl 0 rfl) ?_
      refine lv_bipush (v := 30) hx hb dX2_evaluate_38 (by decide) ?_
      refine lv_icmp_lt (tgt := 71) hx hb dX2_evaluate_40 (by decide) (fun c8 => ?_) (fun c8 => ?_)
      · have h := nd_pos h c8
        exact (db_X2_evaluate_71 C K J13) (x2) (x4) (x5) (z7) s0 _ _ _ h hP hD hS (lv_sub hl [1, 2, 3, 4, 5, 0] rfl)
      · have h := nd_neg h c8
        refine lv_iload hx hb dX2_evaluate_43 (lv_at hl 0 rfl) ?_
        refine lv_bipush (v := 33) hx hb dX2_evaluate_45 (by decide) ?_
        refine lv_icmp_gt (tgt := 71) hx hb dX2_evaluate_47 (by decide) (fun c53 => ?_) (fun c53 => ?_)
        · have h := nd_pos h c53
          exact (db_X2_evaluate_71 C K J13) (x2) (x4) (x5) (z7) s0 _ _ _ h hP hD hS (lv_sub hl [1, 2, 3, 4, 5, 0] rfl)
        · have h := nd_neg h c53
          refine lv_aload_n hx hb dX2_evaluate_50 rfl (lv_at hl 1 rfl) ?_
          refine lv_aload_n hx hb dX2_evaluate_51 rfl (lv_at hl 2 rfl) ?_
          refine lv_iload_n hx hb dX2_evaluate_52 rfl (lv_at hl 3 rfl) ?_
          refine lv_iload hx hb dX2_evaluate_53 (lv_at hl 0 rfl) ?_
          refine lv_aload_n hx hb dX2_evaluate_55 rfl (lv_at hl 1 rfl) ?_
          refine va_get (D := (dC, dI)) (ci := 3) (v := .ref (a 2)) (C := RX2) (T := TX2) (N := 20) hx hb hts hi_dm_X2_evaluate_X2 hown hK hP 0 rfl rfl 1 (by decide) (hts (.fieldLink RX2 13 "TimeMachine$Condition" "argument" "[J") (List.mem_of_getElem? (i := 5) rfl)) (fun _ h9 => h9) rfl dX2_evaluate_56 ?_
          refine lv_iload hx hb dX2_evaluate_59 (lv_at hl 5 rfl) ?_
          obtain ⟨i54, h⟩ := nd_ck_e h
          refine va_lald (i := x5) hx hb hK hP 2 1 rfl rfl i54 dX2_evaluate_61 ?_
          obtain ⟨q55, s56, hq, h⟩ := nd_b2_e h
          have hPc := dp_X2m_9 hP
          have hDc := dd_X2m_9 hD
          have hKc := dy_X2m_9 hK
          have hFc := nd_rs hDc hS hA
          have hzA : ∀ q : Nat, H.size ≤ q → A q := fun q h => hA q (Nat.le_trans hS.1 h)
          refine nd_cSl (As := [.ref (a 9), .int x2, .int z7, .long (sQ s0.2.1 0 (Int32.toNatClampNeg x5))]) (rest := [.ref (a 0)]) (q := q55) (w' := dw_X6 (fun k => a (k + 9)) (fun k => ac (k + 9)) s56) ⟨hx, hb, hml, hown, hts⟩ (fun sz => dm_X2_operand l hlt dC dI (fun k => a (k + 9)) (fun k => ac (k + 9)) n (x2) (z7) ((sQ s0.2.1 0 (Int32.toNatClampNeg x5))) s0.2.2 hq sz) (cwS 4 hts gi_dm_X2_evaluate_3 rfl rfl rfl (by decide +kernel) ⟨Nat.le_of_ble_eq_true rfl, Nat.le_of_ble_eq_true rfl⟩) hPc hDc hKc hS hA hN rfl hl.1 rfl (Nat.le_of_ble_eq_true rfl) dX2_evaluate_62 (fun H locs hP1 hD1 hk1 hS => ?_)
          obtain ⟨hP, hD⟩ := dn_X2m_9 hP hD hzA hk1 hP1 hD1
          obtain ⟨s58, es58, h⟩ := nd_let_e h
          have hP : va_P (dC, dI) vwCl (dw_X2m a ac s58) H := by rw [es58]; exact hP
          have hD : va_D A (dw_X2m a ac s58) := by rw [es58]; exact hD
          obtain ⟨s60, hq, h⟩ := nd_b1_e h
          have hPc := dp_X2m_0 hP
          have hDc := dd_X2m_0 hD
          have hKc := dy_X2m_0 hK
          have hFc := nd_rs hDc hS hA
          have hzA : ∀ q : Nat, H.size ≤ q → A q := fun q h => hA q (Nat.le_trans hS.1 h)
          refine nd_cVv (As := [.long q55]) (rest := []) (w' := dw_X2c (fun k => a (k + 0)) (fun k => ac (k + 0)) s60) ⟨hx, hb, hml, hown, hts⟩ (fun sz => dm_X2_put l hlt dC dI (fun k => a (k + 0)) (fun k => ac (k + 0)) n (q55) s58.2.1 hq sz) (cwV 1 hts gi_dm_X2_evaluate_2 rfl rfl rfl (by decide +kernel) ⟨Nat.le_of_ble_eq_true rfl, Nat.le_of_ble_eq_true rfl⟩) hPc hDc hKc hS hA hN (va_recv hKc hPc (ci := 3) (q0 := 0) rfl rfl) rfl hl.1 rfl (Nat.le_of_ble_eq_true rfl) dX2_evaluate_65 (fun H locs hP1 hD1 hk1 hS => ?_)
          obtain ⟨hP, hD⟩ := dn_X2m_0 hP hD hzA hk1 hP1 hD1
          obtain ⟨s62, es62, h⟩ := nd_let_e h
          have hP : va_P (dC, dI) vwCl (dw_X2m a ac s62) H := by rw [es62]; exact hP
          have hD : va_D A (dw_X2m a ac s62) := by rw [es62]; exact hD
          refine lv_goto (tgt := 349) hx hb dX2_evaluate_68 (by decide) ?_
          exact (db_X2_evaluate_349 C K J13) (x2) (x4) (x5) s62 _ _ _ h hP hD hS (lv_sub hl [1, 2, 3, 4, 5] rfl)
set_option maxHeartbeats 40000000 in
set_option maxRecDepth 100000 in
theorem db_X2_evaluate_13 {p : Program} {l : Launch} {e : Env} {s : State} {m : MethodId} {args : Array Value} {below : List Frame} {meth : Method} {c : Code} {Q : State → Prop} {A : Nat → Prop} {dC : Nat → ClassId} {dI : Nat → Nat → Nat} {a : Nat → Nat} {ac : Nat → ClassId} {n : Nat} {r : Int64 × (St × (St) × (St × (St)))} (C : nd_C p l s m args c A (dC, dI) cX2_evaluate 8 RX2 ow_dm_X2_evaluate (dk_X2m ac)) (K : nd_Kl p l e (headSpec ow_dm_X2_evaluate ({ frames := 3, cells := 0, slots := 0, locals := 75 })).room s m args below meth c Q A (dC, dI) cX2_evaluate (St × (St) × (St × (St))) (dw_X2m a ac) r) (k : Nat) : dj_X2_evaluate_13 p l e s m args below meth c Q A dC dI a ac (df_X2_evaluate_13 n k) r := by
  induction k with
  | zero => intro x2 x4 x5 s0 H locs ls h; exact nomatch (show (none : Option (Int64 × (St × (St) × (St × (St))))) = some r from h)
  | succ k ih => exact dB_X2_evaluate_13 C K ih
set_option maxHeartbeats 40000000 in
set_option maxRecDepth 100000 in
theorem db_X2_evaluate_0 {p : Program} {l : Launch} {e : Env} {s : State} {m : MethodId} {args : Array Value} {below : List Frame} {meth : Method} {c : Code} {Q : State → Prop} {A : Nat → Prop} {dC : Nat → ClassId} {dI : Nat → Nat → Nat} {a : Nat → Nat} {ac : Nat → ClassId} {n : Nat} {r : Int64 × (St × (St) × (St × (St)))} (C : nd_C p l s m args c A (dC, dI) cX2_evaluate 8 RX2 ow_dm_X2_evaluate (dk_X2m ac)) (K : nd_Kl p l e (headSpec ow_dm_X2_evaluate ({ frames := 3, cells := 0, slots := 0, locals := 75 })).room s m args below meth c Q A (dC, dI) cX2_evaluate (St × (St) × (St × (St))) (dw_X2m a ac) r) : dj_X2_evaluate_0 p l e s m args below meth c Q A dC dI a ac (df_X2_evaluate_0 n) r := by
  obtain ⟨hlt, hx, hb, hml, hown, hts, hN, hA, hK⟩ := id C
  intro v1 v2 v3 s0 H locs ls h hP hD hS hl
  unfold df_X2_evaluate_0 at h
  refine lv_aload_n hx hb dX2_evaluate_0 rfl (lv_at hl 0 rfl) ?_
  refine lv_iconst (v := 0) hx hb dX2_evaluate_1 (by decide) ?_
  refine va_put (D := (dC, dI)) (ci := 3) (v := .int 0) (ty := .boolean) (C := RX2) (T := TX2) (N := 20) hx hb hts hi_dm_X2_evaluate_X2 tyX2 tyX2_ok nmX2 hown hK hP hD hS 0 rfl rfl 11 (by decide) (hts (.fieldLink RX2 199 "TimeMachine$Condition" "failed" "Z") (List.mem_of_getElem? (i := 1) rfl)) (fun _ h9 => h9) rfl (by decide +kernel) (by first | rfl | decide) rfl (Nat.le_of_ble_eq_true rfl) dX2_evaluate_2 (fun H locs hP hD hS => ?_)
  obtain ⟨s1, es1, h⟩ := nd_let_e h
  have hP : va_P (dC, dI) vwCl (dw_X2m a ac s1) H := by rw [es1]; exact hP
  have hD : va_D A (dw_X2m a ac s1) := by rw [es1]; exact hD
  refine lv_aload_n hx hb dX2_evaluate_5 rfl (lv_at hl 0 rfl) ?_
  refine lv_iconst (v := 0) hx hb dX2_evaluate_6 (by decide) ?_
  refine va_put (D := (dC, dI)) (ci := 3) (v := .int 0) (ty := .int) (C := RX2) (T := TX2) (N := 20) hx hb hts hi_dm_X2_evaluate_X2 tyX2 tyX2_ok nmX2 hown hK hP hD hS 0 rfl rfl 4 (by decide) (hts (.fieldLink RX2 55 "TimeMachine$Condition" "top" "I") (List.mem_of_getElem? (i := 2) rfl)) (fun _ h9 => h9) rfl (by decide +kernel) rfl rfl (Nat.le_of_ble_eq_true rfl) dX2_evaluate_7 (fun H locs hP hD hS => ?_)
  obtain ⟨s2, es2, h⟩ := nd_let_e h
  have hP : va_P (dC, dI) vwCl (dw_X2m a ac s2) H := by rw [es2]; exact hP
  have hD : va_D A (dw_X2m a ac s2) := by rw [es2]; exact hD
  refine lv_iload_n hx hb dX2_evaluate_10 rfl (lv_at hl 3 rfl) ?_
  refine lv_istore (lv' := [(5, .int v2), (0, .ref (a 0)), (1, .ref (a 9)), (2, .int v1), (3, .int v2), (4, .int v3)]) hx hb dX2_evaluate_11 hl (by decide) rfl (fun ls hl => ?_)
  exact (db_X2_evaluate_13 C K n) (v1) (v3) (v2) s2 _ _ _ h hP hD hS (lv_sub hl [1, 2, 3, 5, 0] rfl)
set_option maxHeartbeats 40000000 in
set_option maxRecDepth 100000 in
theorem dm_X2_evaluate (l : Launch) (hlt : l.stackTraces = false) (dC : Nat → ClassId) (dI : Nat → Nat → Nat) (a : Nat → Nat) (ac : Nat → ClassId) (n : Nat) (v1 : Int32) (v2 : Int32) (v3 : Int32) (s0 : St × (St) × (St × (St))) {r : Int64 × (St × (St) × (St × (St)))} (h : df_X2_evaluate n v1 v2 v3 s0 = some r) (sz : Nat) : Met l yX2_evaluate ow_dm_X2_evaluate ({ frames := 3, cells := 0, slots := 0, locals := 75 }) (va_Pc [.ref (a 0), .ref (a 9), .int v1, .int v2, .int v3] (fun U => U.heap.size = sz ∧ va_P (dC, dI) vwCl (dw_X2m a ac s0) U.heap ∧ va_K (dC, dI) vwCl (dk_X2m ac) U ∧ va_D (fun _ => True) (dw_X2m a ac s0) ∧ nv_E (va_A (dw_X2m a ac s0) sz) U)) (va_Ql (fun x _ => x = r.1) (fun (_ : Unit) t => va_P (dC, dI) vwCl (dw_X2m a ac r.2) t.heap ∧ va_K (dC, dI) vwCl (dk_X2m ac) t ∧ va_D (va_A (dw_X2m a ac s0) sz) (dw_X2m a ac r.2)) (va_A (dw_X2m a ac s0) sz)) 0 0 (va_A (dw_X2m a ac s0) sz) := by
  refine Met.ofW (cc := cX2_evaluate) (maxL := 8) (ret := (some .long)) (by decide) rfl ?_
  intro p e s m args below meth c s₁ B hml hv
  obtain ⟨rfl, hsz, hP, hK, hD0, hN⟩ := hv
  have hx := B.exec
  have hb := B.bytes
  have hr := B.returns
  have hts := atoms_spec (ws := ow_dm_X2_evaluate) B.pre
  have hown : s.vm.findClass RX2 = some m.cls := findClass_of_methodNamed B.named
  have hlocks := B.notSynchronized
  subst hsz
  have hD := hD0.self (sz := s.heap.size)
  generalize hAe : va_A (dw_X2m a ac s0) s.heap.size = A at hD hN ⊢
  have hA : ∀ q : Nat, s.heap.size ≤ q → A q := fun q h => by rw [← hAe]; exact Or.inr h
  have hl := lv_entry ([.ref (a 0), .ref (a 9), .int v1, .int v2, .int v3]) (n := 8) (Nat.le_of_ble_eq_true rfl)
  rw [lg_entry_eq]
  generalize (lg_sl ([.ref (a 0), .ref (a 9), .int v1, .int v2, .int v3]) ++ List.replicate (8 - (lg_sl ([.ref (a 0), .ref (a 9), .int v1, .int v2, .int v3])).length) Slot.unset).toArray = ls at hl ⊢
  have hl : lv_has ls 8 [(0, .ref (a 0)), (1, .ref (a 9)), (2, .int v1), (3, .int v2), (4, .int v3)] := hl
  exact db_X2_evaluate_0 (dC := dC) (dI := dI) (a := a) (ac := ac) (n := n) (r := r) ⟨hlt, hx, hb, hml, hown, hts, hN, hA, hK⟩ (fun pc v τ H locs ls d er hP hD hS => by subst er; exact W.lret (v := v) hx hb hr (fun t ht hW => ⟨⟨v, (), rfl, rfl, by rw [ht]; exact hP, va_K.moved hW.alike hK, hD⟩, hS.F ht⟩) hS.2.2 d) v1 v2 v3 s0 _ _ _ h hP hD va_S.rf (lv_sub hl [0, 1, 2, 3, 4] rfl)
def ow_dm_X2_worth : List Cond := .code yX2_worth cX2_worth 5 (some .long) :: ([.fieldLink RX2 52 "TimeMachine$Condition" "codes" "I", .methodLink RX2 195 yX2_evaluate, .instanceMethod yX2_evaluate, .selects RX2 yX2_evaluate yX2_evaluate, .initialized RX2, .fieldLink RX2 199 "TimeMachine$Condition" "failed" "Z"] ++ (u_ws RX2 TX2 20 ++ (ow_dm_X2_evaluate ++ [])))
theorem gd_dm_X2_worth : ∀ w ∈ ow_dm_X2_worth, (w.onTables && w.keeps) = true ∨ ∃ ty, w = Cond.arrayClass ty := List.forall_mem_cons.mpr ⟨good_of_word rfl, List.forall_mem_append.mpr ⟨fun w h => good_of_word (List.all_eq_true.mp (by decide +kernel) w h), List.forall_mem_append.mpr ⟨gu_X2, List.forall_mem_append.mpr ⟨gd_dm_X2_evaluate, fun _ h => nomatch h⟩⟩⟩⟩
theorem hi_dm_X2_worth_X2 : ∀ w ∈ u_ws RX2 TX2 20, w ∈ ow_dm_X2_worth := fun w h => List.mem_cons_of_mem _ (List.mem_append_right _ (List.mem_append_left _ h))
theorem gi_dm_X2_worth_0 : GoodIn ow_dm_X2_worth (wsV RX2 195 RX2 yX2_evaluate ow_dm_X2_evaluate) := goodIn_app (goodIn_of _ (by decide +kernel)) (fun w h => ⟨List.mem_cons_of_mem _ (List.mem_append_right _ (List.mem_append_right _ (List.mem_append_left _ h))), gd_dm_X2_evaluate w h⟩)
def dj_X2_worth_24 (p : Program) (l : Launch) (e : Env) (s : State) (m : MethodId) (args : Array Value) (below : List Frame) (meth : Method) (c : Code) (Q : State → Prop) (A : Nat → Prop) (dC : Nat → ClassId) (dI : Nat → Nat → Nat) (a : Nat → Nat) (ac : Nat → ClassId) (g : Int64 → (St × (St) × (St × (St))) → Option (Int64 × (St × (St) × (St × (St))))) (r : Int64 × (St × (St) × (St × (St)))) : Prop := ∀ (y0 : Int64) (s0 : St × (St) × (St × (St))) (H : Heap) (locs : List Loc) (ls : Array Slot), g y0 s0 = some r → va_P (dC, dI) vwCl (dw_X2m a ac s0) H → va_D A (dw_X2m a ac s0) → va_S A s.heap H locs → lv_has ls 5 [] → W p l e (headSpec ow_dm_X2_worth ({ frames := 4, cells := 0, slots := 0, locals := 102 })).room s m args below meth c H locs 0 0 Q (F0 m 24 ls [.long y0])
def dj_X2_worth_0 (p : Program) (l : Launch) (e : Env) (s : State) (m : MethodId) (args : Array Value) (below : List Frame) (meth : Method) (c : Code) (Q : State → Prop) (A : Nat → Prop) (dC : Nat → ClassId) (dI : Nat → Nat → Nat) (a : Nat → Nat) (ac : Nat → ClassId) (g : Int32 → (St × (St) × (St × (St))) → Option (Int64 × (St × (St) × (St × (St))))) (r : Int64 × (St × (St) × (St × (St)))) : Prop := ∀ (v1 : Int32) (s0 : St × (St) × (St × (St))) (H : Heap) (locs : List Loc) (ls : Array Slot), g v1 s0 = some r → va_P (dC, dI) vwCl (dw_X2m a ac s0) H → va_D A (dw_X2m a ac s0) → va_S A s.heap H locs → lv_has ls 5 [(0, .ref (a 0)), (1, .ref (a 9)), (2, .int v1)] → W p l e (headSpec ow_dm_X2_worth ({ frames := 4, cells := 0, slots := 0, locals := 102 })).room s m args below meth c H locs 0 0 Q (F0 m 0 ls [])
set_option maxHeartbeats 40000000 in
set_option maxRecDepth 100000 in
theorem db_X2_worth_24 {p : Program} {l : Launch} {e : Env} {s : State} {m : MethodId} {args : Array Value} {below : List Frame} {meth : Method} {c : Code} {Q : State → Prop} {A : Nat → Prop} {dC : Nat → ClassId} {dI : Nat → Nat → Nat} {a : Nat → Nat} {ac : Nat → ClassId} {n : Nat} {r : Int64 × (St × (St) × (St × (St)))} (C : nd_C p l s m args c A (dC, dI) cX2_worth 5 RX2 ow_dm_X2_worth (dk_X2m ac)) (K : nd_Kl p l e (headSpec ow_dm_X2_worth ({ frames := 4, cells := 0, slots := 0, locals := 102 })).room s m args below meth c Q A (dC, dI) cX2_worth (St × (St) × (St × (St))) (dw_X2m a ac) r) : dj_X2_worth_24 p l e s m args below meth c Q A dC dI a ac (df_X2_worth_24 n) r := by
  obtain ⟨hlt, hx, hb, hml, hown, hts, hN, hA, hK⟩ := id C
  intro y0 s0 H locs ls h hP hD hS hl
  unfold df_X2_worth_24 at h
  exact K _ _ _ _ _ _ dX2_worth_24 (Option.some.inj h).symm hP hD hS
set_option maxHeartbeats 40000000 in
set_option maxRecDepth 100000 in
theorem db_X2_worth_0 {p : Program} {l : Launch} {e : Env} {s : State} {m : MethodId} {args : Array Value} {below : List Frame} {meth : Method} {c : Code} {Q : State → Prop} {A : Nat → Prop} {dC : Nat → ClassId} {dI : Nat → Nat → Nat} {a : Nat → Nat} {ac : Nat → ClassId} {n : Nat} {r : Int64 × (St × (St) × (St × (St)))} (C : nd_C p l s m args c A (dC, dI) cX2_worth 5 RX2 ow_dm_X2_worth (dk_X2m ac)) (K : nd_Kl p l e (headSpec ow_dm_X2_worth ({ frames := 4, cells := 0, slots := 0, locals := 102 })).room s m args below meth c Q A (dC, dI) cX2_worth (St × (St) × (St × (St))) (dw_X2m a ac) r) : dj_X2_worth_0 p l e s m args below meth c Q A dC dI a ac (df_X2_worth_0 n) r := by
  obtain ⟨hlt, hx, hb, hml, hown, hts, hN, hA, hK⟩ := id C
  intro v1 s0 H locs ls h hP hD hS hl
  unfold df_X2_worth_0 at h
  refine lv_aload_n hx hb dX2_worth_0 rfl (lv_at hl 0 rfl) ?_
  refine lv_aload_n hx hb dX2_worth_1 rfl (lv_at hl 1 rfl) ?_
  refine lv_iload_n hx hb dX2_worth_2 rfl (lv_at hl 2 rfl) ?_
  refine lv_iconst (v := 0) hx hb dX2_worth_3 (by decide) ?_
  refine lv_aload_n hx hb dX2_worth_4 rfl (lv_at hl 0 rfl) ?_
  refine va_get (D := (dC, dI)) (ci := 3) (v := .int (sI s0.2.1 0)) (C := RX2) (T := TX2) (N := 20) hx hb hts hi_dm_X2_worth_X2 hown hK hP 0 rfl rfl 2 (by decide) (hts (.fieldLink RX2 52 "TimeMachine$Condition" "codes" "I") (List.mem_of_getElem? (i := 1) rfl)) (fun _ h9 => h9) rfl dX2_worth_5 ?_
  obtain ⟨q1, s2, hq, h⟩ := nd_b2_e h
  have hPc := hP
  have hDc := hD
  have hKc := hK
  have hFc := nd_rs hD hS hA
  refine nd_cVl (As := [.ref (a 9), .int v1, .int 0, .int (sI s0.2.1 0)]) (rest := []) (q := q1) (w' := dw_X2m a ac s2) ⟨hx, hb, hml, hown, hts⟩ (fun sz => dm_X2_evaluate l hlt dC dI a ac n (v1) (0) ((sI s0.2.1 0)) s0 hq sz) (cwV 4 hts gi_dm_X2_worth_0 rfl rfl rfl (by decide +kernel) ⟨Nat.le_of_ble_eq_true rfl, Nat.le_of_ble_eq_true rfl⟩) hPc hDc hKc hS hA hN (va_recv hKc hPc (ci := 3) (q0 := 0) rfl rfl) rfl hl.1 rfl (Nat.le_of_ble_eq_true rfl) dX2_worth_8 (fun H locs hP1 hD1 hk1 hS => ?_)
  have hP := hP1
  have hD := hD1.weaken (fun k q _ h => hFc q.1 h)
  refine lv_lstore_n (lv' := [(3, .long q1), (0, .ref (a 0)), (1, .ref (a 9)), (2, .int v1)]) hx hb dX2_worth_11 rfl hl (by decide) rfl (fun ls hl => ?_)
  refine lv_aload_n hx hb dX2_worth_12 rfl (lv_at hl 1 rfl) ?_
  refine va_get (D := (dC, dI)) (ci := 3) (v := .int (sI s2.2.1 3)) (C := RX2) (T := TX2) (N := 20) hx hb hts hi_dm_X2_worth_X2 hown hK hP 0 rfl rfl 11 (by decide) (hts (.fieldLink RX2 199 "TimeMachine$Condition" "failed" "Z") (List.mem_of_getElem? (i := 6) rfl)) (fun _ h9 => h9) rfl dX2_worth_13 ?_
  refine lv_if_eq (tgt := 23) hx hb dX2_worth_16 (by decide) (fun c4 => ?_) (fun c4 => ?_)
  · have h := nd_pos h c4
    refine lv_lload_n hx hb dX2_worth_23 rfl (lv_at hl 0 rfl) ?_
    exact (db_X2_worth_24 C K) (q1) s2 _ _ _ h hP hD hS (lv_sub hl [] rfl)
  · have h := nd_neg h c4
    refine lv_lconst (v := 0) hx hb dX2_worth_19 (by decide) ?_
    refine lv_goto (tgt := 24) hx hb dX2_worth_20 (by decide) ?_
    exact (db_X2_worth_24 C K) (0) s2 _ _ _ h hP hD hS (lv_sub hl [] rfl)
set_option maxHeartbeats 40000000 in
set_option maxRecDepth 100000 in
theorem dm_X2_worth (l : Launch) (hlt : l.stackTraces = false) (dC : Nat → ClassId) (dI : Nat → Nat → Nat) (a : Nat → Nat) (ac : Nat → ClassId) (n : Nat) (v1 : Int32) (s0 : St × (St) × (St × (St))) {r : Int64 × (St × (St) × (St × (St)))} (h : df_X2_worth n v1 s0 = some r) (sz : Nat) : Met l yX2_worth ow_dm_X2_worth ({ frames := 4, cells := 0, slots := 0, locals := 102 }) (va_Pc [.ref (a 0), .ref (a 9), .int v1] (fun U => U.heap.size = sz ∧ va_P (dC, dI) vwCl (dw_X2m a ac s0) U.heap ∧ va_K (dC, dI) vwCl (dk_X2m ac) U ∧ va_D (fun _ => True) (dw_X2m a ac s0) ∧ nv_E (va_A (dw_X2m a ac s0) sz) U)) (va_Ql (fun x _ => x = r.1) (fun (_ : Unit) t => va_P (dC, dI) vwCl (dw_X2m a ac r.2) t.heap ∧ va_K (dC, dI) vwCl (dk_X2m ac) t ∧ va_D (va_A (dw_X2m a ac s0) sz) (dw_X2m a ac r.2)) (va_A (dw_X2m a ac s0) sz)) 0 0 (va_A (dw_X2m a ac s0) sz) := by
  refine Met.ofW (cc := cX2_worth) (maxL := 5) (ret := (some .long)) (by decide) rfl ?_
  intro p e s m args below meth c s₁ B hml hv
  obtain ⟨rfl, hsz, hP, hK, hD0, hN⟩ := hv
  have hx := B.exec
  have hb := B.bytes
  have hr := B.returns
  have hts := atoms_spec (ws := ow_dm_X2_worth) B.pre
  have hown : s.vm.findClass RX2 = some m.cls := findClass_of_methodNamed B.named
  have hlocks := B.notSynchronized
  subst hsz
  have hD := hD0.self (sz := s.heap.size)
  generalize hAe : va_A (dw_X2m a ac s0) s.heap.size = A at hD hN ⊢
  have hA : ∀ q : Nat, s.heap.size ≤ q → A q := fun q h => by rw [← hAe]; exact Or.inr h
  have hl := lv_entry ([.ref (a 0), .ref (a 9), .int v1]) (n := 5) (Nat.le_of_ble_eq_true rfl)
  rw [lg_entry_eq]
  generalize (lg_sl ([.ref (a 0), .ref (a 9), .int v1]) ++ List.replicate (5 - (lg_sl ([.ref (a 0), .ref (a 9), .int v1])).length) Slot.unset).toArray = ls at hl ⊢
  have hl : lv_has ls 5 [(0, .ref (a 0)), (1, .ref (a 9)), (2, .int v1)] := hl
  exact db_X2_worth_0 (dC := dC) (dI := dI) (a := a) (ac := ac) (n := n) (r := r) ⟨hlt, hx, hb, hml, hown, hts, hN, hA, hK⟩ (fun pc v τ H locs ls d er hP hD hS => by subst er; exact W.lret (v := v) hx hb hr (fun t ht hW => ⟨⟨v, (), rfl, rfl, by rw [ht]; exact hP, va_K.moved hW.alike hK, hD⟩, hS.F ht⟩) hS.2.2 d) v1 s0 _ _ _ h hP hD va_S.rf (lv_sub hl [0, 1, 2] rfl)
def ow_dm_X2_remember : List Cond := .code yX2_remember cX2_remember 6 none :: ([.fieldLink RX2 58 "TimeMachine$Condition" "olds" "I", .fieldLink RX2 26 "TimeMachine$Condition" "oldFrom" "[I", .fieldLink RX2 29 "TimeMachine$Condition" "oldTo" "[I", .methodLink RX2 195 yX2_evaluate, .instanceMethod yX2_evaluate, .selects RX2 yX2_evaluate yX2_evaluate, .initialized RX2, .fieldLink RX2 32 "TimeMachine$Condition" "oldValue" "[J", .fieldLink RX2 199 "TimeMachine$Condition" "failed" "Z"] ++ (u_ws RX2 TX2 20 ++ (ow_dm_X2_evaluate ++ [])))
theorem gd_dm_X2_remember : ∀ w ∈ ow_dm_X2_remember, (w.onTables && w.keeps) = true ∨ ∃ ty, w = Cond.arrayClass ty := List.forall_mem_cons.mpr ⟨good_of_word rfl, List.forall_mem_append.mpr ⟨fun w h => good_of_word (List.all_eq_true.mp (by decide +kernel) w h), List.forall_mem_append.mpr ⟨gu_X2, List.forall_mem_append.mpr ⟨gd_dm_X2_evaluate, fun _ h => nomatch h⟩⟩⟩⟩
theorem hi_dm_X2_remember_X2 : ∀ w ∈ u_ws RX2 TX2 20, w ∈ ow_dm_X2_remember := fun w h => List.mem_cons_of_mem _ (List.mem_append_right _ (List.mem_append_left _ h))
theorem gi_dm_X2_remember_0 : GoodIn ow_dm_X2_remember (wsV RX2 195 RX2 yX2_evaluate ow_dm_X2_evaluate) := goodIn_app (goodIn_of _ (by decide +kernel)) (fun w h => ⟨List.mem_cons_of_mem _ (List.mem_append_right _ (List.mem_append_right _ (List.mem_append_left _ h))), gd_dm_X2_evaluate w h⟩)
def dj_X2_remember_48 (p : Program) (l : Launch) (e : Env) (s : State) (m : MethodId) (args : Array Value) (below : List Frame) (meth : Method) (c : Code) (Q : State → Prop) (A : Nat → Prop) (dC : Nat → ClassId) (dI : Nat → Nat → Nat) (a : Nat → Nat) (ac : Nat → ClassId) (g : Int32 → Int32 → Int32 → Int64 → (St × (St) × (St × (St))) → Option (St × (St) × (St × (St)))) (r : St × (St) × (St × (St))) : Prop := ∀ (x2 : Int32) (x3 : Int32) (y1 : Int32) (y2 : Int64) (s0 : St × (St) × (St × (St))) (H : Heap) (locs : List Loc) (ls : Array Slot), g x2 x3 y1 y2 s0 = some r → va_P (dC, dI) vwCl (dw_X2m a ac s0) H → va_D A (dw_X2m a ac s0) → va_S A s.heap H locs → lv_has ls 6 [(0, .ref (a 0)), (1, .ref (a 9)), (2, .int x2), (3, .int x3)] → W p l e (headSpec ow_dm_X2_remember ({ frames := 4, cells := 0, slots := 0, locals := 102 })).room s m args below meth c H locs 0 0 Q (F0 m 48 ls [.long y2, .int y1, .ref (a 8)])
def dj_X2_remember_2 (p : Program) (l : Launch) (e : Env) (s : State) (m : MethodId) (args : Array Value) (below : List Frame) (meth : Method) (c : Code) (Q : State → Prop) (A : Nat → Prop) (dC : Nat → ClassId) (dI : Nat → Nat → Nat) (a : Nat → Nat) (ac : Nat → ClassId) (g : Int32 → Int32 → (St × (St) × (St × (St))) → Option (St × (St) × (St × (St)))) (r : St × (St) × (St × (St))) : Prop := ∀ (x2 : Int32) (x3 : Int32) (s0 : St × (St) × (St × (St))) (H : Heap) (locs : List Loc) (ls : Array Slot), g x2 x3 s0 = some r → va_P (dC, dI) vwCl (dw_X2m a ac s0) H → va_D A (dw_X2m a ac s0) → va_S A s.heap H locs → lv_has ls 6 [(0, .ref (a 0)), (1, .ref (a 9)), (2, .int x2), (3, .int x3)] → W p l e (headSpec ow_dm_X2_remember ({ frames := 4, cells := 0, slots := 0, locals := 102 })).room s m args below meth c H locs 0 0 Q (F0 m 2 ls [])
def dj_X2_remember_0 (p : Program) (l : Launch) (e : Env) (s : State) (m : MethodId) (args : Array Value) (below : List Frame) (meth : Method) (c : Code) (Q : State → Prop) (A : Nat → Prop) (dC : Nat → ClassId) (dI : Nat → Nat → Nat) (a : Nat → Nat) (ac : Nat → ClassId) (g : Int32 → (St × (St) × (St × (St))) → Option (St × (St) × (St × (St)))) (r : St × (St) × (St × (St))) : Prop := ∀ (v1 : Int32) (s0 : St × (St) × (St × (St))) (H : Heap) (locs : List Loc) (ls : Array Slot), g v1 s0 = some r → va_P (dC, dI) vwCl (dw_X2m a ac s0) H → va_D A (dw_X2m a ac s0) → va_S A s.heap H locs → lv_has ls 6 [(0, .ref (a 0)), (1, .ref (a 9)), (2, .int v1)] → W p l e (headSpec ow_dm_X2_remember ({ frames := 4, cells := 0, slots := 0, locals := 102 })).room s m args below meth c H locs 0 0 Q (F0 m 0 ls [])
set_option maxHeartbeats 40000000 in
set_option maxRecDepth 100000 in
theorem db_X2_remember_48 {p : Program} {l : Launch} {e : Env} {s : State} {m : MethodId} {args : Array Value} {below : List Frame} {meth : Method} {c : Code} {Q : State → Prop} {A : Nat → Prop} {dC : Nat → ClassId} {dI : Nat → Nat → Nat} {a : Nat → Nat} {ac : Nat → ClassId} {n : Nat} {r : St × (St) × (St × (St))} (C : nd_C p l s m args c A (dC, dI) cX2_remember 6 RX2 ow_dm_X2_remember (dk_X2m ac)) (K : nd_Kv p l e (headSpec ow_dm_X2_remember ({ frames := 4, cells := 0, slots := 0, locals := 102 })).room s m args below meth c Q A (dC, dI) cX2_remember (St × (St) × (St × (St))) (dw_X2m a ac) r) {g2 : Int32 → Int32 → (St × (St) × (St × (St))) → Option (St × (St) × (St × (St)))} (J2 : dj_X2_remember_2 p l e s m args below meth c Q A dC dI a ac g2 r) : dj_X2_remember_48 p l e s m args below meth c Q A dC dI a ac (df_X2_remember_48 n g2) r := by
  obtain ⟨hlt, hx, hb, hml, hown, hts, hN, hA, hK⟩ := id C
  intro x2 x3 y1 y2 s0 H locs ls h hP hD hS hl
  unfold df_X2_remember_48 at h
  obtain ⟨i8, h⟩ := nd_ck_e h
  refine va_last (i := y1) (x := y2) hx hb hK hP hD hS 8 7 rfl rfl i8 dX2_remember_48 (fun H locs hP hD hS => ?_)
  obtain ⟨s9, es9, h⟩ := nd_let_e h
  have hP : va_P (dC, dI) vwCl (dw_X2m a ac s9) H := by rw [es9]; exact hP
  have hD : va_D A (dw_X2m a ac s9) := by rw [es9]; exact hD
  obtain ⟨z10, ez10, h⟩ := nd_let_e h
  refine lv_iinc (v := z10) (lv' := [(3, .int z10), (0, .ref (a 0)), (1, .ref (a 9)), (2, .int x2)]) hx hb dX2_remember_49 hl (k := 3) rfl (by rw [ez10]) (by decide) rfl (fun ls hl => ?_)
  refine lv_goto (tgt := 2) hx hb dX2_remember_52 (by decide) ?_
  exact (J2) (x2) (z10) s9 _ _ _ h hP hD hS (lv_sub hl [1, 2, 3, 0] rfl)
set_option maxHeartbeats 40000000 in
set_option maxRecDepth 100000 in
theorem dB_X2_remember_2 {p : Program} {l : Launch} {e : Env} {s : State} {m : MethodId} {args : Array Value} {below : List Frame} {meth : Method} {c : Code} {Q : State → Prop} {A : Nat → Prop} {dC : Nat → ClassId} {dI : Nat → Nat → Nat} {a : Nat → Nat} {ac : Nat → ClassId} {n : Nat} {r : St × (St) × (St × (St))} (C : nd_C p l s m args c A (dC, dI) cX2_remember 6 RX2 ow_dm_X2_remember (dk_X2m ac)) (K : nd_Kv p l e (headSpec ow_dm_X2_remember ({ frames := 4, cells := 0, slots := 0, locals := 102 })).room s m args below meth c Q A (dC, dI) cX2_remember (St × (St) × (St × (St))) (dw_X2m a ac) r) {g2 : Int32 → Int32 → (St × (St) × (St × (St))) → Option (St × (St) × (St × (St)))} (J2 : dj_X2_remember_2 p l e s m args below meth c Q A dC dI a ac g2 r) : dj_X2_remember_2 p l e s m args below meth c Q A dC dI a ac (dF_X2_remember_2 n g2) r := by
  obtain ⟨hlt, hx, hb, hml, hown, hts, hN, hA, hK⟩ := id C
  intro x2 x3 s0 H locs ls h hP hD hS hl
  unfold dF_X2_remember_2 at h
  refine lv_iload_n hx hb dX2_remember_2 rfl (lv_at hl 3 rfl) ?_
  refine lv_aload_n hx hb dX2_remember_3 rfl (lv_at hl 0 rfl) ?_
  refine va_get (D := (dC, dI)) (ci := 3) (v := .int (sI s0.2.1 2)) (C := RX2) (T := TX2) (N := 20) hx hb hts hi_dm_X2_remember_X2 hown hK hP 0 rfl rfl 10 (by decide) (hts (.fieldLink RX2 58 "TimeMachine$Condition" "olds" "I") (List.mem_of_getElem? (i := 1) rfl)) (fun _ h9 => h9) rfl dX2_remember_4 ?_
  refine lv_icmp_ge (tgt := 55) hx hb dX2_remember_7 (by decide) (fun c1 => ?_) (fun c1 => ?_)
  · have h := nd_pos h c1
    exact K _ _ _ _ _ dX2_remember_55 (Option.some.inj h).symm hP hD hS
  · have h := nd_neg h c1
    refine lv_aload_n hx hb dX2_remember_10 rfl (lv_at hl 0 rfl) ?_
    refine lv_aload_n hx hb dX2_remember_11 rfl (lv_at hl 1 rfl) ?_
    refine lv_iload_n hx hb dX2_remember_12 rfl (lv_at hl 2 rfl) ?_
    refine lv_aload_n hx hb dX2_remember_13 rfl (lv_at hl 0 rfl) ?_
    refine va_get (D := (dC, dI)) (ci := 3) (v := .ref (a 6)) (C := RX2) (T := TX2) (N := 20) hx hb hts hi_dm_X2_remember_X2 hown hK hP 0 rfl rfl 7 (by decide) (hts (.fieldLink RX2 26 "TimeMachine$Condition" "oldFrom" "[I") (List.mem_of_getElem? (i := 2) rfl)) (fun _ h9 => h9) rfl dX2_remember_14 ?_
    refine lv_iload_n hx hb dX2_remember_17 rfl (lv_at hl 3 rfl) ?_
    obtain ⟨i2, h⟩ := nd_ck_e h
    refine va_iald (i := x3) hx hb hK hP 6 5 rfl rfl i2 dX2_remember_18 ?_
    refine lv_aload_n hx hb dX2_remember_19 rfl (lv_at hl 0 rfl) ?_
    refine va_get (D := (dC, dI)) (ci := 3) (v := .ref (a 7)) (C := RX2) (T := TX2) (N := 20) hx hb hts hi_dm_X2_remember_X2 hown hK hP 0 rfl rfl 8 (by decide) (hts (.fieldLink RX2 29 "TimeMachine$Condition" "oldTo" "[I") (List.mem_of_getElem? (i := 3) rfl)) (fun _ h9 => h9) rfl dX2_remember_20 ?_
    refine lv_iload_n hx hb dX2_remember_23 rfl (lv_at hl 3 rfl) ?_
    obtain ⟨i3, h⟩ := nd_ck_e h
    refine va_iald (i := x3) hx hb hK hP 7 6 rfl rfl i3 dX2_remember_24 ?_
    obtain ⟨q4, s5, hq, h⟩ := nd_b2_e h
    have hPc := hP
    have hDc := hD
    have hKc := hK
    have hFc := nd_rs hD hS hA
    refine nd_cVl (As := [.ref (a 9), .int x2, .int (sR s0.2.1 3 (Int32.toNatClampNeg x3)), .int (sR s0.2.1 4 (Int32.toNatClampNeg x3))]) (rest := []) (q := q4) (w' := dw_X2m a ac s5) ⟨hx, hb, hml, hown, hts⟩ (fun sz => dm_X2_evaluate l hlt dC dI a ac n (x2) ((sR s0.2.1 3 (Int32.toNatClampNeg x3))) ((sR s0.2.1 4 (Int32.toNatClampNeg x3))) s0 hq sz) (cwV 4 hts gi_dm_X2_remember_0 rfl rfl rfl (by decide +kernel) ⟨Nat.le_of_ble_eq_true rfl, Nat.le_of_ble_eq_true rfl⟩) hPc hDc hKc hS hA hN (va_recv hKc hPc (ci := 3) (q0 := 0) rfl rfl) rfl hl.1 rfl (Nat.le_of_ble_eq_true rfl) dX2_remember_25 (fun H locs hP1 hD1 hk1 hS => ?_)
    have hP := hP1
    have hD := hD1.weaken (fun k q _ h => hFc q.1 h)
    refine lv_lstore (lv' := [(4, .long q4), (0, .ref (a 0)), (1, .ref (a 9)), (2, .int x2), (3, .int x3)]) hx hb dX2_remember_28 hl (by decide) rfl (fun ls hl => ?_)
    refine lv_aload_n hx hb dX2_remember_30 rfl (lv_at hl 1 rfl) ?_
    refine va_get (D := (dC, dI)) (ci := 3) (v := .ref (a 8)) (C := RX2) (T := TX2) (N := 20) hx hb hts hi_dm_X2_remember_X2 hown hK hP 0 rfl rfl 9 (by decide) (hts (.fieldLink RX2 32 "TimeMachine$Condition" "oldValue" "[J") (List.mem_of_getElem? (i := 8) rfl)) (fun _ h9 => h9) rfl dX2_remember_31 ?_
    refine lv_iload_n hx hb dX2_remember_34 rfl (lv_at hl 4 rfl) ?_
    refine lv_aload_n hx hb dX2_remember_35 rfl (lv_at hl 1 rfl) ?_
    refine va_get (D := (dC, dI)) (ci := 3) (v := .int (sI s5.2.1 3)) (C := RX2) (T := TX2) (N := 20) hx hb hts hi_dm_X2_remember_X2 hown hK hP 0 rfl rfl 11 (by decide) (hts (.fieldLink RX2 199 "TimeMachine$Condition" "failed" "Z") (List.mem_of_getElem? (i := 9) rfl)) (fun _ h9 => h9) rfl dX2_remember_36 ?_
    refine lv_if_eq (tgt := 46) hx hb dX2_remember_39 (by decide) (fun c7 => ?_) (fun c7 => ?_)
    · have h := nd_pos h c7
      refine lv_lload hx hb dX2_remember_46 (lv_at hl 0 rfl) ?_
      exact (db_X2_remember_48 C K J2) (x2) (x3) (x3) (q4) s5 _ _ _ h hP hD hS (lv_sub hl [1, 2, 3, 4] rfl)
    · have h := nd_neg h c7
      refine lv_lconst (v := 0) hx hb dX2_remember_42 (by decide) ?_
      refine lv_goto (tgt := 48) hx hb dX2_remember_43 (by decide) ?_
      exact (db_X2_remember_48 C K J2) (x2) (x3) (x3) (0) s5 _ _ _ h hP hD hS (lv_sub hl [1, 2, 3, 4] rfl)
set_option maxHeartbeats 40000000 in
set_option maxRecDepth 100000 in
theorem db_X2_remember_2 {p : Program} {l : Launch} {e : Env} {s : State} {m : MethodId} {args : Array Value} {below : List Frame} {meth : Method} {c : Code} {Q : State → Prop} {A : Nat → Prop} {dC : Nat → ClassId} {dI : Nat → Nat → Nat} {a : Nat → Nat} {ac : Nat → ClassId} {n : Nat} {r : St × (St) × (St × (St))} (C : nd_C p l s m args c A (dC, dI) cX2_remember 6 RX2 ow_dm_X2_remember (dk_X2m ac)) (K : nd_Kv p l e (headSpec ow_dm_X2_remember ({ frames := 4, cells := 0, slots := 0, locals := 102 })).room s m args below meth c Q A (dC, dI) cX2_remember (St × (St) × (St × (St))) (dw_X2m a ac) r) (k : Nat) : dj_X2_remember_2 p l e s m args below meth c Q A dC dI a ac (df_X2_remember_2 n k) r := by
  induction k with
  | zero => intro x2 x3 s0 H locs ls h; exact nomatch (show (none : Option (St × (St) × (St × (St)))) = some r from h)
  | succ k ih => exact dB_X2_remember_2 C K ih
set_option maxHeartbeats 40000000 in
set_option maxRecDepth 100000 in
theorem db_X2_remember_0 {p : Program} {l : Launch} {e : Env} {s : State} {m : MethodId} {args : Array Value} {below : List Frame} {meth : Method} {c : Code} {Q : State → Prop} {A : Nat → Prop} {dC : Nat → ClassId} {dI : Nat → Nat → Nat} {a : Nat → Nat} {ac : Nat → ClassId} {n : Nat} {r : St × (St) × (St × (St))} (C : nd_C p l s m args c A (dC, dI) cX2_remember 6 RX2 ow_dm_X2_remember (dk_X2m ac)) (K : nd_Kv p l e (headSpec ow_dm_X2_remember ({ frames := 4, cells := 0, slots := 0, locals := 102 })).room s m args below meth c Q A (dC, dI) cX2_remember (St × (St) × (St × (St))) (dw_X2m a ac) r) : dj_X2_remember_0 p l e s m args below meth c Q A dC dI a ac (df_X2_remember_0 n) r := by
  obtain ⟨hlt, hx, hb, hml, hown, hts, hN, hA, hK⟩ := id C
  intro v1 s0 H locs ls h hP hD hS hl
  unfold df_X2_remember_0 at h
  refine lv_iconst (v := 0) hx hb dX2_remember_0 (by decide) ?_
  refine lv_istore_n (lv' := [(3, .int 0), (0, .ref (a 0)), (1, .ref (a 9)), (2, .int v1)]) hx hb dX2_remember_1 rfl hl (by decide) rfl (fun ls hl => ?_)
  exact (db_X2_remember_2 C K n) (v1) (0) s0 _ _ _ h hP hD hS (lv_sub hl [1, 2, 3, 0] rfl)
set_option maxHeartbeats 40000000 in
set_option maxRecDepth 100000 in
theorem dm_X2_remember (l : Launch) (hlt : l.stackTraces = false) (dC : Nat → ClassId) (dI : Nat → Nat → Nat) (a : Nat → Nat) (ac : Nat → ClassId) (n : Nat) (v1 : Int32) (s0 : St × (St) × (St × (St))) {r : St × (St) × (St × (St))} (h : df_X2_remember n v1 s0 = some r) (sz : Nat) : Met l yX2_remember ow_dm_X2_remember ({ frames := 4, cells := 0, slots := 0, locals := 102 }) (va_Pc [.ref (a 0), .ref (a 9), .int v1] (fun U => U.heap.size = sz ∧ va_P (dC, dI) vwCl (dw_X2m a ac s0) U.heap ∧ va_K (dC, dI) vwCl (dk_X2m ac) U ∧ va_D (fun _ => True) (dw_X2m a ac s0) ∧ nv_E (va_A (dw_X2m a ac s0) sz) U)) (va_Qv (fun _ => True) (fun (_ : Unit) t => va_P (dC, dI) vwCl (dw_X2m a ac r) t.heap ∧ va_K (dC, dI) vwCl (dk_X2m ac) t ∧ va_D (va_A (dw_X2m a ac s0) sz) (dw_X2m a ac r)) (va_A (dw_X2m a ac s0) sz)) 0 0 (va_A (dw_X2m a ac s0) sz) := by
  refine Met.ofW (cc := cX2_remember) (maxL := 6) (ret := none) (by decide) rfl ?_
  intro p e s m args below meth c s₁ B hml hv
  obtain ⟨rfl, hsz, hP, hK, hD0, hN⟩ := hv
  have hx := B.exec
  have hb := B.bytes
  have hr := B.returns
  have hts := atoms_spec (ws := ow_dm_X2_remember) B.pre
  have hown : s.vm.findClass RX2 = some m.cls := findClass_of_methodNamed B.named
  have hlocks := B.notSynchronized
  subst hsz
  have hD := hD0.self (sz := s.heap.size)
  generalize hAe : va_A (dw_X2m a ac s0) s.heap.size = A at hD hN ⊢
  have hA : ∀ q : Nat, s.heap.size ≤ q → A q := fun q h => by rw [← hAe]; exact Or.inr h
  have hl := lv_entry ([.ref (a 0), .ref (a 9), .int v1]) (n := 6) (Nat.le_of_ble_eq_true rfl)
  rw [lg_entry_eq]
  generalize (lg_sl ([.ref (a 0), .ref (a 9), .int v1]) ++ List.replicate (6 - (lg_sl ([.ref (a 0), .ref (a 9), .int v1])).length) Slot.unset).toArray = ls at hl ⊢
  have hl : lv_has ls 6 [(0, .ref (a 0)), (1, .ref (a 9)), (2, .int v1)] := hl
  exact db_X2_remember_0 (dC := dC) (dI := dI) (a := a) (ac := ac) (n := n) (r := r) ⟨hlt, hx, hb, hml, hown, hts, hN, hA, hK⟩ (fun pc τ H locs ls d er hP hD hS => by subst er; exact W.vret hx hb hr (fun t ht hW => ⟨⟨(), rfl, trivial, by rw [ht]; exact hP, va_K.moved hW.alike hK, hD⟩, hS.F ht⟩) hS.2.2 d) v1 s0 _ _ _ h hP hD va_S.rf (lv_sub hl [0, 1, 2] rfl)
def ow_dm_X5_argument : List Cond := .code yX5_argument cX5_argument 3 (some .int) :: ([.fieldLink RX5 33 "TimeMachine$Kernel" "reg" "[I"] ++ (u_ws RX5 TX5 8 ++ []))
theorem gd_dm_X5_argument : ∀ w ∈ ow_dm_X5_argument, (w.onTables && w.keeps) = true ∨ ∃ ty, w = Cond.arrayClass ty := List.forall_mem_cons.mpr ⟨good_of_word rfl, List.forall_mem_append.mpr ⟨fun w h => good_of_word (List.all_eq_true.mp (by decide +kernel) w h), List.forall_mem_append.mpr ⟨gu_X5, fun _ h => nomatch h⟩⟩⟩
theorem hi_dm_X5_argument_X5 : ∀ w ∈ u_ws RX5 TX5 8, w ∈ ow_dm_X5_argument := fun w h => List.mem_cons_of_mem _ (List.mem_append_right _ (List.mem_append_left _ h))
def dj_X5_argument_0 (p : Program) (l : Launch) (e : Env) (s : State) (m : MethodId) (args : Array Value) (below : List Frame) (meth : Method) (c : Code) (Q : State → Prop) (A : Nat → Prop) (dC : Nat → ClassId) (dI : Nat → Nat → Nat) (a : Nat → Nat) (ac : Nat → ClassId) (g : Int32 → Int32 → (St × (St × (St × (St)))) → Option (Int32 × (St × (St × (St × (St)))))) (r : Int32 × (St × (St × (St × (St))))) : Prop := ∀ (v0 : Int32) (v1 : Int32) (s0 : St × (St × (St × (St)))) (H : Heap) (locs : List Loc) (ls : Array Slot), g v0 v1 s0 = some r → va_P (dC, dI) vwCl (dw_X5 a ac s0) H → va_D A (dw_X5 a ac s0) → va_S A s.heap H locs → lv_has ls 3 [(0, .ref (a 0)), (1, .int v0), (2, .int v1)] → W p l e (headSpec ow_dm_X5_argument ({ frames := 0, cells := 0, slots := 0, locals := 0 })).room s m args below meth c H locs 0 0 Q (F0 m 0 ls [])
set_option maxHeartbeats 40000000 in
set_option maxRecDepth 100000 in
theorem db_X5_argument_0 {p : Program} {l : Launch} {e : Env} {s : State} {m : MethodId} {args : Array Value} {below : List Frame} {meth : Method} {c : Code} {Q : State → Prop} {A : Nat → Prop} {dC : Nat → ClassId} {dI : Nat → Nat → Nat} {a : Nat → Nat} {ac : Nat → ClassId} {n : Nat} {r : Int32 × (St × (St × (St × (St))))} (C : nd_C p l s m args c A (dC, dI) cX5_argument 3 RX5 ow_dm_X5_argument (dk_X5 ac)) (K : nd_Ki p l e (headSpec ow_dm_X5_argument ({ frames := 0, cells := 0, slots := 0, locals := 0 })).room s m args below meth c Q A (dC, dI) cX5_argument .int (St × (St × (St × (St)))) (dw_X5 a ac) r) : dj_X5_argument_0 p l e s m args below meth c Q A dC dI a ac (df_X5_argument_0 n) r := by
  obtain ⟨hlt, hx, hb, hml, hown, hts, hN, hA, hK⟩ := id C
  intro v0 v1 s0 H locs ls h hP hD hS hl
  unfold df_X5_argument_0 at h
  refine lv_aload_n hx hb dX5_argument_0 rfl (lv_at hl 0 rfl) ?_
  refine va_get (D := (dC, dI)) (ci := 6) (v := .ref (a 8)) (C := RX5) (T := TX5) (N := 8) hx hb hts hi_dm_X5_argument_X5 hown hK hP 0 rfl rfl 2 (by decide) (hts (.fieldLink RX5 33 "TimeMachine$Kernel" "reg" "[I") (List.mem_of_getElem? (i := 1) rfl)) (fun _ h9 => h9) rfl dX5_argument_1 ?_
  refine lv_iload_n hx hb dX5_argument_4 rfl (lv_at hl 1 rfl) ?_
  refine lv_bipush (v := 33) hx hb dX5_argument_5 (by decide) ?_
  refine lv_imul hx hb dX5_argument_7 ?_
  refine lv_iload_n hx hb dX5_argument_8 rfl (lv_at hl 2 rfl) ?_
  refine lv_iadd hx hb dX5_argument_9 ?_
  obtain ⟨i1, h⟩ := nd_ck_e h
  refine va_iald (i := ((v0 * 33) + v1)) hx hb hK hP 8 5 rfl rfl i1 dX5_argument_10 ?_
  exact K _ _ _ _ _ _ dX5_argument_11 rfl (Option.some.inj h).symm hP hD hS
set_option maxHeartbeats 40000000 in
set_option maxRecDepth 100000 in
theorem dm_X5_argument (l : Launch) (hlt : l.stackTraces = false) (dC : Nat → ClassId) (dI : Nat → Nat → Nat) (a : Nat → Nat) (ac : Nat → ClassId) (n : Nat) (v0 : Int32) (v1 : Int32) (s0 : St × (St × (St × (St)))) {r : Int32 × (St × (St × (St × (St))))} (h : df_X5_argument n v0 v1 s0 = some r) (sz : Nat) : Met l yX5_argument ow_dm_X5_argument ({ frames := 0, cells := 0, slots := 0, locals := 0 }) (va_Pc [.ref (a 0), .int v0, .int v1] (fun U => U.heap.size = sz ∧ va_P (dC, dI) vwCl (dw_X5 a ac s0) U.heap ∧ va_K (dC, dI) vwCl (dk_X5 ac) U ∧ va_D (fun _ => True) (dw_X5 a ac s0) ∧ nv_E (va_A (dw_X5 a ac s0) sz) U)) (va_Qi (fun x _ => x = r.1) (fun (_ : Unit) t => va_P (dC, dI) vwCl (dw_X5 a ac r.2) t.heap ∧ va_K (dC, dI) vwCl (dk_X5 ac) t ∧ va_D (va_A (dw_X5 a ac s0) sz) (dw_X5 a ac r.2)) (va_A (dw_X5 a ac s0) sz)) 0 0 (va_A (dw_X5 a ac s0) sz) := by
  refine Met.ofW (cc := cX5_argument) (maxL := 3) (ret := (some .int)) (by decide) rfl ?_
  intro p e s m args below meth c s₁ B hml hv
  obtain ⟨rfl, hsz, hP, hK, hD0, hN⟩ := hv
  have hx := B.exec
  have hb := B.bytes
  have hr := B.returns
  have hts := atoms_spec (ws := ow_dm_X5_argument) B.pre
  have hown : s.vm.findClass RX5 = some m.cls := findClass_of_methodNamed B.named
  have hlocks := B.notSynchronized
  subst hsz
  have hD := hD0.self (sz := s.heap.size)
  generalize hAe : va_A (dw_X5 a ac s0) s.heap.size = A at hD hN ⊢
  have hA : ∀ q : Nat, s.heap.size ≤ q → A q := fun q h => by rw [← hAe]; exact Or.inr h
  have hl := lv_entry ([.ref (a 0), .int v0, .int v1]) (n := 3) (Nat.le_of_ble_eq_true rfl)
  rw [lg_entry_eq]
  generalize (lg_sl ([.ref (a 0), .int v0, .int v1]) ++ List.replicate (3 - (lg_sl ([.ref (a 0), .int v0, .int v1])).length) Slot.unset).toArray = ls at hl ⊢
  have hl : lv_has ls 3 [(0, .ref (a 0)), (1, .int v0), (2, .int v1)] := hl
  exact db_X5_argument_0 (dC := dC) (dI := dI) (a := a) (ac := ac) (n := n) (r := r) ⟨hlt, hx, hb, hml, hown, hts, hN, hA, hK⟩ (fun pc v τ H locs ls d z er hP hD hS => by subst er; exact W.zret (v := v) hx hb hr z (fun t ht hW => ⟨⟨v, (), rfl, rfl, by rw [ht]; exact hP, va_K.moved hW.alike hK, hD⟩, hS.F ht⟩) hS.2.2 d) v0 v1 s0 _ _ _ h hP hD va_S.rf (lv_sub hl [0, 1, 2] rfl)
def ow_dm_X5_mustWait : List Cond := .code yX5_mustWait cX5_mustWait 4 (some .boolean) :: ([.methodLink RX5 115 yX5_argument, .instanceMethod yX5_argument, .selects RX5 yX5_argument yX5_argument, .initialized RX5, .fieldLink RX5 18 "TimeMachine$Kernel" "machine" "LTimeMachine$Machine;", .methodLink RX5 119 yX6_leastChild, .instanceMethod yX6_leastChild, .selects RX6 yX6_leastChild yX6_leastChild, .initialized RX6, .fieldLink RX5 28 "TimeMachine$Kernel" "things" "LTimeMachine$Things;", .methodLink RX5 123 yX10_openingOf, .instanceMethod yX10_openingOf, .selects RX10 yX10_openingOf yX10_openingOf, .initialized RX10, .methodLink RX5 126 yX10_readWaits, .instanceMethod yX10_readWaits, .selects RX10 yX10_readWaits yX10_readWaits, .methodLink RX5 130 yX10_writeWaits, .instanceMethod yX10_writeWaits, .selects RX10 yX10_writeWaits yX10_writeWaits, .fieldLink RX5 133 "TimeMachine$Machine" "clock" "J", .fieldLink RX5 137 "TimeMachine$Machine" "sleep" "[J", .fieldLink RX5 141 "TimeMachine$Machine" "randoms" "I"] ++ (u_ws RX5 TX5 8 ++ (u_ws RX6 TX6 20 ++ (ow_dm_X5_argument ++ (ow_dm_X6_leastChild ++ (ow_dm_X10_openingOf ++ (ow_dm_X10_readWaits ++ (ow_dm_X10_writeWaits ++ []))))))))
theorem gd_dm_X5_mustWait : ∀ w ∈ ow_dm_X5_mustWait, (w.onTables && w.keeps) = true ∨ ∃ ty, w = Cond.arrayClass ty := List.forall_mem_cons.mpr ⟨good_of_word rfl, List.forall_mem_append.mpr ⟨fun w h => good_of_word (List.all_eq_true.mp (by decide +kernel) w h), List.forall_mem_append.mpr ⟨gu_X5, List.forall_mem_append.mpr ⟨gu_X6, List.forall_mem_append.mpr ⟨gd_dm_X5_argument, List.forall_mem_append.mpr ⟨gd_dm_X6_leastChild, List.forall_mem_append.mpr ⟨gd_dm_X10_openingOf, List.forall_mem_append.mpr ⟨gd_dm_X10_readWaits, List.forall_mem_append.mpr ⟨gd_dm_X10_writeWaits, fun _ h => nomatch h⟩⟩⟩⟩⟩⟩⟩⟩⟩
theorem hi_dm_X5_mustWait_X5 : ∀ w ∈ u_ws RX5 TX5 8, w ∈ ow_dm_X5_mustWait := fun w h => List.mem_cons_of_mem _ (List.mem_append_right _ (List.mem_append_left _ h))
theorem hi_dm_X5_mustWait_X6 : ∀ w ∈ u_ws RX6 TX6 20, w ∈ ow_dm_X5_mustWait := fun w h => List.mem_cons_of_mem _ (List.mem_append_right _ (List.mem_append_right _ (List.mem_append_left _ h)))
theorem gi_dm_X5_mustWait_0 : GoodIn ow_dm_X5_mustWait (wsV RX5 115 RX5 yX5_argument ow_dm_X5_argument) := goodIn_app (goodIn_of _ (by decide +kernel)) (fun w h => ⟨List.mem_cons_of_mem _ (List.mem_append_right _ (List.mem_append_right _ (List.mem_append_right _ (List.mem_append_left _ h)))), gd_dm_X5_argument w h⟩)
theorem gi_dm_X5_mustWait_1 : GoodIn ow_dm_X5_mustWait (wsV RX5 119 RX6 yX6_leastChild ow_dm_X6_leastChild) := goodIn_app (goodIn_of _ (by decide +kernel)) (fun w h => ⟨List.mem_cons_of_mem _ (List.mem_append_right _ (List.mem_append_right _ (List.mem_append_right _ (List.mem_append_right _ (List.mem_append_left _ h))))), gd_dm_X6_leastChild w h⟩)
theorem gi_dm_X5_mustWait_2 : GoodIn ow_dm_X5_mustWait (wsV RX5 123 RX10 yX10_openingOf ow_dm_X10_openingOf) := goodIn_app (goodIn_of _ (by decide +kernel)) (fun w h => ⟨List.mem_cons_of_mem _ (List.mem_append_right _ (List.mem_append_right _ (List.mem_append_right _ (List.mem_append_right _ (List.mem_append_right _ (List.mem_append_left _ h)))))), gd_dm_X10_openingOf w h⟩)
theorem gi_dm_X5_mustWait_3 : GoodIn ow_dm_X5_mustWait (wsV RX5 126 RX10 yX10_readWaits ow_dm_X10_readWaits) := goodIn_app (goodIn_of _ (by decide +kernel)) (fun w h => ⟨List.mem_cons_of_mem _ (List.mem_append_right _ (List.mem_append_right _ (List.mem_append_right _ (List.mem_append_right _ (List.mem_append_right _ (List.mem_append_right _ (List.mem_append_left _ h))))))), gd_dm_X10_readWaits w h⟩)
theorem gi_dm_X5_mustWait_4 : GoodIn ow_dm_X5_mustWait (wsV RX5 130 RX10 yX10_writeWaits ow_dm_X10_writeWaits) := goodIn_app (goodIn_of _ (by decide +kernel)) (fun w h => ⟨List.mem_cons_of_mem _ (List.mem_append_right _ (List.mem_append_right _ (List.mem_append_right _ (List.mem_append_right _ (List.mem_append_right _ (List.mem_append_right _ (List.mem_append_right _ (List.mem_append_left _ h)))))))), gd_dm_X10_writeWaits w h⟩)
def dj_X5_mustWait_101 (p : Program) (l : Launch) (e : Env) (s : State) (m : MethodId) (args : Array Value) (below : List Frame) (meth : Method) (c : Code) (Q : State → Prop) (A : Nat → Prop) (dC : Nat → ClassId) (dI : Nat → Nat → Nat) (a : Nat → Nat) (ac : Nat → ClassId) (g : Int32 → (St × (St × (St × (St)))) → Option (Int32 × (St × (St × (St × (St)))))) (r : Int32 × (St × (St × (St × (St))))) : Prop := ∀ (y0 : Int32) (s0 : St × (St × (St × (St)))) (H : Heap) (locs : List Loc) (ls : Array Slot), g y0 s0 = some r → va_P (dC, dI) vwCl (dw_X5 a ac s0) H → va_D A (dw_X5 a ac s0) → va_S A s.heap H locs → lv_has ls 4 [] → W p l e (headSpec ow_dm_X5_mustWait ({ frames := 1, cells := 0, slots := 0, locals := 24 })).room s m args below meth c H locs 0 0 Q (F0 m 101 ls [.int y0])
def dj_X5_mustWait_100 (p : Program) (l : Launch) (e : Env) (s : State) (m : MethodId) (args : Array Value) (below : List Frame) (meth : Method) (c : Code) (Q : State → Prop) (A : Nat → Prop) (dC : Nat → ClassId) (dI : Nat → Nat → Nat) (a : Nat → Nat) (ac : Nat → ClassId) (g : (St × (St × (St × (St)))) → Option (Int32 × (St × (St × (St × (St)))))) (r : Int32 × (St × (St × (St × (St))))) : Prop := ∀ (s0 : St × (St × (St × (St)))) (H : Heap) (locs : List Loc) (ls : Array Slot), g s0 = some r → va_P (dC, dI) vwCl (dw_X5 a ac s0) H → va_D A (dw_X5 a ac s0) → va_S A s.heap H locs → lv_has ls 4 [] → W p l e (headSpec ow_dm_X5_mustWait ({ frames := 1, cells := 0, slots := 0, locals := 24 })).room s m args below meth c H locs 0 0 Q (F0 m 100 ls [])
def dj_X5_mustWait_163 (p : Program) (l : Launch) (e : Env) (s : State) (m : MethodId) (args : Array Value) (below : List Frame) (meth : Method) (c : Code) (Q : State → Prop) (A : Nat → Prop) (dC : Nat → ClassId) (dI : Nat → Nat → Nat) (a : Nat → Nat) (ac : Nat → ClassId) (g : Int32 → (St × (St × (St × (St)))) → Option (Int32 × (St × (St × (St × (St)))))) (r : Int32 × (St × (St × (St × (St))))) : Prop := ∀ (y0 : Int32) (s0 : St × (St × (St × (St)))) (H : Heap) (locs : List Loc) (ls : Array Slot), g y0 s0 = some r → va_P (dC, dI) vwCl (dw_X5 a ac s0) H → va_D A (dw_X5 a ac s0) → va_S A s.heap H locs → lv_has ls 4 [] → W p l e (headSpec ow_dm_X5_mustWait ({ frames := 1, cells := 0, slots := 0, locals := 24 })).room s m args below meth c H locs 0 0 Q (F0 m 163 ls [.int y0])
def dj_X5_mustWait_179 (p : Program) (l : Launch) (e : Env) (s : State) (m : MethodId) (args : Array Value) (below : List Frame) (meth : Method) (c : Code) (Q : State → Prop) (A : Nat → Prop) (dC : Nat → ClassId) (dI : Nat → Nat → Nat) (a : Nat → Nat) (ac : Nat → ClassId) (g : Int32 → (St × (St × (St × (St)))) → Option (Int32 × (St × (St × (St × (St)))))) (r : Int32 × (St × (St × (St × (St))))) : Prop := ∀ (y0 : Int32) (s0 : St × (St × (St × (St)))) (H : Heap) (locs : List Loc) (ls : Array Slot), g y0 s0 = some r → va_P (dC, dI) vwCl (dw_X5 a ac s0) H → va_D A (dw_X5 a ac s0) → va_S A s.heap H locs → lv_has ls 4 [] → W p l e (headSpec ow_dm_X5_mustWait ({ frames := 1, cells := 0, slots := 0, locals := 24 })).room s m args below meth c H locs 0 0 Q (F0 m 179 ls [.int y0])
def dj_X5_mustWait_0 (p : Program) (l : Launch) (e : Env) (s : State) (m : MethodId) (args : Array Value) (below : List Frame) (meth : Method) (c : Code) (Q : State → Prop) (A : Nat → Prop) (dC : Nat → ClassId) (dI : Nat → Nat → Nat) (a : Nat → Nat) (ac : Nat → ClassId) (g : Int32 → (St × (St × (St × (St)))) → Option (Int32 × (St × (St × (St × (St)))))) (r : Int32 × (St × (St × (St × (St))))) : Prop := ∀ (v0 : Int32) (s0 : St × (St × (St × (St)))) (H : Heap) (locs : List Loc) (ls : Array Slot), g v0 s0 = some r → va_P (dC, dI) vwCl (dw_X5 a ac s0) H → va_D A (dw_X5 a ac s0) → va_S A s.heap H locs → lv_has ls 4 [(0, .ref (a 0)), (1, .int v0)] → W p l e (headSpec ow_dm_X5_mustWait ({ frames := 1, cells := 0, slots := 0, locals := 24 })).room s m args below meth c H locs 0 0 Q (F0 m 0 ls [])
set_option maxHeartbeats 40000000 in
set_option maxRecDepth 100000 in
theorem db_X5_mustWait_101 {p : Program} {l : Launch} {e : Env} {s : State} {m : MethodId} {args : Array Value} {below : List Frame} {meth : Method} {c : Code} {Q : State → Prop} {A : Nat → Prop} {dC : Nat → ClassId} {dI : Nat → Nat → Nat} {a : Nat → Nat} {ac : Nat → ClassId} {n : Nat} {r : Int32 × (St × (St × (St × (St))))} (C : nd_C p l s m args c A (dC, dI) cX5_mustWait 4 RX5 ow_dm_X5_mustWait (dk_X5 ac)) (K : nd_Ki p l e (headSpec ow_dm_X5_mustWait ({ frames := 1, cells := 0, slots := 0, locals := 24 })).room s m args below meth c Q A (dC, dI) cX5_mustWait .boolean (St × (St × (St × (St)))) (dw_X5 a ac) r) : dj_X5_mustWait_101 p l e s m args below meth c Q A dC dI a ac (df_X5_mustWait_101 n) r := by
  obtain ⟨hlt, hx, hb, hml, hown, hts, hN, hA, hK⟩ := id C
  intro y0 s0 H locs ls h hP hD hS hl
  unfold df_X5_mustWait_101 at h
  obtain ⟨n16, h⟩ := nd_z_e ⟨_, rfl⟩ h
  exact K _ _ _ _ _ _ dX5_mustWait_101 n16 (Option.some.inj h).symm hP hD hS
set_option maxHeartbeats 40000000 in
set_option maxRecDepth 100000 in
theorem db_X5_mustWait_100 {p : Program} {l : Launch} {e : Env} {s : State} {m : MethodId} {args : Array Value} {below : List Frame} {meth : Method} {c : Code} {Q : State → Prop} {A : Nat → Prop} {dC : Nat → ClassId} {dI : Nat → Nat → Nat} {a : Nat → Nat} {ac : Nat → ClassId} {n : Nat} {r : Int32 × (St × (St × (St × (St))))} (C : nd_C p l s m args c A (dC, dI) cX5_mustWait 4 RX5 ow_dm_X5_mustWait (dk_X5 ac)) (K : nd_Ki p l e (headSpec ow_dm_X5_mustWait ({ frames := 1, cells := 0, slots := 0, locals := 24 })).room s m args below meth c Q A (dC, dI) cX5_mustWait .boolean (St × (St × (St × (St)))) (dw_X5 a ac) r) : dj_X5_mustWait_100 p l e s m args below meth c Q A dC dI a ac (df_X5_mustWait_100 n) r := by
  obtain ⟨hlt, hx, hb, hml, hown, hts, hN, hA, hK⟩ := id C
  intro s0 H locs ls h hP hD hS hl
  unfold df_X5_mustWait_100 at h
  refine lv_iconst (v := 0) hx hb dX5_mustWait_100 (by decide) ?_
  exact (db_X5_mustWait_101 C K) (0) s0 _ _ _ h hP hD hS (lv_sub hl [] rfl)
set_option maxHeartbeats 40000000 in
set_option maxRecDepth 100000 in
theorem db_X5_mustWait_163 {p : Program} {l : Launch} {e : Env} {s : State} {m : MethodId} {args : Array Value} {below : List Frame} {meth : Method} {c : Code} {Q : State → Prop} {A : Nat → Prop} {dC : Nat → ClassId} {dI : Nat → Nat → Nat} {a : Nat → Nat} {ac : Nat → ClassId} {n : Nat} {r : Int32 × (St × (St × (St × (St))))} (C : nd_C p l s m args c A (dC, dI) cX5_mustWait 4 RX5 ow_dm_X5_mustWait (dk_X5 ac)) (K : nd_Ki p l e (headSpec ow_dm_X5_mustWait ({ frames := 1, cells := 0, slots := 0, locals := 24 })).room s m args below meth c Q A (dC, dI) cX5_mustWait .boolean (St × (St × (St × (St)))) (dw_X5 a ac) r) : dj_X5_mustWait_163 p l e s m args below meth c Q A dC dI a ac (df_X5_mustWait_163 n) r := by
  obtain ⟨hlt, hx, hb, hml, hown, hts, hN, hA, hK⟩ := id C
  intro y0 s0 H locs ls h hP hD hS hl
  unfold df_X5_mustWait_163 at h
  obtain ⟨n45, h⟩ := nd_z_e ⟨_, rfl⟩ h
  exact K _ _ _ _ _ _ dX5_mustWait_163 n45 (Option.some.inj h).symm hP hD hS
set_option maxHeartbeats 40000000 in
set_option maxRecDepth 100000 in
theorem db_X5_mustWait_179 {p : Program} {l : Launch} {e : Env} {s : State} {m : MethodId} {args : Array Value} {below : List Frame} {meth : Method} {c : Code} {Q : State → Prop} {A : Nat → Prop} {dC : Nat → ClassId} {dI : Nat → Nat → Nat} {a : Nat → Nat} {ac : Nat → ClassId} {n : Nat} {r : Int32 × (St × (St × (St × (St))))} (C : nd_C p l s m args c A (dC, dI) cX5_mustWait 4 RX5 ow_dm_X5_mustWait (dk_X5 ac)) (K : nd_Ki p l e (headSpec ow_dm_X5_mustWait ({ frames := 1, cells := 0, slots := 0, locals := 24 })).room s m args below meth c Q A (dC, dI) cX5_mustWait .boolean (St × (St × (St × (St)))) (dw_X5 a ac) r) : dj_X5_mustWait_179 p l e s m args below meth c Q A dC dI a ac (df_X5_mustWait_179 n) r := by
  obtain ⟨hlt, hx, hb, hml, hown, hts, hN, hA, hK⟩ := id C
  intro y0 s0 H locs ls h hP hD hS hl
  unfold df_X5_mustWait_179 at h
  obtain ⟨n48, h⟩ := nd_z_e ⟨_, rfl⟩ h
  exact K _ _ _ _ _ _ dX5_mustWait_179 n48 (Option.some.inj h).symm hP hD hS
