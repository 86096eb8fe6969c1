set_option maxHeartbeats 40000000 in
set_option maxRecDepth 100000 in
theorem dm_X6_counted (l : Launch) (hlt : l.stackTraces = false) (dC : Nat → ClassId) (dI : Nat → Nat → Nat) (a : Nat → Nat) (ac : Nat → ClassId) (n : Nat) (v0 : Int32) (s0 : St × (St)) {r : Int64 × (St × (St))} (h : df_X6_counted n v0 s0 = some r) (sz : Nat) : Met l yX6_counted ow_dm_X6_counted ({ frames := 2, cells := 0, slots := 0, locals := 44 }) (va_Pc [.ref (a 0), .int v0] (fun U => U.heap.size = sz ∧ va_P (dC, dI) vwCl (dw_X6 a ac s0) U.heap ∧ va_K (dC, dI) vwCl (dk_X6 ac) U ∧ va_D (fun _ => True) (dw_X6 a ac s0) ∧ nv_E (va_A (dw_X6 a ac s0) sz) U)) (va_Ql (fun x _ => x = r.1) (fun (_ : Unit) t => va_P (dC, dI) vwCl (dw_X6 a ac r.2) t.heap ∧ va_K (dC, dI) vwCl (dk_X6 ac) t ∧ va_D (va_A (dw_X6 a ac s0) sz) (dw_X6 a ac r.2)) (va_A (dw_X6 a ac s0) sz)) 0 0 (va_A (dw_X6 a ac s0) sz) := by
  refine Met.ofW (cc := cX6_counted) (maxL := 2) (ret := (some .long)) (by decide) rfl ?_
  intro p e s m args below meth c s₁ B hml hv
  obtain ⟨rfl, hsz, hP, hK, hD0, hN⟩ := hv
  have hx := B.exec
  have hb := B.bytes
  have hr := B.returns
  have hts := atoms_spec (ws := ow_dm_X6_counted) B.pre
  have hown : s.vm.findClass RX6 = some m.cls := findClass_of_methodNamed B.named
  have hlocks := B.notSynchronized
  subst hsz
  have hD := hD0.self (sz := s.heap.size)
  generalize hAe : va_A (dw_X6 a ac s0) s.heap.size = A at hD hN ⊢
  have hA : ∀ q : Nat, s.heap.size ≤ q → A q := fun q h => by rw [← hAe]; exact Or.inr h
  have hl := lv_entry ([.ref (a 0), .int v0]) (n := 2) (Nat.le_of_ble_eq_true rfl)
  rw [lg_entry_eq]
  generalize (lg_sl ([.ref (a 0), .int v0]) ++ List.replicate (2 - (lg_sl ([.ref (a 0), .int v0])).length) Slot.unset).toArray = ls at hl ⊢
  have hl : lv_has ls 2 [(0, .ref (a 0)), (1, .int v0)] := hl
  exact db_X6_counted_0 (dC := dC) (dI := dI) (a := a) (ac := ac) (n := n) (r := r) ⟨hlt, hx, hb, hml, hown, hts, hN, hA, hK⟩ (fun pc v τ H locs ls d er hP hD hS => by subst er; exact W.lret (v := v) hx hb hr (fun t ht hW => ⟨⟨v, (), rfl, rfl, by rw [ht]; exact hP, va_K.moved hW.alike hK, hD⟩, hS.F ht⟩) hS.2.2 d) v0 s0 _ _ _ h hP hD va_S.rf (lv_sub hl [0, 1] rfl)
