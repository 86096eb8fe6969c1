set_option maxHeartbeats 40000000 in
set_option maxRecDepth 100000 in
theorem k_X18_init (l : Launch) (hlt : l.stackTraces = false) (dC : Nat → ClassId) (dI : Nat → Nat → Nat) (c0 : Nat) (sz : Nat) : Met l yX18_init ow_k_X18_init ({ frames := 1, cells := 2, slots := 96, locals := 12 }) (va_Pc [.ref c0] (fun U => U.heap.size = sz ∧ va_P (dC, dI) vwCl [(c0, .inr (19, [.null, .int 0, .int 0, .int 0, .int 0, .int 0, .int 0, .int 0, .int 0, .null]))] U.heap ∧ va_K (dC, dI) vwCl [] U ∧ va_D (fun _ => True) [(c0, .inr (19, [.null, .int 0, .int 0, .int 0, .int 0, .int 0, .int 0, .int 0, .int 0, .null]))] ∧ nv_E dI (va_A [(c0, .inr (19, [.null, .int 0, .int 0, .int 0, .int 0, .int 0, .int 0, .int 0, .int 0, .null]))] sz) U)) (va_Qv (fun _ => True) (fun (_ : Unit) t => ∃ (q1 : Nat) (y2 : ClassId) (q3 : Nat) (y4 : ClassId), va_P (dC, dI) vwCl [(c0, .inr (19, [.ref q1, .int 0, .int 0, .int 0, .int 0, .int 0, .int 0, .int 0, .int 0, .ref q3])), (q1, .inl (y2, 64, .inl (fun _ => 0))), (q3, .inl (y4, 32, .inl (tbI rgT 32)))] t.heap ∧ va_K (dC, dI) vwCl [(y2, .char), (y4, .int)] t ∧ va_D (va_A [(c0, .inr (19, [.null, .int 0, .int 0, .int 0, .int 0, .int 0, .int 0, .int 0, .int 0, .null]))] sz) [(c0, .inr (19, [.ref q1, .int 0, .int 0, .int 0, .int 0, .int 0, .int 0, .int 0, .int 0, .ref q3])), (q1, .inl (y2, 64, .inl (fun _ => 0))), (q3, .inl (y4, 32, .inl (tbI rgT 32)))]) (va_A [(c0, .inr (19, [.null, .int 0, .int 0, .int 0, .int 0, .int 0, .int 0, .int 0, .int 0, .null]))] sz)) 2 96 (va_A [(c0, .inr (19, [.null, .int 0, .int 0, .int 0, .int 0, .int 0, .int 0, .int 0, .int 0, .null]))] sz) := by
  refine Met.ofW (cc := cX18_init) (maxL := 1) (ret := none) (by decide) rfl ?_
  intro p e s m args below meth c s₁ B hml hv
  obtain ⟨rfl, hsz, hP, hK, hD0, hN⟩ := hv
  have hx := B.exec
  have hb := B.bytes
  have hr := B.returns
  have hts := atoms_spec (ws := ow_k_X18_init) B.pre
  have hown : s.vm.findClass RX18 = some m.cls := findClass_of_methodNamed B.named
  have hlocks := B.notSynchronized
  have hin : meth.name = "<init>" := (name_of_methodNamed B.named B.method).1
  subst hsz
  have hD := hD0.self (sz := s.heap.size)
  generalize hAe : va_A [(c0, .inr (19, [.null, .int 0, .int 0, .int 0, .int 0, .int 0, .int 0, .int 0, .int 0, .null]))] s.heap.size = A at hD hN ⊢
  have hA : ∀ q : Nat, s.heap.size ≤ q → A q := fun q h => by rw [← hAe]; exact Or.inr h
  have hS : va_S A s.heap s.heap [] := va_S.rf
  have hl := lv_entry ([.ref c0]) (n := 1) (Nat.le_of_ble_eq_true rfl)
  rw [lg_entry_eq]
  generalize (lg_sl ([.ref c0]) ++ List.replicate (1 - (lg_sl ([.ref c0])).length) Slot.unset).toArray = ls at hl ⊢
  have hl : lv_has ls 1 [(0, .ref c0)] := hl
  refine k_X18_init_s0 dC dI c0 hlt hx hb hml hown hts hin hN hA hK hP hD hS hl (fun q1 y2 q3 y4 H locs ls hK hP hD hS hl => ?_)
  refine lv_bipush (v := 20) hx hb dX18_init_151 (by decide) ?_
  refine lv_sipush (v := 13427) hx hb dX18_init_153 (by decide) ?_
  refine va_iast (i := 20) (x := 13427) hx hb hK hP hD hS 2 1 rfl rfl (vp_in_iff.mpr ⟨by decide, by decide⟩) dX18_init_156 (fun H locs hP hD hS => ?_)
  rw [tbI_s rgT 20 (j := 20) (v := 13427) (by decide) (by decide +kernel)] at hP hD
  have hP : va_P (dC, dI) vwCl [(c0, .inr (19, [.ref q1, .int 0, .int 0, .int 0, .int 0, .int 0, .int 0, .int 0, .int 0, .null])), (q1, .inl (y2, 64, .inl (fun _ => 0))), (q3, .inl (y4, 32, .inl (tbI rgT 21)))] H := hP
  have hD : va_D A [(c0, .inr (19, [.ref q1, .int 0, .int 0, .int 0, .int 0, .int 0, .int 0, .int 0, .int 0, .null])), (q1, .inl (y2, 64, .inl (fun _ => 0))), (q3, .inl (y4, 32, .inl (tbI rgT 21)))] := hD
  refine lv_dup hx hb dX18_init_157 rfl ?_
  refine lv_bipush (v := 21) hx hb dX18_init_158 (by decide) ?_
  refine lv_sipush (v := 13683) hx hb dX18_init_160 (by decide) ?_
  refine va_iast (i := 21) (x := 13683) hx hb hK hP hD hS 2 1 rfl rfl (vp_in_iff.mpr ⟨by decide, by decide⟩) dX18_init_163 (fun H locs hP hD hS => ?_)
  rw [tbI_s rgT 21 (j := 21) (v := 13683) (by decide) (by decide +kernel)] at hP hD
  have hP : va_P (dC, dI) vwCl [(c0, .inr (19, [.ref q1, .int 0, .int 0, .int 0, .int 0, .int 0, .int 0, .int 0, .int 0, .null])), (q1, .inl (y2, 64, .inl (fun _ => 0))), (q3, .inl (y4, 32, .inl (tbI rgT 22)))] H := hP
  have hD : va_D A [(c0, .inr (19, [.ref q1, .int 0, .int 0, .int 0, .int 0, .int 0, .int 0, .int 0, .int 0, .null])), (q1, .inl (y2, 64, .inl (fun _ => 0))), (q3, .inl (y4, 32, .inl (tbI rgT 22)))] := hD
  refine lv_dup hx hb dX18_init_164 rfl ?_
  refine lv_bipush (v := 22) hx hb dX18_init_165 (by decide) ?_
  refine lv_sipush (v := 13939) hx hb dX18_init_167 (by decide) ?_
  refine va_iast (i := 22) (x := 13939) hx hb hK hP hD hS 2 1 rfl rfl (vp_in_iff.mpr ⟨by decide, by decide⟩) dX18_init_170 (fun H locs hP hD hS => ?_)
  rw [tbI_s rgT 22 (j := 22) (v := 13939) (by decide) (by decide +kernel)] at hP hD
  have hP : va_P (dC, dI) vwCl [(c0, .inr (19, [.ref q1, .int 0, .int 0, .int 0, .int 0, .int 0, .int 0, .int 0, .int 0, .null])), (q1, .inl (y2, 64, .inl (fun _ => 0))), (q3, .inl (y4, 32, .inl (tbI rgT 23)))] H := hP
  have hD : va_D A [(c0, .inr (19, [.ref q1, .int 0, .int 0, .int 0, .int 0, .int 0, .int 0, .int 0, .int 0, .null])), (q1, .inl (y2, 64, .inl (fun _ => 0))), (q3, .inl (y4, 32, .inl (tbI rgT 23)))] := hD
  refine lv_dup hx hb dX18_init_171 rfl ?_
  refine lv_bipush (v := 23) hx hb dX18_init_172 (by decide) ?_
  refine lv_sipush (v := 14195) hx hb dX18_init_174 (by decide) ?_
  refine va_iast (i := 23) (x := 14195) hx hb hK hP hD hS 2 1 rfl rfl (vp_in_iff.mpr ⟨by decide, by decide⟩) dX18_init_177 (fun H locs hP hD hS => ?_)
  rw [tbI_s rgT 23 (j := 23) (v := 14195) (by decide) (by decide +kernel)] at hP hD
  have hP : va_P (dC, dI) vwCl [(c0, .inr (19, [.ref q1, .int 0, .int 0, .int 0, .int 0, .int 0, .int 0, .int 0, .int 0, .null])), (q1, .inl (y2, 64, .inl (fun _ => 0))), (q3, .inl (y4, 32, .inl (tbI rgT 24)))] H := hP
  have hD : va_D A [(c0, .inr (19, [.ref q1, .int 0, .int 0, .int 0, .int 0, .int 0, .int 0, .int 0, .int 0, .null])), (q1, .inl (y2, 64, .inl (fun _ => 0))), (q3, .inl (y4, 32, .inl (tbI rgT 24)))] := hD
  refine lv_dup hx hb dX18_init_178 rfl ?_
  refine lv_bipush (v := 24) hx hb dX18_init_179 (by decide) ?_
  refine lv_sipush (v := 14451) hx hb dX18_init_181 (by decide) ?_
  refine va_iast (i := 24) (x := 14451) hx hb hK hP hD hS 2 1 rfl rfl (vp_in_iff.mpr ⟨by decide, by decide⟩) dX18_init_184 (fun H locs hP hD hS => ?_)
  rw [tbI_s rgT 24 (j := 24) (v := 14451) (by decide) (by decide +kernel)] at hP hD
  have hP : va_P (dC, dI) vwCl [(c0, .inr (19, [.ref q1, .int 0, .int 0, .int 0, .int 0, .int 0, .int 0, .int 0, .int 0, .null])), (q1, .inl (y2, 64, .inl (fun _ => 0))), (q3, .inl (y4, 32, .inl (tbI rgT 25)))] H := hP
  have hD : va_D A [(c0, .inr (19, [.ref q1, .int 0, .int 0, .int 0, .int 0, .int 0, .int 0, .int 0, .int 0, .null])), (q1, .inl (y2, 64, .inl (fun _ => 0))), (q3, .inl (y4, 32, .inl (tbI rgT 25)))] := hD
  refine lv_dup hx hb dX18_init_185 rfl ?_
  refine lv_bipush (v := 25) hx hb dX18_init_186 (by decide) ?_
  refine lv_sipush (v := 14707) hx hb dX18_init_188 (by decide) ?_
  refine va_iast (i := 25) (x := 14707) hx hb hK hP hD hS 2 1 rfl rfl (vp_in_iff.mpr ⟨by decide, by decide⟩) dX18_init_191 (fun H locs hP hD hS => ?_)
  rw [tbI_s rgT 25 (j := 25) (v := 14707) (by decide) (by decide +kernel)] at hP hD
  have hP : va_P (dC, dI) vwCl [(c0, .inr (19, [.ref q1, .int 0, .int 0, .int 0, .int 0, .int 0, .int 0, .int 0, .int 0, .null])), (q1, .inl (y2, 64, .inl (fun _ => 0))), (q3, .inl (y4, 32, .inl (tbI rgT 26)))] H := hP
  have hD : va_D A [(c0, .inr (19, [.ref q1, .int 0, .int 0, .int 0, .int 0, .int 0, .int 0, .int 0, .int 0, .null])), (q1, .inl (y2, 64, .inl (fun _ => 0))), (q3, .inl (y4, 32, .inl (tbI rgT 26)))] := hD
  refine lv_dup hx hb dX18_init_192 rfl ?_
  refine lv_bipush (v := 26) hx hb dX18_init_193 (by decide) ?_
  refine lv_ldc hx hb hown (hts (.constant RX18 14 (3158387)) (List.mem_of_getElem? (i := 8) rfl)) dX18_init_195 ?_
  refine va_iast (i := 26) (x := 3158387) hx hb hK hP hD hS 2 1 rfl rfl (vp_in_iff.mpr ⟨by decide, by decide⟩) dX18_init_197 (fun H locs hP hD hS => ?_)
  rw [tbI_s rgT 26 (j := 26) (v := 3158387) (by decide) (by decide +kernel)] at hP hD
  have hP : va_P (dC, dI) vwCl [(c0, .inr (19, [.ref q1, .int 0, .int 0, .int 0, .int 0, .int 0, .int 0, .int 0, .int 0, .null])), (q1, .inl (y2, 64, .inl (fun _ => 0))), (q3, .inl (y4, 32, .inl (tbI rgT 27)))] H := hP
  have hD : va_D A [(c0, .inr (19, [.ref q1, .int 0, .int 0, .int 0, .int 0, .int 0, .int 0, .int 0, .int 0, .null])), (q1, .inl (y2, 64, .inl (fun _ => 0))), (q3, .inl (y4, 32, .inl (tbI rgT 27)))] := hD
  refine lv_dup hx hb dX18_init_198 rfl ?_
  refine lv_bipush (v := 27) hx hb dX18_init_199 (by decide) ?_
  refine lv_ldc hx hb hown (hts (.constant RX18 15 (3223923)) (List.mem_of_getElem? (i := 9) rfl)) dX18_init_201 ?_
  refine va_iast (i := 27) (x := 3223923) hx hb hK hP hD hS 2 1 rfl rfl (vp_in_iff.mpr ⟨by decide, by decide⟩) dX18_init_203 (fun H locs hP hD hS => ?_)
  rw [tbI_s rgT 27 (j := 27) (v := 3223923) (by decide) (by decide +kernel)] at hP hD
  have hP : va_P (dC, dI) vwCl [(c0, .inr (19, [.ref q1, .int 0, .int 0, .int 0, .int 0, .int 0, .int 0, .int 0, .int 0, .null])), (q1, .inl (y2, 64, .inl (fun _ => 0))), (q3, .inl (y4, 32, .inl (tbI rgT 28)))] H := hP
  have hD : va_D A [(c0, .inr (19, [.ref q1, .int 0, .int 0, .int 0, .int 0, .int 0, .int 0, .int 0, .int 0, .null])), (q1, .inl (y2, 64, .inl (fun _ => 0))), (q3, .inl (y4, 32, .inl (tbI rgT 28)))] := hD
  refine lv_dup hx hb dX18_init_204 rfl ?_
  refine lv_bipush (v := 28) hx hb dX18_init_205 (by decide) ?_
  refine lv_sipush (v := 13172) hx hb dX18_init_207 (by decide) ?_
  refine va_iast (i := 28) (x := 13172) hx hb hK hP hD hS 2 1 rfl rfl (vp_in_iff.mpr ⟨by decide, by decide⟩) dX18_init_210 (fun H locs hP hD hS => ?_)
  rw [tbI_s rgT 28 (j := 28) (v := 13172) (by decide) (by decide +kernel)] at hP hD
  have hP : va_P (dC, dI) vwCl [(c0, .inr (19, [.ref q1, .int 0, .int 0, .int 0, .int 0, .int 0, .int 0, .int 0, .int 0, .null])), (q1, .inl (y2, 64, .inl (fun _ => 0))), (q3, .inl (y4, 32, .inl (tbI rgT 29)))] H := hP
  have hD : va_D A [(c0, .inr (19, [.ref q1, .int 0, .int 0, .int 0, .int 0, .int 0, .int 0, .int 0, .int 0, .null])), (q1, .inl (y2, 64, .inl (fun _ => 0))), (q3, .inl (y4, 32, .inl (tbI rgT 29)))] := hD
  refine lv_dup hx hb dX18_init_211 rfl ?_
  refine lv_bipush (v := 29) hx hb dX18_init_212 (by decide) ?_
  refine lv_sipush (v := 13428) hx hb dX18_init_214 (by decide) ?_
  refine va_iast (i := 29) (x := 13428) hx hb hK hP hD hS 2 1 rfl rfl (vp_in_iff.mpr ⟨by decide, by decide⟩) dX18_init_217 (fun H locs hP hD hS => ?_)
  rw [tbI_s rgT 29 (j := 29) (v := 13428) (by decide) (by decide +kernel)] at hP hD
  have hP : va_P (dC, dI) vwCl [(c0, .inr (19, [.ref q1, .int 0, .int 0, .int 0, .int 0, .int 0, .int 0, .int 0, .int 0, .null])), (q1, .inl (y2, 64, .inl (fun _ => 0))), (q3, .inl (y4, 32, .inl (tbI rgT 30)))] H := hP
  have hD : va_D A [(c0, .inr (19, [.ref q1, .int 0, .int 0, .int 0, .int 0, .int 0, .int 0, .int 0, .int 0, .null])), (q1, .inl (y2, 64, .inl (fun _ => 0))), (q3, .inl (y4, 32, .inl (tbI rgT 30)))] := hD
  refine lv_dup hx hb dX18_init_218 rfl ?_
  refine lv_bipush (v := 30) hx hb dX18_init_219 (by decide) ?_
  refine lv_sipush (v := 13684) hx hb dX18_init_221 (by decide) ?_
  refine va_iast (i := 30) (x := 13684) hx hb hK hP hD hS 2 1 rfl rfl (vp_in_iff.mpr ⟨by decide, by decide⟩) dX18_init_224 (fun H locs hP hD hS => ?_)
  rw [tbI_s rgT 30 (j := 30) (v := 13684) (by decide) (by decide +kernel)] at hP hD
  have hP : va_P (dC, dI) vwCl [(c0, .inr (19, [.ref q1, .int 0, .int 0, .int 0, .int 0, .int 0, .int 0, .int 0, .int 0, .null])), (q1, .inl (y2, 64, .inl (fun _ => 0))), (q3, .inl (y4, 32, .inl (tbI rgT 31)))] H := hP
  have hD : va_D A [(c0, .inr (19, [.ref q1, .int 0, .int 0, .int 0, .int 0, .int 0, .int 0, .int 0, .int 0, .null])), (q1, .inl (y2, 64, .inl (fun _ => 0))), (q3, .inl (y4, 32, .inl (tbI rgT 31)))] := hD
  refine lv_dup hx hb dX18_init_225 rfl ?_
  refine lv_bipush (v := 31) hx hb dX18_init_226 (by decide) ?_
  refine lv_sipush (v := 13940) hx hb dX18_init_228 (by decide) ?_
  refine va_iast (i := 31) (x := 13940) hx hb hK hP hD hS 2 1 rfl rfl (vp_in_iff.mpr ⟨by decide, by decide⟩) dX18_init_231 (fun H locs hP hD hS => ?_)
  rw [tbI_s rgT 31 (j := 31) (v := 13940) (by decide) (by decide +kernel)] at hP hD
  have hP : va_P (dC, dI) vwCl [(c0, .inr (19, [.ref q1, .int 0, .int 0, .int 0, .int 0, .int 0, .int 0, .int 0, .int 0, .null])), (q1, .inl (y2, 64, .inl (fun _ => 0))), (q3, .inl (y4, 32, .inl (tbI rgT 32)))] H := hP
  have hD : va_D A [(c0, .inr (19, [.ref q1, .int 0, .int 0, .int 0, .int 0, .int 0, .int 0, .int 0, .int 0, .null])), (q1, .inl (y2, 64, .inl (fun _ => 0))), (q3, .inl (y4, 32, .inl (tbI rgT 32)))] := hD
  refine va_putF (D := (dC, dI)) (ci := 19) (v := .ref q3) (ty := .array .int) (C := RX18) (T := TX18) (N := 10) hx hb hts hi_k_X18_init_X18 tyX18 tyX18_ok nmX18 hown hK hP hD hS 0 rfl rfl 9 (by decide) (hts (.fieldLink RX18 16 "TimeMachineModel$Reader" "registers" "[I") (List.mem_of_getElem? (i := 10) rfl)) (fun _ h9 => h9) rfl hin rfl (by decide +kernel) rfl rfl (Nat.le_of_ble_eq_true rfl) dX18_init_232 (fun H locs hP hD hS => ?_)
  have hP : va_P (dC, dI) vwCl [(c0, .inr (19, [.ref q1, .int 0, .int 0, .int 0, .int 0, .int 0, .int 0, .int 0, .int 0, .ref q3])), (q1, .inl (y2, 64, .inl (fun _ => 0))), (q3, .inl (y4, 32, .inl (tbI rgT 32)))] H := hP
  have hD : va_D A [(c0, .inr (19, [.ref q1, .int 0, .int 0, .int 0, .int 0, .int 0, .int 0, .int 0, .int 0, .ref q3])), (q1, .inl (y2, 64, .inl (fun _ => 0))), (q3, .inl (y4, 32, .inl (tbI rgT 32)))] := hD
  have hP9 := hP.sub (ws' := [(c0, .inr (19, [.ref q1, .int 0, .int 0, .int 0, .int 0, .int 0, .int 0, .int 0, .int 0, .ref q3])), (q1, .inl (y2, 64, .inl (fun _ => 0))), (q3, .inl (y4, 32, .inl (tbI rgT 32)))]) [0, 1, 2] rfl
  have hD9 := hD.sub (ws' := [(c0, .inr (19, [.ref q1, .int 0, .int 0, .int 0, .int 0, .int 0, .int 0, .int 0, .int 0, .ref q3])), (q1, .inl (y2, 64, .inl (fun _ => 0))), (q3, .inl (y4, 32, .inl (tbI rgT 32)))]) [0, 1, 2] (by decide) rfl
  have hK9 := hK.sub (tys' := [(y2, .char), (y4, .int)]) [0, 1] rfl
  refine W.widen (k := 2) (n := 96) (by decide +kernel) (by decide +kernel) ?_
  exact W.vret hx hb hr (fun t ht hW => ⟨⟨(), rfl, trivial, q1, y2, q3, y4, by rw [ht]; exact hP9, va_K.moved hW.alike hK9, hD9⟩, hS.F ht⟩) hS.2.2 dX18_init_235
def ow_k_X19_init : List Cond := Cond.code yX19_init cX19_init 1 none :: ([Cond.methodLink RX19 1 objectInit, Cond.instanceMethod objectInit, Cond.code objectInit ⟨#[0xb1]⟩ 1 none, Cond.constant RX19 9 (32768), Cond.arrayClass .int, Cond.fieldLink RX19 10 "TimeMachineModel" "tape" "[I", Cond.arrayClass .boolean, Cond.fieldLink RX19 14 "TimeMachineModel" "isProgram" "[Z", Cond.fieldLink RX19 18 "TimeMachineModel" "text" "[I", Cond.fieldLink RX19 21 "TimeMachineModel" "data" "[I", Cond.fieldLink RX19 24 "TimeMachineModel" "ends" "[I", Cond.fieldLink RX19 27 "TimeMachineModel" "constants" "[I", Cond.constant RX19 30 (131072), Cond.fieldLink RX19 31 "TimeMachineModel" "images" "[I", Cond.classLink RX19 34 "[I", Cond.fieldLink RX19 35 "TimeMachineModel" "labels" "[[I", Cond.classLink RX19 39 RX17, Cond.instantiable RX17 5, Cond.initialized RX17, Cond.instanceMethod yX17_init, Cond.fieldLink RX19 42 "TimeMachineModel" "booting" "LTimeMachineModel$Programs;", Cond.classLink RX19 46 RX13, Cond.instantiable RX13 37, Cond.initialized RX13, Cond.instanceMethod yX13_init, Cond.fieldLink RX19 49 "TimeMachineModel" "assembler" "LTimeMachineModel$Assembler;", Cond.classLink RX19 53 RX16, Cond.instantiable RX16 56, Cond.initialized RX16, Cond.methodLink RX19 55 yX16_init, Cond.instanceMethod yX16_init, Cond.fieldLink RX19 58 "TimeMachineModel" "m" "LTimeMachineModel$Machine;", Cond.classLink RX19 62 RX15, Cond.instantiable RX15 28, Cond.initialized RX15, Cond.methodLink RX19 64 yX15_init, Cond.instanceMethod yX15_init, Cond.fieldLink RX19 67 "TimeMachineModel" "conditions" "LTimeMachineModel$Conditions;", Cond.classLink RX19 71 RX14, Cond.instantiable RX14 11, Cond.initialized RX14, Cond.instanceMethod yX14_init, Cond.fieldLink RX19 74 "TimeMachineModel" "codec" "LTimeMachineModel$Codec;", Cond.classLink RX19 78 RX18, Cond.instantiable RX18 10, Cond.initialized RX18, Cond.instanceMethod yX18_init, Cond.fieldLink RX19 81 "TimeMachineModel" "reader" "LTimeMachineModel$Reader;", Cond.fieldLink RX19 85 "TimeMachineModel" "kind" "[I", Cond.fieldLink RX19 88 "TimeMachineModel" "b" "[I", Cond.fieldLink RX19 91 "TimeMachineModel" "when" "[I", Cond.fieldLink RX19 94 "TimeMachineModel" "laterKind" "[I", Cond.fieldLink RX19 97 "TimeMachineModel" "laterB" "[I", Cond.arrayClass .long, Cond.fieldLink RX19 100 "TimeMachineModel" "a" "[J", Cond.fieldLink RX19 104 "TimeMachineModel" "laterA" "[J", Cond.fieldLink RX19 107 "TimeMachineModel" "laterWhen" "[J", Cond.fieldLink RX19 110 "TimeMachineModel" "log" "[I"] ++ (u_ws RX19 TX19 36 ++ (u_ws RX17 TX17 5 ++ (u_ws RX13 TX13 37 ++ (u_ws RX16 TX16 56 ++ (u_ws RX15 TX15 28 ++ (u_ws RX14 TX14 11 ++ (u_ws RX18 TX18 10 ++ (ow_k_X17_init ++ (ow_k_X13_init ++ (ow_k_X16_init ++ (ow_k_X15_init ++ (ow_k_X14_init ++ (ow_k_X18_init ++ []))))))))))))))
theorem gd_k_X19_init : ∀ w ∈ ow_k_X19_init, (w.onTables && w.keeps) = true ∨ ∃ ty, w = Cond.arrayClass ty := List.forall_mem_cons.mpr ⟨good_of_word rfl, List.forall_mem_append.mpr ⟨fun w h => good_of_word (List.all_eq_true.mp (by decide +kernel) w h), List.forall_mem_append.mpr ⟨gu_X19, List.forall_mem_append.mpr ⟨gu_X17, List.forall_mem_append.mpr ⟨gu_X13, List.forall_mem_append.mpr ⟨gu_X16, List.forall_mem_append.mpr ⟨gu_X15, List.forall_mem_append.mpr ⟨gu_X14, List.forall_mem_append.mpr ⟨gu_X18, List.forall_mem_append.mpr ⟨gd_k_X17_init, List.forall_mem_append.mpr ⟨gd_k_X13_init, List.forall_mem_append.mpr ⟨gd_k_X16_init, List.forall_mem_append.mpr ⟨gd_k_X15_init, List.forall_mem_append.mpr ⟨gd_k_X14_init, List.forall_mem_append.mpr ⟨gd_k_X18_init, fun _ h => nomatch h⟩⟩⟩⟩⟩⟩⟩⟩⟩⟩⟩⟩⟩⟩⟩
theorem hi_k_X19_init_X19 : ∀ w ∈ u_ws RX19 TX19 36, w ∈ ow_k_X19_init := fun w h => List.mem_cons_of_mem _ (List.mem_append_right _ (List.mem_append_left _ h))
theorem hi_k_X19_init_X17 : ∀ w ∈ u_ws RX17 TX17 5, w ∈ ow_k_X19_init := fun w h => List.mem_cons_of_mem _ (List.mem_append_right _ (List.mem_append_right _ (List.mem_append_left _ h)))
theorem hi_k_X19_init_X13 : ∀ w ∈ u_ws RX13 TX13 37, w ∈ ow_k_X19_init := fun w h => List.mem_cons_of_mem _ (List.mem_append_right _ (List.mem_append_right _ (List.mem_append_right _ (List.mem_append_left _ h))))
theorem hi_k_X19_init_X16 : ∀ w ∈ u_ws RX16 TX16 56, w ∈ ow_k_X19_init := fun w h => List.mem_cons_of_mem _ (List.mem_append_right _ (List.mem_append_right _ (List.mem_append_right _ (List.mem_append_right _ (List.mem_append_left _ h)))))
theorem hi_k_X19_init_X15 : ∀ w ∈ u_ws RX15 TX15 28, w ∈ ow_k_X19_init := fun w h => List.mem_cons_of_mem _ (List.mem_append_right _ (List.mem_append_right _ (List.mem_append_right _ (List.mem_append_right _ (List.mem_append_right _ (List.mem_append_left _ h))))))
theorem hi_k_X19_init_X14 : ∀ w ∈ u_ws RX14 TX14 11, w ∈ ow_k_X19_init := fun w h => List.mem_cons_of_mem _ (List.mem_append_right _ (List.mem_append_right _ (List.mem_append_right _ (List.mem_append_right _ (List.mem_append_right _ (List.mem_append_right _ (List.mem_append_left _ h)))))))
theorem hi_k_X19_init_X18 : ∀ w ∈ u_ws RX18 TX18 10, w ∈ ow_k_X19_init := fun w h => List.mem_cons_of_mem _ (List.mem_append_right _ (List.mem_append_right _ (List.mem_append_right _ (List.mem_append_right _ (List.mem_append_right _ (List.mem_append_right _ (List.mem_append_right _ (List.mem_append_left _ h))))))))
theorem gi_k_X19_init_0 : GoodIn ow_k_X19_init ow_k_X17_init := (fun w h => ⟨List.mem_cons_of_mem _ (List.mem_append_right _ (List.mem_append_right _ (List.mem_append_right _ (List.mem_append_right _ (List.mem_append_right _ (List.mem_append_right _ (List.mem_append_right _ (List.mem_append_right _ (List.mem_append_left _ h))))))))), gd_k_X17_init w h⟩)
theorem gi_k_X19_init_1 : GoodIn ow_k_X19_init ow_k_X13_init := (fun w h => ⟨List.mem_cons_of_mem _ (List.mem_append_right _ (List.mem_append_right _ (List.mem_append_right _ (List.mem_append_right _ (List.mem_append_right _ (List.mem_append_right _ (List.mem_append_right _ (List.mem_append_right _ (List.mem_append_right _ (List.mem_append_left _ h)))))))))), gd_k_X13_init w h⟩)
theorem gi_k_X19_init_2 : GoodIn ow_k_X19_init ow_k_X16_init := (fun w h => ⟨List.mem_cons_of_mem _ (List.mem_append_right _ (List.mem_append_right _ (List.mem_append_right _ (List.mem_append_right _ (List.mem_append_right _ (List.mem_append_right _ (List.mem_append_right _ (List.mem_append_right _ (List.mem_append_right _ (List.mem_append_right _ (List.mem_append_left _ h))))))))))), gd_k_X16_init w h⟩)
theorem gi_k_X19_init_3 : GoodIn ow_k_X19_init ow_k_X15_init := (fun w h => ⟨List.mem_cons_of_mem _ (List.mem_append_right _ (List.mem_append_right _ (List.mem_append_right _ (List.mem_append_right _ (List.mem_append_right _ (List.mem_append_right _ (List.mem_append_right _ (List.mem_append_right _ (List.mem_append_right _ (List.mem_append_right _ (List.mem_append_right _ (List.mem_append_left _ h)))))))))))), gd_k_X15_init w h⟩)
theorem gi_k_X19_init_4 : GoodIn ow_k_X19_init ow_k_X14_init := (fun w h => ⟨List.mem_cons_of_mem _ (List.mem_append_right _ (List.mem_append_right _ (List.mem_append_right _ (List.mem_append_right _ (List.mem_append_right _ (List.mem_append_right _ (List.mem_append_right _ (List.mem_append_right _ (List.mem_append_right _ (List.mem_append_right _ (List.mem_append_right _ (List.mem_append_right _ (List.mem_append_left _ h))))))))))))), gd_k_X14_init w h⟩)
theorem gi_k_X19_init_5 : GoodIn ow_k_X19_init ow_k_X18_init := (fun w h => ⟨List.mem_cons_of_mem _ (List.mem_append_right _ (List.mem_append_right _ (List.mem_append_right _ (List.mem_append_right _ (List.mem_append_right _ (List.mem_append_right _ (List.mem_append_right _ (List.mem_append_right _ (List.mem_append_right _ (List.mem_append_right _ (List.mem_append_right _ (List.mem_append_right _ (List.mem_append_right _ (List.mem_append_left _ h)))))))))))))), gd_k_X18_init w h⟩)

