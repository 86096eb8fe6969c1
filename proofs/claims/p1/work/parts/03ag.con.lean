set_option maxHeartbeats 40000000 in
set_option maxRecDepth 100000 in
theorem k_X13_init_s2 {p : Program} {l : Launch} {e : Env} {s : State} {m : MethodId} {args : Array Value} {below : List Frame} {meth : Method} {c : Code} {Q : State → Prop} {A : Nat → Prop} (dC : Nat → ClassId) (dI : Nat → Nat → Nat) (c0 : Nat) (q1 : Nat) (y2 : ClassId) (f45 : Nat → Int64) (hlt : l.stackTraces = false) (hx : p.tables.exec = Jvm.exec) (hb : c.code = cX13_init) (hml : c.maxLocals = 1) (hown : s.vm.findClass RX13 = some m.cls) (hts : ∀ w ∈ ow_k_X13_init, w.before args s = true) (hin : meth.name = "<init>") (hN : nv_E A s) (hA : ∀ q : Nat, s.heap.size ≤ q → A q) {H : Heap} {locs : List Loc} {ls : Array Slot} (hK : va_K (dC, dI) vwCl [(y2, .long)] s) (hP : va_P (dC, dI) vwCl [(c0, .inr (14, [.null, .null, .null, .null, .int 0, .int 0, .int 0, .null, .null, .null, .int 0, .null, .null, .int 0, .int 0, .int 0, .int 0, .int 0, .int 0, .int 0, .int 0, .int 0, .int 0, .int 0, .int 0, .int 0, .int 0, .int 0, .int 0, .null, .int 0, .int 0, .int 0, .int 0, .null, .int 0, .int 0])), (q1, .inl (y2, 128, .inr (.inl f45)))] H) (hD : va_D A [(c0, .inr (14, [.null, .null, .null, .null, .int 0, .int 0, .int 0, .null, .null, .null, .int 0, .null, .null, .int 0, .int 0, .int 0, .int 0, .int 0, .int 0, .int 0, .int 0, .int 0, .int 0, .int 0, .int 0, .int 0, .int 0, .int 0, .int 0, .null, .int 0, .int 0, .int 0, .int 0, .null, .int 0, .int 0])), (q1, .inl (y2, 128, .inr (.inl f45)))]) (hS : va_S A s.heap H locs) (hl : lv_has ls 1 [(0, .ref c0)]) (kk : ∀ (f68 : Nat → Int64) (H : Heap) (locs : List Loc) (ls : Array Slot), va_K (dC, dI) vwCl [(y2, .long)] s → va_P (dC, dI) vwCl [(c0, .inr (14, [.null, .null, .null, .null, .int 0, .int 0, .int 0, .null, .null, .null, .int 0, .null, .null, .int 0, .int 0, .int 0, .int 0, .int 0, .int 0, .int 0, .int 0, .int 0, .int 0, .int 0, .int 0, .int 0, .int 0, .int 0, .int 0, .null, .int 0, .int 0, .int 0, .int 0, .null, .int 0, .int 0])), (q1, .inl (y2, 128, .inr (.inl f68)))] H → va_D A [(c0, .inr (14, [.null, .null, .null, .null, .int 0, .int 0, .int 0, .null, .null, .null, .int 0, .null, .null, .int 0, .int 0, .int 0, .int 0, .int 0, .int 0, .int 0, .int 0, .int 0, .int 0, .int 0, .int 0, .int 0, .int 0, .int 0, .int 0, .null, .int 0, .int 0, .int 0, .int 0, .null, .int 0, .int 0])), (q1, .inl (y2, 128, .inr (.inl f68)))] → va_S A s.heap H locs → lv_has ls 1 [(0, .ref c0)] → W p l e (headSpec ow_k_X13_init ({ frames := 1, cells := 10, slots := 131956, locals := 12 })).room s m args below meth c H locs 1 128 Q (F0 m 467 ls [.ref q1, .ref q1, .ref c0])) : W p l e (headSpec ow_k_X13_init ({ frames := 1, cells := 10, slots := 131956, locals := 12 })).room s m args below meth c H locs 1 128 Q (F0 m 311 ls [.long 5525954, .int 43, .ref q1, .ref q1, .ref c0]) := by
  refine va_last (i := 43) (x := 5525954) hx hb hK hP hD hS 1 0 rfl rfl (vp_in_iff.mpr ⟨by decide, by decide⟩) dX13_init_311 (fun H locs hP hD hS => ?_)
  generalize hf46 : vp_updL f45 (Int32.toNatClampNeg 43) 5525954 = f46 at hP hD
  have hP : va_P (dC, dI) vwCl [(c0, .inr (14, [.null, .null, .null, .null, .int 0, .int 0, .int 0, .null, .null, .null, .int 0, .null, .null, .int 0, .int 0, .int 0, .int 0, .int 0, .int 0, .int 0, .int 0, .int 0, .int 0, .int 0, .int 0, .int 0, .int 0, .int 0, .int 0, .null, .int 0, .int 0, .int 0, .int 0, .null, .int 0, .int 0])), (q1, .inl (y2, 128, .inr (.inl f46)))] H := hP
  have hD : va_D A [(c0, .inr (14, [.null, .null, .null, .null, .int 0, .int 0, .int 0, .null, .null, .null, .int 0, .null, .null, .int 0, .int 0, .int 0, .int 0, .int 0, .int 0, .int 0, .int 0, .int 0, .int 0, .int 0, .int 0, .int 0, .int 0, .int 0, .int 0, .null, .int 0, .int 0, .int 0, .int 0, .null, .int 0, .int 0])), (q1, .inl (y2, 128, .inr (.inl f46)))] := hD
  refine lv_dup hx hb dX13_init_312 rfl ?_
  refine lv_bipush (v := 44) hx hb dX13_init_313 (by decide) ?_
  refine lv_ldc2 hx hb hown (hts (.constantLong RX13 95 (49226)) (List.mem_of_getElem? (i := 49) rfl)) dX13_init_315 ?_
  refine va_last (i := 44) (x := 49226) hx hb hK hP hD hS 1 0 rfl rfl (vp_in_iff.mpr ⟨by decide, by decide⟩) dX13_init_318 (fun H locs hP hD hS => ?_)
  generalize hf47 : vp_updL f46 (Int32.toNatClampNeg 44) 49226 = f47 at hP hD
  have hP : va_P (dC, dI) vwCl [(c0, .inr (14, [.null, .null, .null, .null, .int 0, .int 0, .int 0, .null, .null, .null, .int 0, .null, .null, .int 0, .int 0, .int 0, .int 0, .int 0, .int 0, .int 0, .int 0, .int 0, .int 0, .int 0, .int 0, .int 0, .int 0, .int 0, .int 0, .null, .int 0, .int 0, .int 0, .int 0, .null, .int 0, .int 0])), (q1, .inl (y2, 128, .inr (.inl f47)))] H := hP
  have hD : va_D A [(c0, .inr (14, [.null, .null, .null, .null, .int 0, .int 0, .int 0, .null, .null, .null, .int 0, .null, .null, .int 0, .int 0, .int 0, .int 0, .int 0, .int 0, .int 0, .int 0, .int 0, .int 0, .int 0, .int 0, .int 0, .int 0, .int 0, .int 0, .null, .int 0, .int 0, .int 0, .int 0, .null, .int 0, .int 0])), (q1, .inl (y2, 128, .inr (.inl f47)))] := hD
  refine lv_dup hx hb dX13_init_319 rfl ?_
  refine lv_bipush (v := 45) hx hb dX13_init_320 (by decide) ?_
  refine lv_ldc2 hx hb hown (hts (.constantLong RX13 97 (6181075)) (List.mem_of_getElem? (i := 50) rfl)) dX13_init_322 ?_
  refine va_last (i := 45) (x := 6181075) hx hb hK hP hD hS 1 0 rfl rfl (vp_in_iff.mpr ⟨by decide, by decide⟩) dX13_init_325 (fun H locs hP hD hS => ?_)
  generalize hf48 : vp_updL f47 (Int32.toNatClampNeg 45) 6181075 = f48 at hP hD
  have hP : va_P (dC, dI) vwCl [(c0, .inr (14, [.null, .null, .null, .null, .int 0, .int 0, .int 0, .null, .null, .null, .int 0, .null, .null, .int 0, .int 0, .int 0, .int 0, .int 0, .int 0, .int 0, .int 0, .int 0, .int 0, .int 0, .int 0, .int 0, .int 0, .int 0, .int 0, .null, .int 0, .int 0, .int 0, .int 0, .null, .int 0, .int 0])), (q1, .inl (y2, 128, .inr (.inl f48)))] H := hP
  have hD : va_D A [(c0, .inr (14, [.null, .null, .null, .null, .int 0, .int 0, .int 0, .null, .null, .null, .int 0, .null, .null, .int 0, .int 0, .int 0, .int 0, .int 0, .int 0, .int 0, .int 0, .int 0, .int 0, .int 0, .int 0, .int 0, .int 0, .int 0, .int 0, .null, .int 0, .int 0, .int 0, .int 0, .null, .int 0, .int 0])), (q1, .inl (y2, 128, .inr (.inl f48)))] := hD
  refine lv_dup hx hb dX13_init_326 rfl ?_
  refine lv_bipush (v := 46) hx hb dX13_init_327 (by decide) ?_
  refine lv_ldc2 hx hb hown (hts (.constantLong RX13 99 (6637753161544513)) (List.mem_of_getElem? (i := 51) rfl)) dX13_init_329 ?_
  refine va_last (i := 46) (x := 6637753161544513) hx hb hK hP hD hS 1 0 rfl rfl (vp_in_iff.mpr ⟨by decide, by decide⟩) dX13_init_332 (fun H locs hP hD hS => ?_)
  generalize hf49 : vp_updL f48 (Int32.toNatClampNeg 46) 6637753161544513 = f49 at hP hD
  have hP : va_P (dC, dI) vwCl [(c0, .inr (14, [.null, .null, .null, .null, .int 0, .int 0, .int 0, .null, .null, .null, .int 0, .null, .null, .int 0, .int 0, .int 0, .int 0, .int 0, .int 0, .int 0, .int 0, .int 0, .int 0, .int 0, .int 0, .int 0, .int 0, .int 0, .int 0, .null, .int 0, .int 0, .int 0, .int 0, .null, .int 0, .int 0])), (q1, .inl (y2, 128, .inr (.inl f49)))] H := hP
  have hD : va_D A [(c0, .inr (14, [.null, .null, .null, .null, .int 0, .int 0, .int 0, .null, .null, .null, .int 0, .null, .null, .int 0, .int 0, .int 0, .int 0, .int 0, .int 0, .int 0, .int 0, .int 0, .int 0, .int 0, .int 0, .int 0, .int 0, .int 0, .int 0, .null, .int 0, .int 0, .int 0, .int 0, .null, .int 0, .int 0])), (q1, .inl (y2, 128, .inr (.inl f49)))] := hD
  refine lv_dup hx hb dX13_init_333 rfl ?_
  refine lv_bipush (v := 47) hx hb dX13_init_334 (by decide) ?_
  refine lv_ldc2 hx hb hown (hts (.constantLong RX13 101 (103702052795201)) (List.mem_of_getElem? (i := 52) rfl)) dX13_init_336 ?_
  refine va_last (i := 47) (x := 103702052795201) hx hb hK hP hD hS 1 0 rfl rfl (vp_in_iff.mpr ⟨by decide, by decide⟩) dX13_init_339 (fun H locs hP hD hS => ?_)
  generalize hf50 : vp_updL f49 (Int32.toNatClampNeg 47) 103702052795201 = f50 at hP hD
  have hP : va_P (dC, dI) vwCl [(c0, .inr (14, [.null, .null, .null, .null, .int 0, .int 0, .int 0, .null, .null, .null, .int 0, .null, .null, .int 0, .int 0, .int 0, .int 0, .int 0, .int 0, .int 0, .int 0, .int 0, .int 0, .int 0, .int 0, .int 0, .int 0, .int 0, .int 0, .null, .int 0, .int 0, .int 0, .int 0, .null, .int 0, .int 0])), (q1, .inl (y2, 128, .inr (.inl f50)))] H := hP
  have hD : va_D A [(c0, .inr (14, [.null, .null, .null, .null, .int 0, .int 0, .int 0, .null, .null, .null, .int 0, .null, .null, .int 0, .int 0, .int 0, .int 0, .int 0, .int 0, .int 0, .int 0, .int 0, .int 0, .int 0, .int 0, .int 0, .int 0, .int 0, .int 0, .null, .int 0, .int 0, .int 0, .int 0, .null, .int 0, .int 0])), (q1, .inl (y2, 128, .inr (.inl f50)))] := hD
  refine lv_dup hx hb dX13_init_340 rfl ?_
  refine lv_bipush (v := 48) hx hb dX13_init_341 (by decide) ?_
  refine lv_ldc2 hx hb hown (hts (.constantLong RX13 103 (103717275759425)) (List.mem_of_getElem? (i := 53) rfl)) dX13_init_343 ?_
  refine va_last (i := 48) (x := 103717275759425) hx hb hK hP hD hS 1 0 rfl rfl (vp_in_iff.mpr ⟨by decide, by decide⟩) dX13_init_346 (fun H locs hP hD hS => ?_)
  generalize hf51 : vp_updL f50 (Int32.toNatClampNeg 48) 103717275759425 = f51 at hP hD
  have hP : va_P (dC, dI) vwCl [(c0, .inr (14, [.null, .null, .null, .null, .int 0, .int 0, .int 0, .null, .null, .null, .int 0, .null, .null, .int 0, .int 0, .int 0, .int 0, .int 0, .int 0, .int 0, .int 0, .int 0, .int 0, .int 0, .int 0, .int 0, .int 0, .int 0, .int 0, .null, .int 0, .int 0, .int 0, .int 0, .null, .int 0, .int 0])), (q1, .inl (y2, 128, .inr (.inl f51)))] H := hP
  have hD : va_D A [(c0, .inr (14, [.null, .null, .null, .null, .int 0, .int 0, .int 0, .null, .null, .null, .int 0, .null, .null, .int 0, .int 0, .int 0, .int 0, .int 0, .int 0, .int 0, .int 0, .int 0, .int 0, .int 0, .int 0, .int 0, .int 0, .int 0, .int 0, .null, .int 0, .int 0, .int 0, .int 0, .null, .int 0, .int 0])), (q1, .inl (y2, 128, .inr (.inl f51)))] := hD
  refine lv_dup hx hb dX13_init_347 rfl ?_
  refine lv_bipush (v := 49) hx hb dX13_init_348 (by decide) ?_
  refine lv_ldc2 hx hb hown (hts (.constantLong RX13 105 (103702220567361)) (List.mem_of_getElem? (i := 54) rfl)) dX13_init_350 ?_
  refine va_last (i := 49) (x := 103702220567361) hx hb hK hP hD hS 1 0 rfl rfl (vp_in_iff.mpr ⟨by decide, by decide⟩) dX13_init_353 (fun H locs hP hD hS => ?_)
  generalize hf52 : vp_updL f51 (Int32.toNatClampNeg 49) 103702220567361 = f52 at hP hD
  have hP : va_P (dC, dI) vwCl [(c0, .inr (14, [.null, .null, .null, .null, .int 0, .int 0, .int 0, .null, .null, .null, .int 0, .null, .null, .int 0, .int 0, .int 0, .int 0, .int 0, .int 0, .int 0, .int 0, .int 0, .int 0, .int 0, .int 0, .int 0, .int 0, .int 0, .int 0, .null, .int 0, .int 0, .int 0, .int 0, .null, .int 0, .int 0])), (q1, .inl (y2, 128, .inr (.inl f52)))] H := hP
  have hD : va_D A [(c0, .inr (14, [.null, .null, .null, .null, .int 0, .int 0, .int 0, .null, .null, .null, .int 0, .null, .null, .int 0, .int 0, .int 0, .int 0, .int 0, .int 0, .int 0, .int 0, .int 0, .int 0, .int 0, .int 0, .int 0, .int 0, .int 0, .int 0, .null, .int 0, .int 0, .int 0, .int 0, .null, .int 0, .int 0])), (q1, .inl (y2, 128, .inr (.inl f52)))] := hD
  refine lv_dup hx hb dX13_init_354 rfl ?_
  refine lv_bipush (v := 50) hx hb dX13_init_355 (by decide) ?_
  refine lv_ldc2 hx hb hown (hts (.constantLong RX13 107 (1620582396737)) (List.mem_of_getElem? (i := 55) rfl)) dX13_init_357 ?_
  refine va_last (i := 50) (x := 1620582396737) hx hb hK hP hD hS 1 0 rfl rfl (vp_in_iff.mpr ⟨by decide, by decide⟩) dX13_init_360 (fun H locs hP hD hS => ?_)
  generalize hf53 : vp_updL f52 (Int32.toNatClampNeg 50) 1620582396737 = f53 at hP hD
  have hP : va_P (dC, dI) vwCl [(c0, .inr (14, [.null, .null, .null, .null, .int 0, .int 0, .int 0, .null, .null, .null, .int 0, .null, .null, .int 0, .int 0, .int 0, .int 0, .int 0, .int 0, .int 0, .int 0, .int 0, .int 0, .int 0, .int 0, .int 0, .int 0, .int 0, .int 0, .null, .int 0, .int 0, .int 0, .int 0, .null, .int 0, .int 0])), (q1, .inl (y2, 128, .inr (.inl f53)))] H := hP
  have hD : va_D A [(c0, .inr (14, [.null, .null, .null, .null, .int 0, .int 0, .int 0, .null, .null, .null, .int 0, .null, .null, .int 0, .int 0, .int 0, .int 0, .int 0, .int 0, .int 0, .int 0, .int 0, .int 0, .int 0, .int 0, .int 0, .int 0, .int 0, .int 0, .null, .int 0, .int 0, .int 0, .int 0, .null, .int 0, .int 0])), (q1, .inl (y2, 128, .inr (.inl f53)))] := hD
  refine lv_dup hx hb dX13_init_361 rfl ?_
  refine lv_bipush (v := 51) hx hb dX13_init_362 (by decide) ?_
  refine lv_ldc2 hx hb hown (hts (.constantLong RX13 109 (103712877245249)) (List.mem_of_getElem? (i := 56) rfl)) dX13_init_364 ?_
  refine va_last (i := 51) (x := 103712877245249) hx hb hK hP hD hS 1 0 rfl rfl (vp_in_iff.mpr ⟨by decide, by decide⟩) dX13_init_367 (fun H locs hP hD hS => ?_)
  generalize hf54 : vp_updL f53 (Int32.toNatClampNeg 51) 103712877245249 = f54 at hP hD
  have hP : va_P (dC, dI) vwCl [(c0, .inr (14, [.null, .null, .null, .null, .int 0, .int 0, .int 0, .null, .null, .null, .int 0, .null, .null, .int 0, .int 0, .int 0, .int 0, .int 0, .int 0, .int 0, .int 0, .int 0, .int 0, .int 0, .int 0, .int 0, .int 0, .int 0, .int 0, .null, .int 0, .int 0, .int 0, .int 0, .null, .int 0, .int 0])), (q1, .inl (y2, 128, .inr (.inl f54)))] H := hP
  have hD : va_D A [(c0, .inr (14, [.null, .null, .null, .null, .int 0, .int 0, .int 0, .null, .null, .null, .int 0, .null, .null, .int 0, .int 0, .int 0, .int 0, .int 0, .int 0, .int 0, .int 0, .int 0, .int 0, .int 0, .int 0, .int 0, .int 0, .int 0, .int 0, .null, .int 0, .int 0, .int 0, .int 0, .null, .int 0, .int 0])), (q1, .inl (y2, 128, .inr (.inl f54)))] := hD
  refine lv_dup hx hb dX13_init_368 rfl ?_
  refine lv_bipush (v := 52) hx hb dX13_init_369 (by decide) ?_
  refine lv_ldc2 hx hb hown (hts (.constantLong RX13 111 (103723480445761)) (List.mem_of_getElem? (i := 57) rfl)) dX13_init_371 ?_
  refine va_last (i := 52) (x := 103723480445761) hx hb hK hP hD hS 1 0 rfl rfl (vp_in_iff.mpr ⟨by decide, by decide⟩) dX13_init_374 (fun H locs hP hD hS => ?_)
  generalize hf55 : vp_updL f54 (Int32.toNatClampNeg 52) 103723480445761 = f55 at hP hD
  have hP : va_P (dC, dI) vwCl [(c0, .inr (14, [.null, .null, .null, .null, .int 0, .int 0, .int 0, .null, .null, .null, .int 0, .null, .null, .int 0, .int 0, .int 0, .int 0, .int 0, .int 0, .int 0, .int 0, .int 0, .int 0, .int 0, .int 0, .int 0, .int 0, .int 0, .int 0, .null, .int 0, .int 0, .int 0, .int 0, .null, .int 0, .int 0])), (q1, .inl (y2, 128, .inr (.inl f55)))] H := hP
  have hD : va_D A [(c0, .inr (14, [.null, .null, .null, .null, .int 0, .int 0, .int 0, .null, .null, .null, .int 0, .null, .null, .int 0, .int 0, .int 0, .int 0, .int 0, .int 0, .int 0, .int 0, .int 0, .int 0, .int 0, .int 0, .int 0, .int 0, .int 0, .int 0, .null, .int 0, .int 0, .int 0, .int 0, .null, .int 0, .int 0])), (q1, .inl (y2, 128, .inr (.inl f55)))] := hD
  refine lv_dup hx hb dX13_init_375 rfl ?_
  refine lv_bipush (v := 53) hx hb dX13_init_376 (by decide) ?_
  refine lv_ldc2 hx hb hown (hts (.constantLong RX13 113 (6638110481118017)) (List.mem_of_getElem? (i := 58) rfl)) dX13_init_378 ?_
  refine va_last (i := 53) (x := 6638110481118017) hx hb hK hP hD hS 1 0 rfl rfl (vp_in_iff.mpr ⟨by decide, by decide⟩) dX13_init_381 (fun H locs hP hD hS => ?_)
  generalize hf56 : vp_updL f55 (Int32.toNatClampNeg 53) 6638110481118017 = f56 at hP hD
  have hP : va_P (dC, dI) vwCl [(c0, .inr (14, [.null, .null, .null, .null, .int 0, .int 0, .int 0, .null, .null, .null, .int 0, .null, .null, .int 0, .int 0, .int 0, .int 0, .int 0, .int 0, .int 0, .int 0, .int 0, .int 0, .int 0, .int 0, .int 0, .int 0, .int 0, .int 0, .null, .int 0, .int 0, .int 0, .int 0, .null, .int 0, .int 0])), (q1, .inl (y2, 128, .inr (.inl f56)))] H := hP
  have hD : va_D A [(c0, .inr (14, [.null, .null, .null, .null, .int 0, .int 0, .int 0, .null, .null, .null, .int 0, .null, .null, .int 0, .int 0, .int 0, .int 0, .int 0, .int 0, .int 0, .int 0, .int 0, .int 0, .int 0, .int 0, .int 0, .int 0, .int 0, .int 0, .null, .int 0, .int 0, .int 0, .int 0, .null, .int 0, .int 0])), (q1, .inl (y2, 128, .inr (.inl f56)))] := hD
  refine lv_dup hx hb dX13_init_382 rfl ?_
  refine lv_bipush (v := 54) hx hb dX13_init_383 (by decide) ?_
  refine lv_ldc2 hx hb hown (hts (.constantLong RX13 115 (6638121084318529)) (List.mem_of_getElem? (i := 59) rfl)) dX13_init_385 ?_
  refine va_last (i := 54) (x := 6638121084318529) hx hb hK hP hD hS 1 0 rfl rfl (vp_in_iff.mpr ⟨by decide, by decide⟩) dX13_init_388 (fun H locs hP hD hS => ?_)
  generalize hf57 : vp_updL f56 (Int32.toNatClampNeg 54) 6638121084318529 = f57 at hP hD
  have hP : va_P (dC, dI) vwCl [(c0, .inr (14, [.null, .null, .null, .null, .int 0, .int 0, .int 0, .null, .null, .null, .int 0, .null, .null, .int 0, .int 0, .int 0, .int 0, .int 0, .int 0, .int 0, .int 0, .int 0, .int 0, .int 0, .int 0, .int 0, .int 0, .int 0, .int 0, .null, .int 0, .int 0, .int 0, .int 0, .null, .int 0, .int 0])), (q1, .inl (y2, 128, .inr (.inl f57)))] H := hP
  have hD : va_D A [(c0, .inr (14, [.null, .null, .null, .null, .int 0, .int 0, .int 0, .null, .null, .null, .int 0, .null, .null, .int 0, .int 0, .int 0, .int 0, .int 0, .int 0, .int 0, .int 0, .int 0, .int 0, .int 0, .int 0, .int 0, .int 0, .int 0, .int 0, .null, .int 0, .int 0, .int 0, .int 0, .null, .int 0, .int 0])), (q1, .inl (y2, 128, .inr (.inl f57)))] := hD
  refine lv_dup hx hb dX13_init_389 rfl ?_
  refine lv_bipush (v := 55) hx hb dX13_init_390 (by decide) ?_
  refine lv_ldc2 hx hb hown (hts (.constantLong RX13 117 (6182028)) (List.mem_of_getElem? (i := 60) rfl)) dX13_init_392 ?_
  refine va_last (i := 55) (x := 6182028) hx hb hK hP hD hS 1 0 rfl rfl (vp_in_iff.mpr ⟨by decide, by decide⟩) dX13_init_395 (fun H locs hP hD hS => ?_)
  generalize hf58 : vp_updL f57 (Int32.toNatClampNeg 55) 6182028 = f58 at hP hD
  have hP : va_P (dC, dI) vwCl [(c0, .inr (14, [.null, .null, .null, .null, .int 0, .int 0, .int 0, .null, .null, .null, .int 0, .null, .null, .int 0, .int 0, .int 0, .int 0, .int 0, .int 0, .int 0, .int 0, .int 0, .int 0, .int 0, .int 0, .int 0, .int 0, .int 0, .int 0, .null, .int 0, .int 0, .int 0, .int 0, .null, .int 0, .int 0])), (q1, .inl (y2, 128, .inr (.inl f58)))] H := hP
  have hD : va_D A [(c0, .inr (14, [.null, .null, .null, .null, .int 0, .int 0, .int 0, .null, .null, .null, .int 0, .null, .null, .int 0, .int 0, .int 0, .int 0, .int 0, .int 0, .int 0, .int 0, .int 0, .int 0, .int 0, .int 0, .int 0, .int 0, .int 0, .int 0, .null, .int 0, .int 0, .int 0, .int 0, .null, .int 0, .int 0])), (q1, .inl (y2, 128, .inr (.inl f58)))] := hD
  refine lv_dup hx hb dX13_init_396 rfl ?_
  refine lv_bipush (v := 56) hx hb dX13_init_397 (by decide) ?_
  refine lv_ldc2 hx hb hown (hts (.constantLong RX13 119 (356539183378)) (List.mem_of_getElem? (i := 61) rfl)) dX13_init_399 ?_
  refine va_last (i := 56) (x := 356539183378) hx hb hK hP hD hS 1 0 rfl rfl (vp_in_iff.mpr ⟨by decide, by decide⟩) dX13_init_402 (fun H locs hP hD hS => ?_)
  generalize hf59 : vp_updL f58 (Int32.toNatClampNeg 56) 356539183378 = f59 at hP hD
  have hP : va_P (dC, dI) vwCl [(c0, .inr (14, [.null, .null, .null, .null, .int 0, .int 0, .int 0, .null, .null, .null, .int 0, .null, .null, .int 0, .int 0, .int 0, .int 0, .int 0, .int 0, .int 0, .int 0, .int 0, .int 0, .int 0, .int 0, .int 0, .int 0, .int 0, .int 0, .null, .int 0, .int 0, .int 0, .int 0, .null, .int 0, .int 0])), (q1, .inl (y2, 128, .inr (.inl f59)))] H := hP
  have hD : va_D A [(c0, .inr (14, [.null, .null, .null, .null, .int 0, .int 0, .int 0, .null, .null, .null, .int 0, .null, .null, .int 0, .int 0, .int 0, .int 0, .int 0, .int 0, .int 0, .int 0, .int 0, .int 0, .int 0, .int 0, .int 0, .int 0, .int 0, .int 0, .null, .int 0, .int 0, .int 0, .int 0, .null, .int 0, .int 0])), (q1, .inl (y2, 128, .inr (.inl f59)))] := hD
  refine lv_dup hx hb dX13_init_403 rfl ?_
  refine lv_bipush (v := 57) hx hb dX13_init_404 (by decide) ?_
  refine lv_ldc2 hx hb hown (hts (.constantLong RX13 121 (5589254418)) (List.mem_of_getElem? (i := 62) rfl)) dX13_init_406 ?_
  refine va_last (i := 57) (x := 5589254418) hx hb hK hP hD hS 1 0 rfl rfl (vp_in_iff.mpr ⟨by decide, by decide⟩) dX13_init_409 (fun H locs hP hD hS => ?_)
  generalize hf60 : vp_updL f59 (Int32.toNatClampNeg 57) 5589254418 = f60 at hP hD
  have hP : va_P (dC, dI) vwCl [(c0, .inr (14, [.null, .null, .null, .null, .int 0, .int 0, .int 0, .null, .null, .null, .int 0, .null, .null, .int 0, .int 0, .int 0, .int 0, .int 0, .int 0, .int 0, .int 0, .int 0, .int 0, .int 0, .int 0, .int 0, .int 0, .int 0, .int 0, .null, .int 0, .int 0, .int 0, .int 0, .null, .int 0, .int 0])), (q1, .inl (y2, 128, .inr (.inl f60)))] H := hP
  have hD : va_D A [(c0, .inr (14, [.null, .null, .null, .null, .int 0, .int 0, .int 0, .null, .null, .null, .int 0, .null, .null, .int 0, .int 0, .int 0, .int 0, .int 0, .int 0, .int 0, .int 0, .int 0, .int 0, .int 0, .int 0, .int 0, .int 0, .int 0, .int 0, .null, .int 0, .int 0, .int 0, .int 0, .null, .int 0, .int 0])), (q1, .inl (y2, 128, .inr (.inl f60)))] := hD
  refine lv_dup hx hb dX13_init_410 rfl ?_
  refine lv_bipush (v := 58) hx hb dX13_init_411 (by decide) ?_
  refine lv_ldc2 hx hb hown (hts (.constantLong RX13 123 (5652748514660626)) (List.mem_of_getElem? (i := 63) rfl)) dX13_init_413 ?_
  refine va_last (i := 58) (x := 5652748514660626) hx hb hK hP hD hS 1 0 rfl rfl (vp_in_iff.mpr ⟨by decide, by decide⟩) dX13_init_416 (fun H locs hP hD hS => ?_)
  generalize hf61 : vp_updL f60 (Int32.toNatClampNeg 58) 5652748514660626 = f61 at hP hD
  have hP : va_P (dC, dI) vwCl [(c0, .inr (14, [.null, .null, .null, .null, .int 0, .int 0, .int 0, .null, .null, .null, .int 0, .null, .null, .int 0, .int 0, .int 0, .int 0, .int 0, .int 0, .int 0, .int 0, .int 0, .int 0, .int 0, .int 0, .int 0, .int 0, .int 0, .int 0, .null, .int 0, .int 0, .int 0, .int 0, .null, .int 0, .int 0])), (q1, .inl (y2, 128, .inr (.inl f61)))] H := hP
  have hD : va_D A [(c0, .inr (14, [.null, .null, .null, .null, .int 0, .int 0, .int 0, .null, .null, .null, .int 0, .null, .null, .int 0, .int 0, .int 0, .int 0, .int 0, .int 0, .int 0, .int 0, .int 0, .int 0, .int 0, .int 0, .int 0, .int 0, .int 0, .int 0, .null, .int 0, .int 0, .int 0, .int 0, .null, .int 0, .int 0])), (q1, .inl (y2, 128, .inr (.inl f61)))] := hD
  refine lv_dup hx hb dX13_init_417 rfl ?_
  refine lv_bipush (v := 59) hx hb dX13_init_418 (by decide) ?_
  refine lv_ldc2 hx hb hown (hts (.constantLong RX13 125 (35540911272210)) (List.mem_of_getElem? (i := 64) rfl)) dX13_init_420 ?_
  refine va_last (i := 59) (x := 35540911272210) hx hb hK hP hD hS 1 0 rfl rfl (vp_in_iff.mpr ⟨by decide, by decide⟩) dX13_init_423 (fun H locs hP hD hS => ?_)
  generalize hf62 : vp_updL f61 (Int32.toNatClampNeg 59) 35540911272210 = f62 at hP hD
  have hP : va_P (dC, dI) vwCl [(c0, .inr (14, [.null, .null, .null, .null, .int 0, .int 0, .int 0, .null, .null, .null, .int 0, .null, .null, .int 0, .int 0, .int 0, .int 0, .int 0, .int 0, .int 0, .int 0, .int 0, .int 0, .int 0, .int 0, .int 0, .int 0, .int 0, .int 0, .null, .int 0, .int 0, .int 0, .int 0, .null, .int 0, .int 0])), (q1, .inl (y2, 128, .inr (.inl f62)))] H := hP
  have hD : va_D A [(c0, .inr (14, [.null, .null, .null, .null, .int 0, .int 0, .int 0, .null, .null, .null, .int 0, .null, .null, .int 0, .int 0, .int 0, .int 0, .int 0, .int 0, .int 0, .int 0, .int 0, .int 0, .int 0, .int 0, .int 0, .int 0, .int 0, .int 0, .null, .int 0, .int 0, .int 0, .int 0, .null, .int 0, .int 0])), (q1, .inl (y2, 128, .inr (.inl f62)))] := hD
  refine lv_dup hx hb dX13_init_424 rfl ?_
  refine lv_bipush (v := 60) hx hb dX13_init_425 (by decide) ?_
  refine lv_ldc2 hx hb hown (hts (.constantLong RX13 127 (555345068306)) (List.mem_of_getElem? (i := 65) rfl)) dX13_init_427 ?_
  refine va_last (i := 60) (x := 555345068306) hx hb hK hP hD hS 1 0 rfl rfl (vp_in_iff.mpr ⟨by decide, by decide⟩) dX13_init_430 (fun H locs hP hD hS => ?_)
  generalize hf63 : vp_updL f62 (Int32.toNatClampNeg 60) 555345068306 = f63 at hP hD
  have hP : va_P (dC, dI) vwCl [(c0, .inr (14, [.null, .null, .null, .null, .int 0, .int 0, .int 0, .null, .null, .null, .int 0, .null, .null, .int 0, .int 0, .int 0, .int 0, .int 0, .int 0, .int 0, .int 0, .int 0, .int 0, .int 0, .int 0, .int 0, .int 0, .int 0, .int 0, .null, .int 0, .int 0, .int 0, .int 0, .null, .int 0, .int 0])), (q1, .inl (y2, 128, .inr (.inl f63)))] H := hP
  have hD : va_D A [(c0, .inr (14, [.null, .null, .null, .null, .int 0, .int 0, .int 0, .null, .null, .null, .int 0, .null, .null, .int 0, .int 0, .int 0, .int 0, .int 0, .int 0, .int 0, .int 0, .int 0, .int 0, .int 0, .int 0, .int 0, .int 0, .int 0, .int 0, .null, .int 0, .int 0, .int 0, .int 0, .null, .int 0, .int 0])), (q1, .inl (y2, 128, .inr (.inl f63)))] := hD
  refine lv_dup hx hb dX13_init_431 rfl ?_
  refine lv_bipush (v := 61) hx hb dX13_init_432 (by decide) ?_
  refine lv_ldc2 hx hb hown (hts (.constantLong RX13 129 (149767936590516498)) (List.mem_of_getElem? (i := 66) rfl)) dX13_init_434 ?_
  refine va_last (i := 61) (x := 149767936590516498) hx hb hK hP hD hS 1 0 rfl rfl (vp_in_iff.mpr ⟨by decide, by decide⟩) dX13_init_437 (fun H locs hP hD hS => ?_)
  generalize hf64 : vp_updL f63 (Int32.toNatClampNeg 61) 149767936590516498 = f64 at hP hD
  have hP : va_P (dC, dI) vwCl [(c0, .inr (14, [.null, .null, .null, .null, .int 0, .int 0, .int 0, .null, .null, .null, .int 0, .null, .null, .int 0, .int 0, .int 0, .int 0, .int 0, .int 0, .int 0, .int 0, .int 0, .int 0, .int 0, .int 0, .int 0, .int 0, .int 0, .int 0, .null, .int 0, .int 0, .int 0, .int 0, .null, .int 0, .int 0])), (q1, .inl (y2, 128, .inr (.inl f64)))] H := hP
  have hD : va_D A [(c0, .inr (14, [.null, .null, .null, .null, .int 0, .int 0, .int 0, .null, .null, .null, .int 0, .null, .null, .int 0, .int 0, .int 0, .int 0, .int 0, .int 0, .int 0, .int 0, .int 0, .int 0, .int 0, .int 0, .int 0, .int 0, .int 0, .int 0, .null, .int 0, .int 0, .int 0, .int 0, .null, .int 0, .int 0])), (q1, .inl (y2, 128, .inr (.inl f64)))] := hD
  refine lv_dup hx hb dX13_init_438 rfl ?_
  refine lv_bipush (v := 62) hx hb dX13_init_439 (by decide) ?_
  refine lv_ldc2 hx hb hown (hts (.constantLong RX13 131 (84730182)) (List.mem_of_getElem? (i := 67) rfl)) dX13_init_441 ?_
  refine va_last (i := 62) (x := 84730182) hx hb hK hP hD hS 1 0 rfl rfl (vp_in_iff.mpr ⟨by decide, by decide⟩) dX13_init_444 (fun H locs hP hD hS => ?_)
  generalize hf65 : vp_updL f64 (Int32.toNatClampNeg 62) 84730182 = f65 at hP hD
  have hP : va_P (dC, dI) vwCl [(c0, .inr (14, [.null, .null, .null, .null, .int 0, .int 0, .int 0, .null, .null, .null, .int 0, .null, .null, .int 0, .int 0, .int 0, .int 0, .int 0, .int 0, .int 0, .int 0, .int 0, .int 0, .int 0, .int 0, .int 0, .int 0, .int 0, .int 0, .null, .int 0, .int 0, .int 0, .int 0, .null, .int 0, .int 0])), (q1, .inl (y2, 128, .inr (.inl f65)))] H := hP
  have hD : va_D A [(c0, .inr (14, [.null, .null, .null, .null, .int 0, .int 0, .int 0, .null, .null, .null, .int 0, .null, .null, .int 0, .int 0, .int 0, .int 0, .int 0, .int 0, .int 0, .int 0, .int 0, .int 0, .int 0, .int 0, .int 0, .int 0, .int 0, .int 0, .null, .int 0, .int 0, .int 0, .int 0, .null, .int 0, .int 0])), (q1, .inl (y2, 128, .inr (.inl f65)))] := hD
  refine lv_dup hx hb dX13_init_445 rfl ?_
  refine lv_bipush (v := 63) hx hb dX13_init_446 (by decide) ?_
  refine lv_ldc2 hx hb hown (hts (.constantLong RX13 133 (658288468294)) (List.mem_of_getElem? (i := 68) rfl)) dX13_init_448 ?_
  refine va_last (i := 63) (x := 658288468294) hx hb hK hP hD hS 1 0 rfl rfl (vp_in_iff.mpr ⟨by decide, by decide⟩) dX13_init_451 (fun H locs hP hD hS => ?_)
  generalize hf66 : vp_updL f65 (Int32.toNatClampNeg 63) 658288468294 = f66 at hP hD
  have hP : va_P (dC, dI) vwCl [(c0, .inr (14, [.null, .null, .null, .null, .int 0, .int 0, .int 0, .null, .null, .null, .int 0, .null, .null, .int 0, .int 0, .int 0, .int 0, .int 0, .int 0, .int 0, .int 0, .int 0, .int 0, .int 0, .int 0, .int 0, .int 0, .int 0, .int 0, .null, .int 0, .int 0, .int 0, .int 0, .null, .int 0, .int 0])), (q1, .inl (y2, 128, .inr (.inl f66)))] H := hP
  have hD : va_D A [(c0, .inr (14, [.null, .null, .null, .null, .int 0, .int 0, .int 0, .null, .null, .null, .int 0, .null, .null, .int 0, .int 0, .int 0, .int 0, .int 0, .int 0, .int 0, .int 0, .int 0, .int 0, .int 0, .int 0, .int 0, .int 0, .int 0, .int 0, .null, .int 0, .int 0, .int 0, .int 0, .null, .int 0, .int 0])), (q1, .inl (y2, 128, .inr (.inl f66)))] := hD
  refine lv_dup hx hb dX13_init_452 rfl ?_
  refine lv_bipush (v := 64) hx hb dX13_init_453 (by decide) ?_
  refine lv_ldc2 hx hb hown (hts (.constantLong RX13 135 (204476613)) (List.mem_of_getElem? (i := 69) rfl)) dX13_init_455 ?_
  refine va_last (i := 64) (x := 204476613) hx hb hK hP hD hS 1 0 rfl rfl (vp_in_iff.mpr ⟨by decide, by decide⟩) dX13_init_458 (fun H locs hP hD hS => ?_)
  generalize hf67 : vp_updL f66 (Int32.toNatClampNeg 64) 204476613 = f67 at hP hD
  have hP : va_P (dC, dI) vwCl [(c0, .inr (14, [.null, .null, .null, .null, .int 0, .int 0, .int 0, .null, .null, .null, .int 0, .null, .null, .int 0, .int 0, .int 0, .int 0, .int 0, .int 0, .int 0, .int 0, .int 0, .int 0, .int 0, .int 0, .int 0, .int 0, .int 0, .int 0, .null, .int 0, .int 0, .int 0, .int 0, .null, .int 0, .int 0])), (q1, .inl (y2, 128, .inr (.inl f67)))] H := hP
  have hD : va_D A [(c0, .inr (14, [.null, .null, .null, .null, .int 0, .int 0, .int 0, .null, .null, .null, .int 0, .null, .null, .int 0, .int 0, .int 0, .int 0, .int 0, .int 0, .int 0, .int 0, .int 0, .int 0, .int 0, .int 0, .int 0, .int 0, .int 0, .int 0, .null, .int 0, .int 0, .int 0, .int 0, .null, .int 0, .int 0])), (q1, .inl (y2, 128, .inr (.inl f67)))] := hD
  refine lv_dup hx hb dX13_init_459 rfl ?_
  refine lv_bipush (v := 65) hx hb dX13_init_460 (by decide) ?_
  refine lv_ldc2 hx hb hown (hts (.constantLong RX13 137 (11829321861)) (List.mem_of_getElem? (i := 70) rfl)) dX13_init_462 ?_
  refine va_last (i := 65) (x := 11829321861) hx hb hK hP hD hS 1 0 rfl rfl (vp_in_iff.mpr ⟨by decide, by decide⟩) dX13_init_465 (fun H locs hP hD hS => ?_)
  generalize hf68 : vp_updL f67 (Int32.toNatClampNeg 65) 11829321861 = f68 at hP hD
  have hP : va_P (dC, dI) vwCl [(c0, .inr (14, [.null, .null, .null, .null, .int 0, .int 0, .int 0, .null, .null, .null, .int 0, .null, .null, .int 0, .int 0, .int 0, .int 0, .int 0, .int 0, .int 0, .int 0, .int 0, .int 0, .int 0, .int 0, .int 0, .int 0, .int 0, .int 0, .null, .int 0, .int 0, .int 0, .int 0, .null, .int 0, .int 0])), (q1, .inl (y2, 128, .inr (.inl f68)))] H := hP
  have hD : va_D A [(c0, .inr (14, [.null, .null, .null, .null, .int 0, .int 0, .int 0, .null, .null, .null, .int 0, .null, .null, .int 0, .int 0, .int 0, .int 0, .int 0, .int 0, .int 0, .int 0, .int 0, .int 0, .int 0, .int 0, .int 0, .int 0, .int 0, .int 0, .null, .int 0, .int 0, .int 0, .int 0, .null, .int 0, .int 0])), (q1, .inl (y2, 128, .inr (.inl f68)))] := hD
  refine lv_dup hx hb dX13_init_466 rfl ?_
  exact kk f68 _ _ _ hK hP hD hS hl

set_option maxHeartbeats 40000000 in
set_option maxRecDepth 100000 in
theorem k_X13_init_s3 {p : Program} {l : Launch} {e : Env} {s : State} {m : MethodId} {args : Array Value} {below : List Frame} {meth : Method} {c : Code} {Q : State → Prop} {A : Nat → Prop} (dC : Nat → ClassId) (dI : Nat → Nat → Nat) (c0 : Nat) (q1 : Nat) (y2 : ClassId) (f68 : Nat → Int64) (hlt : l.stackTraces = false) (hx : p.tables.exec = Jvm.exec) (hb : c.code = cX13_init) (hml : c.maxLocals = 1) (hown : s.vm.findClass RX13 = some m.cls) (hts : ∀ w ∈ ow_k_X13_init, w.before args s = true) (hin : meth.name = "<init>") (hN : nv_E A s) (hA : ∀ q : Nat, s.heap.size ≤ q → A q) {H : Heap} {locs : List Loc} {ls : Array Slot} (hK : va_K (dC, dI) vwCl [(y2, .long)] s) (hP : va_P (dC, dI) vwCl [(c0, .inr (14, [.null, .null, .null, .null, .int 0, .int 0, .int 0, .null, .null, .null, .int 0, .null, .null, .int 0, .int 0, .int 0, .int 0, .int 0, .int 0, .int 0, .int 0, .int 0, .int 0, .int 0, .int 0, .int 0, .int 0, .int 0, .int 0, .null, .int 0, .int 0, .int 0, .int 0, .null, .int 0, .int 0])), (q1, .inl (y2, 128, .inr (.inl f68)))] H) (hD : va_D A [(c0, .inr (14, [.null, .null, .null, .null, .int 0, .int 0, .int 0, .null, .null, .null, .int 0, .null, .null, .int 0, .int 0, .int 0, .int 0, .int 0, .int 0, .int 0, .int 0, .int 0, .int 0, .int 0, .int 0, .int 0, .int 0, .int 0, .int 0, .null, .int 0, .int 0, .int 0, .int 0, .null, .int 0, .int 0])), (q1, .inl (y2, 128, .inr (.inl f68)))]) (hS : va_S A s.heap H locs) (hl : lv_has ls 1 [(0, .ref c0)]) (kk : ∀ (f90 : Nat → Int64) (H : Heap) (locs : List Loc) (ls : Array Slot), va_K (dC, dI) vwCl [(y2, .long)] s → va_P (dC, dI) vwCl [(c0, .inr (14, [.null, .null, .null, .null, .int 0, .int 0, .int 0, .null, .null, .null, .int 0, .null, .null, .int 0, .int 0, .int 0, .int 0, .int 0, .int 0, .int 0, .int 0, .int 0, .int 0, .int 0, .int 0, .int 0, .int 0, .int 0, .int 0, .null, .int 0, .int 0, .int 0, .int 0, .null, .int 0, .int 0])), (q1, .inl (y2, 128, .inr (.inl f90)))] H → va_D A [(c0, .inr (14, [.null, .null, .null, .null, .int 0, .int 0, .int 0, .null, .null, .null, .int 0, .null, .null, .int 0, .int 0, .int 0, .int 0, .int 0, .int 0, .int 0, .int 0, .int 0, .int 0, .int 0, .int 0, .int 0, .int 0, .int 0, .int 0, .null, .int 0, .int 0, .int 0, .int 0, .null, .int 0, .int 0])), (q1, .inl (y2, 128, .inr (.inl f90)))] → va_S A s.heap H locs → lv_has ls 1 [(0, .ref c0)] → W p l e (headSpec ow_k_X13_init ({ frames := 1, cells := 10, slots := 131956, locals := 12 })).room s m args below meth c H locs 1 128 Q (F0 m 626 ls [.long 9868228931, .int 88, .ref q1, .ref q1, .ref c0])) : W p l e (headSpec ow_k_X13_init ({ frames := 1, cells := 10, slots := 131956, locals := 12 })).room s m args below meth c H locs 1 128 Q (F0 m 467 ls [.ref q1, .ref q1, .ref c0]) := by
  refine lv_bipush (v := 66) hx hb dX13_init_467 (by decide) ?_
  refine lv_ldc2 hx hb hown (hts (.constantLong RX13 139 (66510)) (List.mem_of_getElem? (i := 71) rfl)) dX13_init_469 ?_
  refine va_last (i := 66) (x := 66510) hx hb hK hP hD hS 1 0 rfl rfl (vp_in_iff.mpr ⟨by decide, by decide⟩) dX13_init_472 (fun H locs hP hD hS => ?_)
  generalize hf69 : vp_updL f68 (Int32.toNatClampNeg 66) 66510 = f69 at hP hD
  have hP : va_P (dC, dI) vwCl [(c0, .inr (14, [.null, .null, .null, .null, .int 0, .int 0, .int 0, .null, .null, .null, .int 0, .null, .null, .int 0, .int 0, .int 0, .int 0, .int 0, .int 0, .int 0, .int 0, .int 0, .int 0, .int 0, .int 0, .int 0, .int 0, .int 0, .int 0, .null, .int 0, .int 0, .int 0, .int 0, .null, .int 0, .int 0])), (q1, .inl (y2, 128, .inr (.inl f69)))] H := hP
  have hD : va_D A [(c0, .inr (14, [.null, .null, .null, .null, .int 0, .int 0, .int 0, .null, .null, .null, .int 0, .null, .null, .int 0, .int 0, .int 0, .int 0, .int 0, .int 0, .int 0, .int 0, .int 0, .int 0, .int 0, .int 0, .int 0, .int 0, .int 0, .int 0, .null, .int 0, .int 0, .int 0, .int 0, .null, .int 0, .int 0])), (q1, .inl (y2, 128, .inr (.inl f69)))] := hD
  refine lv_dup hx hb dX13_init_473 rfl ?_
  refine lv_bipush (v := 67) hx hb dX13_init_474 (by decide) ?_
  refine lv_ldc2 hx hb hown (hts (.constantLong RX13 141 (82258)) (List.mem_of_getElem? (i := 72) rfl)) dX13_init_476 ?_
  refine va_last (i := 67) (x := 82258) hx hb hK hP hD hS 1 0 rfl rfl (vp_in_iff.mpr ⟨by decide, by decide⟩) dX13_init_479 (fun H locs hP hD hS => ?_)
  generalize hf70 : vp_updL f69 (Int32.toNatClampNeg 67) 82258 = f70 at hP hD
  have hP : va_P (dC, dI) vwCl [(c0, .inr (14, [.null, .null, .null, .null, .int 0, .int 0, .int 0, .null, .null, .null, .int 0, .null, .null, .int 0, .int 0, .int 0, .int 0, .int 0, .int 0, .int 0, .int 0, .int 0, .int 0, .int 0, .int 0, .int 0, .int 0, .int 0, .int 0, .null, .int 0, .int 0, .int 0, .int 0, .null, .int 0, .int 0])), (q1, .inl (y2, 128, .inr (.inl f70)))] H := hP
  have hD : va_D A [(c0, .inr (14, [.null, .null, .null, .null, .int 0, .int 0, .int 0, .null, .null, .null, .int 0, .null, .null, .int 0, .int 0, .int 0, .int 0, .int 0, .int 0, .int 0, .int 0, .int 0, .int 0, .int 0, .int 0, .int 0, .int 0, .int 0, .int 0, .null, .int 0, .int 0, .int 0, .int 0, .null, .int 0, .int 0])), (q1, .inl (y2, 128, .inr (.inl f70)))] := hD
  refine lv_dup hx hb dX13_init_480 rfl ?_
  refine lv_bipush (v := 68) hx hb dX13_init_481 (by decide) ?_
  refine lv_ldc2 hx hb hown (hts (.constantLong RX13 143 (256790881679448387)) (List.mem_of_getElem? (i := 73) rfl)) dX13_init_483 ?_
  refine va_last (i := 68) (x := 256790881679448387) hx hb hK hP hD hS 1 0 rfl rfl (vp_in_iff.mpr ⟨by decide, by decide⟩) dX13_init_486 (fun H locs hP hD hS => ?_)
  generalize hf71 : vp_updL f70 (Int32.toNatClampNeg 68) 256790881679448387 = f71 at hP hD
  have hP : va_P (dC, dI) vwCl [(c0, .inr (14, [.null, .null, .null, .null, .int 0, .int 0, .int 0, .null, .null, .null, .int 0, .null, .null, .int 0, .int 0, .int 0, .int 0, .int 0, .int 0, .int 0, .int 0, .int 0, .int 0, .int 0, .int 0, .int 0, .int 0, .int 0, .int 0, .null, .int 0, .int 0, .int 0, .int 0, .null, .int 0, .int 0])), (q1, .inl (y2, 128, .inr (.inl f71)))] H := hP
  have hD : va_D A [(c0, .inr (14, [.null, .null, .null, .null, .int 0, .int 0, .int 0, .null, .null, .null, .int 0, .null, .null, .int 0, .int 0, .int 0, .int 0, .int 0, .int 0, .int 0, .int 0, .int 0, .int 0, .int 0, .int 0, .int 0, .int 0, .int 0, .int 0, .null, .int 0, .int 0, .int 0, .int 0, .null, .int 0, .int 0])), (q1, .inl (y2, 128, .inr (.inl f71)))] := hD
  refine lv_dup hx hb dX13_init_487 rfl ?_
  refine lv_bipush (v := 69) hx hb dX13_init_488 (by decide) ?_
  refine lv_ldc2 hx hb hown (hts (.constantLong RX13 145 (6080835)) (List.mem_of_getElem? (i := 74) rfl)) dX13_init_490 ?_
  refine va_last (i := 69) (x := 6080835) hx hb hK hP hD hS 1 0 rfl rfl (vp_in_iff.mpr ⟨by decide, by decide⟩) dX13_init_493 (fun H locs hP hD hS => ?_)
  generalize hf72 : vp_updL f71 (Int32.toNatClampNeg 69) 6080835 = f72 at hP hD
  have hP : va_P (dC, dI) vwCl [(c0, .inr (14, [.null, .null, .null, .null, .int 0, .int 0, .int 0, .null, .null, .null, .int 0, .null, .null, .int 0, .int 0, .int 0, .int 0, .int 0, .int 0, .int 0, .int 0, .int 0, .int 0, .int 0, .int 0, .int 0, .int 0, .int 0, .int 0, .null, .int 0, .int 0, .int 0, .int 0, .null, .int 0, .int 0])), (q1, .inl (y2, 128, .inr (.inl f72)))] H := hP
  have hD : va_D A [(c0, .inr (14, [.null, .null, .null, .null, .int 0, .int 0, .int 0, .null, .null, .null, .int 0, .null, .null, .int 0, .int 0, .int 0, .int 0, .int 0, .int 0, .int 0, .int 0, .int 0, .int 0, .int 0, .int 0, .int 0, .int 0, .int 0, .int 0, .null, .int 0, .int 0, .int 0, .int 0, .null, .int 0, .int 0])), (q1, .inl (y2, 128, .inr (.inl f72)))] := hD
  refine lv_dup hx hb dX13_init_494 rfl ?_
  refine lv_bipush (v := 70) hx hb dX13_init_495 (by decide) ?_
  refine lv_ldc2 hx hb hown (hts (.constantLong RX13 147 (6109507)) (List.mem_of_getElem? (i := 75) rfl)) dX13_init_497 ?_
  refine va_last (i := 70) (x := 6109507) hx hb hK hP hD hS 1 0 rfl rfl (vp_in_iff.mpr ⟨by decide, by decide⟩) dX13_init_500 (fun H locs hP hD hS => ?_)
  generalize hf73 : vp_updL f72 (Int32.toNatClampNeg 70) 6109507 = f73 at hP hD
  have hP : va_P (dC, dI) vwCl [(c0, .inr (14, [.null, .null, .null, .null, .int 0, .int 0, .int 0, .null, .null, .null, .int 0, .null, .null, .int 0, .int 0, .int 0, .int 0, .int 0, .int 0, .int 0, .int 0, .int 0, .int 0, .int 0, .int 0, .int 0, .int 0, .int 0, .int 0, .null, .int 0, .int 0, .int 0, .int 0, .null, .int 0, .int 0])), (q1, .inl (y2, 128, .inr (.inl f73)))] H := hP
  have hD : va_D A [(c0, .inr (14, [.null, .null, .null, .null, .int 0, .int 0, .int 0, .null, .null, .null, .int 0, .null, .null, .int 0, .int 0, .int 0, .int 0, .int 0, .int 0, .int 0, .int 0, .int 0, .int 0, .int 0, .int 0, .int 0, .int 0, .int 0, .int 0, .null, .int 0, .int 0, .int 0, .int 0, .null, .int 0, .int 0])), (q1, .inl (y2, 128, .inr (.inl f73)))] := hD
  refine lv_dup hx hb dX13_init_501 rfl ?_
  refine lv_bipush (v := 71) hx hb dX13_init_502 (by decide) ?_
  refine lv_ldc2 hx hb hown (hts (.constantLong RX13 149 (272427331)) (List.mem_of_getElem? (i := 76) rfl)) dX13_init_504 ?_
  refine va_last (i := 71) (x := 272427331) hx hb hK hP hD hS 1 0 rfl rfl (vp_in_iff.mpr ⟨by decide, by decide⟩) dX13_init_507 (fun H locs hP hD hS => ?_)
  generalize hf74 : vp_updL f73 (Int32.toNatClampNeg 71) 272427331 = f74 at hP hD
  have hP : va_P (dC, dI) vwCl [(c0, .inr (14, [.null, .null, .null, .null, .int 0, .int 0, .int 0, .null, .null, .null, .int 0, .null, .null, .int 0, .int 0, .int 0, .int 0, .int 0, .int 0, .int 0, .int 0, .int 0, .int 0, .int 0, .int 0, .int 0, .int 0, .int 0, .int 0, .null, .int 0, .int 0, .int 0, .int 0, .null, .int 0, .int 0])), (q1, .inl (y2, 128, .inr (.inl f74)))] H := hP
  have hD : va_D A [(c0, .inr (14, [.null, .null, .null, .null, .int 0, .int 0, .int 0, .null, .null, .null, .int 0, .null, .null, .int 0, .int 0, .int 0, .int 0, .int 0, .int 0, .int 0, .int 0, .int 0, .int 0, .int 0, .int 0, .int 0, .int 0, .int 0, .int 0, .null, .int 0, .int 0, .int 0, .int 0, .null, .int 0, .int 0])), (q1, .inl (y2, 128, .inr (.inl f74)))] := hD
  refine lv_dup hx hb dX13_init_508 rfl ?_
  refine lv_bipush (v := 72) hx hb dX13_init_509 (by decide) ?_
  refine lv_ldc2 hx hb hown (hts (.constantLong RX13 151 (48452902345027)) (List.mem_of_getElem? (i := 77) rfl)) dX13_init_511 ?_
  refine va_last (i := 72) (x := 48452902345027) hx hb hK hP hD hS 1 0 rfl rfl (vp_in_iff.mpr ⟨by decide, by decide⟩) dX13_init_514 (fun H locs hP hD hS => ?_)
  generalize hf75 : vp_updL f74 (Int32.toNatClampNeg 72) 48452902345027 = f75 at hP hD
  have hP : va_P (dC, dI) vwCl [(c0, .inr (14, [.null, .null, .null, .null, .int 0, .int 0, .int 0, .null, .null, .null, .int 0, .null, .null, .int 0, .int 0, .int 0, .int 0, .int 0, .int 0, .int 0, .int 0, .int 0, .int 0, .int 0, .int 0, .int 0, .int 0, .int 0, .int 0, .null, .int 0, .int 0, .int 0, .int 0, .null, .int 0, .int 0])), (q1, .inl (y2, 128, .inr (.inl f75)))] H := hP
  have hD : va_D A [(c0, .inr (14, [.null, .null, .null, .null, .int 0, .int 0, .int 0, .null, .null, .null, .int 0, .null, .null, .int 0, .int 0, .int 0, .int 0, .int 0, .int 0, .int 0, .int 0, .int 0, .int 0, .int 0, .int 0, .int 0, .int 0, .int 0, .int 0, .null, .int 0, .int 0, .int 0, .int 0, .null, .int 0, .int 0])), (q1, .inl (y2, 128, .inr (.inl f75)))] := hD
  refine lv_dup hx hb dX13_init_515 rfl ?_
  refine lv_bipush (v := 73) hx hb dX13_init_516 (by decide) ?_
  refine lv_ldc2 hx hb hown (hts (.constantLong RX13 153 (9731840323)) (List.mem_of_getElem? (i := 78) rfl)) dX13_init_518 ?_
  refine va_last (i := 73) (x := 9731840323) hx hb hK hP hD hS 1 0 rfl rfl (vp_in_iff.mpr ⟨by decide, by decide⟩) dX13_init_521 (fun H locs hP hD hS => ?_)
  generalize hf76 : vp_updL f75 (Int32.toNatClampNeg 73) 9731840323 = f76 at hP hD
  have hP : va_P (dC, dI) vwCl [(c0, .inr (14, [.null, .null, .null, .null, .int 0, .int 0, .int 0, .null, .null, .null, .int 0, .null, .null, .int 0, .int 0, .int 0, .int 0, .int 0, .int 0, .int 0, .int 0, .int 0, .int 0, .int 0, .int 0, .int 0, .int 0, .int 0, .int 0, .null, .int 0, .int 0, .int 0, .int 0, .null, .int 0, .int 0])), (q1, .inl (y2, 128, .inr (.inl f76)))] H := hP
  have hD : va_D A [(c0, .inr (14, [.null, .null, .null, .null, .int 0, .int 0, .int 0, .null, .null, .null, .int 0, .null, .null, .int 0, .int 0, .int 0, .int 0, .int 0, .int 0, .int 0, .int 0, .int 0, .int 0, .int 0, .int 0, .int 0, .int 0, .int 0, .int 0, .null, .int 0, .int 0, .int 0, .int 0, .null, .int 0, .int 0])), (q1, .inl (y2, 128, .inr (.inl f76)))] := hD
  refine lv_dup hx hb dX13_init_522 rfl ?_
  refine lv_bipush (v := 74) hx hb dX13_init_523 (by decide) ?_
  refine lv_ldc2 hx hb hown (hts (.constantLong RX13 155 (2410819)) (List.mem_of_getElem? (i := 79) rfl)) dX13_init_525 ?_
  refine va_last (i := 74) (x := 2410819) hx hb hK hP hD hS 1 0 rfl rfl (vp_in_iff.mpr ⟨by decide, by decide⟩) dX13_init_528 (fun H locs hP hD hS => ?_)
  generalize hf77 : vp_updL f76 (Int32.toNatClampNeg 74) 2410819 = f77 at hP hD
  have hP : va_P (dC, dI) vwCl [(c0, .inr (14, [.null, .null, .null, .null, .int 0, .int 0, .int 0, .null, .null, .null, .int 0, .null, .null, .int 0, .int 0, .int 0, .int 0, .int 0, .int 0, .int 0, .int 0, .int 0, .int 0, .int 0, .int 0, .int 0, .int 0, .int 0, .int 0, .null, .int 0, .int 0, .int 0, .int 0, .null, .int 0, .int 0])), (q1, .inl (y2, 128, .inr (.inl f77)))] H := hP
  have hD : va_D A [(c0, .inr (14, [.null, .null, .null, .null, .int 0, .int 0, .int 0, .null, .null, .null, .int 0, .null, .null, .int 0, .int 0, .int 0, .int 0, .int 0, .int 0, .int 0, .int 0, .int 0, .int 0, .int 0, .int 0, .int 0, .int 0, .int 0, .int 0, .null, .int 0, .int 0, .int 0, .int 0, .null, .int 0, .int 0])), (q1, .inl (y2, 128, .inr (.inl f77)))] := hD
  refine lv_dup hx hb dX13_init_529 rfl ?_
  refine lv_bipush (v := 75) hx hb dX13_init_530 (by decide) ?_
  refine lv_ldc2 hx hb hown (hts (.constantLong RX13 157 (156551491)) (List.mem_of_getElem? (i := 80) rfl)) dX13_init_532 ?_
  refine va_last (i := 75) (x := 156551491) hx hb hK hP hD hS 1 0 rfl rfl (vp_in_iff.mpr ⟨by decide, by decide⟩) dX13_init_535 (fun H locs hP hD hS => ?_)
  generalize hf78 : vp_updL f77 (Int32.toNatClampNeg 75) 156551491 = f78 at hP hD
  have hP : va_P (dC, dI) vwCl [(c0, .inr (14, [.null, .null, .null, .null, .int 0, .int 0, .int 0, .null, .null, .null, .int 0, .null, .null, .int 0, .int 0, .int 0, .int 0, .int 0, .int 0, .int 0, .int 0, .int 0, .int 0, .int 0, .int 0, .int 0, .int 0, .int 0, .int 0, .null, .int 0, .int 0, .int 0, .int 0, .null, .int 0, .int 0])), (q1, .inl (y2, 128, .inr (.inl f78)))] H := hP
  have hD : va_D A [(c0, .inr (14, [.null, .null, .null, .null, .int 0, .int 0, .int 0, .null, .null, .null, .int 0, .null, .null, .int 0, .int 0, .int 0, .int 0, .int 0, .int 0, .int 0, .int 0, .int 0, .int 0, .int 0, .int 0, .int 0, .int 0, .int 0, .int 0, .null, .int 0, .int 0, .int 0, .int 0, .null, .int 0, .int 0])), (q1, .inl (y2, 128, .inr (.inl f78)))] := hD
  refine lv_dup hx hb dX13_init_536 rfl ?_
  refine lv_bipush (v := 76) hx hb dX13_init_537 (by decide) ?_
  refine lv_ldc2 hx hb hown (hts (.constantLong RX13 159 (201632067)) (List.mem_of_getElem? (i := 81) rfl)) dX13_init_539 ?_
  refine va_last (i := 76) (x := 201632067) hx hb hK hP hD hS 1 0 rfl rfl (vp_in_iff.mpr ⟨by decide, by decide⟩) dX13_init_542 (fun H locs hP hD hS => ?_)
  generalize hf79 : vp_updL f78 (Int32.toNatClampNeg 76) 201632067 = f79 at hP hD
  have hP : va_P (dC, dI) vwCl [(c0, .inr (14, [.null, .null, .null, .null, .int 0, .int 0, .int 0, .null, .null, .null, .int 0, .null, .null, .int 0, .int 0, .int 0, .int 0, .int 0, .int 0, .int 0, .int 0, .int 0, .int 0, .int 0, .int 0, .int 0, .int 0, .int 0, .int 0, .null, .int 0, .int 0, .int 0, .int 0, .null, .int 0, .int 0])), (q1, .inl (y2, 128, .inr (.inl f79)))] H := hP
  have hD : va_D A [(c0, .inr (14, [.null, .null, .null, .null, .int 0, .int 0, .int 0, .null, .null, .null, .int 0, .null, .null, .int 0, .int 0, .int 0, .int 0, .int 0, .int 0, .int 0, .int 0, .int 0, .int 0, .int 0, .int 0, .int 0, .int 0, .int 0, .int 0, .null, .int 0, .int 0, .int 0, .int 0, .null, .int 0, .int 0])), (q1, .inl (y2, 128, .inr (.inl f79)))] := hD
  refine lv_dup hx hb dX13_init_543 rfl ?_
  refine lv_bipush (v := 77) hx hb dX13_init_544 (by decide) ?_
  refine lv_ldc2 hx hb hown (hts (.constantLong RX13 161 (43331)) (List.mem_of_getElem? (i := 82) rfl)) dX13_init_546 ?_
  refine va_last (i := 77) (x := 43331) hx hb hK hP hD hS 1 0 rfl rfl (vp_in_iff.mpr ⟨by decide, by decide⟩) dX13_init_549 (fun H locs hP hD hS => ?_)
  generalize hf80 : vp_updL f79 (Int32.toNatClampNeg 77) 43331 = f80 at hP hD
  have hP : va_P (dC, dI) vwCl [(c0, .inr (14, [.null, .null, .null, .null, .int 0, .int 0, .int 0, .null, .null, .null, .int 0, .null, .null, .int 0, .int 0, .int 0, .int 0, .int 0, .int 0, .int 0, .int 0, .int 0, .int 0, .int 0, .int 0, .int 0, .int 0, .int 0, .int 0, .null, .int 0, .int 0, .int 0, .int 0, .null, .int 0, .int 0])), (q1, .inl (y2, 128, .inr (.inl f80)))] H := hP
  have hD : va_D A [(c0, .inr (14, [.null, .null, .null, .null, .int 0, .int 0, .int 0, .null, .null, .null, .int 0, .null, .null, .int 0, .int 0, .int 0, .int 0, .int 0, .int 0, .int 0, .int 0, .int 0, .int 0, .int 0, .int 0, .int 0, .int 0, .int 0, .int 0, .null, .int 0, .int 0, .int 0, .int 0, .null, .int 0, .int 0])), (q1, .inl (y2, 128, .inr (.inl f80)))] := hD
  refine lv_dup hx hb dX13_init_550 rfl ?_
  refine lv_bipush (v := 78) hx hb dX13_init_551 (by decide) ?_
  refine lv_ldc2 hx hb hown (hts (.constantLong RX13 163 (293725470121269571)) (List.mem_of_getElem? (i := 83) rfl)) dX13_init_553 ?_
  refine va_last (i := 78) (x := 293725470121269571) hx hb hK hP hD hS 1 0 rfl rfl (vp_in_iff.mpr ⟨by decide, by decide⟩) dX13_init_556 (fun H locs hP hD hS => ?_)
  generalize hf81 : vp_updL f80 (Int32.toNatClampNeg 78) 293725470121269571 = f81 at hP hD
  have hP : va_P (dC, dI) vwCl [(c0, .inr (14, [.null, .null, .null, .null, .int 0, .int 0, .int 0, .null, .null, .null, .int 0, .null, .null, .int 0, .int 0, .int 0, .int 0, .int 0, .int 0, .int 0, .int 0, .int 0, .int 0, .int 0, .int 0, .int 0, .int 0, .int 0, .int 0, .null, .int 0, .int 0, .int 0, .int 0, .null, .int 0, .int 0])), (q1, .inl (y2, 128, .inr (.inl f81)))] H := hP
  have hD : va_D A [(c0, .inr (14, [.null, .null, .null, .null, .int 0, .int 0, .int 0, .null, .null, .null, .int 0, .null, .null, .int 0, .int 0, .int 0, .int 0, .int 0, .int 0, .int 0, .int 0, .int 0, .int 0, .int 0, .int 0, .int 0, .int 0, .int 0, .int 0, .null, .int 0, .int 0, .int 0, .int 0, .null, .int 0, .int 0])), (q1, .inl (y2, 128, .inr (.inl f81)))] := hD
  refine lv_dup hx hb dX13_init_557 rfl ?_
  refine lv_bipush (v := 79) hx hb dX13_init_558 (by decide) ?_
  refine lv_ldc2 hx hb hown (hts (.constantLong RX13 165 (9869801795)) (List.mem_of_getElem? (i := 84) rfl)) dX13_init_560 ?_
  refine va_last (i := 79) (x := 9869801795) hx hb hK hP hD hS 1 0 rfl rfl (vp_in_iff.mpr ⟨by decide, by decide⟩) dX13_init_563 (fun H locs hP hD hS => ?_)
  generalize hf82 : vp_updL f81 (Int32.toNatClampNeg 79) 9869801795 = f82 at hP hD
  have hP : va_P (dC, dI) vwCl [(c0, .inr (14, [.null, .null, .null, .null, .int 0, .int 0, .int 0, .null, .null, .null, .int 0, .null, .null, .int 0, .int 0, .int 0, .int 0, .int 0, .int 0, .int 0, .int 0, .int 0, .int 0, .int 0, .int 0, .int 0, .int 0, .int 0, .int 0, .null, .int 0, .int 0, .int 0, .int 0, .null, .int 0, .int 0])), (q1, .inl (y2, 128, .inr (.inl f82)))] H := hP
  have hD : va_D A [(c0, .inr (14, [.null, .null, .null, .null, .int 0, .int 0, .int 0, .null, .null, .null, .int 0, .null, .null, .int 0, .int 0, .int 0, .int 0, .int 0, .int 0, .int 0, .int 0, .int 0, .int 0, .int 0, .int 0, .int 0, .int 0, .int 0, .int 0, .null, .int 0, .int 0, .int 0, .int 0, .null, .int 0, .int 0])), (q1, .inl (y2, 128, .inr (.inl f82)))] := hD
  refine lv_dup hx hb dX13_init_564 rfl ?_
  refine lv_bipush (v := 80) hx hb dX13_init_565 (by decide) ?_
  refine lv_ldc2 hx hb hown (hts (.constantLong RX13 167 (9685252419)) (List.mem_of_getElem? (i := 85) rfl)) dX13_init_567 ?_
  refine va_last (i := 80) (x := 9685252419) hx hb hK hP hD hS 1 0 rfl rfl (vp_in_iff.mpr ⟨by decide, by decide⟩) dX13_init_570 (fun H locs hP hD hS => ?_)
  generalize hf83 : vp_updL f82 (Int32.toNatClampNeg 80) 9685252419 = f83 at hP hD
  have hP : va_P (dC, dI) vwCl [(c0, .inr (14, [.null, .null, .null, .null, .int 0, .int 0, .int 0, .null, .null, .null, .int 0, .null, .null, .int 0, .int 0, .int 0, .int 0, .int 0, .int 0, .int 0, .int 0, .int 0, .int 0, .int 0, .int 0, .int 0, .int 0, .int 0, .int 0, .null, .int 0, .int 0, .int 0, .int 0, .null, .int 0, .int 0])), (q1, .inl (y2, 128, .inr (.inl f83)))] H := hP
  have hD : va_D A [(c0, .inr (14, [.null, .null, .null, .null, .int 0, .int 0, .int 0, .null, .null, .null, .int 0, .null, .null, .int 0, .int 0, .int 0, .int 0, .int 0, .int 0, .int 0, .int 0, .int 0, .int 0, .int 0, .int 0, .int 0, .int 0, .int 0, .int 0, .null, .int 0, .int 0, .int 0, .int 0, .null, .int 0, .int 0])), (q1, .inl (y2, 128, .inr (.inl f83)))] := hD
  refine lv_dup hx hb dX13_init_571 rfl ?_
  refine lv_bipush (v := 81) hx hb dX13_init_572 (by decide) ?_
  refine lv_ldc2 hx hb hown (hts (.constantLong RX13 169 (9734461763)) (List.mem_of_getElem? (i := 86) rfl)) dX13_init_574 ?_
  refine va_last (i := 81) (x := 9734461763) hx hb hK hP hD hS 1 0 rfl rfl (vp_in_iff.mpr ⟨by decide, by decide⟩) dX13_init_577 (fun H locs hP hD hS => ?_)
  generalize hf84 : vp_updL f83 (Int32.toNatClampNeg 81) 9734461763 = f84 at hP hD
  have hP : va_P (dC, dI) vwCl [(c0, .inr (14, [.null, .null, .null, .null, .int 0, .int 0, .int 0, .null, .null, .null, .int 0, .null, .null, .int 0, .int 0, .int 0, .int 0, .int 0, .int 0, .int 0, .int 0, .int 0, .int 0, .int 0, .int 0, .int 0, .int 0, .int 0, .int 0, .null, .int 0, .int 0, .int 0, .int 0, .null, .int 0, .int 0])), (q1, .inl (y2, 128, .inr (.inl f84)))] H := hP
  have hD : va_D A [(c0, .inr (14, [.null, .null, .null, .null, .int 0, .int 0, .int 0, .null, .null, .null, .int 0, .null, .null, .int 0, .int 0, .int 0, .int 0, .int 0, .int 0, .int 0, .int 0, .int 0, .int 0, .int 0, .int 0, .int 0, .int 0, .int 0, .int 0, .null, .int 0, .int 0, .int 0, .int 0, .null, .int 0, .int 0])), (q1, .inl (y2, 128, .inr (.inl f84)))] := hD
  refine lv_dup hx hb dX13_init_578 rfl ?_
  refine lv_bipush (v := 82) hx hb dX13_init_579 (by decide) ?_
  refine lv_ldc2 hx hb hown (hts (.constantLong RX13 171 (39139651)) (List.mem_of_getElem? (i := 87) rfl)) dX13_init_581 ?_
  refine va_last (i := 82) (x := 39139651) hx hb hK hP hD hS 1 0 rfl rfl (vp_in_iff.mpr ⟨by decide, by decide⟩) dX13_init_584 (fun H locs hP hD hS => ?_)
  generalize hf85 : vp_updL f84 (Int32.toNatClampNeg 82) 39139651 = f85 at hP hD
  have hP : va_P (dC, dI) vwCl [(c0, .inr (14, [.null, .null, .null, .null, .int 0, .int 0, .int 0, .null, .null, .null, .int 0, .null, .null, .int 0, .int 0, .int 0, .int 0, .int 0, .int 0, .int 0, .int 0, .int 0, .int 0, .int 0, .int 0, .int 0, .int 0, .int 0, .int 0, .null, .int 0, .int 0, .int 0, .int 0, .null, .int 0, .int 0])), (q1, .inl (y2, 128, .inr (.inl f85)))] H := hP
  have hD : va_D A [(c0, .inr (14, [.null, .null, .null, .null, .int 0, .int 0, .int 0, .null, .null, .null, .int 0, .null, .null, .int 0, .int 0, .int 0, .int 0, .int 0, .int 0, .int 0, .int 0, .int 0, .int 0, .int 0, .int 0, .int 0, .int 0, .int 0, .int 0, .null, .int 0, .int 0, .int 0, .int 0, .null, .int 0, .int 0])), (q1, .inl (y2, 128, .inr (.inl f85)))] := hD
  refine lv_dup hx hb dX13_init_585 rfl ?_
  refine lv_bipush (v := 83) hx hb dX13_init_586 (by decide) ?_
  refine lv_ldc2 hx hb hown (hts (.constantLong RX13 173 (306022723)) (List.mem_of_getElem? (i := 88) rfl)) dX13_init_588 ?_
  refine va_last (i := 83) (x := 306022723) hx hb hK hP hD hS 1 0 rfl rfl (vp_in_iff.mpr ⟨by decide, by decide⟩) dX13_init_591 (fun H locs hP hD hS => ?_)
  generalize hf86 : vp_updL f85 (Int32.toNatClampNeg 83) 306022723 = f86 at hP hD
  have hP : va_P (dC, dI) vwCl [(c0, .inr (14, [.null, .null, .null, .null, .int 0, .int 0, .int 0, .null, .null, .null, .int 0, .null, .null, .int 0, .int 0, .int 0, .int 0, .int 0, .int 0, .int 0, .int 0, .int 0, .int 0, .int 0, .int 0, .int 0, .int 0, .int 0, .int 0, .null, .int 0, .int 0, .int 0, .int 0, .null, .int 0, .int 0])), (q1, .inl (y2, 128, .inr (.inl f86)))] H := hP
  have hD : va_D A [(c0, .inr (14, [.null, .null, .null, .null, .int 0, .int 0, .int 0, .null, .null, .null, .int 0, .null, .null, .int 0, .int 0, .int 0, .int 0, .int 0, .int 0, .int 0, .int 0, .int 0, .int 0, .int 0, .int 0, .int 0, .int 0, .int 0, .int 0, .null, .int 0, .int 0, .int 0, .int 0, .null, .int 0, .int 0])), (q1, .inl (y2, 128, .inr (.inl f86)))] := hD
  refine lv_dup hx hb dX13_init_592 rfl ?_
  refine lv_bipush (v := 84) hx hb dX13_init_593 (by decide) ?_
  refine lv_ldc2 hx hb hown (hts (.constantLong RX13 175 (4782403)) (List.mem_of_getElem? (i := 89) rfl)) dX13_init_595 ?_
  refine va_last (i := 84) (x := 4782403) hx hb hK hP hD hS 1 0 rfl rfl (vp_in_iff.mpr ⟨by decide, by decide⟩) dX13_init_598 (fun H locs hP hD hS => ?_)
  generalize hf87 : vp_updL f86 (Int32.toNatClampNeg 84) 4782403 = f87 at hP hD
  have hP : va_P (dC, dI) vwCl [(c0, .inr (14, [.null, .null, .null, .null, .int 0, .int 0, .int 0, .null, .null, .null, .int 0, .null, .null, .int 0, .int 0, .int 0, .int 0, .int 0, .int 0, .int 0, .int 0, .int 0, .int 0, .int 0, .int 0, .int 0, .int 0, .int 0, .int 0, .null, .int 0, .int 0, .int 0, .int 0, .null, .int 0, .int 0])), (q1, .inl (y2, 128, .inr (.inl f87)))] H := hP
  have hD : va_D A [(c0, .inr (14, [.null, .null, .null, .null, .int 0, .int 0, .int 0, .null, .null, .null, .int 0, .null, .null, .int 0, .int 0, .int 0, .int 0, .int 0, .int 0, .int 0, .int 0, .int 0, .int 0, .int 0, .int 0, .int 0, .int 0, .int 0, .int 0, .null, .int 0, .int 0, .int 0, .int 0, .null, .int 0, .int 0])), (q1, .inl (y2, 128, .inr (.inl f87)))] := hD
  refine lv_dup hx hb dX13_init_599 rfl ?_
  refine lv_bipush (v := 85) hx hb dX13_init_600 (by decide) ?_
  refine lv_ldc2 hx hb hown (hts (.constantLong RX13 177 (70785347)) (List.mem_of_getElem? (i := 90) rfl)) dX13_init_602 ?_
  refine va_last (i := 85) (x := 70785347) hx hb hK hP hD hS 1 0 rfl rfl (vp_in_iff.mpr ⟨by decide, by decide⟩) dX13_init_605 (fun H locs hP hD hS => ?_)
  generalize hf88 : vp_updL f87 (Int32.toNatClampNeg 85) 70785347 = f88 at hP hD
  have hP : va_P (dC, dI) vwCl [(c0, .inr (14, [.null, .null, .null, .null, .int 0, .int 0, .int 0, .null, .null, .null, .int 0, .null, .null, .int 0, .int 0, .int 0, .int 0, .int 0, .int 0, .int 0, .int 0, .int 0, .int 0, .int 0, .int 0, .int 0, .int 0, .int 0, .int 0, .null, .int 0, .int 0, .int 0, .int 0, .null, .int 0, .int 0])), (q1, .inl (y2, 128, .inr (.inl f88)))] H := hP
  have hD : va_D A [(c0, .inr (14, [.null, .null, .null, .null, .int 0, .int 0, .int 0, .null, .null, .null, .int 0, .null, .null, .int 0, .int 0, .int 0, .int 0, .int 0, .int 0, .int 0, .int 0, .int 0, .int 0, .int 0, .int 0, .int 0, .int 0, .int 0, .int 0, .null, .int 0, .int 0, .int 0, .int 0, .null, .int 0, .int 0])), (q1, .inl (y2, 128, .inr (.inl f88)))] := hD
  refine lv_dup hx hb dX13_init_606 rfl ?_
  refine lv_bipush (v := 86) hx hb dX13_init_607 (by decide) ?_
  refine lv_ldc2 hx hb hown (hts (.constantLong RX13 179 (28203821379)) (List.mem_of_getElem? (i := 91) rfl)) dX13_init_609 ?_
  refine va_last (i := 86) (x := 28203821379) hx hb hK hP hD hS 1 0 rfl rfl (vp_in_iff.mpr ⟨by decide, by decide⟩) dX13_init_612 (fun H locs hP hD hS => ?_)
  generalize hf89 : vp_updL f88 (Int32.toNatClampNeg 86) 28203821379 = f89 at hP hD
  have hP : va_P (dC, dI) vwCl [(c0, .inr (14, [.null, .null, .null, .null, .int 0, .int 0, .int 0, .null, .null, .null, .int 0, .null, .null, .int 0, .int 0, .int 0, .int 0, .int 0, .int 0, .int 0, .int 0, .int 0, .int 0, .int 0, .int 0, .int 0, .int 0, .int 0, .int 0, .null, .int 0, .int 0, .int 0, .int 0, .null, .int 0, .int 0])), (q1, .inl (y2, 128, .inr (.inl f89)))] H := hP
  have hD : va_D A [(c0, .inr (14, [.null, .null, .null, .null, .int 0, .int 0, .int 0, .null, .null, .null, .int 0, .null, .null, .int 0, .int 0, .int 0, .int 0, .int 0, .int 0, .int 0, .int 0, .int 0, .int 0, .int 0, .int 0, .int 0, .int 0, .int 0, .int 0, .null, .int 0, .int 0, .int 0, .int 0, .null, .int 0, .int 0])), (q1, .inl (y2, 128, .inr (.inl f89)))] := hD
  refine lv_dup hx hb dX13_init_613 rfl ?_
  refine lv_bipush (v := 87) hx hb dX13_init_614 (by decide) ?_
  refine lv_ldc2 hx hb hown (hts (.constantLong RX13 181 (28004854083)) (List.mem_of_getElem? (i := 92) rfl)) dX13_init_616 ?_
  refine va_last (i := 87) (x := 28004854083) hx hb hK hP hD hS 1 0 rfl rfl (vp_in_iff.mpr ⟨by decide, by decide⟩) dX13_init_619 (fun H locs hP hD hS => ?_)
  generalize hf90 : vp_updL f89 (Int32.toNatClampNeg 87) 28004854083 = f90 at hP hD
  have hP : va_P (dC, dI) vwCl [(c0, .inr (14, [.null, .null, .null, .null, .int 0, .int 0, .int 0, .null, .null, .null, .int 0, .null, .null, .int 0, .int 0, .int 0, .int 0, .int 0, .int 0, .int 0, .int 0, .int 0, .int 0, .int 0, .int 0, .int 0, .int 0, .int 0, .int 0, .null, .int 0, .int 0, .int 0, .int 0, .null, .int 0, .int 0])), (q1, .inl (y2, 128, .inr (.inl f90)))] H := hP
  have hD : va_D A [(c0, .inr (14, [.null, .null, .null, .null, .int 0, .int 0, .int 0, .null, .null, .null, .int 0, .null, .null, .int 0, .int 0, .int 0, .int 0, .int 0, .int 0, .int 0, .int 0, .int 0, .int 0, .int 0, .int 0, .int 0, .int 0, .int 0, .int 0, .null, .int 0, .int 0, .int 0, .int 0, .null, .int 0, .int 0])), (q1, .inl (y2, 128, .inr (.inl f90)))] := hD
  refine lv_dup hx hb dX13_init_620 rfl ?_
  refine lv_bipush (v := 88) hx hb dX13_init_621 (by decide) ?_
  refine lv_ldc2 hx hb hown (hts (.constantLong RX13 183 (9868228931)) (List.mem_of_getElem? (i := 93) rfl)) dX13_init_623 ?_
  exact kk f90 _ _ _ hK hP hD hS hl

set_option maxHeartbeats 40000000 in
set_option maxRecDepth 100000 in
theorem k_X13_init_s4 {p : Program} {l : Launch} {e : Env} {s : State} {m : MethodId} {args : Array Value} {below : List Frame} {meth : Method} {c : Code} {Q : State → Prop} {A : Nat → Prop} (dC : Nat → ClassId) (dI : Nat → Nat → Nat) (c0 : Nat) (q1 : Nat) (y2 : ClassId) (f90 : Nat → Int64) (hlt : l.stackTraces = false) (hx : p.tables.exec = Jvm.exec) (hb : c.code = cX13_init) (hml : c.maxLocals = 1) (hown : s.vm.findClass RX13 = some m.cls) (hts : ∀ w ∈ ow_k_X13_init, w.before args s = true) (hin : meth.name = "<init>") (hN : nv_E A s) (hA : ∀ q : Nat, s.heap.size ≤ q → A q) {H : Heap} {locs : List Loc} {ls : Array Slot} (hK : va_K (dC, dI) vwCl [(y2, .long)] s) (hP : va_P (dC, dI) vwCl [(c0, .inr (14, [.null, .null, .null, .null, .int 0, .int 0, .int 0, .null, .null, .null, .int 0, .null, .null, .int 0, .int 0, .int 0, .int 0, .int 0, .int 0, .int 0, .int 0, .int 0, .int 0, .int 0, .int 0, .int 0, .int 0, .int 0, .int 0, .null, .int 0, .int 0, .int 0, .int 0, .null, .int 0, .int 0])), (q1, .inl (y2, 128, .inr (.inl f90)))] H) (hD : va_D A [(c0, .inr (14, [.null, .null, .null, .null, .int 0, .int 0, .int 0, .null, .null, .null, .int 0, .null, .null, .int 0, .int 0, .int 0, .int 0, .int 0, .int 0, .int 0, .int 0, .int 0, .int 0, .int 0, .int 0, .int 0, .int 0, .int 0, .int 0, .null, .int 0, .int 0, .int 0, .int 0, .null, .int 0, .int 0])), (q1, .inl (y2, 128, .inr (.inl f90)))]) (hS : va_S A s.heap H locs) (hl : lv_has ls 1 [(0, .ref c0)]) (kk : ∀ (f113 : Nat → Int64) (H : Heap) (locs : List Loc) (ls : Array Slot), va_K (dC, dI) vwCl [(y2, .long)] s → va_P (dC, dI) vwCl [(c0, .inr (14, [.null, .null, .null, .null, .int 0, .int 0, .int 0, .null, .null, .null, .int 0, .null, .null, .int 0, .int 0, .int 0, .int 0, .int 0, .int 0, .int 0, .int 0, .int 0, .int 0, .int 0, .int 0, .int 0, .int 0, .int 0, .int 0, .null, .int 0, .int 0, .int 0, .int 0, .null, .int 0, .int 0])), (q1, .inl (y2, 128, .inr (.inl f113)))] H → va_D A [(c0, .inr (14, [.null, .null, .null, .null, .int 0, .int 0, .int 0, .null, .null, .null, .int 0, .null, .null, .int 0, .int 0, .int 0, .int 0, .int 0, .int 0, .int 0, .int 0, .int 0, .int 0, .int 0, .int 0, .int 0, .int 0, .int 0, .int 0, .null, .int 0, .int 0, .int 0, .int 0, .null, .int 0, .int 0])), (q1, .inl (y2, 128, .inr (.inl f113)))] → va_S A s.heap H locs → lv_has ls 1 [(0, .ref c0)] → W p l e (headSpec ow_k_X13_init ({ frames := 1, cells := 10, slots := 131956, locals := 12 })).room s m args below meth c H locs 1 128 Q (F0 m 782 ls [.ref q1, .ref q1, .ref c0])) : W p l e (headSpec ow_k_X13_init ({ frames := 1, cells := 10, slots := 131956, locals := 12 })).room s m args below meth c H locs 1 128 Q (F0 m 626 ls [.long 9868228931, .int 88, .ref q1, .ref q1, .ref c0]) := by
  refine va_last (i := 88) (x := 9868228931) hx hb hK hP hD hS 1 0 rfl rfl (vp_in_iff.mpr ⟨by decide, by decide⟩) dX13_init_626 (fun H locs hP hD hS => ?_)
  generalize hf91 : vp_updL f90 (Int32.toNatClampNeg 88) 9868228931 = f91 at hP hD
  have hP : va_P (dC, dI) vwCl [(c0, .inr (14, [.null, .null, .null, .null, .int 0, .int 0, .int 0, .null, .null, .null, .int 0, .null, .null, .int 0, .int 0, .int 0, .int 0, .int 0, .int 0, .int 0, .int 0, .int 0, .int 0, .int 0, .int 0, .int 0, .int 0, .int 0, .int 0, .null, .int 0, .int 0, .int 0, .int 0, .null, .int 0, .int 0])), (q1, .inl (y2, 128, .inr (.inl f91)))] H := hP
  have hD : va_D A [(c0, .inr (14, [.null, .null, .null, .null, .int 0, .int 0, .int 0, .null, .null, .null, .int 0, .null, .null, .int 0, .int 0, .int 0, .int 0, .int 0, .int 0, .int 0, .int 0, .int 0, .int 0, .int 0, .int 0, .int 0, .int 0, .int 0, .int 0, .null, .int 0, .int 0, .int 0, .int 0, .null, .int 0, .int 0])), (q1, .inl (y2, 128, .inr (.inl f91)))] := hD
  refine lv_dup hx hb dX13_init_627 rfl ?_
  refine lv_bipush (v := 89) hx hb dX13_init_628 (by decide) ?_
  refine lv_ldc2 hx hb hown (hts (.constantLong RX13 185 (17504717123)) (List.mem_of_getElem? (i := 94) rfl)) dX13_init_630 ?_
  refine va_last (i := 89) (x := 17504717123) hx hb hK hP hD hS 1 0 rfl rfl (vp_in_iff.mpr ⟨by decide, by decide⟩) dX13_init_633 (fun H locs hP hD hS => ?_)
  generalize hf92 : vp_updL f91 (Int32.toNatClampNeg 89) 17504717123 = f92 at hP hD
  have hP : va_P (dC, dI) vwCl [(c0, .inr (14, [.null, .null, .null, .null, .int 0, .int 0, .int 0, .null, .null, .null, .int 0, .null, .null, .int 0, .int 0, .int 0, .int 0, .int 0, .int 0, .int 0, .int 0, .int 0, .int 0, .int 0, .int 0, .int 0, .int 0, .int 0, .int 0, .null, .int 0, .int 0, .int 0, .int 0, .null, .int 0, .int 0])), (q1, .inl (y2, 128, .inr (.inl f92)))] H := hP
  have hD : va_D A [(c0, .inr (14, [.null, .null, .null, .null, .int 0, .int 0, .int 0, .null, .null, .null, .int 0, .null, .null, .int 0, .int 0, .int 0, .int 0, .int 0, .int 0, .int 0, .int 0, .int 0, .int 0, .int 0, .int 0, .int 0, .int 0, .int 0, .int 0, .null, .int 0, .int 0, .int 0, .int 0, .null, .int 0, .int 0])), (q1, .inl (y2, 128, .inr (.inl f92)))] := hD
  refine lv_dup hx hb dX13_init_634 rfl ?_
  refine lv_bipush (v := 90) hx hb dX13_init_635 (by decide) ?_
  refine lv_ldc2 hx hb hown (hts (.constantLong RX13 187 (4761923)) (List.mem_of_getElem? (i := 95) rfl)) dX13_init_637 ?_
  refine va_last (i := 90) (x := 4761923) hx hb hK hP hD hS 1 0 rfl rfl (vp_in_iff.mpr ⟨by decide, by decide⟩) dX13_init_640 (fun H locs hP hD hS => ?_)
  generalize hf93 : vp_updL f92 (Int32.toNatClampNeg 90) 4761923 = f93 at hP hD
  have hP : va_P (dC, dI) vwCl [(c0, .inr (14, [.null, .null, .null, .null, .int 0, .int 0, .int 0, .null, .null, .null, .int 0, .null, .null, .int 0, .int 0, .int 0, .int 0, .int 0, .int 0, .int 0, .int 0, .int 0, .int 0, .int 0, .int 0, .int 0, .int 0, .int 0, .int 0, .null, .int 0, .int 0, .int 0, .int 0, .null, .int 0, .int 0])), (q1, .inl (y2, 128, .inr (.inl f93)))] H := hP
  have hD : va_D A [(c0, .inr (14, [.null, .null, .null, .null, .int 0, .int 0, .int 0, .null, .null, .null, .int 0, .null, .null, .int 0, .int 0, .int 0, .int 0, .int 0, .int 0, .int 0, .int 0, .int 0, .int 0, .int 0, .int 0, .int 0, .int 0, .int 0, .int 0, .null, .int 0, .int 0, .int 0, .int 0, .null, .int 0, .int 0])), (q1, .inl (y2, 128, .inr (.inl f93)))] := hD
  refine lv_dup hx hb dX13_init_641 rfl ?_
  refine lv_bipush (v := 91) hx hb dX13_init_642 (by decide) ?_
  refine lv_ldc2 hx hb hown (hts (.constantLong RX13 189 (19528984899)) (List.mem_of_getElem? (i := 96) rfl)) dX13_init_644 ?_
  refine va_last (i := 91) (x := 19528984899) hx hb hK hP hD hS 1 0 rfl rfl (vp_in_iff.mpr ⟨by decide, by decide⟩) dX13_init_647 (fun H locs hP hD hS => ?_)
  generalize hf94 : vp_updL f93 (Int32.toNatClampNeg 91) 19528984899 = f94 at hP hD
  have hP : va_P (dC, dI) vwCl [(c0, .inr (14, [.null, .null, .null, .null, .int 0, .int 0, .int 0, .null, .null, .null, .int 0, .null, .null, .int 0, .int 0, .int 0, .int 0, .int 0, .int 0, .int 0, .int 0, .int 0, .int 0, .int 0, .int 0, .int 0, .int 0, .int 0, .int 0, .null, .int 0, .int 0, .int 0, .int 0, .null, .int 0, .int 0])), (q1, .inl (y2, 128, .inr (.inl f94)))] H := hP
  have hD : va_D A [(c0, .inr (14, [.null, .null, .null, .null, .int 0, .int 0, .int 0, .null, .null, .null, .int 0, .null, .null, .int 0, .int 0, .int 0, .int 0, .int 0, .int 0, .int 0, .int 0, .int 0, .int 0, .int 0, .int 0, .int 0, .int 0, .int 0, .int 0, .null, .int 0, .int 0, .int 0, .int 0, .null, .int 0, .int 0])), (q1, .inl (y2, 128, .inr (.inl f94)))] := hD
  refine lv_dup hx hb dX13_init_648 rfl ?_
  refine lv_bipush (v := 92) hx hb dX13_init_649 (by decide) ?_
  refine lv_ldc2 hx hb hown (hts (.constantLong RX13 191 (5822787)) (List.mem_of_getElem? (i := 97) rfl)) dX13_init_651 ?_
  refine va_last (i := 92) (x := 5822787) hx hb hK hP hD hS 1 0 rfl rfl (vp_in_iff.mpr ⟨by decide, by decide⟩) dX13_init_654 (fun H locs hP hD hS => ?_)
  generalize hf95 : vp_updL f94 (Int32.toNatClampNeg 92) 5822787 = f95 at hP hD
  have hP : va_P (dC, dI) vwCl [(c0, .inr (14, [.null, .null, .null, .null, .int 0, .int 0, .int 0, .null, .null, .null, .int 0, .null, .null, .int 0, .int 0, .int 0, .int 0, .int 0, .int 0, .int 0, .int 0, .int 0, .int 0, .int 0, .int 0, .int 0, .int 0, .int 0, .int 0, .null, .int 0, .int 0, .int 0, .int 0, .null, .int 0, .int 0])), (q1, .inl (y2, 128, .inr (.inl f95)))] H := hP
  have hD : va_D A [(c0, .inr (14, [.null, .null, .null, .null, .int 0, .int 0, .int 0, .null, .null, .null, .int 0, .null, .null, .int 0, .int 0, .int 0, .int 0, .int 0, .int 0, .int 0, .int 0, .int 0, .int 0, .int 0, .int 0, .int 0, .int 0, .int 0, .int 0, .null, .int 0, .int 0, .int 0, .int 0, .null, .int 0, .int 0])), (q1, .inl (y2, 128, .inr (.inl f95)))] := hD
  refine lv_dup hx hb dX13_init_655 rfl ?_
  refine lv_bipush (v := 93) hx hb dX13_init_656 (by decide) ?_
  refine lv_ldc2 hx hb hown (hts (.constantLong RX13 193 (68163907)) (List.mem_of_getElem? (i := 98) rfl)) dX13_init_658 ?_
  refine va_last (i := 93) (x := 68163907) hx hb hK hP hD hS 1 0 rfl rfl (vp_in_iff.mpr ⟨by decide, by decide⟩) dX13_init_661 (fun H locs hP hD hS => ?_)
  generalize hf96 : vp_updL f95 (Int32.toNatClampNeg 93) 68163907 = f96 at hP hD
  have hP : va_P (dC, dI) vwCl [(c0, .inr (14, [.null, .null, .null, .null, .int 0, .int 0, .int 0, .null, .null, .null, .int 0, .null, .null, .int 0, .int 0, .int 0, .int 0, .int 0, .int 0, .int 0, .int 0, .int 0, .int 0, .int 0, .int 0, .int 0, .int 0, .int 0, .int 0, .null, .int 0, .int 0, .int 0, .int 0, .null, .int 0, .int 0])), (q1, .inl (y2, 128, .inr (.inl f96)))] H := hP
  have hD : va_D A [(c0, .inr (14, [.null, .null, .null, .null, .int 0, .int 0, .int 0, .null, .null, .null, .int 0, .null, .null, .int 0, .int 0, .int 0, .int 0, .int 0, .int 0, .int 0, .int 0, .int 0, .int 0, .int 0, .int 0, .int 0, .int 0, .int 0, .int 0, .null, .int 0, .int 0, .int 0, .int 0, .null, .int 0, .int 0])), (q1, .inl (y2, 128, .inr (.inl f96)))] := hD
  refine lv_dup hx hb dX13_init_662 rfl ?_
  refine lv_bipush (v := 94) hx hb dX13_init_663 (by decide) ?_
  refine lv_ldc2 hx hb hown (hts (.constantLong RX13 195 (17504745795)) (List.mem_of_getElem? (i := 99) rfl)) dX13_init_665 ?_
  refine va_last (i := 94) (x := 17504745795) hx hb hK hP hD hS 1 0 rfl rfl (vp_in_iff.mpr ⟨by decide, by decide⟩) dX13_init_668 (fun H locs hP hD hS => ?_)
  generalize hf97 : vp_updL f96 (Int32.toNatClampNeg 94) 17504745795 = f97 at hP hD
  have hP : va_P (dC, dI) vwCl [(c0, .inr (14, [.null, .null, .null, .null, .int 0, .int 0, .int 0, .null, .null, .null, .int 0, .null, .null, .int 0, .int 0, .int 0, .int 0, .int 0, .int 0, .int 0, .int 0, .int 0, .int 0, .int 0, .int 0, .int 0, .int 0, .int 0, .int 0, .null, .int 0, .int 0, .int 0, .int 0, .null, .int 0, .int 0])), (q1, .inl (y2, 128, .inr (.inl f97)))] H := hP
  have hD : va_D A [(c0, .inr (14, [.null, .null, .null, .null, .int 0, .int 0, .int 0, .null, .null, .null, .int 0, .null, .null, .int 0, .int 0, .int 0, .int 0, .int 0, .int 0, .int 0, .int 0, .int 0, .int 0, .int 0, .int 0, .int 0, .int 0, .int 0, .int 0, .null, .int 0, .int 0, .int 0, .int 0, .null, .int 0, .int 0])), (q1, .inl (y2, 128, .inr (.inl f97)))] := hD
  refine lv_dup hx hb dX13_init_669 rfl ?_
  refine lv_bipush (v := 95) hx hb dX13_init_670 (by decide) ?_
  refine lv_ldc2 hx hb hown (hts (.constantLong RX13 197 (1421)) (List.mem_of_getElem? (i := 100) rfl)) dX13_init_672 ?_
  refine va_last (i := 95) (x := 1421) hx hb hK hP hD hS 1 0 rfl rfl (vp_in_iff.mpr ⟨by decide, by decide⟩) dX13_init_675 (fun H locs hP hD hS => ?_)
  generalize hf98 : vp_updL f97 (Int32.toNatClampNeg 95) 1421 = f98 at hP hD
  have hP : va_P (dC, dI) vwCl [(c0, .inr (14, [.null, .null, .null, .null, .int 0, .int 0, .int 0, .null, .null, .null, .int 0, .null, .null, .int 0, .int 0, .int 0, .int 0, .int 0, .int 0, .int 0, .int 0, .int 0, .int 0, .int 0, .int 0, .int 0, .int 0, .int 0, .int 0, .null, .int 0, .int 0, .int 0, .int 0, .null, .int 0, .int 0])), (q1, .inl (y2, 128, .inr (.inl f98)))] H := hP
  have hD : va_D A [(c0, .inr (14, [.null, .null, .null, .null, .int 0, .int 0, .int 0, .null, .null, .null, .int 0, .null, .null, .int 0, .int 0, .int 0, .int 0, .int 0, .int 0, .int 0, .int 0, .int 0, .int 0, .int 0, .int 0, .int 0, .int 0, .int 0, .int 0, .null, .int 0, .int 0, .int 0, .int 0, .null, .int 0, .int 0])), (q1, .inl (y2, 128, .inr (.inl f98)))] := hD
  refine lv_dup hx hb dX13_init_676 rfl ?_
  refine lv_bipush (v := 96) hx hb dX13_init_677 (by decide) ?_
  refine lv_ldc2 hx hb hown (hts (.constantLong RX13 199 (82894)) (List.mem_of_getElem? (i := 101) rfl)) dX13_init_679 ?_
  refine va_last (i := 96) (x := 82894) hx hb hK hP hD hS 1 0 rfl rfl (vp_in_iff.mpr ⟨by decide, by decide⟩) dX13_init_682 (fun H locs hP hD hS => ?_)
  generalize hf99 : vp_updL f98 (Int32.toNatClampNeg 96) 82894 = f99 at hP hD
  have hP : va_P (dC, dI) vwCl [(c0, .inr (14, [.null, .null, .null, .null, .int 0, .int 0, .int 0, .null, .null, .null, .int 0, .null, .null, .int 0, .int 0, .int 0, .int 0, .int 0, .int 0, .int 0, .int 0, .int 0, .int 0, .int 0, .int 0, .int 0, .int 0, .int 0, .int 0, .null, .int 0, .int 0, .int 0, .int 0, .null, .int 0, .int 0])), (q1, .inl (y2, 128, .inr (.inl f99)))] H := hP
  have hD : va_D A [(c0, .inr (14, [.null, .null, .null, .null, .int 0, .int 0, .int 0, .null, .null, .null, .int 0, .null, .null, .int 0, .int 0, .int 0, .int 0, .int 0, .int 0, .int 0, .int 0, .int 0, .int 0, .int 0, .int 0, .int 0, .int 0, .int 0, .int 0, .null, .int 0, .int 0, .int 0, .int 0, .null, .int 0, .int 0])), (q1, .inl (y2, 128, .inr (.inl f99)))] := hD
  refine lv_dup hx hb dX13_init_683 rfl ?_
  refine lv_bipush (v := 97) hx hb dX13_init_684 (by decide) ?_
  refine lv_ldc2 hx hb hown (hts (.constantLong RX13 201 (6885715)) (List.mem_of_getElem? (i := 102) rfl)) dX13_init_686 ?_
  refine va_last (i := 97) (x := 6885715) hx hb hK hP hD hS 1 0 rfl rfl (vp_in_iff.mpr ⟨by decide, by decide⟩) dX13_init_689 (fun H locs hP hD hS => ?_)
  generalize hf100 : vp_updL f99 (Int32.toNatClampNeg 97) 6885715 = f100 at hP hD
  have hP : va_P (dC, dI) vwCl [(c0, .inr (14, [.null, .null, .null, .null, .int 0, .int 0, .int 0, .null, .null, .null, .int 0, .null, .null, .int 0, .int 0, .int 0, .int 0, .int 0, .int 0, .int 0, .int 0, .int 0, .int 0, .int 0, .int 0, .int 0, .int 0, .int 0, .int 0, .null, .int 0, .int 0, .int 0, .int 0, .null, .int 0, .int 0])), (q1, .inl (y2, 128, .inr (.inl f100)))] H := hP
  have hD : va_D A [(c0, .inr (14, [.null, .null, .null, .null, .int 0, .int 0, .int 0, .null, .null, .null, .int 0, .null, .null, .int 0, .int 0, .int 0, .int 0, .int 0, .int 0, .int 0, .int 0, .int 0, .int 0, .int 0, .int 0, .int 0, .int 0, .int 0, .int 0, .null, .int 0, .int 0, .int 0, .int 0, .null, .int 0, .int 0])), (q1, .inl (y2, 128, .inr (.inl f100)))] := hD
  refine lv_dup hx hb dX13_init_690 rfl ?_
  refine lv_bipush (v := 98) hx hb dX13_init_691 (by decide) ?_
  refine lv_ldc2 hx hb hown (hts (.constantLong RX13 203 (6898451)) (List.mem_of_getElem? (i := 103) rfl)) dX13_init_693 ?_
  refine va_last (i := 98) (x := 6898451) hx hb hK hP hD hS 1 0 rfl rfl (vp_in_iff.mpr ⟨by decide, by decide⟩) dX13_init_696 (fun H locs hP hD hS => ?_)
  generalize hf101 : vp_updL f100 (Int32.toNatClampNeg 98) 6898451 = f101 at hP hD
  have hP : va_P (dC, dI) vwCl [(c0, .inr (14, [.null, .null, .null, .null, .int 0, .int 0, .int 0, .null, .null, .null, .int 0, .null, .null, .int 0, .int 0, .int 0, .int 0, .int 0, .int 0, .int 0, .int 0, .int 0, .int 0, .int 0, .int 0, .int 0, .int 0, .int 0, .int 0, .null, .int 0, .int 0, .int 0, .int 0, .null, .int 0, .int 0])), (q1, .inl (y2, 128, .inr (.inl f101)))] H := hP
  have hD : va_D A [(c0, .inr (14, [.null, .null, .null, .null, .int 0, .int 0, .int 0, .null, .null, .null, .int 0, .null, .null, .int 0, .int 0, .int 0, .int 0, .int 0, .int 0, .int 0, .int 0, .int 0, .int 0, .int 0, .int 0, .int 0, .int 0, .int 0, .int 0, .null, .int 0, .int 0, .int 0, .int 0, .null, .int 0, .int 0])), (q1, .inl (y2, 128, .inr (.inl f101)))] := hD
  refine lv_dup hx hb dX13_init_697 rfl ?_
  refine lv_bipush (v := 99) hx hb dX13_init_698 (by decide) ?_
  refine lv_ldc2 hx hb hown (hts (.constantLong RX13 205 (29006)) (List.mem_of_getElem? (i := 104) rfl)) dX13_init_700 ?_
  refine va_last (i := 99) (x := 29006) hx hb hK hP hD hS 1 0 rfl rfl (vp_in_iff.mpr ⟨by decide, by decide⟩) dX13_init_703 (fun H locs hP hD hS => ?_)
  generalize hf102 : vp_updL f101 (Int32.toNatClampNeg 99) 29006 = f102 at hP hD
  have hP : va_P (dC, dI) vwCl [(c0, .inr (14, [.null, .null, .null, .null, .int 0, .int 0, .int 0, .null, .null, .null, .int 0, .null, .null, .int 0, .int 0, .int 0, .int 0, .int 0, .int 0, .int 0, .int 0, .int 0, .int 0, .int 0, .int 0, .int 0, .int 0, .int 0, .int 0, .null, .int 0, .int 0, .int 0, .int 0, .null, .int 0, .int 0])), (q1, .inl (y2, 128, .inr (.inl f102)))] H := hP
  have hD : va_D A [(c0, .inr (14, [.null, .null, .null, .null, .int 0, .int 0, .int 0, .null, .null, .null, .int 0, .null, .null, .int 0, .int 0, .int 0, .int 0, .int 0, .int 0, .int 0, .int 0, .int 0, .int 0, .int 0, .int 0, .int 0, .int 0, .int 0, .int 0, .null, .int 0, .int 0, .int 0, .int 0, .null, .int 0, .int 0])), (q1, .inl (y2, 128, .inr (.inl f102)))] := hD
  refine lv_dup hx hb dX13_init_704 rfl ?_
  refine lv_bipush (v := 100) hx hb dX13_init_705 (by decide) ?_
  refine lv_ldc2 hx hb hown (hts (.constantLong RX13 207 (6837139)) (List.mem_of_getElem? (i := 105) rfl)) dX13_init_707 ?_
  refine va_last (i := 100) (x := 6837139) hx hb hK hP hD hS 1 0 rfl rfl (vp_in_iff.mpr ⟨by decide, by decide⟩) dX13_init_710 (fun H locs hP hD hS => ?_)
  generalize hf103 : vp_updL f102 (Int32.toNatClampNeg 100) 6837139 = f103 at hP hD
  have hP : va_P (dC, dI) vwCl [(c0, .inr (14, [.null, .null, .null, .null, .int 0, .int 0, .int 0, .null, .null, .null, .int 0, .null, .null, .int 0, .int 0, .int 0, .int 0, .int 0, .int 0, .int 0, .int 0, .int 0, .int 0, .int 0, .int 0, .int 0, .int 0, .int 0, .int 0, .null, .int 0, .int 0, .int 0, .int 0, .null, .int 0, .int 0])), (q1, .inl (y2, 128, .inr (.inl f103)))] H := hP
  have hD : va_D A [(c0, .inr (14, [.null, .null, .null, .null, .int 0, .int 0, .int 0, .null, .null, .null, .int 0, .null, .null, .int 0, .int 0, .int 0, .int 0, .int 0, .int 0, .int 0, .int 0, .int 0, .int 0, .int 0, .int 0, .int 0, .int 0, .int 0, .int 0, .null, .int 0, .int 0, .int 0, .int 0, .null, .int 0, .int 0])), (q1, .inl (y2, 128, .inr (.inl f103)))] := hD
  refine lv_dup hx hb dX13_init_711 rfl ?_
  refine lv_bipush (v := 101) hx hb dX13_init_712 (by decide) ?_
  refine lv_ldc2 hx hb hown (hts (.constantLong RX13 209 (6898131)) (List.mem_of_getElem? (i := 106) rfl)) dX13_init_714 ?_
  refine va_last (i := 101) (x := 6898131) hx hb hK hP hD hS 1 0 rfl rfl (vp_in_iff.mpr ⟨by decide, by decide⟩) dX13_init_717 (fun H locs hP hD hS => ?_)
  generalize hf104 : vp_updL f103 (Int32.toNatClampNeg 101) 6898131 = f104 at hP hD
  have hP : va_P (dC, dI) vwCl [(c0, .inr (14, [.null, .null, .null, .null, .int 0, .int 0, .int 0, .null, .null, .null, .int 0, .null, .null, .int 0, .int 0, .int 0, .int 0, .int 0, .int 0, .int 0, .int 0, .int 0, .int 0, .int 0, .int 0, .int 0, .int 0, .int 0, .int 0, .null, .int 0, .int 0, .int 0, .int 0, .null, .int 0, .int 0])), (q1, .inl (y2, 128, .inr (.inl f104)))] H := hP
  have hD : va_D A [(c0, .inr (14, [.null, .null, .null, .null, .int 0, .int 0, .int 0, .null, .null, .null, .int 0, .null, .null, .int 0, .int 0, .int 0, .int 0, .int 0, .int 0, .int 0, .int 0, .int 0, .int 0, .int 0, .int 0, .int 0, .int 0, .int 0, .int 0, .null, .int 0, .int 0, .int 0, .int 0, .null, .int 0, .int 0])), (q1, .inl (y2, 128, .inr (.inl f104)))] := hD
  refine lv_dup hx hb dX13_init_718 rfl ?_
  refine lv_bipush (v := 102) hx hb dX13_init_719 (by decide) ?_
  refine lv_ldc2 hx hb hown (hts (.constantLong RX13 211 (1162)) (List.mem_of_getElem? (i := 107) rfl)) dX13_init_721 ?_
  refine va_last (i := 102) (x := 1162) hx hb hK hP hD hS 1 0 rfl rfl (vp_in_iff.mpr ⟨by decide, by decide⟩) dX13_init_724 (fun H locs hP hD hS => ?_)
  generalize hf105 : vp_updL f104 (Int32.toNatClampNeg 102) 1162 = f105 at hP hD
  have hP : va_P (dC, dI) vwCl [(c0, .inr (14, [.null, .null, .null, .null, .int 0, .int 0, .int 0, .null, .null, .null, .int 0, .null, .null, .int 0, .int 0, .int 0, .int 0, .int 0, .int 0, .int 0, .int 0, .int 0, .int 0, .int 0, .int 0, .int 0, .int 0, .int 0, .int 0, .null, .int 0, .int 0, .int 0, .int 0, .null, .int 0, .int 0])), (q1, .inl (y2, 128, .inr (.inl f105)))] H := hP
  have hD : va_D A [(c0, .inr (14, [.null, .null, .null, .null, .int 0, .int 0, .int 0, .null, .null, .null, .int 0, .null, .null, .int 0, .int 0, .int 0, .int 0, .int 0, .int 0, .int 0, .int 0, .int 0, .int 0, .int 0, .int 0, .int 0, .int 0, .int 0, .int 0, .null, .int 0, .int 0, .int 0, .int 0, .null, .int 0, .int 0])), (q1, .inl (y2, 128, .inr (.inl f105)))] := hD
  refine lv_dup hx hb dX13_init_725 rfl ?_
  refine lv_bipush (v := 103) hx hb dX13_init_726 (by decide) ?_
  refine lv_ldc2 hx hb hown (hts (.constantLong RX13 213 (3194947)) (List.mem_of_getElem? (i := 108) rfl)) dX13_init_728 ?_
  refine va_last (i := 103) (x := 3194947) hx hb hK hP hD hS 1 0 rfl rfl (vp_in_iff.mpr ⟨by decide, by decide⟩) dX13_init_731 (fun H locs hP hD hS => ?_)
  generalize hf106 : vp_updL f105 (Int32.toNatClampNeg 103) 3194947 = f106 at hP hD
  have hP : va_P (dC, dI) vwCl [(c0, .inr (14, [.null, .null, .null, .null, .int 0, .int 0, .int 0, .null, .null, .null, .int 0, .null, .null, .int 0, .int 0, .int 0, .int 0, .int 0, .int 0, .int 0, .int 0, .int 0, .int 0, .int 0, .int 0, .int 0, .int 0, .int 0, .int 0, .null, .int 0, .int 0, .int 0, .int 0, .null, .int 0, .int 0])), (q1, .inl (y2, 128, .inr (.inl f106)))] H := hP
  have hD : va_D A [(c0, .inr (14, [.null, .null, .null, .null, .int 0, .int 0, .int 0, .null, .null, .null, .int 0, .null, .null, .int 0, .int 0, .int 0, .int 0, .int 0, .int 0, .int 0, .int 0, .int 0, .int 0, .int 0, .int 0, .int 0, .int 0, .int 0, .int 0, .null, .int 0, .int 0, .int 0, .int 0, .null, .int 0, .int 0])), (q1, .inl (y2, 128, .inr (.inl f106)))] := hD
  refine lv_dup hx hb dX13_init_732 rfl ?_
  refine lv_bipush (v := 104) hx hb dX13_init_733 (by decide) ?_
  refine lv_ldc2 hx hb hown (hts (.constantLong RX13 215 (10)) (List.mem_of_getElem? (i := 109) rfl)) dX13_init_735 ?_
  refine va_last (i := 104) (x := 10) hx hb hK hP hD hS 1 0 rfl rfl (vp_in_iff.mpr ⟨by decide, by decide⟩) dX13_init_738 (fun H locs hP hD hS => ?_)
  generalize hf107 : vp_updL f106 (Int32.toNatClampNeg 104) 10 = f107 at hP hD
  have hP : va_P (dC, dI) vwCl [(c0, .inr (14, [.null, .null, .null, .null, .int 0, .int 0, .int 0, .null, .null, .null, .int 0, .null, .null, .int 0, .int 0, .int 0, .int 0, .int 0, .int 0, .int 0, .int 0, .int 0, .int 0, .int 0, .int 0, .int 0, .int 0, .int 0, .int 0, .null, .int 0, .int 0, .int 0, .int 0, .null, .int 0, .int 0])), (q1, .inl (y2, 128, .inr (.inl f107)))] H := hP
  have hD : va_D A [(c0, .inr (14, [.null, .null, .null, .null, .int 0, .int 0, .int 0, .null, .null, .null, .int 0, .null, .null, .int 0, .int 0, .int 0, .int 0, .int 0, .int 0, .int 0, .int 0, .int 0, .int 0, .int 0, .int 0, .int 0, .int 0, .int 0, .int 0, .null, .int 0, .int 0, .int 0, .int 0, .null, .int 0, .int 0])), (q1, .inl (y2, 128, .inr (.inl f107)))] := hD
  refine lv_dup hx hb dX13_init_739 rfl ?_
  refine lv_bipush (v := 105) hx hb dX13_init_740 (by decide) ?_
  refine lv_ldc2 hx hb hown (hts (.constantLong RX13 217 (3182676)) (List.mem_of_getElem? (i := 110) rfl)) dX13_init_742 ?_
  refine va_last (i := 105) (x := 3182676) hx hb hK hP hD hS 1 0 rfl rfl (vp_in_iff.mpr ⟨by decide, by decide⟩) dX13_init_745 (fun H locs hP hD hS => ?_)
  generalize hf108 : vp_updL f107 (Int32.toNatClampNeg 105) 3182676 = f108 at hP hD
  have hP : va_P (dC, dI) vwCl [(c0, .inr (14, [.null, .null, .null, .null, .int 0, .int 0, .int 0, .null, .null, .null, .int 0, .null, .null, .int 0, .int 0, .int 0, .int 0, .int 0, .int 0, .int 0, .int 0, .int 0, .int 0, .int 0, .int 0, .int 0, .int 0, .int 0, .int 0, .null, .int 0, .int 0, .int 0, .int 0, .null, .int 0, .int 0])), (q1, .inl (y2, 128, .inr (.inl f108)))] H := hP
  have hD : va_D A [(c0, .inr (14, [.null, .null, .null, .null, .int 0, .int 0, .int 0, .null, .null, .null, .int 0, .null, .null, .int 0, .int 0, .int 0, .int 0, .int 0, .int 0, .int 0, .int 0, .int 0, .int 0, .int 0, .int 0, .int 0, .int 0, .int 0, .int 0, .null, .int 0, .int 0, .int 0, .int 0, .null, .int 0, .int 0])), (q1, .inl (y2, 128, .inr (.inl f108)))] := hD
  refine lv_dup hx hb dX13_init_746 rfl ?_
  refine lv_bipush (v := 106) hx hb dX13_init_747 (by decide) ?_
  refine lv_ldc2 hx hb hown (hts (.constantLong RX13 219 (6885698)) (List.mem_of_getElem? (i := 111) rfl)) dX13_init_749 ?_
  refine va_last (i := 106) (x := 6885698) hx hb hK hP hD hS 1 0 rfl rfl (vp_in_iff.mpr ⟨by decide, by decide⟩) dX13_init_752 (fun H locs hP hD hS => ?_)
  generalize hf109 : vp_updL f108 (Int32.toNatClampNeg 106) 6885698 = f109 at hP hD
  have hP : va_P (dC, dI) vwCl [(c0, .inr (14, [.null, .null, .null, .null, .int 0, .int 0, .int 0, .null, .null, .null, .int 0, .null, .null, .int 0, .int 0, .int 0, .int 0, .int 0, .int 0, .int 0, .int 0, .int 0, .int 0, .int 0, .int 0, .int 0, .int 0, .int 0, .int 0, .null, .int 0, .int 0, .int 0, .int 0, .null, .int 0, .int 0])), (q1, .inl (y2, 128, .inr (.inl f109)))] H := hP
  have hD : va_D A [(c0, .inr (14, [.null, .null, .null, .null, .int 0, .int 0, .int 0, .null, .null, .null, .int 0, .null, .null, .int 0, .int 0, .int 0, .int 0, .int 0, .int 0, .int 0, .int 0, .int 0, .int 0, .int 0, .int 0, .int 0, .int 0, .int 0, .int 0, .null, .int 0, .int 0, .int 0, .int 0, .null, .int 0, .int 0])), (q1, .inl (y2, 128, .inr (.inl f109)))] := hD
  refine lv_dup hx hb dX13_init_753 rfl ?_
  refine lv_bipush (v := 107) hx hb dX13_init_754 (by decide) ?_
  refine lv_ldc2 hx hb hown (hts (.constantLong RX13 221 (6837122)) (List.mem_of_getElem? (i := 112) rfl)) dX13_init_756 ?_
  refine va_last (i := 107) (x := 6837122) hx hb hK hP hD hS 1 0 rfl rfl (vp_in_iff.mpr ⟨by decide, by decide⟩) dX13_init_759 (fun H locs hP hD hS => ?_)
  generalize hf110 : vp_updL f109 (Int32.toNatClampNeg 107) 6837122 = f110 at hP hD
  have hP : va_P (dC, dI) vwCl [(c0, .inr (14, [.null, .null, .null, .null, .int 0, .int 0, .int 0, .null, .null, .null, .int 0, .null, .null, .int 0, .int 0, .int 0, .int 0, .int 0, .int 0, .int 0, .int 0, .int 0, .int 0, .int 0, .int 0, .int 0, .int 0, .int 0, .int 0, .null, .int 0, .int 0, .int 0, .int 0, .null, .int 0, .int 0])), (q1, .inl (y2, 128, .inr (.inl f110)))] H := hP
  have hD : va_D A [(c0, .inr (14, [.null, .null, .null, .null, .int 0, .int 0, .int 0, .null, .null, .null, .int 0, .null, .null, .int 0, .int 0, .int 0, .int 0, .int 0, .int 0, .int 0, .int 0, .int 0, .int 0, .int 0, .int 0, .int 0, .int 0, .int 0, .int 0, .null, .int 0, .int 0, .int 0, .int 0, .null, .int 0, .int 0])), (q1, .inl (y2, 128, .inr (.inl f110)))] := hD
  refine lv_dup hx hb dX13_init_760 rfl ?_
  refine lv_bipush (v := 108) hx hb dX13_init_761 (by decide) ?_
  refine lv_ldc2 hx hb hown (hts (.constantLong RX13 223 (6836674)) (List.mem_of_getElem? (i := 113) rfl)) dX13_init_763 ?_
  refine va_last (i := 108) (x := 6836674) hx hb hK hP hD hS 1 0 rfl rfl (vp_in_iff.mpr ⟨by decide, by decide⟩) dX13_init_766 (fun H locs hP hD hS => ?_)
  generalize hf111 : vp_updL f110 (Int32.toNatClampNeg 108) 6836674 = f111 at hP hD
  have hP : va_P (dC, dI) vwCl [(c0, .inr (14, [.null, .null, .null, .null, .int 0, .int 0, .int 0, .null, .null, .null, .int 0, .null, .null, .int 0, .int 0, .int 0, .int 0, .int 0, .int 0, .int 0, .int 0, .int 0, .int 0, .int 0, .int 0, .int 0, .int 0, .int 0, .int 0, .null, .int 0, .int 0, .int 0, .int 0, .null, .int 0, .int 0])), (q1, .inl (y2, 128, .inr (.inl f111)))] H := hP
  have hD : va_D A [(c0, .inr (14, [.null, .null, .null, .null, .int 0, .int 0, .int 0, .null, .null, .null, .int 0, .null, .null, .int 0, .int 0, .int 0, .int 0, .int 0, .int 0, .int 0, .int 0, .int 0, .int 0, .int 0, .int 0, .int 0, .int 0, .int 0, .int 0, .null, .int 0, .int 0, .int 0, .int 0, .null, .int 0, .int 0])), (q1, .inl (y2, 128, .inr (.inl f111)))] := hD
  refine lv_dup hx hb dX13_init_767 rfl ?_
  refine lv_bipush (v := 109) hx hb dX13_init_768 (by decide) ?_
  refine lv_ldc2 hx hb hown (hts (.constantLong RX13 225 (6898434)) (List.mem_of_getElem? (i := 114) rfl)) dX13_init_770 ?_
  refine va_last (i := 109) (x := 6898434) hx hb hK hP hD hS 1 0 rfl rfl (vp_in_iff.mpr ⟨by decide, by decide⟩) dX13_init_773 (fun H locs hP hD hS => ?_)
  generalize hf112 : vp_updL f111 (Int32.toNatClampNeg 109) 6898434 = f112 at hP hD
  have hP : va_P (dC, dI) vwCl [(c0, .inr (14, [.null, .null, .null, .null, .int 0, .int 0, .int 0, .null, .null, .null, .int 0, .null, .null, .int 0, .int 0, .int 0, .int 0, .int 0, .int 0, .int 0, .int 0, .int 0, .int 0, .int 0, .int 0, .int 0, .int 0, .int 0, .int 0, .null, .int 0, .int 0, .int 0, .int 0, .null, .int 0, .int 0])), (q1, .inl (y2, 128, .inr (.inl f112)))] H := hP
  have hD : va_D A [(c0, .inr (14, [.null, .null, .null, .null, .int 0, .int 0, .int 0, .null, .null, .null, .int 0, .null, .null, .int 0, .int 0, .int 0, .int 0, .int 0, .int 0, .int 0, .int 0, .int 0, .int 0, .int 0, .int 0, .int 0, .int 0, .int 0, .int 0, .null, .int 0, .int 0, .int 0, .int 0, .null, .int 0, .int 0])), (q1, .inl (y2, 128, .inr (.inl f112)))] := hD
  refine lv_dup hx hb dX13_init_774 rfl ?_
  refine lv_bipush (v := 110) hx hb dX13_init_775 (by decide) ?_
  refine lv_ldc2 hx hb hown (hts (.constantLong RX13 227 (6836994)) (List.mem_of_getElem? (i := 115) rfl)) dX13_init_777 ?_
  refine va_last (i := 110) (x := 6836994) hx hb hK hP hD hS 1 0 rfl rfl (vp_in_iff.mpr ⟨by decide, by decide⟩) dX13_init_780 (fun H locs hP hD hS => ?_)
  generalize hf113 : vp_updL f112 (Int32.toNatClampNeg 110) 6836994 = f113 at hP hD
  have hP : va_P (dC, dI) vwCl [(c0, .inr (14, [.null, .null, .null, .null, .int 0, .int 0, .int 0, .null, .null, .null, .int 0, .null, .null, .int 0, .int 0, .int 0, .int 0, .int 0, .int 0, .int 0, .int 0, .int 0, .int 0, .int 0, .int 0, .int 0, .int 0, .int 0, .int 0, .null, .int 0, .int 0, .int 0, .int 0, .null, .int 0, .int 0])), (q1, .inl (y2, 128, .inr (.inl f113)))] H := hP
  have hD : va_D A [(c0, .inr (14, [.null, .null, .null, .null, .int 0, .int 0, .int 0, .null, .null, .null, .int 0, .null, .null, .int 0, .int 0, .int 0, .int 0, .int 0, .int 0, .int 0, .int 0, .int 0, .int 0, .int 0, .int 0, .int 0, .int 0, .int 0, .int 0, .null, .int 0, .int 0, .int 0, .int 0, .null, .int 0, .int 0])), (q1, .inl (y2, 128, .inr (.inl f113)))] := hD
  refine lv_dup hx hb dX13_init_781 rfl ?_
  exact kk f113 _ _ _ hK hP hD hS hl

set_option maxHeartbeats 40000000 in
set_option maxRecDepth 100000 in
theorem k_X13_init_s5 {p : Program} {l : Launch} {e : Env} {s : State} {m : MethodId} {args : Array Value} {below : List Frame} {meth : Method} {c : Code} {Q : State → Prop} {A : Nat → Prop} (dC : Nat → ClassId) (dI : Nat → Nat → Nat) (c0 : Nat) (q1 : Nat) (y2 : ClassId) (f113 : Nat → Int64) (hlt : l.stackTraces = false) (hx : p.tables.exec = Jvm.exec) (hb : c.code = cX13_init) (hml : c.maxLocals = 1) (hown : s.vm.findClass RX13 = some m.cls) (hts : ∀ w ∈ ow_k_X13_init, w.before args s = true) (hin : meth.name = "<init>") (hN : nv_E A s) (hA : ∀ q : Nat, s.heap.size ≤ q → A q) {H : Heap} {locs : List Loc} {ls : Array Slot} (hK : va_K (dC, dI) vwCl [(y2, .long)] s) (hP : va_P (dC, dI) vwCl [(c0, .inr (14, [.null, .null, .null, .null, .int 0, .int 0, .int 0, .null, .null, .null, .int 0, .null, .null, .int 0, .int 0, .int 0, .int 0, .int 0, .int 0, .int 0, .int 0, .int 0, .int 0, .int 0, .int 0, .int 0, .int 0, .int 0, .int 0, .null, .int 0, .int 0, .int 0, .int 0, .null, .int 0, .int 0])), (q1, .inl (y2, 128, .inr (.inl f113)))] H) (hD : va_D A [(c0, .inr (14, [.null, .null, .null, .null, .int 0, .int 0, .int 0, .null, .null, .null, .int 0, .null, .null, .int 0, .int 0, .int 0, .int 0, .int 0, .int 0, .int 0, .int 0, .int 0, .int 0, .int 0, .int 0, .int 0, .int 0, .int 0, .int 0, .null, .int 0, .int 0, .int 0, .int 0, .null, .int 0, .int 0])), (q1, .inl (y2, 128, .inr (.inl f113)))]) (hS : va_S A s.heap H locs) (hl : lv_has ls 1 [(0, .ref c0)]) (kk : ∀ (q131 : Nat) (y132 : ClassId) (f130 : Nat → Int64) (f136 : Nat → Int32) (H : Heap) (locs : List Loc) (ls : Array Slot), va_K (dC, dI) vwCl [(y2, .long), (y132, .byte)] s → va_P (dC, dI) vwCl [(c0, .inr (14, [.ref q1, .null, .null, .null, .int 0, .int 0, .int 0, .null, .null, .null, .int 0, .null, .null, .int 0, .int 0, .int 0, .int 0, .int 0, .int 0, .int 0, .int 0, .int 0, .int 0, .int 0, .int 0, .int 0, .int 0, .int 0, .int 0, .null, .int 0, .int 0, .int 0, .int 0, .null, .int 0, .int 0])), (q1, .inl (y2, 128, .inr (.inl f130))), (q131, .inl (y132, 128, .inl f136))] H → va_D A [(c0, .inr (14, [.ref q1, .null, .null, .null, .int 0, .int 0, .int 0, .null, .null, .null, .int 0, .null, .null, .int 0, .int 0, .int 0, .int 0, .int 0, .int 0, .int 0, .int 0, .int 0, .int 0, .int 0, .int 0, .int 0, .int 0, .int 0, .int 0, .null, .int 0, .int 0, .int 0, .int 0, .null, .int 0, .int 0])), (q1, .inl (y2, 128, .inr (.inl f130))), (q131, .inl (y132, 128, .inl f136))] → va_S A s.heap H locs → lv_has ls 1 [(0, .ref c0)] → W p l e (headSpec ow_k_X13_init ({ frames := 1, cells := 10, slots := 131956, locals := 12 })).room s m args below meth c H locs 2 256 Q (F0 m 928 ls [.int 1, .int 4, .ref q131, .ref q131, .ref c0])) : W p l e (headSpec ow_k_X13_init ({ frames := 1, cells := 10, slots := 131956, locals := 12 })).room s m args below meth c H locs 1 128 Q (F0 m 782 ls [.ref q1, .ref q1, .ref c0]) := by
  refine lv_bipush (v := 111) hx hb dX13_init_782 (by decide) ?_
  refine lv_ldc2 hx hb hown (hts (.constantLong RX13 229 (6898114)) (List.mem_of_getElem? (i := 116) rfl)) dX13_init_784 ?_
  refine va_last (i := 111) (x := 6898114) hx hb hK hP hD hS 1 0 rfl rfl (vp_in_iff.mpr ⟨by decide, by decide⟩) dX13_init_787 (fun H locs hP hD hS => ?_)
  generalize hf114 : vp_updL f113 (Int32.toNatClampNeg 111) 6898114 = f114 at hP hD
  have hP : va_P (dC, dI) vwCl [(c0, .inr (14, [.null, .null, .null, .null, .int 0, .int 0, .int 0, .null, .null, .null, .int 0, .null, .null, .int 0, .int 0, .int 0, .int 0, .int 0, .int 0, .int 0, .int 0, .int 0, .int 0, .int 0, .int 0, .int 0, .int 0, .int 0, .int 0, .null, .int 0, .int 0, .int 0, .int 0, .null, .int 0, .int 0])), (q1, .inl (y2, 128, .inr (.inl f114)))] H := hP
  have hD : va_D A [(c0, .inr (14, [.null, .null, .null, .null, .int 0, .int 0, .int 0, .null, .null, .null, .int 0, .null, .null, .int 0, .int 0, .int 0, .int 0, .int 0, .int 0, .int 0, .int 0, .int 0, .int 0, .int 0, .int 0, .int 0, .int 0, .int 0, .int 0, .null, .int 0, .int 0, .int 0, .int 0, .null, .int 0, .int 0])), (q1, .inl (y2, 128, .inr (.inl f114)))] := hD
  refine lv_dup hx hb dX13_init_788 rfl ?_
  refine lv_bipush (v := 112) hx hb dX13_init_789 (by decide) ?_
  refine lv_ldc2 hx hb hown (hts (.constantLong RX13 231 (82370)) (List.mem_of_getElem? (i := 117) rfl)) dX13_init_791 ?_
  refine va_last (i := 112) (x := 82370) hx hb hK hP hD hS 1 0 rfl rfl (vp_in_iff.mpr ⟨by decide, by decide⟩) dX13_init_794 (fun H locs hP hD hS => ?_)
  generalize hf115 : vp_updL f114 (Int32.toNatClampNeg 112) 82370 = f115 at hP hD
  have hP : va_P (dC, dI) vwCl [(c0, .inr (14, [.null, .null, .null, .null, .int 0, .int 0, .int 0, .null, .null, .null, .int 0, .null, .null, .int 0, .int 0, .int 0, .int 0, .int 0, .int 0, .int 0, .int 0, .int 0, .int 0, .int 0, .int 0, .int 0, .int 0, .int 0, .int 0, .null, .int 0, .int 0, .int 0, .int 0, .null, .int 0, .int 0])), (q1, .inl (y2, 128, .inr (.inl f115)))] H := hP
  have hD : va_D A [(c0, .inr (14, [.null, .null, .null, .null, .int 0, .int 0, .int 0, .null, .null, .null, .int 0, .null, .null, .int 0, .int 0, .int 0, .int 0, .int 0, .int 0, .int 0, .int 0, .int 0, .int 0, .int 0, .int 0, .int 0, .int 0, .int 0, .int 0, .null, .int 0, .int 0, .int 0, .int 0, .null, .int 0, .int 0])), (q1, .inl (y2, 128, .inr (.inl f115)))] := hD
  refine lv_dup hx hb dX13_init_795 rfl ?_
  refine lv_bipush (v := 113) hx hb dX13_init_796 (by decide) ?_
  refine lv_ldc2 hx hb hown (hts (.constantLong RX13 233 (21250)) (List.mem_of_getElem? (i := 118) rfl)) dX13_init_798 ?_
  refine va_last (i := 113) (x := 21250) hx hb hK hP hD hS 1 0 rfl rfl (vp_in_iff.mpr ⟨by decide, by decide⟩) dX13_init_801 (fun H locs hP hD hS => ?_)
  generalize hf116 : vp_updL f115 (Int32.toNatClampNeg 113) 21250 = f116 at hP hD
  have hP : va_P (dC, dI) vwCl [(c0, .inr (14, [.null, .null, .null, .null, .int 0, .int 0, .int 0, .null, .null, .null, .int 0, .null, .null, .int 0, .int 0, .int 0, .int 0, .int 0, .int 0, .int 0, .int 0, .int 0, .int 0, .int 0, .int 0, .int 0, .int 0, .int 0, .int 0, .null, .int 0, .int 0, .int 0, .int 0, .null, .int 0, .int 0])), (q1, .inl (y2, 128, .inr (.inl f116)))] H := hP
  have hD : va_D A [(c0, .inr (14, [.null, .null, .null, .null, .int 0, .int 0, .int 0, .null, .null, .null, .int 0, .null, .null, .int 0, .int 0, .int 0, .int 0, .int 0, .int 0, .int 0, .int 0, .int 0, .int 0, .int 0, .int 0, .int 0, .int 0, .int 0, .int 0, .null, .int 0, .int 0, .int 0, .int 0, .null, .int 0, .int 0])), (q1, .inl (y2, 128, .inr (.inl f116)))] := hD
  refine lv_dup hx hb dX13_init_802 rfl ?_
  refine lv_bipush (v := 114) hx hb dX13_init_803 (by decide) ?_
  refine lv_ldc2 hx hb hown (hts (.constantLong RX13 235 (5587394)) (List.mem_of_getElem? (i := 119) rfl)) dX13_init_805 ?_
  refine va_last (i := 114) (x := 5587394) hx hb hK hP hD hS 1 0 rfl rfl (vp_in_iff.mpr ⟨by decide, by decide⟩) dX13_init_808 (fun H locs hP hD hS => ?_)
  generalize hf117 : vp_updL f116 (Int32.toNatClampNeg 114) 5587394 = f117 at hP hD
  have hP : va_P (dC, dI) vwCl [(c0, .inr (14, [.null, .null, .null, .null, .int 0, .int 0, .int 0, .null, .null, .null, .int 0, .null, .null, .int 0, .int 0, .int 0, .int 0, .int 0, .int 0, .int 0, .int 0, .int 0, .int 0, .int 0, .int 0, .int 0, .int 0, .int 0, .int 0, .null, .int 0, .int 0, .int 0, .int 0, .null, .int 0, .int 0])), (q1, .inl (y2, 128, .inr (.inl f117)))] H := hP
  have hD : va_D A [(c0, .inr (14, [.null, .null, .null, .null, .int 0, .int 0, .int 0, .null, .null, .null, .int 0, .null, .null, .int 0, .int 0, .int 0, .int 0, .int 0, .int 0, .int 0, .int 0, .int 0, .int 0, .int 0, .int 0, .int 0, .int 0, .int 0, .int 0, .null, .int 0, .int 0, .int 0, .int 0, .null, .int 0, .int 0])), (q1, .inl (y2, 128, .inr (.inl f117)))] := hD
  refine lv_dup hx hb dX13_init_809 rfl ?_
  refine lv_bipush (v := 115) hx hb dX13_init_810 (by decide) ?_
  refine lv_ldc2 hx hb hown (hts (.constantLong RX13 237 (5526274)) (List.mem_of_getElem? (i := 120) rfl)) dX13_init_812 ?_
  refine va_last (i := 115) (x := 5526274) hx hb hK hP hD hS 1 0 rfl rfl (vp_in_iff.mpr ⟨by decide, by decide⟩) dX13_init_815 (fun H locs hP hD hS => ?_)
  generalize hf118 : vp_updL f117 (Int32.toNatClampNeg 115) 5526274 = f118 at hP hD
  have hP : va_P (dC, dI) vwCl [(c0, .inr (14, [.null, .null, .null, .null, .int 0, .int 0, .int 0, .null, .null, .null, .int 0, .null, .null, .int 0, .int 0, .int 0, .int 0, .int 0, .int 0, .int 0, .int 0, .int 0, .int 0, .int 0, .int 0, .int 0, .int 0, .int 0, .int 0, .null, .int 0, .int 0, .int 0, .int 0, .null, .int 0, .int 0])), (q1, .inl (y2, 128, .inr (.inl f118)))] H := hP
  have hD : va_D A [(c0, .inr (14, [.null, .null, .null, .null, .int 0, .int 0, .int 0, .null, .null, .null, .int 0, .null, .null, .int 0, .int 0, .int 0, .int 0, .int 0, .int 0, .int 0, .int 0, .int 0, .int 0, .int 0, .int 0, .int 0, .int 0, .int 0, .int 0, .null, .int 0, .int 0, .int 0, .int 0, .null, .int 0, .int 0])), (q1, .inl (y2, 128, .inr (.inl f118)))] := hD
  refine lv_dup hx hb dX13_init_816 rfl ?_
  refine lv_bipush (v := 116) hx hb dX13_init_817 (by decide) ?_
  refine lv_ldc2 hx hb hown (hts (.constantLong RX13 239 (76)) (List.mem_of_getElem? (i := 121) rfl)) dX13_init_819 ?_
  refine va_last (i := 116) (x := 76) hx hb hK hP hD hS 1 0 rfl rfl (vp_in_iff.mpr ⟨by decide, by decide⟩) dX13_init_822 (fun H locs hP hD hS => ?_)
  generalize hf119 : vp_updL f118 (Int32.toNatClampNeg 116) 76 = f119 at hP hD
  have hP : va_P (dC, dI) vwCl [(c0, .inr (14, [.null, .null, .null, .null, .int 0, .int 0, .int 0, .null, .null, .null, .int 0, .null, .null, .int 0, .int 0, .int 0, .int 0, .int 0, .int 0, .int 0, .int 0, .int 0, .int 0, .int 0, .int 0, .int 0, .int 0, .int 0, .int 0, .null, .int 0, .int 0, .int 0, .int 0, .null, .int 0, .int 0])), (q1, .inl (y2, 128, .inr (.inl f119)))] H := hP
  have hD : va_D A [(c0, .inr (14, [.null, .null, .null, .null, .int 0, .int 0, .int 0, .null, .null, .null, .int 0, .null, .null, .int 0, .int 0, .int 0, .int 0, .int 0, .int 0, .int 0, .int 0, .int 0, .int 0, .int 0, .int 0, .int 0, .int 0, .int 0, .int 0, .null, .int 0, .int 0, .int 0, .int 0, .null, .int 0, .int 0])), (q1, .inl (y2, 128, .inr (.inl f119)))] := hD
  refine lv_dup hx hb dX13_init_823 rfl ?_
  refine lv_bipush (v := 117) hx hb dX13_init_824 (by decide) ?_
  refine lv_ldc2 hx hb hown (hts (.constantLong RX13 241 (588)) (List.mem_of_getElem? (i := 122) rfl)) dX13_init_826 ?_
  refine va_last (i := 117) (x := 588) hx hb hK hP hD hS 1 0 rfl rfl (vp_in_iff.mpr ⟨by decide, by decide⟩) dX13_init_829 (fun H locs hP hD hS => ?_)
  generalize hf120 : vp_updL f119 (Int32.toNatClampNeg 117) 588 = f120 at hP hD
  have hP : va_P (dC, dI) vwCl [(c0, .inr (14, [.null, .null, .null, .null, .int 0, .int 0, .int 0, .null, .null, .null, .int 0, .null, .null, .int 0, .int 0, .int 0, .int 0, .int 0, .int 0, .int 0, .int 0, .int 0, .int 0, .int 0, .int 0, .int 0, .int 0, .int 0, .int 0, .null, .int 0, .int 0, .int 0, .int 0, .null, .int 0, .int 0])), (q1, .inl (y2, 128, .inr (.inl f120)))] H := hP
  have hD : va_D A [(c0, .inr (14, [.null, .null, .null, .null, .int 0, .int 0, .int 0, .null, .null, .null, .int 0, .null, .null, .int 0, .int 0, .int 0, .int 0, .int 0, .int 0, .int 0, .int 0, .int 0, .int 0, .int 0, .int 0, .int 0, .int 0, .int 0, .int 0, .null, .int 0, .int 0, .int 0, .int 0, .null, .int 0, .int 0])), (q1, .inl (y2, 128, .inr (.inl f120)))] := hD
  refine lv_dup hx hb dX13_init_830 rfl ?_
  refine lv_bipush (v := 118) hx hb dX13_init_831 (by decide) ?_
  refine lv_ldc2 hx hb hown (hts (.constantLong RX13 243 (341857573)) (List.mem_of_getElem? (i := 123) rfl)) dX13_init_833 ?_
  refine va_last (i := 118) (x := 341857573) hx hb hK hP hD hS 1 0 rfl rfl (vp_in_iff.mpr ⟨by decide, by decide⟩) dX13_init_836 (fun H locs hP hD hS => ?_)
  generalize hf121 : vp_updL f120 (Int32.toNatClampNeg 118) 341857573 = f121 at hP hD
  have hP : va_P (dC, dI) vwCl [(c0, .inr (14, [.null, .null, .null, .null, .int 0, .int 0, .int 0, .null, .null, .null, .int 0, .null, .null, .int 0, .int 0, .int 0, .int 0, .int 0, .int 0, .int 0, .int 0, .int 0, .int 0, .int 0, .int 0, .int 0, .int 0, .int 0, .int 0, .null, .int 0, .int 0, .int 0, .int 0, .null, .int 0, .int 0])), (q1, .inl (y2, 128, .inr (.inl f121)))] H := hP
  have hD : va_D A [(c0, .inr (14, [.null, .null, .null, .null, .int 0, .int 0, .int 0, .null, .null, .null, .int 0, .null, .null, .int 0, .int 0, .int 0, .int 0, .int 0, .int 0, .int 0, .int 0, .int 0, .int 0, .int 0, .int 0, .int 0, .int 0, .int 0, .int 0, .null, .int 0, .int 0, .int 0, .int 0, .null, .int 0, .int 0])), (q1, .inl (y2, 128, .inr (.inl f121)))] := hD
  refine lv_dup hx hb dX13_init_837 rfl ?_
  refine lv_bipush (v := 119) hx hb dX13_init_838 (by decide) ?_
  refine lv_ldc2 hx hb hown (hts (.constantLong RX13 245 (22024485)) (List.mem_of_getElem? (i := 124) rfl)) dX13_init_840 ?_
  refine va_last (i := 119) (x := 22024485) hx hb hK hP hD hS 1 0 rfl rfl (vp_in_iff.mpr ⟨by decide, by decide⟩) dX13_init_843 (fun H locs hP hD hS => ?_)
  generalize hf122 : vp_updL f121 (Int32.toNatClampNeg 119) 22024485 = f122 at hP hD
  have hP : va_P (dC, dI) vwCl [(c0, .inr (14, [.null, .null, .null, .null, .int 0, .int 0, .int 0, .null, .null, .null, .int 0, .null, .null, .int 0, .int 0, .int 0, .int 0, .int 0, .int 0, .int 0, .int 0, .int 0, .int 0, .int 0, .int 0, .int 0, .int 0, .int 0, .int 0, .null, .int 0, .int 0, .int 0, .int 0, .null, .int 0, .int 0])), (q1, .inl (y2, 128, .inr (.inl f122)))] H := hP
  have hD : va_D A [(c0, .inr (14, [.null, .null, .null, .null, .int 0, .int 0, .int 0, .null, .null, .null, .int 0, .null, .null, .int 0, .int 0, .int 0, .int 0, .int 0, .int 0, .int 0, .int 0, .int 0, .int 0, .int 0, .int 0, .int 0, .int 0, .int 0, .int 0, .null, .int 0, .int 0, .int 0, .int 0, .null, .int 0, .int 0])), (q1, .inl (y2, 128, .inr (.inl f122)))] := hD
  refine lv_dup hx hb dX13_init_844 rfl ?_
  refine lv_bipush (v := 120) hx hb dX13_init_845 (by decide) ?_
  refine lv_ldc2 hx hb hown (hts (.constantLong RX13 247 (5575013)) (List.mem_of_getElem? (i := 125) rfl)) dX13_init_847 ?_
  refine va_last (i := 120) (x := 5575013) hx hb hK hP hD hS 1 0 rfl rfl (vp_in_iff.mpr ⟨by decide, by decide⟩) dX13_init_850 (fun H locs hP hD hS => ?_)
  generalize hf123 : vp_updL f122 (Int32.toNatClampNeg 120) 5575013 = f123 at hP hD
  have hP : va_P (dC, dI) vwCl [(c0, .inr (14, [.null, .null, .null, .null, .int 0, .int 0, .int 0, .null, .null, .null, .int 0, .null, .null, .int 0, .int 0, .int 0, .int 0, .int 0, .int 0, .int 0, .int 0, .int 0, .int 0, .int 0, .int 0, .int 0, .int 0, .int 0, .int 0, .null, .int 0, .int 0, .int 0, .int 0, .null, .int 0, .int 0])), (q1, .inl (y2, 128, .inr (.inl f123)))] H := hP
  have hD : va_D A [(c0, .inr (14, [.null, .null, .null, .null, .int 0, .int 0, .int 0, .null, .null, .null, .int 0, .null, .null, .int 0, .int 0, .int 0, .int 0, .int 0, .int 0, .int 0, .int 0, .int 0, .int 0, .int 0, .int 0, .int 0, .int 0, .int 0, .int 0, .null, .int 0, .int 0, .int 0, .int 0, .null, .int 0, .int 0])), (q1, .inl (y2, 128, .inr (.inl f123)))] := hD
  refine lv_dup hx hb dX13_init_851 rfl ?_
  refine lv_bipush (v := 121) hx hb dX13_init_852 (by decide) ?_
  refine lv_ldc2 hx hb hown (hts (.constantLong RX13 249 (89231525)) (List.mem_of_getElem? (i := 126) rfl)) dX13_init_854 ?_
  refine va_last (i := 121) (x := 89231525) hx hb hK hP hD hS 1 0 rfl rfl (vp_in_iff.mpr ⟨by decide, by decide⟩) dX13_init_857 (fun H locs hP hD hS => ?_)
  generalize hf124 : vp_updL f123 (Int32.toNatClampNeg 121) 89231525 = f124 at hP hD
  have hP : va_P (dC, dI) vwCl [(c0, .inr (14, [.null, .null, .null, .null, .int 0, .int 0, .int 0, .null, .null, .null, .int 0, .null, .null, .int 0, .int 0, .int 0, .int 0, .int 0, .int 0, .int 0, .int 0, .int 0, .int 0, .int 0, .int 0, .int 0, .int 0, .int 0, .int 0, .null, .int 0, .int 0, .int 0, .int 0, .null, .int 0, .int 0])), (q1, .inl (y2, 128, .inr (.inl f124)))] H := hP
  have hD : va_D A [(c0, .inr (14, [.null, .null, .null, .null, .int 0, .int 0, .int 0, .null, .null, .null, .int 0, .null, .null, .int 0, .int 0, .int 0, .int 0, .int 0, .int 0, .int 0, .int 0, .int 0, .int 0, .int 0, .int 0, .int 0, .int 0, .int 0, .int 0, .null, .int 0, .int 0, .int 0, .int 0, .null, .int 0, .int 0])), (q1, .inl (y2, 128, .inr (.inl f124)))] := hD
  refine lv_dup hx hb dX13_init_858 rfl ?_
  refine lv_bipush (v := 122) hx hb dX13_init_859 (by decide) ?_
  refine lv_ldc2 hx hb hown (hts (.constantLong RX13 251 (103813669)) (List.mem_of_getElem? (i := 127) rfl)) dX13_init_861 ?_
  refine va_last (i := 122) (x := 103813669) hx hb hK hP hD hS 1 0 rfl rfl (vp_in_iff.mpr ⟨by decide, by decide⟩) dX13_init_864 (fun H locs hP hD hS => ?_)
  generalize hf125 : vp_updL f124 (Int32.toNatClampNeg 122) 103813669 = f125 at hP hD
  have hP : va_P (dC, dI) vwCl [(c0, .inr (14, [.null, .null, .null, .null, .int 0, .int 0, .int 0, .null, .null, .null, .int 0, .null, .null, .int 0, .int 0, .int 0, .int 0, .int 0, .int 0, .int 0, .int 0, .int 0, .int 0, .int 0, .int 0, .int 0, .int 0, .int 0, .int 0, .null, .int 0, .int 0, .int 0, .int 0, .null, .int 0, .int 0])), (q1, .inl (y2, 128, .inr (.inl f125)))] H := hP
  have hD : va_D A [(c0, .inr (14, [.null, .null, .null, .null, .int 0, .int 0, .int 0, .null, .null, .null, .int 0, .null, .null, .int 0, .int 0, .int 0, .int 0, .int 0, .int 0, .int 0, .int 0, .int 0, .int 0, .int 0, .int 0, .int 0, .int 0, .int 0, .int 0, .null, .int 0, .int 0, .int 0, .int 0, .null, .int 0, .int 0])), (q1, .inl (y2, 128, .inr (.inl f125)))] := hD
  refine lv_dup hx hb dX13_init_865 rfl ?_
  refine lv_bipush (v := 123) hx hb dX13_init_866 (by decide) ?_
  refine lv_ldc2 hx hb hown (hts (.constantLong RX13 253 (71890405)) (List.mem_of_getElem? (i := 128) rfl)) dX13_init_868 ?_
  refine va_last (i := 123) (x := 71890405) hx hb hK hP hD hS 1 0 rfl rfl (vp_in_iff.mpr ⟨by decide, by decide⟩) dX13_init_871 (fun H locs hP hD hS => ?_)
  generalize hf126 : vp_updL f125 (Int32.toNatClampNeg 123) 71890405 = f126 at hP hD
  have hP : va_P (dC, dI) vwCl [(c0, .inr (14, [.null, .null, .null, .null, .int 0, .int 0, .int 0, .null, .null, .null, .int 0, .null, .null, .int 0, .int 0, .int 0, .int 0, .int 0, .int 0, .int 0, .int 0, .int 0, .int 0, .int 0, .int 0, .int 0, .int 0, .int 0, .int 0, .null, .int 0, .int 0, .int 0, .int 0, .null, .int 0, .int 0])), (q1, .inl (y2, 128, .inr (.inl f126)))] H := hP
  have hD : va_D A [(c0, .inr (14, [.null, .null, .null, .null, .int 0, .int 0, .int 0, .null, .null, .null, .int 0, .null, .null, .int 0, .int 0, .int 0, .int 0, .int 0, .int 0, .int 0, .int 0, .int 0, .int 0, .int 0, .int 0, .int 0, .int 0, .int 0, .int 0, .null, .int 0, .int 0, .int 0, .int 0, .null, .int 0, .int 0])), (q1, .inl (y2, 128, .inr (.inl f126)))] := hD
  refine lv_dup hx hb dX13_init_872 rfl ?_
  refine lv_bipush (v := 124) hx hb dX13_init_873 (by decide) ?_
  refine lv_ldc2 hx hb hown (hts (.constantLong RX13 255 (9815535717)) (List.mem_of_getElem? (i := 129) rfl)) dX13_init_875 ?_
  refine va_last (i := 124) (x := 9815535717) hx hb hK hP hD hS 1 0 rfl rfl (vp_in_iff.mpr ⟨by decide, by decide⟩) dX13_init_878 (fun H locs hP hD hS => ?_)
  generalize hf127 : vp_updL f126 (Int32.toNatClampNeg 124) 9815535717 = f127 at hP hD
  have hP : va_P (dC, dI) vwCl [(c0, .inr (14, [.null, .null, .null, .null, .int 0, .int 0, .int 0, .null, .null, .null, .int 0, .null, .null, .int 0, .int 0, .int 0, .int 0, .int 0, .int 0, .int 0, .int 0, .int 0, .int 0, .int 0, .int 0, .int 0, .int 0, .int 0, .int 0, .null, .int 0, .int 0, .int 0, .int 0, .null, .int 0, .int 0])), (q1, .inl (y2, 128, .inr (.inl f127)))] H := hP
  have hD : va_D A [(c0, .inr (14, [.null, .null, .null, .null, .int 0, .int 0, .int 0, .null, .null, .null, .int 0, .null, .null, .int 0, .int 0, .int 0, .int 0, .int 0, .int 0, .int 0, .int 0, .int 0, .int 0, .int 0, .int 0, .int 0, .int 0, .int 0, .int 0, .null, .int 0, .int 0, .int 0, .int 0, .null, .int 0, .int 0])), (q1, .inl (y2, 128, .inr (.inl f127)))] := hD
  refine lv_dup hx hb dX13_init_879 rfl ?_
  refine lv_bipush (v := 125) hx hb dX13_init_880 (by decide) ?_
  refine lv_ldc2 hx hb hown (hts (.constantLong RX13 257 (28069146725)) (List.mem_of_getElem? (i := 130) rfl)) dX13_init_882 ?_
  refine va_last (i := 125) (x := 28069146725) hx hb hK hP hD hS 1 0 rfl rfl (vp_in_iff.mpr ⟨by decide, by decide⟩) dX13_init_885 (fun H locs hP hD hS => ?_)
  generalize hf128 : vp_updL f127 (Int32.toNatClampNeg 125) 28069146725 = f128 at hP hD
  have hP : va_P (dC, dI) vwCl [(c0, .inr (14, [.null, .null, .null, .null, .int 0, .int 0, .int 0, .null, .null, .null, .int 0, .null, .null, .int 0, .int 0, .int 0, .int 0, .int 0, .int 0, .int 0, .int 0, .int 0, .int 0, .int 0, .int 0, .int 0, .int 0, .int 0, .int 0, .null, .int 0, .int 0, .int 0, .int 0, .null, .int 0, .int 0])), (q1, .inl (y2, 128, .inr (.inl f128)))] H := hP
  have hD : va_D A [(c0, .inr (14, [.null, .null, .null, .null, .int 0, .int 0, .int 0, .null, .null, .null, .int 0, .null, .null, .int 0, .int 0, .int 0, .int 0, .int 0, .int 0, .int 0, .int 0, .int 0, .int 0, .int 0, .int 0, .int 0, .int 0, .int 0, .int 0, .null, .int 0, .int 0, .int 0, .int 0, .null, .int 0, .int 0])), (q1, .inl (y2, 128, .inr (.inl f128)))] := hD
  refine lv_dup hx hb dX13_init_886 rfl ?_
  refine lv_bipush (v := 126) hx hb dX13_init_887 (by decide) ?_
  refine lv_ldc2 hx hb hown (hts (.constantLong RX13 259 (5419369701)) (List.mem_of_getElem? (i := 131) rfl)) dX13_init_889 ?_
  refine va_last (i := 126) (x := 5419369701) hx hb hK hP hD hS 1 0 rfl rfl (vp_in_iff.mpr ⟨by decide, by decide⟩) dX13_init_892 (fun H locs hP hD hS => ?_)
  generalize hf129 : vp_updL f128 (Int32.toNatClampNeg 126) 5419369701 = f129 at hP hD
  have hP : va_P (dC, dI) vwCl [(c0, .inr (14, [.null, .null, .null, .null, .int 0, .int 0, .int 0, .null, .null, .null, .int 0, .null, .null, .int 0, .int 0, .int 0, .int 0, .int 0, .int 0, .int 0, .int 0, .int 0, .int 0, .int 0, .int 0, .int 0, .int 0, .int 0, .int 0, .null, .int 0, .int 0, .int 0, .int 0, .null, .int 0, .int 0])), (q1, .inl (y2, 128, .inr (.inl f129)))] H := hP
  have hD : va_D A [(c0, .inr (14, [.null, .null, .null, .null, .int 0, .int 0, .int 0, .null, .null, .null, .int 0, .null, .null, .int 0, .int 0, .int 0, .int 0, .int 0, .int 0, .int 0, .int 0, .int 0, .int 0, .int 0, .int 0, .int 0, .int 0, .int 0, .int 0, .null, .int 0, .int 0, .int 0, .int 0, .null, .int 0, .int 0])), (q1, .inl (y2, 128, .inr (.inl f129)))] := hD
  refine lv_dup hx hb dX13_init_893 rfl ?_
  refine lv_bipush (v := 127) hx hb dX13_init_894 (by decide) ?_
  refine lv_ldc2 hx hb hown (hts (.constantLong RX13 261 (15152234597)) (List.mem_of_getElem? (i := 132) rfl)) dX13_init_896 ?_
  refine va_last (i := 127) (x := 15152234597) hx hb hK hP hD hS 1 0 rfl rfl (vp_in_iff.mpr ⟨by decide, by decide⟩) dX13_init_899 (fun H locs hP hD hS => ?_)
  generalize hf130 : vp_updL f129 (Int32.toNatClampNeg 127) 15152234597 = f130 at hP hD
  have hP : va_P (dC, dI) vwCl [(c0, .inr (14, [.null, .null, .null, .null, .int 0, .int 0, .int 0, .null, .null, .null, .int 0, .null, .null, .int 0, .int 0, .int 0, .int 0, .int 0, .int 0, .int 0, .int 0, .int 0, .int 0, .int 0, .int 0, .int 0, .int 0, .int 0, .int 0, .null, .int 0, .int 0, .int 0, .int 0, .null, .int 0, .int 0])), (q1, .inl (y2, 128, .inr (.inl f130)))] H := hP
  have hD : va_D A [(c0, .inr (14, [.null, .null, .null, .null, .int 0, .int 0, .int 0, .null, .null, .null, .int 0, .null, .null, .int 0, .int 0, .int 0, .int 0, .int 0, .int 0, .int 0, .int 0, .int 0, .int 0, .int 0, .int 0, .int 0, .int 0, .int 0, .int 0, .null, .int 0, .int 0, .int 0, .int 0, .null, .int 0, .int 0])), (q1, .inl (y2, 128, .inr (.inl f130)))] := hD
  refine va_putF (D := (dC, dI)) (ci := 14) (v := .ref q1) (ty := .array .long) (C := RX13) (T := TX13) (N := 37) hx hb hts hi_k_X13_init_X13 tyX13 tyX13_ok nmX13 hown hK hP hD hS 0 rfl rfl 0 (by decide) (hts (.fieldLink RX13 263 "TimeMachineModel$Assembler" "names" "[J") (List.mem_of_getElem? (i := 133) rfl)) (fun _ h9 => h9) rfl hin rfl (by decide +kernel) rfl rfl (Nat.le_of_ble_eq_true rfl) dX13_init_900 (fun H locs hP hD hS => ?_)
  have hP : va_P (dC, dI) vwCl [(c0, .inr (14, [.ref q1, .null, .null, .null, .int 0, .int 0, .int 0, .null, .null, .null, .int 0, .null, .null, .int 0, .int 0, .int 0, .int 0, .int 0, .int 0, .int 0, .int 0, .int 0, .int 0, .int 0, .int 0, .int 0, .int 0, .int 0, .int 0, .null, .int 0, .int 0, .int 0, .int 0, .null, .int 0, .int 0])), (q1, .inl (y2, 128, .inr (.inl f130)))] H := hP
  have hD : va_D A [(c0, .inr (14, [.ref q1, .null, .null, .null, .int 0, .int 0, .int 0, .null, .null, .null, .int 0, .null, .null, .int 0, .int 0, .int 0, .int 0, .int 0, .int 0, .int 0, .int 0, .int 0, .int 0, .int 0, .int 0, .int 0, .int 0, .int 0, .int 0, .null, .int 0, .int 0, .int 0, .int 0, .null, .int 0, .int 0])), (q1, .inl (y2, 128, .inr (.inl f130)))] := hD
  refine lv_aload_n hx hb dX13_init_903 rfl (lv_at hl 0 rfl) ?_
  refine lv_sipush (v := 128) hx hb dX13_init_904 (by decide) ?_
  refine va_newa (atype := .byte) (ty := .byte) (N' := 128) (a0 := (128, .inl (fun _ => 0))) hx hb (hts (.arrayClass .byte) (List.mem_of_getElem? (i := 134) rfl)) rfl hK hP hD hS hA (fun cA => vp_cell_i cA 128 (fun _ => 0)) (by decide +kernel) (by decide +kernel) (by decide +kernel) (by decide +kernel) (by decide +kernel) dX13_init_907 (fun q131 y132 H hK hP hD hS => ?_)
  have hK : va_K (dC, dI) vwCl [(y2, .long), (y132, .byte)] s := hK
  have hP : va_P (dC, dI) vwCl [(c0, .inr (14, [.ref q1, .null, .null, .null, .int 0, .int 0, .int 0, .null, .null, .null, .int 0, .null, .null, .int 0, .int 0, .int 0, .int 0, .int 0, .int 0, .int 0, .int 0, .int 0, .int 0, .int 0, .int 0, .int 0, .int 0, .int 0, .int 0, .null, .int 0, .int 0, .int 0, .int 0, .null, .int 0, .int 0])), (q1, .inl (y2, 128, .inr (.inl f130))), (q131, .inl (y132, 128, .inl (fun _ => 0)))] H := hP
  have hD : va_D A [(c0, .inr (14, [.ref q1, .null, .null, .null, .int 0, .int 0, .int 0, .null, .null, .null, .int 0, .null, .null, .int 0, .int 0, .int 0, .int 0, .int 0, .int 0, .int 0, .int 0, .int 0, .int 0, .int 0, .int 0, .int 0, .int 0, .int 0, .int 0, .null, .int 0, .int 0, .int 0, .int 0, .null, .int 0, .int 0])), (q1, .inl (y2, 128, .inr (.inl f130))), (q131, .inl (y132, 128, .inl (fun _ => 0)))] := hD
  refine W.widen (k := 2) (n := 256) (by decide +kernel) (by decide +kernel) ?_
  refine lv_dup hx hb dX13_init_909 rfl ?_
  refine lv_iconst (v := 0) hx hb dX13_init_910 (by decide) ?_
  refine lv_iconst (v := 1) hx hb dX13_init_911 (by decide) ?_
  refine va_bast (i := 0) (x := 1) hx hb hK hP hD hS 2 1 rfl rfl (vp_in_iff.mpr ⟨by decide, by decide⟩) dX13_init_912 (fun H locs hP hD hS => ?_)
  generalize hf133 : upd (fun _ => 0) (Int32.toNatClampNeg 0) (vp_nar .byte 1) = f133 at hP hD
  have hP : va_P (dC, dI) vwCl [(c0, .inr (14, [.ref q1, .null, .null, .null, .int 0, .int 0, .int 0, .null, .null, .null, .int 0, .null, .null, .int 0, .int 0, .int 0, .int 0, .int 0, .int 0, .int 0, .int 0, .int 0, .int 0, .int 0, .int 0, .int 0, .int 0, .int 0, .int 0, .null, .int 0, .int 0, .int 0, .int 0, .null, .int 0, .int 0])), (q1, .inl (y2, 128, .inr (.inl f130))), (q131, .inl (y132, 128, .inl f133))] H := hP
  have hD : va_D A [(c0, .inr (14, [.ref q1, .null, .null, .null, .int 0, .int 0, .int 0, .null, .null, .null, .int 0, .null, .null, .int 0, .int 0, .int 0, .int 0, .int 0, .int 0, .int 0, .int 0, .int 0, .int 0, .int 0, .int 0, .int 0, .int 0, .int 0, .int 0, .null, .int 0, .int 0, .int 0, .int 0, .null, .int 0, .int 0])), (q1, .inl (y2, 128, .inr (.inl f130))), (q131, .inl (y132, 128, .inl f133))] := hD
  refine lv_dup hx hb dX13_init_913 rfl ?_
  refine lv_iconst (v := 1) hx hb dX13_init_914 (by decide) ?_
  refine lv_iconst (v := 1) hx hb dX13_init_915 (by decide) ?_
  refine va_bast (i := 1) (x := 1) hx hb hK hP hD hS 2 1 rfl rfl (vp_in_iff.mpr ⟨by decide, by decide⟩) dX13_init_916 (fun H locs hP hD hS => ?_)
  generalize hf134 : upd f133 (Int32.toNatClampNeg 1) (vp_nar .byte 1) = f134 at hP hD
  have hP : va_P (dC, dI) vwCl [(c0, .inr (14, [.ref q1, .null, .null, .null, .int 0, .int 0, .int 0, .null, .null, .null, .int 0, .null, .null, .int 0, .int 0, .int 0, .int 0, .int 0, .int 0, .int 0, .int 0, .int 0, .int 0, .int 0, .int 0, .int 0, .int 0, .int 0, .int 0, .null, .int 0, .int 0, .int 0, .int 0, .null, .int 0, .int 0])), (q1, .inl (y2, 128, .inr (.inl f130))), (q131, .inl (y132, 128, .inl f134))] H := hP
  have hD : va_D A [(c0, .inr (14, [.ref q1, .null, .null, .null, .int 0, .int 0, .int 0, .null, .null, .null, .int 0, .null, .null, .int 0, .int 0, .int 0, .int 0, .int 0, .int 0, .int 0, .int 0, .int 0, .int 0, .int 0, .int 0, .int 0, .int 0, .int 0, .int 0, .null, .int 0, .int 0, .int 0, .int 0, .null, .int 0, .int 0])), (q1, .inl (y2, 128, .inr (.inl f130))), (q131, .inl (y132, 128, .inl f134))] := hD
  refine lv_dup hx hb dX13_init_917 rfl ?_
  refine lv_iconst (v := 2) hx hb dX13_init_918 (by decide) ?_
  refine lv_iconst (v := 1) hx hb dX13_init_919 (by decide) ?_
  refine va_bast (i := 2) (x := 1) hx hb hK hP hD hS 2 1 rfl rfl (vp_in_iff.mpr ⟨by decide, by decide⟩) dX13_init_920 (fun H locs hP hD hS => ?_)
  generalize hf135 : upd f134 (Int32.toNatClampNeg 2) (vp_nar .byte 1) = f135 at hP hD
  have hP : va_P (dC, dI) vwCl [(c0, .inr (14, [.ref q1, .null, .null, .null, .int 0, .int 0, .int 0, .null, .null, .null, .int 0, .null, .null, .int 0, .int 0, .int 0, .int 0, .int 0, .int 0, .int 0, .int 0, .int 0, .int 0, .int 0, .int 0, .int 0, .int 0, .int 0, .int 0, .null, .int 0, .int 0, .int 0, .int 0, .null, .int 0, .int 0])), (q1, .inl (y2, 128, .inr (.inl f130))), (q131, .inl (y132, 128, .inl f135))] H := hP
  have hD : va_D A [(c0, .inr (14, [.ref q1, .null, .null, .null, .int 0, .int 0, .int 0, .null, .null, .null, .int 0, .null, .null, .int 0, .int 0, .int 0, .int 0, .int 0, .int 0, .int 0, .int 0, .int 0, .int 0, .int 0, .int 0, .int 0, .int 0, .int 0, .int 0, .null, .int 0, .int 0, .int 0, .int 0, .null, .int 0, .int 0])), (q1, .inl (y2, 128, .inr (.inl f130))), (q131, .inl (y132, 128, .inl f135))] := hD
  refine lv_dup hx hb dX13_init_921 rfl ?_
  refine lv_iconst (v := 3) hx hb dX13_init_922 (by decide) ?_
  refine lv_iconst (v := 1) hx hb dX13_init_923 (by decide) ?_
  refine va_bast (i := 3) (x := 1) hx hb hK hP hD hS 2 1 rfl rfl (vp_in_iff.mpr ⟨by decide, by decide⟩) dX13_init_924 (fun H locs hP hD hS => ?_)
  generalize hf136 : upd f135 (Int32.toNatClampNeg 3) (vp_nar .byte 1) = f136 at hP hD
  have hP : va_P (dC, dI) vwCl [(c0, .inr (14, [.ref q1, .null, .null, .null, .int 0, .int 0, .int 0, .null, .null, .null, .int 0, .null, .null, .int 0, .int 0, .int 0, .int 0, .int 0, .int 0, .int 0, .int 0, .int 0, .int 0, .int 0, .int 0, .int 0, .int 0, .int 0, .int 0, .null, .int 0, .int 0, .int 0, .int 0, .null, .int 0, .int 0])), (q1, .inl (y2, 128, .inr (.inl f130))), (q131, .inl (y132, 128, .inl f136))] H := hP
  have hD : va_D A [(c0, .inr (14, [.ref q1, .null, .null, .null, .int 0, .int 0, .int 0, .null, .null, .null, .int 0, .null, .null, .int 0, .int 0, .int 0, .int 0, .int 0, .int 0, .int 0, .int 0, .int 0, .int 0, .int 0, .int 0, .int 0, .int 0, .int 0, .int 0, .null, .int 0, .int 0, .int 0, .int 0, .null, .int 0, .int 0])), (q1, .inl (y2, 128, .inr (.inl f130))), (q131, .inl (y132, 128, .inl f136))] := hD
  refine lv_dup hx hb dX13_init_925 rfl ?_
  refine lv_iconst (v := 4) hx hb dX13_init_926 (by decide) ?_
  refine lv_iconst (v := 1) hx hb dX13_init_927 (by decide) ?_
  exact kk q131 y132 f130 f136 _ _ _ hK hP hD hS hl

set_option maxHeartbeats 40000000 in
set_option maxRecDepth 100000 in
theorem k_X13_init_s6 {p : Program} {l : Launch} {e : Env} {s : State} {m : MethodId} {args : Array Value} {below : List Frame} {meth : Method} {c : Code} {Q : State → Prop} {A : Nat → Prop} (dC : Nat → ClassId) (dI : Nat → Nat → Nat) (c0 : Nat) (q1 : Nat) (y2 : ClassId) (q131 : Nat) (y132 : ClassId) (f130 : Nat → Int64) (f136 : Nat → Int32) (hlt : l.stackTraces = false) (hx : p.tables.exec = Jvm.exec) (hb : c.code = cX13_init) (hml : c.maxLocals = 1) (hown : s.vm.findClass RX13 = some m.cls) (hts : ∀ w ∈ ow_k_X13_init, w.before args s = true) (hin : meth.name = "<init>") (hN : nv_E A s) (hA : ∀ q : Nat, s.heap.size ≤ q → A q) {H : Heap} {locs : List Loc} {ls : Array Slot} (hK : va_K (dC, dI) vwCl [(y2, .long), (y132, .byte)] s) (hP : va_P (dC, dI) vwCl [(c0, .inr (14, [.ref q1, .null, .null, .null, .int 0, .int 0, .int 0, .null, .null, .null, .int 0, .null, .null, .int 0, .int 0, .int 0, .int 0, .int 0, .int 0, .int 0, .int 0, .int 0, .int 0, .int 0, .int 0, .int 0, .int 0, .int 0, .int 0, .null, .int 0, .int 0, .int 0, .int 0, .null, .int 0, .int 0])), (q1, .inl (y2, 128, .inr (.inl f130))), (q131, .inl (y132, 128, .inl f136))] H) (hD : va_D A [(c0, .inr (14, [.ref q1, .null, .null, .null, .int 0, .int 0, .int 0, .null, .null, .null, .int 0, .null, .null, .int 0, .int 0, .int 0, .int 0, .int 0, .int 0, .int 0, .int 0, .int 0, .int 0, .int 0, .int 0, .int 0, .int 0, .int 0, .int 0, .null, .int 0, .int 0, .int 0, .int 0, .null, .int 0, .int 0])), (q1, .inl (y2, 128, .inr (.inl f130))), (q131, .inl (y132, 128, .inl f136))]) (hS : va_S A s.heap H locs) (hl : lv_has ls 1 [(0, .ref c0)]) (kk : ∀ (f159 : Nat → Int32) (H : Heap) (locs : List Loc) (ls : Array Slot), va_K (dC, dI) vwCl [(y2, .long), (y132, .byte)] s → va_P (dC, dI) vwCl [(c0, .inr (14, [.ref q1, .null, .null, .null, .int 0, .int 0, .int 0, .null, .null, .null, .int 0, .null, .null, .int 0, .int 0, .int 0, .int 0, .int 0, .int 0, .int 0, .int 0, .int 0, .int 0, .int 0, .int 0, .int 0, .int 0, .int 0, .int 0, .null, .int 0, .int 0, .int 0, .int 0, .null, .int 0, .int 0])), (q1, .inl (y2, 128, .inr (.inl f130))), (q131, .inl (y132, 128, .inl f159))] H → va_D A [(c0, .inr (14, [.ref q1, .null, .null, .null, .int 0, .int 0, .int 0, .null, .null, .null, .int 0, .null, .null, .int 0, .int 0, .int 0, .int 0, .int 0, .int 0, .int 0, .int 0, .int 0, .int 0, .int 0, .int 0, .int 0, .int 0, .int 0, .int 0, .null, .int 0, .int 0, .int 0, .int 0, .null, .int 0, .int 0])), (q1, .inl (y2, 128, .inr (.inl f130))), (q131, .inl (y132, 128, .inl f159))] → va_S A s.heap H locs → lv_has ls 1 [(0, .ref c0)] → W p l e (headSpec ow_k_X13_init ({ frames := 1, cells := 10, slots := 131956, locals := 12 })).room s m args below meth c H locs 2 256 Q (F0 m 1039 ls [.ref q131, .ref q131, .ref c0])) : W p l e (headSpec ow_k_X13_init ({ frames := 1, cells := 10, slots := 131956, locals := 12 })).room s m args below meth c H locs 2 256 Q (F0 m 928 ls [.int 1, .int 4, .ref q131, .ref q131, .ref c0]) := by
  refine va_bast (i := 4) (x := 1) hx hb hK hP hD hS 2 1 rfl rfl (vp_in_iff.mpr ⟨by decide, by decide⟩) dX13_init_928 (fun H locs hP hD hS => ?_)
  generalize hf137 : upd f136 (Int32.toNatClampNeg 4) (vp_nar .byte 1) = f137 at hP hD
  have hP : va_P (dC, dI) vwCl [(c0, .inr (14, [.ref q1, .null, .null, .null, .int 0, .int 0, .int 0, .null, .null, .null, .int 0, .null, .null, .int 0, .int 0, .int 0, .int 0, .int 0, .int 0, .int 0, .int 0, .int 0, .int 0, .int 0, .int 0, .int 0, .int 0, .int 0, .int 0, .null, .int 0, .int 0, .int 0, .int 0, .null, .int 0, .int 0])), (q1, .inl (y2, 128, .inr (.inl f130))), (q131, .inl (y132, 128, .inl f137))] H := hP
  have hD : va_D A [(c0, .inr (14, [.ref q1, .null, .null, .null, .int 0, .int 0, .int 0, .null, .null, .null, .int 0, .null, .null, .int 0, .int 0, .int 0, .int 0, .int 0, .int 0, .int 0, .int 0, .int 0, .int 0, .int 0, .int 0, .int 0, .int 0, .int 0, .int 0, .null, .int 0, .int 0, .int 0, .int 0, .null, .int 0, .int 0])), (q1, .inl (y2, 128, .inr (.inl f130))), (q131, .inl (y132, 128, .inl f137))] := hD
  refine lv_dup hx hb dX13_init_929 rfl ?_
  refine lv_iconst (v := 5) hx hb dX13_init_930 (by decide) ?_
  refine lv_iconst (v := 1) hx hb dX13_init_931 (by decide) ?_
  refine va_bast (i := 5) (x := 1) hx hb hK hP hD hS 2 1 rfl rfl (vp_in_iff.mpr ⟨by decide, by decide⟩) dX13_init_932 (fun H locs hP hD hS => ?_)
  generalize hf138 : upd f137 (Int32.toNatClampNeg 5) (vp_nar .byte 1) = f138 at hP hD
  have hP : va_P (dC, dI) vwCl [(c0, .inr (14, [.ref q1, .null, .null, .null, .int 0, .int 0, .int 0, .null, .null, .null, .int 0, .null, .null, .int 0, .int 0, .int 0, .int 0, .int 0, .int 0, .int 0, .int 0, .int 0, .int 0, .int 0, .int 0, .int 0, .int 0, .int 0, .int 0, .null, .int 0, .int 0, .int 0, .int 0, .null, .int 0, .int 0])), (q1, .inl (y2, 128, .inr (.inl f130))), (q131, .inl (y132, 128, .inl f138))] H := hP
  have hD : va_D A [(c0, .inr (14, [.ref q1, .null, .null, .null, .int 0, .int 0, .int 0, .null, .null, .null, .int 0, .null, .null, .int 0, .int 0, .int 0, .int 0, .int 0, .int 0, .int 0, .int 0, .int 0, .int 0, .int 0, .int 0, .int 0, .int 0, .int 0, .int 0, .null, .int 0, .int 0, .int 0, .int 0, .null, .int 0, .int 0])), (q1, .inl (y2, 128, .inr (.inl f130))), (q131, .inl (y132, 128, .inl f138))] := hD
  refine lv_dup hx hb dX13_init_933 rfl ?_
  refine lv_bipush (v := 6) hx hb dX13_init_934 (by decide) ?_
  refine lv_iconst (v := 1) hx hb dX13_init_936 (by decide) ?_
  refine va_bast (i := 6) (x := 1) hx hb hK hP hD hS 2 1 rfl rfl (vp_in_iff.mpr ⟨by decide, by decide⟩) dX13_init_937 (fun H locs hP hD hS => ?_)
  generalize hf139 : upd f138 (Int32.toNatClampNeg 6) (vp_nar .byte 1) = f139 at hP hD
  have hP : va_P (dC, dI) vwCl [(c0, .inr (14, [.ref q1, .null, .null, .null, .int 0, .int 0, .int 0, .null, .null, .null, .int 0, .null, .null, .int 0, .int 0, .int 0, .int 0, .int 0, .int 0, .int 0, .int 0, .int 0, .int 0, .int 0, .int 0, .int 0, .int 0, .int 0, .int 0, .null, .int 0, .int 0, .int 0, .int 0, .null, .int 0, .int 0])), (q1, .inl (y2, 128, .inr (.inl f130))), (q131, .inl (y132, 128, .inl f139))] H := hP
  have hD : va_D A [(c0, .inr (14, [.ref q1, .null, .null, .null, .int 0, .int 0, .int 0, .null, .null, .null, .int 0, .null, .null, .int 0, .int 0, .int 0, .int 0, .int 0, .int 0, .int 0, .int 0, .int 0, .int 0, .int 0, .int 0, .int 0, .int 0, .int 0, .int 0, .null, .int 0, .int 0, .int 0, .int 0, .null, .int 0, .int 0])), (q1, .inl (y2, 128, .inr (.inl f130))), (q131, .inl (y132, 128, .inl f139))] := hD
  refine lv_dup hx hb dX13_init_938 rfl ?_
  refine lv_bipush (v := 7) hx hb dX13_init_939 (by decide) ?_
  refine lv_iconst (v := 1) hx hb dX13_init_941 (by decide) ?_
  refine va_bast (i := 7) (x := 1) hx hb hK hP hD hS 2 1 rfl rfl (vp_in_iff.mpr ⟨by decide, by decide⟩) dX13_init_942 (fun H locs hP hD hS => ?_)
  generalize hf140 : upd f139 (Int32.toNatClampNeg 7) (vp_nar .byte 1) = f140 at hP hD
  have hP : va_P (dC, dI) vwCl [(c0, .inr (14, [.ref q1, .null, .null, .null, .int 0, .int 0, .int 0, .null, .null, .null, .int 0, .null, .null, .int 0, .int 0, .int 0, .int 0, .int 0, .int 0, .int 0, .int 0, .int 0, .int 0, .int 0, .int 0, .int 0, .int 0, .int 0, .int 0, .null, .int 0, .int 0, .int 0, .int 0, .null, .int 0, .int 0])), (q1, .inl (y2, 128, .inr (.inl f130))), (q131, .inl (y132, 128, .inl f140))] H := hP
  have hD : va_D A [(c0, .inr (14, [.ref q1, .null, .null, .null, .int 0, .int 0, .int 0, .null, .null, .null, .int 0, .null, .null, .int 0, .int 0, .int 0, .int 0, .int 0, .int 0, .int 0, .int 0, .int 0, .int 0, .int 0, .int 0, .int 0, .int 0, .int 0, .int 0, .null, .int 0, .int 0, .int 0, .int 0, .null, .int 0, .int 0])), (q1, .inl (y2, 128, .inr (.inl f130))), (q131, .inl (y132, 128, .inl f140))] := hD
  refine lv_dup hx hb dX13_init_943 rfl ?_
  refine lv_bipush (v := 8) hx hb dX13_init_944 (by decide) ?_
  refine lv_iconst (v := 1) hx hb dX13_init_946 (by decide) ?_
  refine va_bast (i := 8) (x := 1) hx hb hK hP hD hS 2 1 rfl rfl (vp_in_iff.mpr ⟨by decide, by decide⟩) dX13_init_947 (fun H locs hP hD hS => ?_)
  generalize hf141 : upd f140 (Int32.toNatClampNeg 8) (vp_nar .byte 1) = f141 at hP hD
  have hP : va_P (dC, dI) vwCl [(c0, .inr (14, [.ref q1, .null, .null, .null, .int 0, .int 0, .int 0, .null, .null, .null, .int 0, .null, .null, .int 0, .int 0, .int 0, .int 0, .int 0, .int 0, .int 0, .int 0, .int 0, .int 0, .int 0, .int 0, .int 0, .int 0, .int 0, .int 0, .null, .int 0, .int 0, .int 0, .int 0, .null, .int 0, .int 0])), (q1, .inl (y2, 128, .inr (.inl f130))), (q131, .inl (y132, 128, .inl f141))] H := hP
  have hD : va_D A [(c0, .inr (14, [.ref q1, .null, .null, .null, .int 0, .int 0, .int 0, .null, .null, .null, .int 0, .null, .null, .int 0, .int 0, .int 0, .int 0, .int 0, .int 0, .int 0, .int 0, .int 0, .int 0, .int 0, .int 0, .int 0, .int 0, .int 0, .int 0, .null, .int 0, .int 0, .int 0, .int 0, .null, .int 0, .int 0])), (q1, .inl (y2, 128, .inr (.inl f130))), (q131, .inl (y132, 128, .inl f141))] := hD
  refine lv_dup hx hb dX13_init_948 rfl ?_
  refine lv_bipush (v := 9) hx hb dX13_init_949 (by decide) ?_
  refine lv_iconst (v := 1) hx hb dX13_init_951 (by decide) ?_
  refine va_bast (i := 9) (x := 1) hx hb hK hP hD hS 2 1 rfl rfl (vp_in_iff.mpr ⟨by decide, by decide⟩) dX13_init_952 (fun H locs hP hD hS => ?_)
  generalize hf142 : upd f141 (Int32.toNatClampNeg 9) (vp_nar .byte 1) = f142 at hP hD
  have hP : va_P (dC, dI) vwCl [(c0, .inr (14, [.ref q1, .null, .null, .null, .int 0, .int 0, .int 0, .null, .null, .null, .int 0, .null, .null, .int 0, .int 0, .int 0, .int 0, .int 0, .int 0, .int 0, .int 0, .int 0, .int 0, .int 0, .int 0, .int 0, .int 0, .int 0, .int 0, .null, .int 0, .int 0, .int 0, .int 0, .null, .int 0, .int 0])), (q1, .inl (y2, 128, .inr (.inl f130))), (q131, .inl (y132, 128, .inl f142))] H := hP
  have hD : va_D A [(c0, .inr (14, [.ref q1, .null, .null, .null, .int 0, .int 0, .int 0, .null, .null, .null, .int 0, .null, .null, .int 0, .int 0, .int 0, .int 0, .int 0, .int 0, .int 0, .int 0, .int 0, .int 0, .int 0, .int 0, .int 0, .int 0, .int 0, .int 0, .null, .int 0, .int 0, .int 0, .int 0, .null, .int 0, .int 0])), (q1, .inl (y2, 128, .inr (.inl f130))), (q131, .inl (y132, 128, .inl f142))] := hD
  refine lv_dup hx hb dX13_init_953 rfl ?_
  refine lv_bipush (v := 10) hx hb dX13_init_954 (by decide) ?_
  refine lv_iconst (v := 1) hx hb dX13_init_956 (by decide) ?_
  refine va_bast (i := 10) (x := 1) hx hb hK hP hD hS 2 1 rfl rfl (vp_in_iff.mpr ⟨by decide, by decide⟩) dX13_init_957 (fun H locs hP hD hS => ?_)
  generalize hf143 : upd f142 (Int32.toNatClampNeg 10) (vp_nar .byte 1) = f143 at hP hD
  have hP : va_P (dC, dI) vwCl [(c0, .inr (14, [.ref q1, .null, .null, .null, .int 0, .int 0, .int 0, .null, .null, .null, .int 0, .null, .null, .int 0, .int 0, .int 0, .int 0, .int 0, .int 0, .int 0, .int 0, .int 0, .int 0, .int 0, .int 0, .int 0, .int 0, .int 0, .int 0, .null, .int 0, .int 0, .int 0, .int 0, .null, .int 0, .int 0])), (q1, .inl (y2, 128, .inr (.inl f130))), (q131, .inl (y132, 128, .inl f143))] H := hP
  have hD : va_D A [(c0, .inr (14, [.ref q1, .null, .null, .null, .int 0, .int 0, .int 0, .null, .null, .null, .int 0, .null, .null, .int 0, .int 0, .int 0, .int 0, .int 0, .int 0, .int 0, .int 0, .int 0, .int 0, .int 0, .int 0, .int 0, .int 0, .int 0, .int 0, .null, .int 0, .int 0, .int 0, .int 0, .null, .int 0, .int 0])), (q1, .inl (y2, 128, .inr (.inl f130))), (q131, .inl (y132, 128, .inl f143))] := hD
  refine lv_dup hx hb dX13_init_958 rfl ?_
  refine lv_bipush (v := 11) hx hb dX13_init_959 (by decide) ?_
  refine lv_iconst (v := 1) hx hb dX13_init_961 (by decide) ?_
  refine va_bast (i := 11) (x := 1) hx hb hK hP hD hS 2 1 rfl rfl (vp_in_iff.mpr ⟨by decide, by decide⟩) dX13_init_962 (fun H locs hP hD hS => ?_)
  generalize hf144 : upd f143 (Int32.toNatClampNeg 11) (vp_nar .byte 1) = f144 at hP hD
  have hP : va_P (dC, dI) vwCl [(c0, .inr (14, [.ref q1, .null, .null, .null, .int 0, .int 0, .int 0, .null, .null, .null, .int 0, .null, .null, .int 0, .int 0, .int 0, .int 0, .int 0, .int 0, .int 0, .int 0, .int 0, .int 0, .int 0, .int 0, .int 0, .int 0, .int 0, .int 0, .null, .int 0, .int 0, .int 0, .int 0, .null, .int 0, .int 0])), (q1, .inl (y2, 128, .inr (.inl f130))), (q131, .inl (y132, 128, .inl f144))] H := hP
  have hD : va_D A [(c0, .inr (14, [.ref q1, .null, .null, .null, .int 0, .int 0, .int 0, .null, .null, .null, .int 0, .null, .null, .int 0, .int 0, .int 0, .int 0, .int 0, .int 0, .int 0, .int 0, .int 0, .int 0, .int 0, .int 0, .int 0, .int 0, .int 0, .int 0, .null, .int 0, .int 0, .int 0, .int 0, .null, .int 0, .int 0])), (q1, .inl (y2, 128, .inr (.inl f130))), (q131, .inl (y132, 128, .inl f144))] := hD
  refine lv_dup hx hb dX13_init_963 rfl ?_
  refine lv_bipush (v := 12) hx hb dX13_init_964 (by decide) ?_
  refine lv_iconst (v := 1) hx hb dX13_init_966 (by decide) ?_
  refine va_bast (i := 12) (x := 1) hx hb hK hP hD hS 2 1 rfl rfl (vp_in_iff.mpr ⟨by decide, by decide⟩) dX13_init_967 (fun H locs hP hD hS => ?_)
  generalize hf145 : upd f144 (Int32.toNatClampNeg 12) (vp_nar .byte 1) = f145 at hP hD
  have hP : va_P (dC, dI) vwCl [(c0, .inr (14, [.ref q1, .null, .null, .null, .int 0, .int 0, .int 0, .null, .null, .null, .int 0, .null, .null, .int 0, .int 0, .int 0, .int 0, .int 0, .int 0, .int 0, .int 0, .int 0, .int 0, .int 0, .int 0, .int 0, .int 0, .int 0, .int 0, .null, .int 0, .int 0, .int 0, .int 0, .null, .int 0, .int 0])), (q1, .inl (y2, 128, .inr (.inl f130))), (q131, .inl (y132, 128, .inl f145))] H := hP
  have hD : va_D A [(c0, .inr (14, [.ref q1, .null, .null, .null, .int 0, .int 0, .int 0, .null, .null, .null, .int 0, .null, .null, .int 0, .int 0, .int 0, .int 0, .int 0, .int 0, .int 0, .int 0, .int 0, .int 0, .int 0, .int 0, .int 0, .int 0, .int 0, .int 0, .null, .int 0, .int 0, .int 0, .int 0, .null, .int 0, .int 0])), (q1, .inl (y2, 128, .inr (.inl f130))), (q131, .inl (y132, 128, .inl f145))] := hD
  refine lv_dup hx hb dX13_init_968 rfl ?_
  refine lv_bipush (v := 13) hx hb dX13_init_969 (by decide) ?_
  refine lv_iconst (v := 1) hx hb dX13_init_971 (by decide) ?_
  refine va_bast (i := 13) (x := 1) hx hb hK hP hD hS 2 1 rfl rfl (vp_in_iff.mpr ⟨by decide, by decide⟩) dX13_init_972 (fun H locs hP hD hS => ?_)
  generalize hf146 : upd f145 (Int32.toNatClampNeg 13) (vp_nar .byte 1) = f146 at hP hD
  have hP : va_P (dC, dI) vwCl [(c0, .inr (14, [.ref q1, .null, .null, .null, .int 0, .int 0, .int 0, .null, .null, .null, .int 0, .null, .null, .int 0, .int 0, .int 0, .int 0, .int 0, .int 0, .int 0, .int 0, .int 0, .int 0, .int 0, .int 0, .int 0, .int 0, .int 0, .int 0, .null, .int 0, .int 0, .int 0, .int 0, .null, .int 0, .int 0])), (q1, .inl (y2, 128, .inr (.inl f130))), (q131, .inl (y132, 128, .inl f146))] H := hP
  have hD : va_D A [(c0, .inr (14, [.ref q1, .null, .null, .null, .int 0, .int 0, .int 0, .null, .null, .null, .int 0, .null, .null, .int 0, .int 0, .int 0, .int 0, .int 0, .int 0, .int 0, .int 0, .int 0, .int 0, .int 0, .int 0, .int 0, .int 0, .int 0, .int 0, .null, .int 0, .int 0, .int 0, .int 0, .null, .int 0, .int 0])), (q1, .inl (y2, 128, .inr (.inl f130))), (q131, .inl (y132, 128, .inl f146))] := hD
  refine lv_dup hx hb dX13_init_973 rfl ?_
  refine lv_bipush (v := 14) hx hb dX13_init_974 (by decide) ?_
  refine lv_iconst (v := 1) hx hb dX13_init_976 (by decide) ?_
  refine va_bast (i := 14) (x := 1) hx hb hK hP hD hS 2 1 rfl rfl (vp_in_iff.mpr ⟨by decide, by decide⟩) dX13_init_977 (fun H locs hP hD hS => ?_)
  generalize hf147 : upd f146 (Int32.toNatClampNeg 14) (vp_nar .byte 1) = f147 at hP hD
  have hP : va_P (dC, dI) vwCl [(c0, .inr (14, [.ref q1, .null, .null, .null, .int 0, .int 0, .int 0, .null, .null, .null, .int 0, .null, .null, .int 0, .int 0, .int 0, .int 0, .int 0, .int 0, .int 0, .int 0, .int 0, .int 0, .int 0, .int 0, .int 0, .int 0, .int 0, .int 0, .null, .int 0, .int 0, .int 0, .int 0, .null, .int 0, .int 0])), (q1, .inl (y2, 128, .inr (.inl f130))), (q131, .inl (y132, 128, .inl f147))] H := hP
  have hD : va_D A [(c0, .inr (14, [.ref q1, .null, .null, .null, .int 0, .int 0, .int 0, .null, .null, .null, .int 0, .null, .null, .int 0, .int 0, .int 0, .int 0, .int 0, .int 0, .int 0, .int 0, .int 0, .int 0, .int 0, .int 0, .int 0, .int 0, .int 0, .int 0, .null, .int 0, .int 0, .int 0, .int 0, .null, .int 0, .int 0])), (q1, .inl (y2, 128, .inr (.inl f130))), (q131, .inl (y132, 128, .inl f147))] := hD
  refine lv_dup hx hb dX13_init_978 rfl ?_
  refine lv_bipush (v := 15) hx hb dX13_init_979 (by decide) ?_
  refine lv_iconst (v := 1) hx hb dX13_init_981 (by decide) ?_
  refine va_bast (i := 15) (x := 1) hx hb hK hP hD hS 2 1 rfl rfl (vp_in_iff.mpr ⟨by decide, by decide⟩) dX13_init_982 (fun H locs hP hD hS => ?_)
  generalize hf148 : upd f147 (Int32.toNatClampNeg 15) (vp_nar .byte 1) = f148 at hP hD
  have hP : va_P (dC, dI) vwCl [(c0, .inr (14, [.ref q1, .null, .null, .null, .int 0, .int 0, .int 0, .null, .null, .null, .int 0, .null, .null, .int 0, .int 0, .int 0, .int 0, .int 0, .int 0, .int 0, .int 0, .int 0, .int 0, .int 0, .int 0, .int 0, .int 0, .int 0, .int 0, .null, .int 0, .int 0, .int 0, .int 0, .null, .int 0, .int 0])), (q1, .inl (y2, 128, .inr (.inl f130))), (q131, .inl (y132, 128, .inl f148))] H := hP
  have hD : va_D A [(c0, .inr (14, [.ref q1, .null, .null, .null, .int 0, .int 0, .int 0, .null, .null, .null, .int 0, .null, .null, .int 0, .int 0, .int 0, .int 0, .int 0, .int 0, .int 0, .int 0, .int 0, .int 0, .int 0, .int 0, .int 0, .int 0, .int 0, .int 0, .null, .int 0, .int 0, .int 0, .int 0, .null, .int 0, .int 0])), (q1, .inl (y2, 128, .inr (.inl f130))), (q131, .inl (y132, 128, .inl f148))] := hD
  refine lv_dup hx hb dX13_init_983 rfl ?_
  refine lv_bipush (v := 16) hx hb dX13_init_984 (by decide) ?_
  refine lv_iconst (v := 1) hx hb dX13_init_986 (by decide) ?_
  refine va_bast (i := 16) (x := 1) hx hb hK hP hD hS 2 1 rfl rfl (vp_in_iff.mpr ⟨by decide, by decide⟩) dX13_init_987 (fun H locs hP hD hS => ?_)
  generalize hf149 : upd f148 (Int32.toNatClampNeg 16) (vp_nar .byte 1) = f149 at hP hD
  have hP : va_P (dC, dI) vwCl [(c0, .inr (14, [.ref q1, .null, .null, .null, .int 0, .int 0, .int 0, .null, .null, .null, .int 0, .null, .null, .int 0, .int 0, .int 0, .int 0, .int 0, .int 0, .int 0, .int 0, .int 0, .int 0, .int 0, .int 0, .int 0, .int 0, .int 0, .int 0, .null, .int 0, .int 0, .int 0, .int 0, .null, .int 0, .int 0])), (q1, .inl (y2, 128, .inr (.inl f130))), (q131, .inl (y132, 128, .inl f149))] H := hP
  have hD : va_D A [(c0, .inr (14, [.ref q1, .null, .null, .null, .int 0, .int 0, .int 0, .null, .null, .null, .int 0, .null, .null, .int 0, .int 0, .int 0, .int 0, .int 0, .int 0, .int 0, .int 0, .int 0, .int 0, .int 0, .int 0, .int 0, .int 0, .int 0, .int 0, .null, .int 0, .int 0, .int 0, .int 0, .null, .int 0, .int 0])), (q1, .inl (y2, 128, .inr (.inl f130))), (q131, .inl (y132, 128, .inl f149))] := hD
  refine lv_dup hx hb dX13_init_988 rfl ?_
  refine lv_bipush (v := 17) hx hb dX13_init_989 (by decide) ?_
  refine lv_iconst (v := 1) hx hb dX13_init_991 (by decide) ?_
  refine va_bast (i := 17) (x := 1) hx hb hK hP hD hS 2 1 rfl rfl (vp_in_iff.mpr ⟨by decide, by decide⟩) dX13_init_992 (fun H locs hP hD hS => ?_)
  generalize hf150 : upd f149 (Int32.toNatClampNeg 17) (vp_nar .byte 1) = f150 at hP hD
  have hP : va_P (dC, dI) vwCl [(c0, .inr (14, [.ref q1, .null, .null, .null, .int 0, .int 0, .int 0, .null, .null, .null, .int 0, .null, .null, .int 0, .int 0, .int 0, .int 0, .int 0, .int 0, .int 0, .int 0, .int 0, .int 0, .int 0, .int 0, .int 0, .int 0, .int 0, .int 0, .null, .int 0, .int 0, .int 0, .int 0, .null, .int 0, .int 0])), (q1, .inl (y2, 128, .inr (.inl f130))), (q131, .inl (y132, 128, .inl f150))] H := hP
  have hD : va_D A [(c0, .inr (14, [.ref q1, .null, .null, .null, .int 0, .int 0, .int 0, .null, .null, .null, .int 0, .null, .null, .int 0, .int 0, .int 0, .int 0, .int 0, .int 0, .int 0, .int 0, .int 0, .int 0, .int 0, .int 0, .int 0, .int 0, .int 0, .int 0, .null, .int 0, .int 0, .int 0, .int 0, .null, .int 0, .int 0])), (q1, .inl (y2, 128, .inr (.inl f130))), (q131, .inl (y132, 128, .inl f150))] := hD
  refine lv_dup hx hb dX13_init_993 rfl ?_
  refine lv_bipush (v := 18) hx hb dX13_init_994 (by decide) ?_
  refine lv_iconst (v := 2) hx hb dX13_init_996 (by decide) ?_
  refine va_bast (i := 18) (x := 2) hx hb hK hP hD hS 2 1 rfl rfl (vp_in_iff.mpr ⟨by decide, by decide⟩) dX13_init_997 (fun H locs hP hD hS => ?_)
  generalize hf151 : upd f150 (Int32.toNatClampNeg 18) (vp_nar .byte 2) = f151 at hP hD
  have hP : va_P (dC, dI) vwCl [(c0, .inr (14, [.ref q1, .null, .null, .null, .int 0, .int 0, .int 0, .null, .null, .null, .int 0, .null, .null, .int 0, .int 0, .int 0, .int 0, .int 0, .int 0, .int 0, .int 0, .int 0, .int 0, .int 0, .int 0, .int 0, .int 0, .int 0, .int 0, .null, .int 0, .int 0, .int 0, .int 0, .null, .int 0, .int 0])), (q1, .inl (y2, 128, .inr (.inl f130))), (q131, .inl (y132, 128, .inl f151))] H := hP
  have hD : va_D A [(c0, .inr (14, [.ref q1, .null, .null, .null, .int 0, .int 0, .int 0, .null, .null, .null, .int 0, .null, .null, .int 0, .int 0, .int 0, .int 0, .int 0, .int 0, .int 0, .int 0, .int 0, .int 0, .int 0, .int 0, .int 0, .int 0, .int 0, .int 0, .null, .int 0, .int 0, .int 0, .int 0, .null, .int 0, .int 0])), (q1, .inl (y2, 128, .inr (.inl f130))), (q131, .inl (y132, 128, .inl f151))] := hD
  refine lv_dup hx hb dX13_init_998 rfl ?_
  refine lv_bipush (v := 19) hx hb dX13_init_999 (by decide) ?_
  refine lv_iconst (v := 2) hx hb dX13_init_1001 (by decide) ?_
  refine va_bast (i := 19) (x := 2) hx hb hK hP hD hS 2 1 rfl rfl (vp_in_iff.mpr ⟨by decide, by decide⟩) dX13_init_1002 (fun H locs hP hD hS => ?_)
  generalize hf152 : upd f151 (Int32.toNatClampNeg 19) (vp_nar .byte 2) = f152 at hP hD
  have hP : va_P (dC, dI) vwCl [(c0, .inr (14, [.ref q1, .null, .null, .null, .int 0, .int 0, .int 0, .null, .null, .null, .int 0, .null, .null, .int 0, .int 0, .int 0, .int 0, .int 0, .int 0, .int 0, .int 0, .int 0, .int 0, .int 0, .int 0, .int 0, .int 0, .int 0, .int 0, .null, .int 0, .int 0, .int 0, .int 0, .null, .int 0, .int 0])), (q1, .inl (y2, 128, .inr (.inl f130))), (q131, .inl (y132, 128, .inl f152))] H := hP
  have hD : va_D A [(c0, .inr (14, [.ref q1, .null, .null, .null, .int 0, .int 0, .int 0, .null, .null, .null, .int 0, .null, .null, .int 0, .int 0, .int 0, .int 0, .int 0, .int 0, .int 0, .int 0, .int 0, .int 0, .int 0, .int 0, .int 0, .int 0, .int 0, .int 0, .null, .int 0, .int 0, .int 0, .int 0, .null, .int 0, .int 0])), (q1, .inl (y2, 128, .inr (.inl f130))), (q131, .inl (y132, 128, .inl f152))] := hD
  refine lv_dup hx hb dX13_init_1003 rfl ?_
  refine lv_bipush (v := 20) hx hb dX13_init_1004 (by decide) ?_
  refine lv_iconst (v := 2) hx hb dX13_init_1006 (by decide) ?_
  refine va_bast (i := 20) (x := 2) hx hb hK hP hD hS 2 1 rfl rfl (vp_in_iff.mpr ⟨by decide, by decide⟩) dX13_init_1007 (fun H locs hP hD hS => ?_)
  generalize hf153 : upd f152 (Int32.toNatClampNeg 20) (vp_nar .byte 2) = f153 at hP hD
  have hP : va_P (dC, dI) vwCl [(c0, .inr (14, [.ref q1, .null, .null, .null, .int 0, .int 0, .int 0, .null, .null, .null, .int 0, .null, .null, .int 0, .int 0, .int 0, .int 0, .int 0, .int 0, .int 0, .int 0, .int 0, .int 0, .int 0, .int 0, .int 0, .int 0, .int 0, .int 0, .null, .int 0, .int 0, .int 0, .int 0, .null, .int 0, .int 0])), (q1, .inl (y2, 128, .inr (.inl f130))), (q131, .inl (y132, 128, .inl f153))] H := hP
  have hD : va_D A [(c0, .inr (14, [.ref q1, .null, .null, .null, .int 0, .int 0, .int 0, .null, .null, .null, .int 0, .null, .null, .int 0, .int 0, .int 0, .int 0, .int 0, .int 0, .int 0, .int 0, .int 0, .int 0, .int 0, .int 0, .int 0, .int 0, .int 0, .int 0, .null, .int 0, .int 0, .int 0, .int 0, .null, .int 0, .int 0])), (q1, .inl (y2, 128, .inr (.inl f130))), (q131, .inl (y132, 128, .inl f153))] := hD
  refine lv_dup hx hb dX13_init_1008 rfl ?_
  refine lv_bipush (v := 21) hx hb dX13_init_1009 (by decide) ?_
  refine lv_iconst (v := 2) hx hb dX13_init_1011 (by decide) ?_
  refine va_bast (i := 21) (x := 2) hx hb hK hP hD hS 2 1 rfl rfl (vp_in_iff.mpr ⟨by decide, by decide⟩) dX13_init_1012 (fun H locs hP hD hS => ?_)
  generalize hf154 : upd f153 (Int32.toNatClampNeg 21) (vp_nar .byte 2) = f154 at hP hD
  have hP : va_P (dC, dI) vwCl [(c0, .inr (14, [.ref q1, .null, .null, .null, .int 0, .int 0, .int 0, .null, .null, .null, .int 0, .null, .null, .int 0, .int 0, .int 0, .int 0, .int 0, .int 0, .int 0, .int 0, .int 0, .int 0, .int 0, .int 0, .int 0, .int 0, .int 0, .int 0, .null, .int 0, .int 0, .int 0, .int 0, .null, .int 0, .int 0])), (q1, .inl (y2, 128, .inr (.inl f130))), (q131, .inl (y132, 128, .inl f154))] H := hP
  have hD : va_D A [(c0, .inr (14, [.ref q1, .null, .null, .null, .int 0, .int 0, .int 0, .null, .null, .null, .int 0, .null, .null, .int 0, .int 0, .int 0, .int 0, .int 0, .int 0, .int 0, .int 0, .int 0, .int 0, .int 0, .int 0, .int 0, .int 0, .int 0, .int 0, .null, .int 0, .int 0, .int 0, .int 0, .null, .int 0, .int 0])), (q1, .inl (y2, 128, .inr (.inl f130))), (q131, .inl (y132, 128, .inl f154))] := hD
  refine lv_dup hx hb dX13_init_1013 rfl ?_
  refine lv_bipush (v := 22) hx hb dX13_init_1014 (by decide) ?_
  refine lv_iconst (v := 2) hx hb dX13_init_1016 (by decide) ?_
  refine va_bast (i := 22) (x := 2) hx hb hK hP hD hS 2 1 rfl rfl (vp_in_iff.mpr ⟨by decide, by decide⟩) dX13_init_1017 (fun H locs hP hD hS => ?_)
  generalize hf155 : upd f154 (Int32.toNatClampNeg 22) (vp_nar .byte 2) = f155 at hP hD
  have hP : va_P (dC, dI) vwCl [(c0, .inr (14, [.ref q1, .null, .null, .null, .int 0, .int 0, .int 0, .null, .null, .null, .int 0, .null, .null, .int 0, .int 0, .int 0, .int 0, .int 0, .int 0, .int 0, .int 0, .int 0, .int 0, .int 0, .int 0, .int 0, .int 0, .int 0, .int 0, .null, .int 0, .int 0, .int 0, .int 0, .null, .int 0, .int 0])), (q1, .inl (y2, 128, .inr (.inl f130))), (q131, .inl (y132, 128, .inl f155))] H := hP
  have hD : va_D A [(c0, .inr (14, [.ref q1, .null, .null, .null, .int 0, .int 0, .int 0, .null, .null, .null, .int 0, .null, .null, .int 0, .int 0, .int 0, .int 0, .int 0, .int 0, .int 0, .int 0, .int 0, .int 0, .int 0, .int 0, .int 0, .int 0, .int 0, .int 0, .null, .int 0, .int 0, .int 0, .int 0, .null, .int 0, .int 0])), (q1, .inl (y2, 128, .inr (.inl f130))), (q131, .inl (y132, 128, .inl f155))] := hD
  refine lv_dup hx hb dX13_init_1018 rfl ?_
  refine lv_bipush (v := 23) hx hb dX13_init_1019 (by decide) ?_
  refine lv_iconst (v := 2) hx hb dX13_init_1021 (by decide) ?_
  refine va_bast (i := 23) (x := 2) hx hb hK hP hD hS 2 1 rfl rfl (vp_in_iff.mpr ⟨by decide, by decide⟩) dX13_init_1022 (fun H locs hP hD hS => ?_)
  generalize hf156 : upd f155 (Int32.toNatClampNeg 23) (vp_nar .byte 2) = f156 at hP hD
  have hP : va_P (dC, dI) vwCl [(c0, .inr (14, [.ref q1, .null, .null, .null, .int 0, .int 0, .int 0, .null, .null, .null, .int 0, .null, .null, .int 0, .int 0, .int 0, .int 0, .int 0, .int 0, .int 0, .int 0, .int 0, .int 0, .int 0, .int 0, .int 0, .int 0, .int 0, .int 0, .null, .int 0, .int 0, .int 0, .int 0, .null, .int 0, .int 0])), (q1, .inl (y2, 128, .inr (.inl f130))), (q131, .inl (y132, 128, .inl f156))] H := hP
  have hD : va_D A [(c0, .inr (14, [.ref q1, .null, .null, .null, .int 0, .int 0, .int 0, .null, .null, .null, .int 0, .null, .null, .int 0, .int 0, .int 0, .int 0, .int 0, .int 0, .int 0, .int 0, .int 0, .int 0, .int 0, .int 0, .int 0, .int 0, .int 0, .int 0, .null, .int 0, .int 0, .int 0, .int 0, .null, .int 0, .int 0])), (q1, .inl (y2, 128, .inr (.inl f130))), (q131, .inl (y132, 128, .inl f156))] := hD
  refine lv_dup hx hb dX13_init_1023 rfl ?_
  refine lv_bipush (v := 24) hx hb dX13_init_1024 (by decide) ?_
  refine lv_iconst (v := 3) hx hb dX13_init_1026 (by decide) ?_
  refine va_bast (i := 24) (x := 3) hx hb hK hP hD hS 2 1 rfl rfl (vp_in_iff.mpr ⟨by decide, by decide⟩) dX13_init_1027 (fun H locs hP hD hS => ?_)
  generalize hf157 : upd f156 (Int32.toNatClampNeg 24) (vp_nar .byte 3) = f157 at hP hD
  have hP : va_P (dC, dI) vwCl [(c0, .inr (14, [.ref q1, .null, .null, .null, .int 0, .int 0, .int 0, .null, .null, .null, .int 0, .null, .null, .int 0, .int 0, .int 0, .int 0, .int 0, .int 0, .int 0, .int 0, .int 0, .int 0, .int 0, .int 0, .int 0, .int 0, .int 0, .int 0, .null, .int 0, .int 0, .int 0, .int 0, .null, .int 0, .int 0])), (q1, .inl (y2, 128, .inr (.inl f130))), (q131, .inl (y132, 128, .inl f157))] H := hP
  have hD : va_D A [(c0, .inr (14, [.ref q1, .null, .null, .null, .int 0, .int 0, .int 0, .null, .null, .null, .int 0, .null, .null, .int 0, .int 0, .int 0, .int 0, .int 0, .int 0, .int 0, .int 0, .int 0, .int 0, .int 0, .int 0, .int 0, .int 0, .int 0, .int 0, .null, .int 0, .int 0, .int 0, .int 0, .null, .int 0, .int 0])), (q1, .inl (y2, 128, .inr (.inl f130))), (q131, .inl (y132, 128, .inl f157))] := hD
  refine lv_dup hx hb dX13_init_1028 rfl ?_
  refine lv_bipush (v := 25) hx hb dX13_init_1029 (by decide) ?_
  refine lv_iconst (v := 3) hx hb dX13_init_1031 (by decide) ?_
  refine va_bast (i := 25) (x := 3) hx hb hK hP hD hS 2 1 rfl rfl (vp_in_iff.mpr ⟨by decide, by decide⟩) dX13_init_1032 (fun H locs hP hD hS => ?_)
  generalize hf158 : upd f157 (Int32.toNatClampNeg 25) (vp_nar .byte 3) = f158 at hP hD
  have hP : va_P (dC, dI) vwCl [(c0, .inr (14, [.ref q1, .null, .null, .null, .int 0, .int 0, .int 0, .null, .null, .null, .int 0, .null, .null, .int 0, .int 0, .int 0, .int 0, .int 0, .int 0, .int 0, .int 0, .int 0, .int 0, .int 0, .int 0, .int 0, .int 0, .int 0, .int 0, .null, .int 0, .int 0, .int 0, .int 0, .null, .int 0, .int 0])), (q1, .inl (y2, 128, .inr (.inl f130))), (q131, .inl (y132, 128, .inl f158))] H := hP
  have hD : va_D A [(c0, .inr (14, [.ref q1, .null, .null, .null, .int 0, .int 0, .int 0, .null, .null, .null, .int 0, .null, .null, .int 0, .int 0, .int 0, .int 0, .int 0, .int 0, .int 0, .int 0, .int 0, .int 0, .int 0, .int 0, .int 0, .int 0, .int 0, .int 0, .null, .int 0, .int 0, .int 0, .int 0, .null, .int 0, .int 0])), (q1, .inl (y2, 128, .inr (.inl f130))), (q131, .inl (y132, 128, .inl f158))] := hD
  refine lv_dup hx hb dX13_init_1033 rfl ?_
  refine lv_bipush (v := 26) hx hb dX13_init_1034 (by decide) ?_
  refine lv_iconst (v := 3) hx hb dX13_init_1036 (by decide) ?_
  refine va_bast (i := 26) (x := 3) hx hb hK hP hD hS 2 1 rfl rfl (vp_in_iff.mpr ⟨by decide, by decide⟩) dX13_init_1037 (fun H locs hP hD hS => ?_)
  generalize hf159 : upd f158 (Int32.toNatClampNeg 26) (vp_nar .byte 3) = f159 at hP hD
  have hP : va_P (dC, dI) vwCl [(c0, .inr (14, [.ref q1, .null, .null, .null, .int 0, .int 0, .int 0, .null, .null, .null, .int 0, .null, .null, .int 0, .int 0, .int 0, .int 0, .int 0, .int 0, .int 0, .int 0, .int 0, .int 0, .int 0, .int 0, .int 0, .int 0, .int 0, .int 0, .null, .int 0, .int 0, .int 0, .int 0, .null, .int 0, .int 0])), (q1, .inl (y2, 128, .inr (.inl f130))), (q131, .inl (y132, 128, .inl f159))] H := hP
  have hD : va_D A [(c0, .inr (14, [.ref q1, .null, .null, .null, .int 0, .int 0, .int 0, .null, .null, .null, .int 0, .null, .null, .int 0, .int 0, .int 0, .int 0, .int 0, .int 0, .int 0, .int 0, .int 0, .int 0, .int 0, .int 0, .int 0, .int 0, .int 0, .int 0, .null, .int 0, .int 0, .int 0, .int 0, .null, .int 0, .int 0])), (q1, .inl (y2, 128, .inr (.inl f130))), (q131, .inl (y132, 128, .inl f159))] := hD
  refine lv_dup hx hb dX13_init_1038 rfl ?_
  exact kk f159 _ _ _ hK hP hD hS hl

