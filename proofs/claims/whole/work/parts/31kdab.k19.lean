set_option maxHeartbeats 40000000 in
set_option maxRecDepth 100000 in
theorem k_X13_init_s3 {p : Program} {l : Launch} {e : Env} {s : State} {m : MethodId} {args : Array Value} {below : List Frame} {meth : Method} {c : Code} {Q : State → Prop} {A : Nat → Prop} (dC : Nat → ClassId) (dI : Nat → Nat → Nat) (c0 : Nat) (q1 : Nat) (y2 : ClassId) (hlt : l.stackTraces = false) (hx : p.tables.exec = Jvm.exec) (hb : c.code = cX13_init) (hml : c.maxLocals = 1) (hown : s.vm.findClass RX13 = some m.cls) (hts : ∀ w ∈ ow_k_X13_init, w.before args s = true) (hin : meth.name = "<init>") (hN : nv_E dI A s) (hA : ∀ q : Nat, s.heap.size ≤ q → A q) {H : Heap} {locs : List Loc} {ls : Array Slot} (hK : va_K (dC, dI) vwCl [(y2, .long)] s) (hP : va_P (dC, dI) vwCl [(c0, .inr (14, [.null, .null, .null, .null, .int 0, .int 0, .int 0, .null, .null, .null, .int 0, .null, .null, .int 0, .int 0, .int 0, .int 0, .int 0, .int 0, .int 0, .int 0, .int 0, .int 0, .int 0, .int 0, .int 0, .int 0, .int 0, .int 0, .null, .int 0, .int 0, .int 0, .int 0, .null, .int 0, .int 0])), (q1, .inl (y2, 128, .inr (.inl (tbL nmT 66))))] H) (hD : va_D A [(c0, .inr (14, [.null, .null, .null, .null, .int 0, .int 0, .int 0, .null, .null, .null, .int 0, .null, .null, .int 0, .int 0, .int 0, .int 0, .int 0, .int 0, .int 0, .int 0, .int 0, .int 0, .int 0, .int 0, .int 0, .int 0, .int 0, .int 0, .null, .int 0, .int 0, .int 0, .int 0, .null, .int 0, .int 0])), (q1, .inl (y2, 128, .inr (.inl (tbL nmT 66))))]) (hS : va_S A s.heap H locs) (hl : lv_has ls 1 [(0, .ref c0)]) (kk : ∀ (H : Heap) (locs : List Loc) (ls : Array Slot), va_K (dC, dI) vwCl [(y2, .long)] s → va_P (dC, dI) vwCl [(c0, .inr (14, [.null, .null, .null, .null, .int 0, .int 0, .int 0, .null, .null, .null, .int 0, .null, .null, .int 0, .int 0, .int 0, .int 0, .int 0, .int 0, .int 0, .int 0, .int 0, .int 0, .int 0, .int 0, .int 0, .int 0, .int 0, .int 0, .null, .int 0, .int 0, .int 0, .int 0, .null, .int 0, .int 0])), (q1, .inl (y2, 128, .inr (.inl (tbL nmT 88))))] H → va_D A [(c0, .inr (14, [.null, .null, .null, .null, .int 0, .int 0, .int 0, .null, .null, .null, .int 0, .null, .null, .int 0, .int 0, .int 0, .int 0, .int 0, .int 0, .int 0, .int 0, .int 0, .int 0, .int 0, .int 0, .int 0, .int 0, .int 0, .int 0, .null, .int 0, .int 0, .int 0, .int 0, .null, .int 0, .int 0])), (q1, .inl (y2, 128, .inr (.inl (tbL nmT 88))))] → va_S A s.heap H locs → lv_has ls 1 [(0, .ref c0)] → W p l e (headSpec ow_k_X13_init ({ frames := 1, cells := 10, slots := 131956, locals := 12 })).room s m args below meth c H locs 1 128 Q (F0 m 626 ls [.long 9868228931, .int 88, .ref q1, .ref q1, .ref c0])) : W p l e (headSpec ow_k_X13_init ({ frames := 1, cells := 10, slots := 131956, locals := 12 })).room s m args below meth c H locs 1 128 Q (F0 m 467 ls [.ref q1, .ref q1, .ref c0]) := by
  refine lv_bipush (v := 66) hx hb dX13_init_467 (by decide) ?_
  refine lv_ldc2 hx hb hown (hts (.constantLong RX13 139 (66510)) (List.mem_of_getElem? (i := 71) rfl)) dX13_init_469 ?_
  refine va_last (i := 66) (x := 66510) hx hb hK hP hD hS 1 0 rfl rfl (vp_in_iff.mpr ⟨by decide, by decide⟩) dX13_init_472 (fun H locs hP hD hS => ?_)
  rw [tbL_s nmT 66 (j := 66) (v := 66510) (by decide) (by decide +kernel)] at hP hD
  have hP : va_P (dC, dI) vwCl [(c0, .inr (14, [.null, .null, .null, .null, .int 0, .int 0, .int 0, .null, .null, .null, .int 0, .null, .null, .int 0, .int 0, .int 0, .int 0, .int 0, .int 0, .int 0, .int 0, .int 0, .int 0, .int 0, .int 0, .int 0, .int 0, .int 0, .int 0, .null, .int 0, .int 0, .int 0, .int 0, .null, .int 0, .int 0])), (q1, .inl (y2, 128, .inr (.inl (tbL nmT 67))))] H := hP
  have hD : va_D A [(c0, .inr (14, [.null, .null, .null, .null, .int 0, .int 0, .int 0, .null, .null, .null, .int 0, .null, .null, .int 0, .int 0, .int 0, .int 0, .int 0, .int 0, .int 0, .int 0, .int 0, .int 0, .int 0, .int 0, .int 0, .int 0, .int 0, .int 0, .null, .int 0, .int 0, .int 0, .int 0, .null, .int 0, .int 0])), (q1, .inl (y2, 128, .inr (.inl (tbL nmT 67))))] := hD
  refine lv_dup hx hb dX13_init_473 rfl ?_
  refine lv_bipush (v := 67) hx hb dX13_init_474 (by decide) ?_
  refine lv_ldc2 hx hb hown (hts (.constantLong RX13 141 (82258)) (List.mem_of_getElem? (i := 72) rfl)) dX13_init_476 ?_
  refine va_last (i := 67) (x := 82258) hx hb hK hP hD hS 1 0 rfl rfl (vp_in_iff.mpr ⟨by decide, by decide⟩) dX13_init_479 (fun H locs hP hD hS => ?_)
  rw [tbL_s nmT 67 (j := 67) (v := 82258) (by decide) (by decide +kernel)] at hP hD
  have hP : va_P (dC, dI) vwCl [(c0, .inr (14, [.null, .null, .null, .null, .int 0, .int 0, .int 0, .null, .null, .null, .int 0, .null, .null, .int 0, .int 0, .int 0, .int 0, .int 0, .int 0, .int 0, .int 0, .int 0, .int 0, .int 0, .int 0, .int 0, .int 0, .int 0, .int 0, .null, .int 0, .int 0, .int 0, .int 0, .null, .int 0, .int 0])), (q1, .inl (y2, 128, .inr (.inl (tbL nmT 68))))] H := hP
  have hD : va_D A [(c0, .inr (14, [.null, .null, .null, .null, .int 0, .int 0, .int 0, .null, .null, .null, .int 0, .null, .null, .int 0, .int 0, .int 0, .int 0, .int 0, .int 0, .int 0, .int 0, .int 0, .int 0, .int 0, .int 0, .int 0, .int 0, .int 0, .int 0, .null, .int 0, .int 0, .int 0, .int 0, .null, .int 0, .int 0])), (q1, .inl (y2, 128, .inr (.inl (tbL nmT 68))))] := hD
  refine lv_dup hx hb dX13_init_480 rfl ?_
  refine lv_bipush (v := 68) hx hb dX13_init_481 (by decide) ?_
  refine lv_ldc2 hx hb hown (hts (.constantLong RX13 143 (256790881679448387)) (List.mem_of_getElem? (i := 73) rfl)) dX13_init_483 ?_
  refine va_last (i := 68) (x := 256790881679448387) hx hb hK hP hD hS 1 0 rfl rfl (vp_in_iff.mpr ⟨by decide, by decide⟩) dX13_init_486 (fun H locs hP hD hS => ?_)
  rw [tbL_s nmT 68 (j := 68) (v := 256790881679448387) (by decide) (by decide +kernel)] at hP hD
  have hP : va_P (dC, dI) vwCl [(c0, .inr (14, [.null, .null, .null, .null, .int 0, .int 0, .int 0, .null, .null, .null, .int 0, .null, .null, .int 0, .int 0, .int 0, .int 0, .int 0, .int 0, .int 0, .int 0, .int 0, .int 0, .int 0, .int 0, .int 0, .int 0, .int 0, .int 0, .null, .int 0, .int 0, .int 0, .int 0, .null, .int 0, .int 0])), (q1, .inl (y2, 128, .inr (.inl (tbL nmT 69))))] H := hP
  have hD : va_D A [(c0, .inr (14, [.null, .null, .null, .null, .int 0, .int 0, .int 0, .null, .null, .null, .int 0, .null, .null, .int 0, .int 0, .int 0, .int 0, .int 0, .int 0, .int 0, .int 0, .int 0, .int 0, .int 0, .int 0, .int 0, .int 0, .int 0, .int 0, .null, .int 0, .int 0, .int 0, .int 0, .null, .int 0, .int 0])), (q1, .inl (y2, 128, .inr (.inl (tbL nmT 69))))] := hD
  refine lv_dup hx hb dX13_init_487 rfl ?_
  refine lv_bipush (v := 69) hx hb dX13_init_488 (by decide) ?_
  refine lv_ldc2 hx hb hown (hts (.constantLong RX13 145 (6080835)) (List.mem_of_getElem? (i := 74) rfl)) dX13_init_490 ?_
  refine va_last (i := 69) (x := 6080835) hx hb hK hP hD hS 1 0 rfl rfl (vp_in_iff.mpr ⟨by decide, by decide⟩) dX13_init_493 (fun H locs hP hD hS => ?_)
  rw [tbL_s nmT 69 (j := 69) (v := 6080835) (by decide) (by decide +kernel)] at hP hD
  have hP : va_P (dC, dI) vwCl [(c0, .inr (14, [.null, .null, .null, .null, .int 0, .int 0, .int 0, .null, .null, .null, .int 0, .null, .null, .int 0, .int 0, .int 0, .int 0, .int 0, .int 0, .int 0, .int 0, .int 0, .int 0, .int 0, .int 0, .int 0, .int 0, .int 0, .int 0, .null, .int 0, .int 0, .int 0, .int 0, .null, .int 0, .int 0])), (q1, .inl (y2, 128, .inr (.inl (tbL nmT 70))))] H := hP
  have hD : va_D A [(c0, .inr (14, [.null, .null, .null, .null, .int 0, .int 0, .int 0, .null, .null, .null, .int 0, .null, .null, .int 0, .int 0, .int 0, .int 0, .int 0, .int 0, .int 0, .int 0, .int 0, .int 0, .int 0, .int 0, .int 0, .int 0, .int 0, .int 0, .null, .int 0, .int 0, .int 0, .int 0, .null, .int 0, .int 0])), (q1, .inl (y2, 128, .inr (.inl (tbL nmT 70))))] := hD
  refine lv_dup hx hb dX13_init_494 rfl ?_
  refine lv_bipush (v := 70) hx hb dX13_init_495 (by decide) ?_
  refine lv_ldc2 hx hb hown (hts (.constantLong RX13 147 (6109507)) (List.mem_of_getElem? (i := 75) rfl)) dX13_init_497 ?_
  refine va_last (i := 70) (x := 6109507) hx hb hK hP hD hS 1 0 rfl rfl (vp_in_iff.mpr ⟨by decide, by decide⟩) dX13_init_500 (fun H locs hP hD hS => ?_)
  rw [tbL_s nmT 70 (j := 70) (v := 6109507) (by decide) (by decide +kernel)] at hP hD
  have hP : va_P (dC, dI) vwCl [(c0, .inr (14, [.null, .null, .null, .null, .int 0, .int 0, .int 0, .null, .null, .null, .int 0, .null, .null, .int 0, .int 0, .int 0, .int 0, .int 0, .int 0, .int 0, .int 0, .int 0, .int 0, .int 0, .int 0, .int 0, .int 0, .int 0, .int 0, .null, .int 0, .int 0, .int 0, .int 0, .null, .int 0, .int 0])), (q1, .inl (y2, 128, .inr (.inl (tbL nmT 71))))] H := hP
  have hD : va_D A [(c0, .inr (14, [.null, .null, .null, .null, .int 0, .int 0, .int 0, .null, .null, .null, .int 0, .null, .null, .int 0, .int 0, .int 0, .int 0, .int 0, .int 0, .int 0, .int 0, .int 0, .int 0, .int 0, .int 0, .int 0, .int 0, .int 0, .int 0, .null, .int 0, .int 0, .int 0, .int 0, .null, .int 0, .int 0])), (q1, .inl (y2, 128, .inr (.inl (tbL nmT 71))))] := hD
  refine lv_dup hx hb dX13_init_501 rfl ?_
  refine lv_bipush (v := 71) hx hb dX13_init_502 (by decide) ?_
  refine lv_ldc2 hx hb hown (hts (.constantLong RX13 149 (272427331)) (List.mem_of_getElem? (i := 76) rfl)) dX13_init_504 ?_
  refine va_last (i := 71) (x := 272427331) hx hb hK hP hD hS 1 0 rfl rfl (vp_in_iff.mpr ⟨by decide, by decide⟩) dX13_init_507 (fun H locs hP hD hS => ?_)
  rw [tbL_s nmT 71 (j := 71) (v := 272427331) (by decide) (by decide +kernel)] at hP hD
  have hP : va_P (dC, dI) vwCl [(c0, .inr (14, [.null, .null, .null, .null, .int 0, .int 0, .int 0, .null, .null, .null, .int 0, .null, .null, .int 0, .int 0, .int 0, .int 0, .int 0, .int 0, .int 0, .int 0, .int 0, .int 0, .int 0, .int 0, .int 0, .int 0, .int 0, .int 0, .null, .int 0, .int 0, .int 0, .int 0, .null, .int 0, .int 0])), (q1, .inl (y2, 128, .inr (.inl (tbL nmT 72))))] H := hP
  have hD : va_D A [(c0, .inr (14, [.null, .null, .null, .null, .int 0, .int 0, .int 0, .null, .null, .null, .int 0, .null, .null, .int 0, .int 0, .int 0, .int 0, .int 0, .int 0, .int 0, .int 0, .int 0, .int 0, .int 0, .int 0, .int 0, .int 0, .int 0, .int 0, .null, .int 0, .int 0, .int 0, .int 0, .null, .int 0, .int 0])), (q1, .inl (y2, 128, .inr (.inl (tbL nmT 72))))] := hD
  refine lv_dup hx hb dX13_init_508 rfl ?_
  refine lv_bipush (v := 72) hx hb dX13_init_509 (by decide) ?_
  refine lv_ldc2 hx hb hown (hts (.constantLong RX13 151 (48452902345027)) (List.mem_of_getElem? (i := 77) rfl)) dX13_init_511 ?_
  refine va_last (i := 72) (x := 48452902345027) hx hb hK hP hD hS 1 0 rfl rfl (vp_in_iff.mpr ⟨by decide, by decide⟩) dX13_init_514 (fun H locs hP hD hS => ?_)
  rw [tbL_s nmT 72 (j := 72) (v := 48452902345027) (by decide) (by decide +kernel)] at hP hD
  have hP : va_P (dC, dI) vwCl [(c0, .inr (14, [.null, .null, .null, .null, .int 0, .int 0, .int 0, .null, .null, .null, .int 0, .null, .null, .int 0, .int 0, .int 0, .int 0, .int 0, .int 0, .int 0, .int 0, .int 0, .int 0, .int 0, .int 0, .int 0, .int 0, .int 0, .int 0, .null, .int 0, .int 0, .int 0, .int 0, .null, .int 0, .int 0])), (q1, .inl (y2, 128, .inr (.inl (tbL nmT 73))))] H := hP
  have hD : va_D A [(c0, .inr (14, [.null, .null, .null, .null, .int 0, .int 0, .int 0, .null, .null, .null, .int 0, .null, .null, .int 0, .int 0, .int 0, .int 0, .int 0, .int 0, .int 0, .int 0, .int 0, .int 0, .int 0, .int 0, .int 0, .int 0, .int 0, .int 0, .null, .int 0, .int 0, .int 0, .int 0, .null, .int 0, .int 0])), (q1, .inl (y2, 128, .inr (.inl (tbL nmT 73))))] := hD
  refine lv_dup hx hb dX13_init_515 rfl ?_
  refine lv_bipush (v := 73) hx hb dX13_init_516 (by decide) ?_
  refine lv_ldc2 hx hb hown (hts (.constantLong RX13 153 (9731840323)) (List.mem_of_getElem? (i := 78) rfl)) dX13_init_518 ?_
  refine va_last (i := 73) (x := 9731840323) hx hb hK hP hD hS 1 0 rfl rfl (vp_in_iff.mpr ⟨by decide, by decide⟩) dX13_init_521 (fun H locs hP hD hS => ?_)
  rw [tbL_s nmT 73 (j := 73) (v := 9731840323) (by decide) (by decide +kernel)] at hP hD
  have hP : va_P (dC, dI) vwCl [(c0, .inr (14, [.null, .null, .null, .null, .int 0, .int 0, .int 0, .null, .null, .null, .int 0, .null, .null, .int 0, .int 0, .int 0, .int 0, .int 0, .int 0, .int 0, .int 0, .int 0, .int 0, .int 0, .int 0, .int 0, .int 0, .int 0, .int 0, .null, .int 0, .int 0, .int 0, .int 0, .null, .int 0, .int 0])), (q1, .inl (y2, 128, .inr (.inl (tbL nmT 74))))] H := hP
  have hD : va_D A [(c0, .inr (14, [.null, .null, .null, .null, .int 0, .int 0, .int 0, .null, .null, .null, .int 0, .null, .null, .int 0, .int 0, .int 0, .int 0, .int 0, .int 0, .int 0, .int 0, .int 0, .int 0, .int 0, .int 0, .int 0, .int 0, .int 0, .int 0, .null, .int 0, .int 0, .int 0, .int 0, .null, .int 0, .int 0])), (q1, .inl (y2, 128, .inr (.inl (tbL nmT 74))))] := hD
  refine lv_dup hx hb dX13_init_522 rfl ?_
  refine lv_bipush (v := 74) hx hb dX13_init_523 (by decide) ?_
  refine lv_ldc2 hx hb hown (hts (.constantLong RX13 155 (2410819)) (List.mem_of_getElem? (i := 79) rfl)) dX13_init_525 ?_
  refine va_last (i := 74) (x := 2410819) hx hb hK hP hD hS 1 0 rfl rfl (vp_in_iff.mpr ⟨by decide, by decide⟩) dX13_init_528 (fun H locs hP hD hS => ?_)
  rw [tbL_s nmT 74 (j := 74) (v := 2410819) (by decide) (by decide +kernel)] at hP hD
  have hP : va_P (dC, dI) vwCl [(c0, .inr (14, [.null, .null, .null, .null, .int 0, .int 0, .int 0, .null, .null, .null, .int 0, .null, .null, .int 0, .int 0, .int 0, .int 0, .int 0, .int 0, .int 0, .int 0, .int 0, .int 0, .int 0, .int 0, .int 0, .int 0, .int 0, .int 0, .null, .int 0, .int 0, .int 0, .int 0, .null, .int 0, .int 0])), (q1, .inl (y2, 128, .inr (.inl (tbL nmT 75))))] H := hP
  have hD : va_D A [(c0, .inr (14, [.null, .null, .null, .null, .int 0, .int 0, .int 0, .null, .null, .null, .int 0, .null, .null, .int 0, .int 0, .int 0, .int 0, .int 0, .int 0, .int 0, .int 0, .int 0, .int 0, .int 0, .int 0, .int 0, .int 0, .int 0, .int 0, .null, .int 0, .int 0, .int 0, .int 0, .null, .int 0, .int 0])), (q1, .inl (y2, 128, .inr (.inl (tbL nmT 75))))] := hD
  refine lv_dup hx hb dX13_init_529 rfl ?_
  refine lv_bipush (v := 75) hx hb dX13_init_530 (by decide) ?_
  refine lv_ldc2 hx hb hown (hts (.constantLong RX13 157 (156551491)) (List.mem_of_getElem? (i := 80) rfl)) dX13_init_532 ?_
  refine va_last (i := 75) (x := 156551491) hx hb hK hP hD hS 1 0 rfl rfl (vp_in_iff.mpr ⟨by decide, by decide⟩) dX13_init_535 (fun H locs hP hD hS => ?_)
  rw [tbL_s nmT 75 (j := 75) (v := 156551491) (by decide) (by decide +kernel)] at hP hD
  have hP : va_P (dC, dI) vwCl [(c0, .inr (14, [.null, .null, .null, .null, .int 0, .int 0, .int 0, .null, .null, .null, .int 0, .null, .null, .int 0, .int 0, .int 0, .int 0, .int 0, .int 0, .int 0, .int 0, .int 0, .int 0, .int 0, .int 0, .int 0, .int 0, .int 0, .int 0, .null, .int 0, .int 0, .int 0, .int 0, .null, .int 0, .int 0])), (q1, .inl (y2, 128, .inr (.inl (tbL nmT 76))))] H := hP
  have hD : va_D A [(c0, .inr (14, [.null, .null, .null, .null, .int 0, .int 0, .int 0, .null, .null, .null, .int 0, .null, .null, .int 0, .int 0, .int 0, .int 0, .int 0, .int 0, .int 0, .int 0, .int 0, .int 0, .int 0, .int 0, .int 0, .int 0, .int 0, .int 0, .null, .int 0, .int 0, .int 0, .int 0, .null, .int 0, .int 0])), (q1, .inl (y2, 128, .inr (.inl (tbL nmT 76))))] := hD
  refine lv_dup hx hb dX13_init_536 rfl ?_
  refine lv_bipush (v := 76) hx hb dX13_init_537 (by decide) ?_
  refine lv_ldc2 hx hb hown (hts (.constantLong RX13 159 (201632067)) (List.mem_of_getElem? (i := 81) rfl)) dX13_init_539 ?_
  refine va_last (i := 76) (x := 201632067) hx hb hK hP hD hS 1 0 rfl rfl (vp_in_iff.mpr ⟨by decide, by decide⟩) dX13_init_542 (fun H locs hP hD hS => ?_)
  rw [tbL_s nmT 76 (j := 76) (v := 201632067) (by decide) (by decide +kernel)] at hP hD
  have hP : va_P (dC, dI) vwCl [(c0, .inr (14, [.null, .null, .null, .null, .int 0, .int 0, .int 0, .null, .null, .null, .int 0, .null, .null, .int 0, .int 0, .int 0, .int 0, .int 0, .int 0, .int 0, .int 0, .int 0, .int 0, .int 0, .int 0, .int 0, .int 0, .int 0, .int 0, .null, .int 0, .int 0, .int 0, .int 0, .null, .int 0, .int 0])), (q1, .inl (y2, 128, .inr (.inl (tbL nmT 77))))] H := hP
  have hD : va_D A [(c0, .inr (14, [.null, .null, .null, .null, .int 0, .int 0, .int 0, .null, .null, .null, .int 0, .null, .null, .int 0, .int 0, .int 0, .int 0, .int 0, .int 0, .int 0, .int 0, .int 0, .int 0, .int 0, .int 0, .int 0, .int 0, .int 0, .int 0, .null, .int 0, .int 0, .int 0, .int 0, .null, .int 0, .int 0])), (q1, .inl (y2, 128, .inr (.inl (tbL nmT 77))))] := hD
  refine lv_dup hx hb dX13_init_543 rfl ?_
  refine lv_bipush (v := 77) hx hb dX13_init_544 (by decide) ?_
  refine lv_ldc2 hx hb hown (hts (.constantLong RX13 161 (43331)) (List.mem_of_getElem? (i := 82) rfl)) dX13_init_546 ?_
  refine va_last (i := 77) (x := 43331) hx hb hK hP hD hS 1 0 rfl rfl (vp_in_iff.mpr ⟨by decide, by decide⟩) dX13_init_549 (fun H locs hP hD hS => ?_)
  rw [tbL_s nmT 77 (j := 77) (v := 43331) (by decide) (by decide +kernel)] at hP hD
  have hP : va_P (dC, dI) vwCl [(c0, .inr (14, [.null, .null, .null, .null, .int 0, .int 0, .int 0, .null, .null, .null, .int 0, .null, .null, .int 0, .int 0, .int 0, .int 0, .int 0, .int 0, .int 0, .int 0, .int 0, .int 0, .int 0, .int 0, .int 0, .int 0, .int 0, .int 0, .null, .int 0, .int 0, .int 0, .int 0, .null, .int 0, .int 0])), (q1, .inl (y2, 128, .inr (.inl (tbL nmT 78))))] H := hP
  have hD : va_D A [(c0, .inr (14, [.null, .null, .null, .null, .int 0, .int 0, .int 0, .null, .null, .null, .int 0, .null, .null, .int 0, .int 0, .int 0, .int 0, .int 0, .int 0, .int 0, .int 0, .int 0, .int 0, .int 0, .int 0, .int 0, .int 0, .int 0, .int 0, .null, .int 0, .int 0, .int 0, .int 0, .null, .int 0, .int 0])), (q1, .inl (y2, 128, .inr (.inl (tbL nmT 78))))] := hD
  refine lv_dup hx hb dX13_init_550 rfl ?_
  refine lv_bipush (v := 78) hx hb dX13_init_551 (by decide) ?_
  refine lv_ldc2 hx hb hown (hts (.constantLong RX13 163 (293725470121269571)) (List.mem_of_getElem? (i := 83) rfl)) dX13_init_553 ?_
  refine va_last (i := 78) (x := 293725470121269571) hx hb hK hP hD hS 1 0 rfl rfl (vp_in_iff.mpr ⟨by decide, by decide⟩) dX13_init_556 (fun H locs hP hD hS => ?_)
  rw [tbL_s nmT 78 (j := 78) (v := 293725470121269571) (by decide) (by decide +kernel)] at hP hD
  have hP : va_P (dC, dI) vwCl [(c0, .inr (14, [.null, .null, .null, .null, .int 0, .int 0, .int 0, .null, .null, .null, .int 0, .null, .null, .int 0, .int 0, .int 0, .int 0, .int 0, .int 0, .int 0, .int 0, .int 0, .int 0, .int 0, .int 0, .int 0, .int 0, .int 0, .int 0, .null, .int 0, .int 0, .int 0, .int 0, .null, .int 0, .int 0])), (q1, .inl (y2, 128, .inr (.inl (tbL nmT 79))))] H := hP
  have hD : va_D A [(c0, .inr (14, [.null, .null, .null, .null, .int 0, .int 0, .int 0, .null, .null, .null, .int 0, .null, .null, .int 0, .int 0, .int 0, .int 0, .int 0, .int 0, .int 0, .int 0, .int 0, .int 0, .int 0, .int 0, .int 0, .int 0, .int 0, .int 0, .null, .int 0, .int 0, .int 0, .int 0, .null, .int 0, .int 0])), (q1, .inl (y2, 128, .inr (.inl (tbL nmT 79))))] := hD
  refine lv_dup hx hb dX13_init_557 rfl ?_
  refine lv_bipush (v := 79) hx hb dX13_init_558 (by decide) ?_
  refine lv_ldc2 hx hb hown (hts (.constantLong RX13 165 (9869801795)) (List.mem_of_getElem? (i := 84) rfl)) dX13_init_560 ?_
  refine va_last (i := 79) (x := 9869801795) hx hb hK hP hD hS 1 0 rfl rfl (vp_in_iff.mpr ⟨by decide, by decide⟩) dX13_init_563 (fun H locs hP hD hS => ?_)
  rw [tbL_s nmT 79 (j := 79) (v := 9869801795) (by decide) (by decide +kernel)] at hP hD
  have hP : va_P (dC, dI) vwCl [(c0, .inr (14, [.null, .null, .null, .null, .int 0, .int 0, .int 0, .null, .null, .null, .int 0, .null, .null, .int 0, .int 0, .int 0, .int 0, .int 0, .int 0, .int 0, .int 0, .int 0, .int 0, .int 0, .int 0, .int 0, .int 0, .int 0, .int 0, .null, .int 0, .int 0, .int 0, .int 0, .null, .int 0, .int 0])), (q1, .inl (y2, 128, .inr (.inl (tbL nmT 80))))] H := hP
  have hD : va_D A [(c0, .inr (14, [.null, .null, .null, .null, .int 0, .int 0, .int 0, .null, .null, .null, .int 0, .null, .null, .int 0, .int 0, .int 0, .int 0, .int 0, .int 0, .int 0, .int 0, .int 0, .int 0, .int 0, .int 0, .int 0, .int 0, .int 0, .int 0, .null, .int 0, .int 0, .int 0, .int 0, .null, .int 0, .int 0])), (q1, .inl (y2, 128, .inr (.inl (tbL nmT 80))))] := hD
  refine lv_dup hx hb dX13_init_564 rfl ?_
  refine lv_bipush (v := 80) hx hb dX13_init_565 (by decide) ?_
  refine lv_ldc2 hx hb hown (hts (.constantLong RX13 167 (9685252419)) (List.mem_of_getElem? (i := 85) rfl)) dX13_init_567 ?_
  refine va_last (i := 80) (x := 9685252419) hx hb hK hP hD hS 1 0 rfl rfl (vp_in_iff.mpr ⟨by decide, by decide⟩) dX13_init_570 (fun H locs hP hD hS => ?_)
  rw [tbL_s nmT 80 (j := 80) (v := 9685252419) (by decide) (by decide +kernel)] at hP hD
  have hP : va_P (dC, dI) vwCl [(c0, .inr (14, [.null, .null, .null, .null, .int 0, .int 0, .int 0, .null, .null, .null, .int 0, .null, .null, .int 0, .int 0, .int 0, .int 0, .int 0, .int 0, .int 0, .int 0, .int 0, .int 0, .int 0, .int 0, .int 0, .int 0, .int 0, .int 0, .null, .int 0, .int 0, .int 0, .int 0, .null, .int 0, .int 0])), (q1, .inl (y2, 128, .inr (.inl (tbL nmT 81))))] H := hP
  have hD : va_D A [(c0, .inr (14, [.null, .null, .null, .null, .int 0, .int 0, .int 0, .null, .null, .null, .int 0, .null, .null, .int 0, .int 0, .int 0, .int 0, .int 0, .int 0, .int 0, .int 0, .int 0, .int 0, .int 0, .int 0, .int 0, .int 0, .int 0, .int 0, .null, .int 0, .int 0, .int 0, .int 0, .null, .int 0, .int 0])), (q1, .inl (y2, 128, .inr (.inl (tbL nmT 81))))] := hD
  refine lv_dup hx hb dX13_init_571 rfl ?_
  refine lv_bipush (v := 81) hx hb dX13_init_572 (by decide) ?_
  refine lv_ldc2 hx hb hown (hts (.constantLong RX13 169 (9734461763)) (List.mem_of_getElem? (i := 86) rfl)) dX13_init_574 ?_
  refine va_last (i := 81) (x := 9734461763) hx hb hK hP hD hS 1 0 rfl rfl (vp_in_iff.mpr ⟨by decide, by decide⟩) dX13_init_577 (fun H locs hP hD hS => ?_)
  rw [tbL_s nmT 81 (j := 81) (v := 9734461763) (by decide) (by decide +kernel)] at hP hD
  have hP : va_P (dC, dI) vwCl [(c0, .inr (14, [.null, .null, .null, .null, .int 0, .int 0, .int 0, .null, .null, .null, .int 0, .null, .null, .int 0, .int 0, .int 0, .int 0, .int 0, .int 0, .int 0, .int 0, .int 0, .int 0, .int 0, .int 0, .int 0, .int 0, .int 0, .int 0, .null, .int 0, .int 0, .int 0, .int 0, .null, .int 0, .int 0])), (q1, .inl (y2, 128, .inr (.inl (tbL nmT 82))))] H := hP
  have hD : va_D A [(c0, .inr (14, [.null, .null, .null, .null, .int 0, .int 0, .int 0, .null, .null, .null, .int 0, .null, .null, .int 0, .int 0, .int 0, .int 0, .int 0, .int 0, .int 0, .int 0, .int 0, .int 0, .int 0, .int 0, .int 0, .int 0, .int 0, .int 0, .null, .int 0, .int 0, .int 0, .int 0, .null, .int 0, .int 0])), (q1, .inl (y2, 128, .inr (.inl (tbL nmT 82))))] := hD
  refine lv_dup hx hb dX13_init_578 rfl ?_
  refine lv_bipush (v := 82) hx hb dX13_init_579 (by decide) ?_
  refine lv_ldc2 hx hb hown (hts (.constantLong RX13 171 (39139651)) (List.mem_of_getElem? (i := 87) rfl)) dX13_init_581 ?_
  refine va_last (i := 82) (x := 39139651) hx hb hK hP hD hS 1 0 rfl rfl (vp_in_iff.mpr ⟨by decide, by decide⟩) dX13_init_584 (fun H locs hP hD hS => ?_)
  rw [tbL_s nmT 82 (j := 82) (v := 39139651) (by decide) (by decide +kernel)] at hP hD
  have hP : va_P (dC, dI) vwCl [(c0, .inr (14, [.null, .null, .null, .null, .int 0, .int 0, .int 0, .null, .null, .null, .int 0, .null, .null, .int 0, .int 0, .int 0, .int 0, .int 0, .int 0, .int 0, .int 0, .int 0, .int 0, .int 0, .int 0, .int 0, .int 0, .int 0, .int 0, .null, .int 0, .int 0, .int 0, .int 0, .null, .int 0, .int 0])), (q1, .inl (y2, 128, .inr (.inl (tbL nmT 83))))] H := hP
  have hD : va_D A [(c0, .inr (14, [.null, .null, .null, .null, .int 0, .int 0, .int 0, .null, .null, .null, .int 0, .null, .null, .int 0, .int 0, .int 0, .int 0, .int 0, .int 0, .int 0, .int 0, .int 0, .int 0, .int 0, .int 0, .int 0, .int 0, .int 0, .int 0, .null, .int 0, .int 0, .int 0, .int 0, .null, .int 0, .int 0])), (q1, .inl (y2, 128, .inr (.inl (tbL nmT 83))))] := hD
  refine lv_dup hx hb dX13_init_585 rfl ?_
  refine lv_bipush (v := 83) hx hb dX13_init_586 (by decide) ?_
  refine lv_ldc2 hx hb hown (hts (.constantLong RX13 173 (306022723)) (List.mem_of_getElem? (i := 88) rfl)) dX13_init_588 ?_
  refine va_last (i := 83) (x := 306022723) hx hb hK hP hD hS 1 0 rfl rfl (vp_in_iff.mpr ⟨by decide, by decide⟩) dX13_init_591 (fun H locs hP hD hS => ?_)
  rw [tbL_s nmT 83 (j := 83) (v := 306022723) (by decide) (by decide +kernel)] at hP hD
  have hP : va_P (dC, dI) vwCl [(c0, .inr (14, [.null, .null, .null, .null, .int 0, .int 0, .int 0, .null, .null, .null, .int 0, .null, .null, .int 0, .int 0, .int 0, .int 0, .int 0, .int 0, .int 0, .int 0, .int 0, .int 0, .int 0, .int 0, .int 0, .int 0, .int 0, .int 0, .null, .int 0, .int 0, .int 0, .int 0, .null, .int 0, .int 0])), (q1, .inl (y2, 128, .inr (.inl (tbL nmT 84))))] H := hP
  have hD : va_D A [(c0, .inr (14, [.null, .null, .null, .null, .int 0, .int 0, .int 0, .null, .null, .null, .int 0, .null, .null, .int 0, .int 0, .int 0, .int 0, .int 0, .int 0, .int 0, .int 0, .int 0, .int 0, .int 0, .int 0, .int 0, .int 0, .int 0, .int 0, .null, .int 0, .int 0, .int 0, .int 0, .null, .int 0, .int 0])), (q1, .inl (y2, 128, .inr (.inl (tbL nmT 84))))] := hD
  refine lv_dup hx hb dX13_init_592 rfl ?_
  refine lv_bipush (v := 84) hx hb dX13_init_593 (by decide) ?_
  refine lv_ldc2 hx hb hown (hts (.constantLong RX13 175 (4782403)) (List.mem_of_getElem? (i := 89) rfl)) dX13_init_595 ?_
  refine va_last (i := 84) (x := 4782403) hx hb hK hP hD hS 1 0 rfl rfl (vp_in_iff.mpr ⟨by decide, by decide⟩) dX13_init_598 (fun H locs hP hD hS => ?_)
  rw [tbL_s nmT 84 (j := 84) (v := 4782403) (by decide) (by decide +kernel)] at hP hD
  have hP : va_P (dC, dI) vwCl [(c0, .inr (14, [.null, .null, .null, .null, .int 0, .int 0, .int 0, .null, .null, .null, .int 0, .null, .null, .int 0, .int 0, .int 0, .int 0, .int 0, .int 0, .int 0, .int 0, .int 0, .int 0, .int 0, .int 0, .int 0, .int 0, .int 0, .int 0, .null, .int 0, .int 0, .int 0, .int 0, .null, .int 0, .int 0])), (q1, .inl (y2, 128, .inr (.inl (tbL nmT 85))))] H := hP
  have hD : va_D A [(c0, .inr (14, [.null, .null, .null, .null, .int 0, .int 0, .int 0, .null, .null, .null, .int 0, .null, .null, .int 0, .int 0, .int 0, .int 0, .int 0, .int 0, .int 0, .int 0, .int 0, .int 0, .int 0, .int 0, .int 0, .int 0, .int 0, .int 0, .null, .int 0, .int 0, .int 0, .int 0, .null, .int 0, .int 0])), (q1, .inl (y2, 128, .inr (.inl (tbL nmT 85))))] := hD
  refine lv_dup hx hb dX13_init_599 rfl ?_
  refine lv_bipush (v := 85) hx hb dX13_init_600 (by decide) ?_
  refine lv_ldc2 hx hb hown (hts (.constantLong RX13 177 (70785347)) (List.mem_of_getElem? (i := 90) rfl)) dX13_init_602 ?_
  refine va_last (i := 85) (x := 70785347) hx hb hK hP hD hS 1 0 rfl rfl (vp_in_iff.mpr ⟨by decide, by decide⟩) dX13_init_605 (fun H locs hP hD hS => ?_)
  rw [tbL_s nmT 85 (j := 85) (v := 70785347) (by decide) (by decide +kernel)] at hP hD
  have hP : va_P (dC, dI) vwCl [(c0, .inr (14, [.null, .null, .null, .null, .int 0, .int 0, .int 0, .null, .null, .null, .int 0, .null, .null, .int 0, .int 0, .int 0, .int 0, .int 0, .int 0, .int 0, .int 0, .int 0, .int 0, .int 0, .int 0, .int 0, .int 0, .int 0, .int 0, .null, .int 0, .int 0, .int 0, .int 0, .null, .int 0, .int 0])), (q1, .inl (y2, 128, .inr (.inl (tbL nmT 86))))] H := hP
  have hD : va_D A [(c0, .inr (14, [.null, .null, .null, .null, .int 0, .int 0, .int 0, .null, .null, .null, .int 0, .null, .null, .int 0, .int 0, .int 0, .int 0, .int 0, .int 0, .int 0, .int 0, .int 0, .int 0, .int 0, .int 0, .int 0, .int 0, .int 0, .int 0, .null, .int 0, .int 0, .int 0, .int 0, .null, .int 0, .int 0])), (q1, .inl (y2, 128, .inr (.inl (tbL nmT 86))))] := hD
  refine lv_dup hx hb dX13_init_606 rfl ?_
  refine lv_bipush (v := 86) hx hb dX13_init_607 (by decide) ?_
  refine lv_ldc2 hx hb hown (hts (.constantLong RX13 179 (28203821379)) (List.mem_of_getElem? (i := 91) rfl)) dX13_init_609 ?_
  refine va_last (i := 86) (x := 28203821379) hx hb hK hP hD hS 1 0 rfl rfl (vp_in_iff.mpr ⟨by decide, by decide⟩) dX13_init_612 (fun H locs hP hD hS => ?_)
  rw [tbL_s nmT 86 (j := 86) (v := 28203821379) (by decide) (by decide +kernel)] at hP hD
  have hP : va_P (dC, dI) vwCl [(c0, .inr (14, [.null, .null, .null, .null, .int 0, .int 0, .int 0, .null, .null, .null, .int 0, .null, .null, .int 0, .int 0, .int 0, .int 0, .int 0, .int 0, .int 0, .int 0, .int 0, .int 0, .int 0, .int 0, .int 0, .int 0, .int 0, .int 0, .null, .int 0, .int 0, .int 0, .int 0, .null, .int 0, .int 0])), (q1, .inl (y2, 128, .inr (.inl (tbL nmT 87))))] H := hP
  have hD : va_D A [(c0, .inr (14, [.null, .null, .null, .null, .int 0, .int 0, .int 0, .null, .null, .null, .int 0, .null, .null, .int 0, .int 0, .int 0, .int 0, .int 0, .int 0, .int 0, .int 0, .int 0, .int 0, .int 0, .int 0, .int 0, .int 0, .int 0, .int 0, .null, .int 0, .int 0, .int 0, .int 0, .null, .int 0, .int 0])), (q1, .inl (y2, 128, .inr (.inl (tbL nmT 87))))] := hD
  refine lv_dup hx hb dX13_init_613 rfl ?_
  refine lv_bipush (v := 87) hx hb dX13_init_614 (by decide) ?_
  refine lv_ldc2 hx hb hown (hts (.constantLong RX13 181 (28004854083)) (List.mem_of_getElem? (i := 92) rfl)) dX13_init_616 ?_
  refine va_last (i := 87) (x := 28004854083) hx hb hK hP hD hS 1 0 rfl rfl (vp_in_iff.mpr ⟨by decide, by decide⟩) dX13_init_619 (fun H locs hP hD hS => ?_)
  rw [tbL_s nmT 87 (j := 87) (v := 28004854083) (by decide) (by decide +kernel)] at hP hD
  have hP : va_P (dC, dI) vwCl [(c0, .inr (14, [.null, .null, .null, .null, .int 0, .int 0, .int 0, .null, .null, .null, .int 0, .null, .null, .int 0, .int 0, .int 0, .int 0, .int 0, .int 0, .int 0, .int 0, .int 0, .int 0, .int 0, .int 0, .int 0, .int 0, .int 0, .int 0, .null, .int 0, .int 0, .int 0, .int 0, .null, .int 0, .int 0])), (q1, .inl (y2, 128, .inr (.inl (tbL nmT 88))))] H := hP
  have hD : va_D A [(c0, .inr (14, [.null, .null, .null, .null, .int 0, .int 0, .int 0, .null, .null, .null, .int 0, .null, .null, .int 0, .int 0, .int 0, .int 0, .int 0, .int 0, .int 0, .int 0, .int 0, .int 0, .int 0, .int 0, .int 0, .int 0, .int 0, .int 0, .null, .int 0, .int 0, .int 0, .int 0, .null, .int 0, .int 0])), (q1, .inl (y2, 128, .inr (.inl (tbL nmT 88))))] := hD
  refine lv_dup hx hb dX13_init_620 rfl ?_
  refine lv_bipush (v := 88) hx hb dX13_init_621 (by decide) ?_
  refine lv_ldc2 hx hb hown (hts (.constantLong RX13 183 (9868228931)) (List.mem_of_getElem? (i := 93) rfl)) dX13_init_623 ?_
  exact kk _ _ _ hK hP hD hS hl


set_option maxHeartbeats 40000000 in
set_option maxRecDepth 100000 in
theorem k_X13_init_s4 {p : Program} {l : Launch} {e : Env} {s : State} {m : MethodId} {args : Array Value} {below : List Frame} {meth : Method} {c : Code} {Q : State → Prop} {A : Nat → Prop} (dC : Nat → ClassId) (dI : Nat → Nat → Nat) (c0 : Nat) (q1 : Nat) (y2 : ClassId) (hlt : l.stackTraces = false) (hx : p.tables.exec = Jvm.exec) (hb : c.code = cX13_init) (hml : c.maxLocals = 1) (hown : s.vm.findClass RX13 = some m.cls) (hts : ∀ w ∈ ow_k_X13_init, w.before args s = true) (hin : meth.name = "<init>") (hN : nv_E dI A s) (hA : ∀ q : Nat, s.heap.size ≤ q → A q) {H : Heap} {locs : List Loc} {ls : Array Slot} (hK : va_K (dC, dI) vwCl [(y2, .long)] s) (hP : va_P (dC, dI) vwCl [(c0, .inr (14, [.null, .null, .null, .null, .int 0, .int 0, .int 0, .null, .null, .null, .int 0, .null, .null, .int 0, .int 0, .int 0, .int 0, .int 0, .int 0, .int 0, .int 0, .int 0, .int 0, .int 0, .int 0, .int 0, .int 0, .int 0, .int 0, .null, .int 0, .int 0, .int 0, .int 0, .null, .int 0, .int 0])), (q1, .inl (y2, 128, .inr (.inl (tbL nmT 88))))] H) (hD : va_D A [(c0, .inr (14, [.null, .null, .null, .null, .int 0, .int 0, .int 0, .null, .null, .null, .int 0, .null, .null, .int 0, .int 0, .int 0, .int 0, .int 0, .int 0, .int 0, .int 0, .int 0, .int 0, .int 0, .int 0, .int 0, .int 0, .int 0, .int 0, .null, .int 0, .int 0, .int 0, .int 0, .null, .int 0, .int 0])), (q1, .inl (y2, 128, .inr (.inl (tbL nmT 88))))]) (hS : va_S A s.heap H locs) (hl : lv_has ls 1 [(0, .ref c0)]) (kk : ∀ (H : Heap) (locs : List Loc) (ls : Array Slot), va_K (dC, dI) vwCl [(y2, .long)] s → va_P (dC, dI) vwCl [(c0, .inr (14, [.null, .null, .null, .null, .int 0, .int 0, .int 0, .null, .null, .null, .int 0, .null, .null, .int 0, .int 0, .int 0, .int 0, .int 0, .int 0, .int 0, .int 0, .int 0, .int 0, .int 0, .int 0, .int 0, .int 0, .int 0, .int 0, .null, .int 0, .int 0, .int 0, .int 0, .null, .int 0, .int 0])), (q1, .inl (y2, 128, .inr (.inl (tbL nmT 111))))] H → va_D A [(c0, .inr (14, [.null, .null, .null, .null, .int 0, .int 0, .int 0, .null, .null, .null, .int 0, .null, .null, .int 0, .int 0, .int 0, .int 0, .int 0, .int 0, .int 0, .int 0, .int 0, .int 0, .int 0, .int 0, .int 0, .int 0, .int 0, .int 0, .null, .int 0, .int 0, .int 0, .int 0, .null, .int 0, .int 0])), (q1, .inl (y2, 128, .inr (.inl (tbL nmT 111))))] → va_S A s.heap H locs → lv_has ls 1 [(0, .ref c0)] → W p l e (headSpec ow_k_X13_init ({ frames := 1, cells := 10, slots := 131956, locals := 12 })).room s m args below meth c H locs 1 128 Q (F0 m 782 ls [.ref q1, .ref q1, .ref c0])) : W p l e (headSpec ow_k_X13_init ({ frames := 1, cells := 10, slots := 131956, locals := 12 })).room s m args below meth c H locs 1 128 Q (F0 m 626 ls [.long 9868228931, .int 88, .ref q1, .ref q1, .ref c0]) := by
  refine va_last (i := 88) (x := 9868228931) hx hb hK hP hD hS 1 0 rfl rfl (vp_in_iff.mpr ⟨by decide, by decide⟩) dX13_init_626 (fun H locs hP hD hS => ?_)
  rw [tbL_s nmT 88 (j := 88) (v := 9868228931) (by decide) (by decide +kernel)] at hP hD
  have hP : va_P (dC, dI) vwCl [(c0, .inr (14, [.null, .null, .null, .null, .int 0, .int 0, .int 0, .null, .null, .null, .int 0, .null, .null, .int 0, .int 0, .int 0, .int 0, .int 0, .int 0, .int 0, .int 0, .int 0, .int 0, .int 0, .int 0, .int 0, .int 0, .int 0, .int 0, .null, .int 0, .int 0, .int 0, .int 0, .null, .int 0, .int 0])), (q1, .inl (y2, 128, .inr (.inl (tbL nmT 89))))] H := hP
  have hD : va_D A [(c0, .inr (14, [.null, .null, .null, .null, .int 0, .int 0, .int 0, .null, .null, .null, .int 0, .null, .null, .int 0, .int 0, .int 0, .int 0, .int 0, .int 0, .int 0, .int 0, .int 0, .int 0, .int 0, .int 0, .int 0, .int 0, .int 0, .int 0, .null, .int 0, .int 0, .int 0, .int 0, .null, .int 0, .int 0])), (q1, .inl (y2, 128, .inr (.inl (tbL nmT 89))))] := hD
  refine lv_dup hx hb dX13_init_627 rfl ?_
  refine lv_bipush (v := 89) hx hb dX13_init_628 (by decide) ?_
  refine lv_ldc2 hx hb hown (hts (.constantLong RX13 185 (17504717123)) (List.mem_of_getElem? (i := 94) rfl)) dX13_init_630 ?_
  refine va_last (i := 89) (x := 17504717123) hx hb hK hP hD hS 1 0 rfl rfl (vp_in_iff.mpr ⟨by decide, by decide⟩) dX13_init_633 (fun H locs hP hD hS => ?_)
  rw [tbL_s nmT 89 (j := 89) (v := 17504717123) (by decide) (by decide +kernel)] at hP hD
  have hP : va_P (dC, dI) vwCl [(c0, .inr (14, [.null, .null, .null, .null, .int 0, .int 0, .int 0, .null, .null, .null, .int 0, .null, .null, .int 0, .int 0, .int 0, .int 0, .int 0, .int 0, .int 0, .int 0, .int 0, .int 0, .int 0, .int 0, .int 0, .int 0, .int 0, .int 0, .null, .int 0, .int 0, .int 0, .int 0, .null, .int 0, .int 0])), (q1, .inl (y2, 128, .inr (.inl (tbL nmT 90))))] H := hP
  have hD : va_D A [(c0, .inr (14, [.null, .null, .null, .null, .int 0, .int 0, .int 0, .null, .null, .null, .int 0, .null, .null, .int 0, .int 0, .int 0, .int 0, .int 0, .int 0, .int 0, .int 0, .int 0, .int 0, .int 0, .int 0, .int 0, .int 0, .int 0, .int 0, .null, .int 0, .int 0, .int 0, .int 0, .null, .int 0, .int 0])), (q1, .inl (y2, 128, .inr (.inl (tbL nmT 90))))] := hD
  refine lv_dup hx hb dX13_init_634 rfl ?_
  refine lv_bipush (v := 90) hx hb dX13_init_635 (by decide) ?_
  refine lv_ldc2 hx hb hown (hts (.constantLong RX13 187 (4761923)) (List.mem_of_getElem? (i := 95) rfl)) dX13_init_637 ?_
  refine va_last (i := 90) (x := 4761923) hx hb hK hP hD hS 1 0 rfl rfl (vp_in_iff.mpr ⟨by decide, by decide⟩) dX13_init_640 (fun H locs hP hD hS => ?_)
  rw [tbL_s nmT 90 (j := 90) (v := 4761923) (by decide) (by decide +kernel)] at hP hD
  have hP : va_P (dC, dI) vwCl [(c0, .inr (14, [.null, .null, .null, .null, .int 0, .int 0, .int 0, .null, .null, .null, .int 0, .null, .null, .int 0, .int 0, .int 0, .int 0, .int 0, .int 0, .int 0, .int 0, .int 0, .int 0, .int 0, .int 0, .int 0, .int 0, .int 0, .int 0, .null, .int 0, .int 0, .int 0, .int 0, .null, .int 0, .int 0])), (q1, .inl (y2, 128, .inr (.inl (tbL nmT 91))))] H := hP
  have hD : va_D A [(c0, .inr (14, [.null, .null, .null, .null, .int 0, .int 0, .int 0, .null, .null, .null, .int 0, .null, .null, .int 0, .int 0, .int 0, .int 0, .int 0, .int 0, .int 0, .int 0, .int 0, .int 0, .int 0, .int 0, .int 0, .int 0, .int 0, .int 0, .null, .int 0, .int 0, .int 0, .int 0, .null, .int 0, .int 0])), (q1, .inl (y2, 128, .inr (.inl (tbL nmT 91))))] := hD
  refine lv_dup hx hb dX13_init_641 rfl ?_
  refine lv_bipush (v := 91) hx hb dX13_init_642 (by decide) ?_
  refine lv_ldc2 hx hb hown (hts (.constantLong RX13 189 (19528984899)) (List.mem_of_getElem? (i := 96) rfl)) dX13_init_644 ?_
  refine va_last (i := 91) (x := 19528984899) hx hb hK hP hD hS 1 0 rfl rfl (vp_in_iff.mpr ⟨by decide, by decide⟩) dX13_init_647 (fun H locs hP hD hS => ?_)
  rw [tbL_s nmT 91 (j := 91) (v := 19528984899) (by decide) (by decide +kernel)] at hP hD
  have hP : va_P (dC, dI) vwCl [(c0, .inr (14, [.null, .null, .null, .null, .int 0, .int 0, .int 0, .null, .null, .null, .int 0, .null, .null, .int 0, .int 0, .int 0, .int 0, .int 0, .int 0, .int 0, .int 0, .int 0, .int 0, .int 0, .int 0, .int 0, .int 0, .int 0, .int 0, .null, .int 0, .int 0, .int 0, .int 0, .null, .int 0, .int 0])), (q1, .inl (y2, 128, .inr (.inl (tbL nmT 92))))] H := hP
  have hD : va_D A [(c0, .inr (14, [.null, .null, .null, .null, .int 0, .int 0, .int 0, .null, .null, .null, .int 0, .null, .null, .int 0, .int 0, .int 0, .int 0, .int 0, .int 0, .int 0, .int 0, .int 0, .int 0, .int 0, .int 0, .int 0, .int 0, .int 0, .int 0, .null, .int 0, .int 0, .int 0, .int 0, .null, .int 0, .int 0])), (q1, .inl (y2, 128, .inr (.inl (tbL nmT 92))))] := hD
  refine lv_dup hx hb dX13_init_648 rfl ?_
  refine lv_bipush (v := 92) hx hb dX13_init_649 (by decide) ?_
  refine lv_ldc2 hx hb hown (hts (.constantLong RX13 191 (5822787)) (List.mem_of_getElem? (i := 97) rfl)) dX13_init_651 ?_
  refine va_last (i := 92) (x := 5822787) hx hb hK hP hD hS 1 0 rfl rfl (vp_in_iff.mpr ⟨by decide, by decide⟩) dX13_init_654 (fun H locs hP hD hS => ?_)
  rw [tbL_s nmT 92 (j := 92) (v := 5822787) (by decide) (by decide +kernel)] at hP hD
  have hP : va_P (dC, dI) vwCl [(c0, .inr (14, [.null, .null, .null, .null, .int 0, .int 0, .int 0, .null, .null, .null, .int 0, .null, .null, .int 0, .int 0, .int 0, .int 0, .int 0, .int 0, .int 0, .int 0, .int 0, .int 0, .int 0, .int 0, .int 0, .int 0, .int 0, .int 0, .null, .int 0, .int 0, .int 0, .int 0, .null, .int 0, .int 0])), (q1, .inl (y2, 128, .inr (.inl (tbL nmT 93))))] H := hP
  have hD : va_D A [(c0, .inr (14, [.null, .null, .null, .null, .int 0, .int 0, .int 0, .null, .null, .null, .int 0, .null, .null, .int 0, .int 0, .int 0, .int 0, .int 0, .int 0, .int 0, .int 0, .int 0, .int 0, .int 0, .int 0, .int 0, .int 0, .int 0, .int 0, .null, .int 0, .int 0, .int 0, .int 0, .null, .int 0, .int 0])), (q1, .inl (y2, 128, .inr (.inl (tbL nmT 93))))] := hD
  refine lv_dup hx hb dX13_init_655 rfl ?_
  refine lv_bipush (v := 93) hx hb dX13_init_656 (by decide) ?_
  refine lv_ldc2 hx hb hown (hts (.constantLong RX13 193 (68163907)) (List.mem_of_getElem? (i := 98) rfl)) dX13_init_658 ?_
  refine va_last (i := 93) (x := 68163907) hx hb hK hP hD hS 1 0 rfl rfl (vp_in_iff.mpr ⟨by decide, by decide⟩) dX13_init_661 (fun H locs hP hD hS => ?_)
  rw [tbL_s nmT 93 (j := 93) (v := 68163907) (by decide) (by decide +kernel)] at hP hD
  have hP : va_P (dC, dI) vwCl [(c0, .inr (14, [.null, .null, .null, .null, .int 0, .int 0, .int 0, .null, .null, .null, .int 0, .null, .null, .int 0, .int 0, .int 0, .int 0, .int 0, .int 0, .int 0, .int 0, .int 0, .int 0, .int 0, .int 0, .int 0, .int 0, .int 0, .int 0, .null, .int 0, .int 0, .int 0, .int 0, .null, .int 0, .int 0])), (q1, .inl (y2, 128, .inr (.inl (tbL nmT 94))))] H := hP
  have hD : va_D A [(c0, .inr (14, [.null, .null, .null, .null, .int 0, .int 0, .int 0, .null, .null, .null, .int 0, .null, .null, .int 0, .int 0, .int 0, .int 0, .int 0, .int 0, .int 0, .int 0, .int 0, .int 0, .int 0, .int 0, .int 0, .int 0, .int 0, .int 0, .null, .int 0, .int 0, .int 0, .int 0, .null, .int 0, .int 0])), (q1, .inl (y2, 128, .inr (.inl (tbL nmT 94))))] := hD
  refine lv_dup hx hb dX13_init_662 rfl ?_
  refine lv_bipush (v := 94) hx hb dX13_init_663 (by decide) ?_
  refine lv_ldc2 hx hb hown (hts (.constantLong RX13 195 (17504745795)) (List.mem_of_getElem? (i := 99) rfl)) dX13_init_665 ?_
  refine va_last (i := 94) (x := 17504745795) hx hb hK hP hD hS 1 0 rfl rfl (vp_in_iff.mpr ⟨by decide, by decide⟩) dX13_init_668 (fun H locs hP hD hS => ?_)
  rw [tbL_s nmT 94 (j := 94) (v := 17504745795) (by decide) (by decide +kernel)] at hP hD
  have hP : va_P (dC, dI) vwCl [(c0, .inr (14, [.null, .null, .null, .null, .int 0, .int 0, .int 0, .null, .null, .null, .int 0, .null, .null, .int 0, .int 0, .int 0, .int 0, .int 0, .int 0, .int 0, .int 0, .int 0, .int 0, .int 0, .int 0, .int 0, .int 0, .int 0, .int 0, .null, .int 0, .int 0, .int 0, .int 0, .null, .int 0, .int 0])), (q1, .inl (y2, 128, .inr (.inl (tbL nmT 95))))] H := hP
  have hD : va_D A [(c0, .inr (14, [.null, .null, .null, .null, .int 0, .int 0, .int 0, .null, .null, .null, .int 0, .null, .null, .int 0, .int 0, .int 0, .int 0, .int 0, .int 0, .int 0, .int 0, .int 0, .int 0, .int 0, .int 0, .int 0, .int 0, .int 0, .int 0, .null, .int 0, .int 0, .int 0, .int 0, .null, .int 0, .int 0])), (q1, .inl (y2, 128, .inr (.inl (tbL nmT 95))))] := hD
  refine lv_dup hx hb dX13_init_669 rfl ?_
  refine lv_bipush (v := 95) hx hb dX13_init_670 (by decide) ?_
  refine lv_ldc2 hx hb hown (hts (.constantLong RX13 197 (1421)) (List.mem_of_getElem? (i := 100) rfl)) dX13_init_672 ?_
  refine va_last (i := 95) (x := 1421) hx hb hK hP hD hS 1 0 rfl rfl (vp_in_iff.mpr ⟨by decide, by decide⟩) dX13_init_675 (fun H locs hP hD hS => ?_)
  rw [tbL_s nmT 95 (j := 95) (v := 1421) (by decide) (by decide +kernel)] at hP hD
  have hP : va_P (dC, dI) vwCl [(c0, .inr (14, [.null, .null, .null, .null, .int 0, .int 0, .int 0, .null, .null, .null, .int 0, .null, .null, .int 0, .int 0, .int 0, .int 0, .int 0, .int 0, .int 0, .int 0, .int 0, .int 0, .int 0, .int 0, .int 0, .int 0, .int 0, .int 0, .null, .int 0, .int 0, .int 0, .int 0, .null, .int 0, .int 0])), (q1, .inl (y2, 128, .inr (.inl (tbL nmT 96))))] H := hP
  have hD : va_D A [(c0, .inr (14, [.null, .null, .null, .null, .int 0, .int 0, .int 0, .null, .null, .null, .int 0, .null, .null, .int 0, .int 0, .int 0, .int 0, .int 0, .int 0, .int 0, .int 0, .int 0, .int 0, .int 0, .int 0, .int 0, .int 0, .int 0, .int 0, .null, .int 0, .int 0, .int 0, .int 0, .null, .int 0, .int 0])), (q1, .inl (y2, 128, .inr (.inl (tbL nmT 96))))] := hD
  refine lv_dup hx hb dX13_init_676 rfl ?_
  refine lv_bipush (v := 96) hx hb dX13_init_677 (by decide) ?_
  refine lv_ldc2 hx hb hown (hts (.constantLong RX13 199 (82894)) (List.mem_of_getElem? (i := 101) rfl)) dX13_init_679 ?_
  refine va_last (i := 96) (x := 82894) hx hb hK hP hD hS 1 0 rfl rfl (vp_in_iff.mpr ⟨by decide, by decide⟩) dX13_init_682 (fun H locs hP hD hS => ?_)
  rw [tbL_s nmT 96 (j := 96) (v := 82894) (by decide) (by decide +kernel)] at hP hD
  have hP : va_P (dC, dI) vwCl [(c0, .inr (14, [.null, .null, .null, .null, .int 0, .int 0, .int 0, .null, .null, .null, .int 0, .null, .null, .int 0, .int 0, .int 0, .int 0, .int 0, .int 0, .int 0, .int 0, .int 0, .int 0, .int 0, .int 0, .int 0, .int 0, .int 0, .int 0, .null, .int 0, .int 0, .int 0, .int 0, .null, .int 0, .int 0])), (q1, .inl (y2, 128, .inr (.inl (tbL nmT 97))))] H := hP
  have hD : va_D A [(c0, .inr (14, [.null, .null, .null, .null, .int 0, .int 0, .int 0, .null, .null, .null, .int 0, .null, .null, .int 0, .int 0, .int 0, .int 0, .int 0, .int 0, .int 0, .int 0, .int 0, .int 0, .int 0, .int 0, .int 0, .int 0, .int 0, .int 0, .null, .int 0, .int 0, .int 0, .int 0, .null, .int 0, .int 0])), (q1, .inl (y2, 128, .inr (.inl (tbL nmT 97))))] := hD
  refine lv_dup hx hb dX13_init_683 rfl ?_
  refine lv_bipush (v := 97) hx hb dX13_init_684 (by decide) ?_
  refine lv_ldc2 hx hb hown (hts (.constantLong RX13 201 (6885715)) (List.mem_of_getElem? (i := 102) rfl)) dX13_init_686 ?_
  refine va_last (i := 97) (x := 6885715) hx hb hK hP hD hS 1 0 rfl rfl (vp_in_iff.mpr ⟨by decide, by decide⟩) dX13_init_689 (fun H locs hP hD hS => ?_)
  rw [tbL_s nmT 97 (j := 97) (v := 6885715) (by decide) (by decide +kernel)] at hP hD
  have hP : va_P (dC, dI) vwCl [(c0, .inr (14, [.null, .null, .null, .null, .int 0, .int 0, .int 0, .null, .null, .null, .int 0, .null, .null, .int 0, .int 0, .int 0, .int 0, .int 0, .int 0, .int 0, .int 0, .int 0, .int 0, .int 0, .int 0, .int 0, .int 0, .int 0, .int 0, .null, .int 0, .int 0, .int 0, .int 0, .null, .int 0, .int 0])), (q1, .inl (y2, 128, .inr (.inl (tbL nmT 98))))] H := hP
  have hD : va_D A [(c0, .inr (14, [.null, .null, .null, .null, .int 0, .int 0, .int 0, .null, .null, .null, .int 0, .null, .null, .int 0, .int 0, .int 0, .int 0, .int 0, .int 0, .int 0, .int 0, .int 0, .int 0, .int 0, .int 0, .int 0, .int 0, .int 0, .int 0, .null, .int 0, .int 0, .int 0, .int 0, .null, .int 0, .int 0])), (q1, .inl (y2, 128, .inr (.inl (tbL nmT 98))))] := hD
  refine lv_dup hx hb dX13_init_690 rfl ?_
  refine lv_bipush (v := 98) hx hb dX13_init_691 (by decide) ?_
  refine lv_ldc2 hx hb hown (hts (.constantLong RX13 203 (6898451)) (List.mem_of_getElem? (i := 103) rfl)) dX13_init_693 ?_
  refine va_last (i := 98) (x := 6898451) hx hb hK hP hD hS 1 0 rfl rfl (vp_in_iff.mpr ⟨by decide, by decide⟩) dX13_init_696 (fun H locs hP hD hS => ?_)
  rw [tbL_s nmT 98 (j := 98) (v := 6898451) (by decide) (by decide +kernel)] at hP hD
  have hP : va_P (dC, dI) vwCl [(c0, .inr (14, [.null, .null, .null, .null, .int 0, .int 0, .int 0, .null, .null, .null, .int 0, .null, .null, .int 0, .int 0, .int 0, .int 0, .int 0, .int 0, .int 0, .int 0, .int 0, .int 0, .int 0, .int 0, .int 0, .int 0, .int 0, .int 0, .null, .int 0, .int 0, .int 0, .int 0, .null, .int 0, .int 0])), (q1, .inl (y2, 128, .inr (.inl (tbL nmT 99))))] H := hP
  have hD : va_D A [(c0, .inr (14, [.null, .null, .null, .null, .int 0, .int 0, .int 0, .null, .null, .null, .int 0, .null, .null, .int 0, .int 0, .int 0, .int 0, .int 0, .int 0, .int 0, .int 0, .int 0, .int 0, .int 0, .int 0, .int 0, .int 0, .int 0, .int 0, .null, .int 0, .int 0, .int 0, .int 0, .null, .int 0, .int 0])), (q1, .inl (y2, 128, .inr (.inl (tbL nmT 99))))] := hD
  refine lv_dup hx hb dX13_init_697 rfl ?_
  refine lv_bipush (v := 99) hx hb dX13_init_698 (by decide) ?_
  refine lv_ldc2 hx hb hown (hts (.constantLong RX13 205 (29006)) (List.mem_of_getElem? (i := 104) rfl)) dX13_init_700 ?_
  refine va_last (i := 99) (x := 29006) hx hb hK hP hD hS 1 0 rfl rfl (vp_in_iff.mpr ⟨by decide, by decide⟩) dX13_init_703 (fun H locs hP hD hS => ?_)
  rw [tbL_s nmT 99 (j := 99) (v := 29006) (by decide) (by decide +kernel)] at hP hD
  have hP : va_P (dC, dI) vwCl [(c0, .inr (14, [.null, .null, .null, .null, .int 0, .int 0, .int 0, .null, .null, .null, .int 0, .null, .null, .int 0, .int 0, .int 0, .int 0, .int 0, .int 0, .int 0, .int 0, .int 0, .int 0, .int 0, .int 0, .int 0, .int 0, .int 0, .int 0, .null, .int 0, .int 0, .int 0, .int 0, .null, .int 0, .int 0])), (q1, .inl (y2, 128, .inr (.inl (tbL nmT 100))))] H := hP
  have hD : va_D A [(c0, .inr (14, [.null, .null, .null, .null, .int 0, .int 0, .int 0, .null, .null, .null, .int 0, .null, .null, .int 0, .int 0, .int 0, .int 0, .int 0, .int 0, .int 0, .int 0, .int 0, .int 0, .int 0, .int 0, .int 0, .int 0, .int 0, .int 0, .null, .int 0, .int 0, .int 0, .int 0, .null, .int 0, .int 0])), (q1, .inl (y2, 128, .inr (.inl (tbL nmT 100))))] := hD
  refine lv_dup hx hb dX13_init_704 rfl ?_
  refine lv_bipush (v := 100) hx hb dX13_init_705 (by decide) ?_
  refine lv_ldc2 hx hb hown (hts (.constantLong RX13 207 (6837139)) (List.mem_of_getElem? (i := 105) rfl)) dX13_init_707 ?_
  refine va_last (i := 100) (x := 6837139) hx hb hK hP hD hS 1 0 rfl rfl (vp_in_iff.mpr ⟨by decide, by decide⟩) dX13_init_710 (fun H locs hP hD hS => ?_)
  rw [tbL_s nmT 100 (j := 100) (v := 6837139) (by decide) (by decide +kernel)] at hP hD
  have hP : va_P (dC, dI) vwCl [(c0, .inr (14, [.null, .null, .null, .null, .int 0, .int 0, .int 0, .null, .null, .null, .int 0, .null, .null, .int 0, .int 0, .int 0, .int 0, .int 0, .int 0, .int 0, .int 0, .int 0, .int 0, .int 0, .int 0, .int 0, .int 0, .int 0, .int 0, .null, .int 0, .int 0, .int 0, .int 0, .null, .int 0, .int 0])), (q1, .inl (y2, 128, .inr (.inl (tbL nmT 101))))] H := hP
  have hD : va_D A [(c0, .inr (14, [.null, .null, .null, .null, .int 0, .int 0, .int 0, .null, .null, .null, .int 0, .null, .null, .int 0, .int 0, .int 0, .int 0, .int 0, .int 0, .int 0, .int 0, .int 0, .int 0, .int 0, .int 0, .int 0, .int 0, .int 0, .int 0, .null, .int 0, .int 0, .int 0, .int 0, .null, .int 0, .int 0])), (q1, .inl (y2, 128, .inr (.inl (tbL nmT 101))))] := hD
  refine lv_dup hx hb dX13_init_711 rfl ?_
  refine lv_bipush (v := 101) hx hb dX13_init_712 (by decide) ?_
  refine lv_ldc2 hx hb hown (hts (.constantLong RX13 209 (6898131)) (List.mem_of_getElem? (i := 106) rfl)) dX13_init_714 ?_
  refine va_last (i := 101) (x := 6898131) hx hb hK hP hD hS 1 0 rfl rfl (vp_in_iff.mpr ⟨by decide, by decide⟩) dX13_init_717 (fun H locs hP hD hS => ?_)
  rw [tbL_s nmT 101 (j := 101) (v := 6898131) (by decide) (by decide +kernel)] at hP hD
  have hP : va_P (dC, dI) vwCl [(c0, .inr (14, [.null, .null, .null, .null, .int 0, .int 0, .int 0, .null, .null, .null, .int 0, .null, .null, .int 0, .int 0, .int 0, .int 0, .int 0, .int 0, .int 0, .int 0, .int 0, .int 0, .int 0, .int 0, .int 0, .int 0, .int 0, .int 0, .null, .int 0, .int 0, .int 0, .int 0, .null, .int 0, .int 0])), (q1, .inl (y2, 128, .inr (.inl (tbL nmT 102))))] H := hP
  have hD : va_D A [(c0, .inr (14, [.null, .null, .null, .null, .int 0, .int 0, .int 0, .null, .null, .null, .int 0, .null, .null, .int 0, .int 0, .int 0, .int 0, .int 0, .int 0, .int 0, .int 0, .int 0, .int 0, .int 0, .int 0, .int 0, .int 0, .int 0, .int 0, .null, .int 0, .int 0, .int 0, .int 0, .null, .int 0, .int 0])), (q1, .inl (y2, 128, .inr (.inl (tbL nmT 102))))] := hD
  refine lv_dup hx hb dX13_init_718 rfl ?_
  refine lv_bipush (v := 102) hx hb dX13_init_719 (by decide) ?_
  refine lv_ldc2 hx hb hown (hts (.constantLong RX13 211 (1162)) (List.mem_of_getElem? (i := 107) rfl)) dX13_init_721 ?_
  refine va_last (i := 102) (x := 1162) hx hb hK hP hD hS 1 0 rfl rfl (vp_in_iff.mpr ⟨by decide, by decide⟩) dX13_init_724 (fun H locs hP hD hS => ?_)
  rw [tbL_s nmT 102 (j := 102) (v := 1162) (by decide) (by decide +kernel)] at hP hD
  have hP : va_P (dC, dI) vwCl [(c0, .inr (14, [.null, .null, .null, .null, .int 0, .int 0, .int 0, .null, .null, .null, .int 0, .null, .null, .int 0, .int 0, .int 0, .int 0, .int 0, .int 0, .int 0, .int 0, .int 0, .int 0, .int 0, .int 0, .int 0, .int 0, .int 0, .int 0, .null, .int 0, .int 0, .int 0, .int 0, .null, .int 0, .int 0])), (q1, .inl (y2, 128, .inr (.inl (tbL nmT 103))))] H := hP
  have hD : va_D A [(c0, .inr (14, [.null, .null, .null, .null, .int 0, .int 0, .int 0, .null, .null, .null, .int 0, .null, .null, .int 0, .int 0, .int 0, .int 0, .int 0, .int 0, .int 0, .int 0, .int 0, .int 0, .int 0, .int 0, .int 0, .int 0, .int 0, .int 0, .null, .int 0, .int 0, .int 0, .int 0, .null, .int 0, .int 0])), (q1, .inl (y2, 128, .inr (.inl (tbL nmT 103))))] := hD
  refine lv_dup hx hb dX13_init_725 rfl ?_
  refine lv_bipush (v := 103) hx hb dX13_init_726 (by decide) ?_
  refine lv_ldc2 hx hb hown (hts (.constantLong RX13 213 (3194947)) (List.mem_of_getElem? (i := 108) rfl)) dX13_init_728 ?_
  refine va_last (i := 103) (x := 3194947) hx hb hK hP hD hS 1 0 rfl rfl (vp_in_iff.mpr ⟨by decide, by decide⟩) dX13_init_731 (fun H locs hP hD hS => ?_)
  rw [tbL_s nmT 103 (j := 103) (v := 3194947) (by decide) (by decide +kernel)] at hP hD
  have hP : va_P (dC, dI) vwCl [(c0, .inr (14, [.null, .null, .null, .null, .int 0, .int 0, .int 0, .null, .null, .null, .int 0, .null, .null, .int 0, .int 0, .int 0, .int 0, .int 0, .int 0, .int 0, .int 0, .int 0, .int 0, .int 0, .int 0, .int 0, .int 0, .int 0, .int 0, .null, .int 0, .int 0, .int 0, .int 0, .null, .int 0, .int 0])), (q1, .inl (y2, 128, .inr (.inl (tbL nmT 104))))] H := hP
  have hD : va_D A [(c0, .inr (14, [.null, .null, .null, .null, .int 0, .int 0, .int 0, .null, .null, .null, .int 0, .null, .null, .int 0, .int 0, .int 0, .int 0, .int 0, .int 0, .int 0, .int 0, .int 0, .int 0, .int 0, .int 0, .int 0, .int 0, .int 0, .int 0, .null, .int 0, .int 0, .int 0, .int 0, .null, .int 0, .int 0])), (q1, .inl (y2, 128, .inr (.inl (tbL nmT 104))))] := hD
  refine lv_dup hx hb dX13_init_732 rfl ?_
  refine lv_bipush (v := 104) hx hb dX13_init_733 (by decide) ?_
  refine lv_ldc2 hx hb hown (hts (.constantLong RX13 215 (10)) (List.mem_of_getElem? (i := 109) rfl)) dX13_init_735 ?_
  refine va_last (i := 104) (x := 10) hx hb hK hP hD hS 1 0 rfl rfl (vp_in_iff.mpr ⟨by decide, by decide⟩) dX13_init_738 (fun H locs hP hD hS => ?_)
  rw [tbL_s nmT 104 (j := 104) (v := 10) (by decide) (by decide +kernel)] at hP hD
  have hP : va_P (dC, dI) vwCl [(c0, .inr (14, [.null, .null, .null, .null, .int 0, .int 0, .int 0, .null, .null, .null, .int 0, .null, .null, .int 0, .int 0, .int 0, .int 0, .int 0, .int 0, .int 0, .int 0, .int 0, .int 0, .int 0, .int 0, .int 0, .int 0, .int 0, .int 0, .null, .int 0, .int 0, .int 0, .int 0, .null, .int 0, .int 0])), (q1, .inl (y2, 128, .inr (.inl (tbL nmT 105))))] H := hP
  have hD : va_D A [(c0, .inr (14, [.null, .null, .null, .null, .int 0, .int 0, .int 0, .null, .null, .null, .int 0, .null, .null, .int 0, .int 0, .int 0, .int 0, .int 0, .int 0, .int 0, .int 0, .int 0, .int 0, .int 0, .int 0, .int 0, .int 0, .int 0, .int 0, .null, .int 0, .int 0, .int 0, .int 0, .null, .int 0, .int 0])), (q1, .inl (y2, 128, .inr (.inl (tbL nmT 105))))] := hD
  refine lv_dup hx hb dX13_init_739 rfl ?_
  refine lv_bipush (v := 105) hx hb dX13_init_740 (by decide) ?_
  refine lv_ldc2 hx hb hown (hts (.constantLong RX13 217 (3182676)) (List.mem_of_getElem? (i := 110) rfl)) dX13_init_742 ?_
  refine va_last (i := 105) (x := 3182676) hx hb hK hP hD hS 1 0 rfl rfl (vp_in_iff.mpr ⟨by decide, by decide⟩) dX13_init_745 (fun H locs hP hD hS => ?_)
  rw [tbL_s nmT 105 (j := 105) (v := 3182676) (by decide) (by decide +kernel)] at hP hD
  have hP : va_P (dC, dI) vwCl [(c0, .inr (14, [.null, .null, .null, .null, .int 0, .int 0, .int 0, .null, .null, .null, .int 0, .null, .null, .int 0, .int 0, .int 0, .int 0, .int 0, .int 0, .int 0, .int 0, .int 0, .int 0, .int 0, .int 0, .int 0, .int 0, .int 0, .int 0, .null, .int 0, .int 0, .int 0, .int 0, .null, .int 0, .int 0])), (q1, .inl (y2, 128, .inr (.inl (tbL nmT 106))))] H := hP
  have hD : va_D A [(c0, .inr (14, [.null, .null, .null, .null, .int 0, .int 0, .int 0, .null, .null, .null, .int 0, .null, .null, .int 0, .int 0, .int 0, .int 0, .int 0, .int 0, .int 0, .int 0, .int 0, .int 0, .int 0, .int 0, .int 0, .int 0, .int 0, .int 0, .null, .int 0, .int 0, .int 0, .int 0, .null, .int 0, .int 0])), (q1, .inl (y2, 128, .inr (.inl (tbL nmT 106))))] := hD
  refine lv_dup hx hb dX13_init_746 rfl ?_
  refine lv_bipush (v := 106) hx hb dX13_init_747 (by decide) ?_
  refine lv_ldc2 hx hb hown (hts (.constantLong RX13 219 (6885698)) (List.mem_of_getElem? (i := 111) rfl)) dX13_init_749 ?_
  refine va_last (i := 106) (x := 6885698) hx hb hK hP hD hS 1 0 rfl rfl (vp_in_iff.mpr ⟨by decide, by decide⟩) dX13_init_752 (fun H locs hP hD hS => ?_)
  rw [tbL_s nmT 106 (j := 106) (v := 6885698) (by decide) (by decide +kernel)] at hP hD
  have hP : va_P (dC, dI) vwCl [(c0, .inr (14, [.null, .null, .null, .null, .int 0, .int 0, .int 0, .null, .null, .null, .int 0, .null, .null, .int 0, .int 0, .int 0, .int 0, .int 0, .int 0, .int 0, .int 0, .int 0, .int 0, .int 0, .int 0, .int 0, .int 0, .int 0, .int 0, .null, .int 0, .int 0, .int 0, .int 0, .null, .int 0, .int 0])), (q1, .inl (y2, 128, .inr (.inl (tbL nmT 107))))] H := hP
  have hD : va_D A [(c0, .inr (14, [.null, .null, .null, .null, .int 0, .int 0, .int 0, .null, .null, .null, .int 0, .null, .null, .int 0, .int 0, .int 0, .int 0, .int 0, .int 0, .int 0, .int 0, .int 0, .int 0, .int 0, .int 0, .int 0, .int 0, .int 0, .int 0, .null, .int 0, .int 0, .int 0, .int 0, .null, .int 0, .int 0])), (q1, .inl (y2, 128, .inr (.inl (tbL nmT 107))))] := hD
  refine lv_dup hx hb dX13_init_753 rfl ?_
  refine lv_bipush (v := 107) hx hb dX13_init_754 (by decide) ?_
  refine lv_ldc2 hx hb hown (hts (.constantLong RX13 221 (6837122)) (List.mem_of_getElem? (i := 112) rfl)) dX13_init_756 ?_
  refine va_last (i := 107) (x := 6837122) hx hb hK hP hD hS 1 0 rfl rfl (vp_in_iff.mpr ⟨by decide, by decide⟩) dX13_init_759 (fun H locs hP hD hS => ?_)
  rw [tbL_s nmT 107 (j := 107) (v := 6837122) (by decide) (by decide +kernel)] at hP hD
  have hP : va_P (dC, dI) vwCl [(c0, .inr (14, [.null, .null, .null, .null, .int 0, .int 0, .int 0, .null, .null, .null, .int 0, .null, .null, .int 0, .int 0, .int 0, .int 0, .int 0, .int 0, .int 0, .int 0, .int 0, .int 0, .int 0, .int 0, .int 0, .int 0, .int 0, .int 0, .null, .int 0, .int 0, .int 0, .int 0, .null, .int 0, .int 0])), (q1, .inl (y2, 128, .inr (.inl (tbL nmT 108))))] H := hP
  have hD : va_D A [(c0, .inr (14, [.null, .null, .null, .null, .int 0, .int 0, .int 0, .null, .null, .null, .int 0, .null, .null, .int 0, .int 0, .int 0, .int 0, .int 0, .int 0, .int 0, .int 0, .int 0, .int 0, .int 0, .int 0, .int 0, .int 0, .int 0, .int 0, .null, .int 0, .int 0, .int 0, .int 0, .null, .int 0, .int 0])), (q1, .inl (y2, 128, .inr (.inl (tbL nmT 108))))] := hD
  refine lv_dup hx hb dX13_init_760 rfl ?_
  refine lv_bipush (v := 108) hx hb dX13_init_761 (by decide) ?_
  refine lv_ldc2 hx hb hown (hts (.constantLong RX13 223 (6836674)) (List.mem_of_getElem? (i := 113) rfl)) dX13_init_763 ?_
  refine va_last (i := 108) (x := 6836674) hx hb hK hP hD hS 1 0 rfl rfl (vp_in_iff.mpr ⟨by decide, by decide⟩) dX13_init_766 (fun H locs hP hD hS => ?_)
  rw [tbL_s nmT 108 (j := 108) (v := 6836674) (by decide) (by decide +kernel)] at hP hD
  have hP : va_P (dC, dI) vwCl [(c0, .inr (14, [.null, .null, .null, .null, .int 0, .int 0, .int 0, .null, .null, .null, .int 0, .null, .null, .int 0, .int 0, .int 0, .int 0, .int 0, .int 0, .int 0, .int 0, .int 0, .int 0, .int 0, .int 0, .int 0, .int 0, .int 0, .int 0, .null, .int 0, .int 0, .int 0, .int 0, .null, .int 0, .int 0])), (q1, .inl (y2, 128, .inr (.inl (tbL nmT 109))))] H := hP
  have hD : va_D A [(c0, .inr (14, [.null, .null, .null, .null, .int 0, .int 0, .int 0, .null, .null, .null, .int 0, .null, .null, .int 0, .int 0, .int 0, .int 0, .int 0, .int 0, .int 0, .int 0, .int 0, .int 0, .int 0, .int 0, .int 0, .int 0, .int 0, .int 0, .null, .int 0, .int 0, .int 0, .int 0, .null, .int 0, .int 0])), (q1, .inl (y2, 128, .inr (.inl (tbL nmT 109))))] := hD
  refine lv_dup hx hb dX13_init_767 rfl ?_
  refine lv_bipush (v := 109) hx hb dX13_init_768 (by decide) ?_
  refine lv_ldc2 hx hb hown (hts (.constantLong RX13 225 (6898434)) (List.mem_of_getElem? (i := 114) rfl)) dX13_init_770 ?_
  refine va_last (i := 109) (x := 6898434) hx hb hK hP hD hS 1 0 rfl rfl (vp_in_iff.mpr ⟨by decide, by decide⟩) dX13_init_773 (fun H locs hP hD hS => ?_)
  rw [tbL_s nmT 109 (j := 109) (v := 6898434) (by decide) (by decide +kernel)] at hP hD
  have hP : va_P (dC, dI) vwCl [(c0, .inr (14, [.null, .null, .null, .null, .int 0, .int 0, .int 0, .null, .null, .null, .int 0, .null, .null, .int 0, .int 0, .int 0, .int 0, .int 0, .int 0, .int 0, .int 0, .int 0, .int 0, .int 0, .int 0, .int 0, .int 0, .int 0, .int 0, .null, .int 0, .int 0, .int 0, .int 0, .null, .int 0, .int 0])), (q1, .inl (y2, 128, .inr (.inl (tbL nmT 110))))] H := hP
  have hD : va_D A [(c0, .inr (14, [.null, .null, .null, .null, .int 0, .int 0, .int 0, .null, .null, .null, .int 0, .null, .null, .int 0, .int 0, .int 0, .int 0, .int 0, .int 0, .int 0, .int 0, .int 0, .int 0, .int 0, .int 0, .int 0, .int 0, .int 0, .int 0, .null, .int 0, .int 0, .int 0, .int 0, .null, .int 0, .int 0])), (q1, .inl (y2, 128, .inr (.inl (tbL nmT 110))))] := hD
  refine lv_dup hx hb dX13_init_774 rfl ?_
  refine lv_bipush (v := 110) hx hb dX13_init_775 (by decide) ?_
  refine lv_ldc2 hx hb hown (hts (.constantLong RX13 227 (6836994)) (List.mem_of_getElem? (i := 115) rfl)) dX13_init_777 ?_
  refine va_last (i := 110) (x := 6836994) hx hb hK hP hD hS 1 0 rfl rfl (vp_in_iff.mpr ⟨by decide, by decide⟩) dX13_init_780 (fun H locs hP hD hS => ?_)
  rw [tbL_s nmT 110 (j := 110) (v := 6836994) (by decide) (by decide +kernel)] at hP hD
  have hP : va_P (dC, dI) vwCl [(c0, .inr (14, [.null, .null, .null, .null, .int 0, .int 0, .int 0, .null, .null, .null, .int 0, .null, .null, .int 0, .int 0, .int 0, .int 0, .int 0, .int 0, .int 0, .int 0, .int 0, .int 0, .int 0, .int 0, .int 0, .int 0, .int 0, .int 0, .null, .int 0, .int 0, .int 0, .int 0, .null, .int 0, .int 0])), (q1, .inl (y2, 128, .inr (.inl (tbL nmT 111))))] H := hP
  have hD : va_D A [(c0, .inr (14, [.null, .null, .null, .null, .int 0, .int 0, .int 0, .null, .null, .null, .int 0, .null, .null, .int 0, .int 0, .int 0, .int 0, .int 0, .int 0, .int 0, .int 0, .int 0, .int 0, .int 0, .int 0, .int 0, .int 0, .int 0, .int 0, .null, .int 0, .int 0, .int 0, .int 0, .null, .int 0, .int 0])), (q1, .inl (y2, 128, .inr (.inl (tbL nmT 111))))] := hD
  refine lv_dup hx hb dX13_init_781 rfl ?_
  exact kk _ _ _ hK hP hD hS hl


set_option maxHeartbeats 40000000 in
set_option maxRecDepth 100000 in
theorem k_X13_init_s5 {p : Program} {l : Launch} {e : Env} {s : State} {m : MethodId} {args : Array Value} {below : List Frame} {meth : Method} {c : Code} {Q : State → Prop} {A : Nat → Prop} (dC : Nat → ClassId) (dI : Nat → Nat → Nat) (c0 : Nat) (q1 : Nat) (y2 : ClassId) (hlt : l.stackTraces = false) (hx : p.tables.exec = Jvm.exec) (hb : c.code = cX13_init) (hml : c.maxLocals = 1) (hown : s.vm.findClass RX13 = some m.cls) (hts : ∀ w ∈ ow_k_X13_init, w.before args s = true) (hin : meth.name = "<init>") (hN : nv_E dI A s) (hA : ∀ q : Nat, s.heap.size ≤ q → A q) {H : Heap} {locs : List Loc} {ls : Array Slot} (hK : va_K (dC, dI) vwCl [(y2, .long)] s) (hP : va_P (dC, dI) vwCl [(c0, .inr (14, [.null, .null, .null, .null, .int 0, .int 0, .int 0, .null, .null, .null, .int 0, .null, .null, .int 0, .int 0, .int 0, .int 0, .int 0, .int 0, .int 0, .int 0, .int 0, .int 0, .int 0, .int 0, .int 0, .int 0, .int 0, .int 0, .null, .int 0, .int 0, .int 0, .int 0, .null, .int 0, .int 0])), (q1, .inl (y2, 128, .inr (.inl (tbL nmT 111))))] H) (hD : va_D A [(c0, .inr (14, [.null, .null, .null, .null, .int 0, .int 0, .int 0, .null, .null, .null, .int 0, .null, .null, .int 0, .int 0, .int 0, .int 0, .int 0, .int 0, .int 0, .int 0, .int 0, .int 0, .int 0, .int 0, .int 0, .int 0, .int 0, .int 0, .null, .int 0, .int 0, .int 0, .int 0, .null, .int 0, .int 0])), (q1, .inl (y2, 128, .inr (.inl (tbL nmT 111))))]) (hS : va_S A s.heap H locs) (hl : lv_has ls 1 [(0, .ref c0)]) (kk : ∀ (q131 : Nat) (y132 : ClassId) (H : Heap) (locs : List Loc) (ls : Array Slot), va_K (dC, dI) vwCl [(y2, .long), (y132, .byte)] s → va_P (dC, dI) vwCl [(c0, .inr (14, [.ref q1, .null, .null, .null, .int 0, .int 0, .int 0, .null, .null, .null, .int 0, .null, .null, .int 0, .int 0, .int 0, .int 0, .int 0, .int 0, .int 0, .int 0, .int 0, .int 0, .int 0, .int 0, .int 0, .int 0, .int 0, .int 0, .null, .int 0, .int 0, .int 0, .int 0, .null, .int 0, .int 0])), (q1, .inl (y2, 128, .inr (.inl (tbL nmT 128)))), (q131, .inl (y132, 128, .inl (tbI shT 4)))] H → va_D A [(c0, .inr (14, [.ref q1, .null, .null, .null, .int 0, .int 0, .int 0, .null, .null, .null, .int 0, .null, .null, .int 0, .int 0, .int 0, .int 0, .int 0, .int 0, .int 0, .int 0, .int 0, .int 0, .int 0, .int 0, .int 0, .int 0, .int 0, .int 0, .null, .int 0, .int 0, .int 0, .int 0, .null, .int 0, .int 0])), (q1, .inl (y2, 128, .inr (.inl (tbL nmT 128)))), (q131, .inl (y132, 128, .inl (tbI shT 4)))] → va_S A s.heap H locs → lv_has ls 1 [(0, .ref c0)] → W p l e (headSpec ow_k_X13_init ({ frames := 1, cells := 10, slots := 131956, locals := 12 })).room s m args below meth c H locs 2 256 Q (F0 m 928 ls [.int 1, .int 4, .ref q131, .ref q131, .ref c0])) : W p l e (headSpec ow_k_X13_init ({ frames := 1, cells := 10, slots := 131956, locals := 12 })).room s m args below meth c H locs 1 128 Q (F0 m 782 ls [.ref q1, .ref q1, .ref c0]) := by
  refine lv_bipush (v := 111) hx hb dX13_init_782 (by decide) ?_
  refine lv_ldc2 hx hb hown (hts (.constantLong RX13 229 (6898114)) (List.mem_of_getElem? (i := 116) rfl)) dX13_init_784 ?_
  refine va_last (i := 111) (x := 6898114) hx hb hK hP hD hS 1 0 rfl rfl (vp_in_iff.mpr ⟨by decide, by decide⟩) dX13_init_787 (fun H locs hP hD hS => ?_)
  rw [tbL_s nmT 111 (j := 111) (v := 6898114) (by decide) (by decide +kernel)] at hP hD
  have hP : va_P (dC, dI) vwCl [(c0, .inr (14, [.null, .null, .null, .null, .int 0, .int 0, .int 0, .null, .null, .null, .int 0, .null, .null, .int 0, .int 0, .int 0, .int 0, .int 0, .int 0, .int 0, .int 0, .int 0, .int 0, .int 0, .int 0, .int 0, .int 0, .int 0, .int 0, .null, .int 0, .int 0, .int 0, .int 0, .null, .int 0, .int 0])), (q1, .inl (y2, 128, .inr (.inl (tbL nmT 112))))] H := hP
  have hD : va_D A [(c0, .inr (14, [.null, .null, .null, .null, .int 0, .int 0, .int 0, .null, .null, .null, .int 0, .null, .null, .int 0, .int 0, .int 0, .int 0, .int 0, .int 0, .int 0, .int 0, .int 0, .int 0, .int 0, .int 0, .int 0, .int 0, .int 0, .int 0, .null, .int 0, .int 0, .int 0, .int 0, .null, .int 0, .int 0])), (q1, .inl (y2, 128, .inr (.inl (tbL nmT 112))))] := hD
  refine lv_dup hx hb dX13_init_788 rfl ?_
  refine lv_bipush (v := 112) hx hb dX13_init_789 (by decide) ?_
  refine lv_ldc2 hx hb hown (hts (.constantLong RX13 231 (82370)) (List.mem_of_getElem? (i := 117) rfl)) dX13_init_791 ?_
  refine va_last (i := 112) (x := 82370) hx hb hK hP hD hS 1 0 rfl rfl (vp_in_iff.mpr ⟨by decide, by decide⟩) dX13_init_794 (fun H locs hP hD hS => ?_)
  rw [tbL_s nmT 112 (j := 112) (v := 82370) (by decide) (by decide +kernel)] at hP hD
  have hP : va_P (dC, dI) vwCl [(c0, .inr (14, [.null, .null, .null, .null, .int 0, .int 0, .int 0, .null, .null, .null, .int 0, .null, .null, .int 0, .int 0, .int 0, .int 0, .int 0, .int 0, .int 0, .int 0, .int 0, .int 0, .int 0, .int 0, .int 0, .int 0, .int 0, .int 0, .null, .int 0, .int 0, .int 0, .int 0, .null, .int 0, .int 0])), (q1, .inl (y2, 128, .inr (.inl (tbL nmT 113))))] H := hP
  have hD : va_D A [(c0, .inr (14, [.null, .null, .null, .null, .int 0, .int 0, .int 0, .null, .null, .null, .int 0, .null, .null, .int 0, .int 0, .int 0, .int 0, .int 0, .int 0, .int 0, .int 0, .int 0, .int 0, .int 0, .int 0, .int 0, .int 0, .int 0, .int 0, .null, .int 0, .int 0, .int 0, .int 0, .null, .int 0, .int 0])), (q1, .inl (y2, 128, .inr (.inl (tbL nmT 113))))] := hD
  refine lv_dup hx hb dX13_init_795 rfl ?_
  refine lv_bipush (v := 113) hx hb dX13_init_796 (by decide) ?_
  refine lv_ldc2 hx hb hown (hts (.constantLong RX13 233 (21250)) (List.mem_of_getElem? (i := 118) rfl)) dX13_init_798 ?_
  refine va_last (i := 113) (x := 21250) hx hb hK hP hD hS 1 0 rfl rfl (vp_in_iff.mpr ⟨by decide, by decide⟩) dX13_init_801 (fun H locs hP hD hS => ?_)
  rw [tbL_s nmT 113 (j := 113) (v := 21250) (by decide) (by decide +kernel)] at hP hD
  have hP : va_P (dC, dI) vwCl [(c0, .inr (14, [.null, .null, .null, .null, .int 0, .int 0, .int 0, .null, .null, .null, .int 0, .null, .null, .int 0, .int 0, .int 0, .int 0, .int 0, .int 0, .int 0, .int 0, .int 0, .int 0, .int 0, .int 0, .int 0, .int 0, .int 0, .int 0, .null, .int 0, .int 0, .int 0, .int 0, .null, .int 0, .int 0])), (q1, .inl (y2, 128, .inr (.inl (tbL nmT 114))))] H := hP
  have hD : va_D A [(c0, .inr (14, [.null, .null, .null, .null, .int 0, .int 0, .int 0, .null, .null, .null, .int 0, .null, .null, .int 0, .int 0, .int 0, .int 0, .int 0, .int 0, .int 0, .int 0, .int 0, .int 0, .int 0, .int 0, .int 0, .int 0, .int 0, .int 0, .null, .int 0, .int 0, .int 0, .int 0, .null, .int 0, .int 0])), (q1, .inl (y2, 128, .inr (.inl (tbL nmT 114))))] := hD
  refine lv_dup hx hb dX13_init_802 rfl ?_
  refine lv_bipush (v := 114) hx hb dX13_init_803 (by decide) ?_
  refine lv_ldc2 hx hb hown (hts (.constantLong RX13 235 (5587394)) (List.mem_of_getElem? (i := 119) rfl)) dX13_init_805 ?_
  refine va_last (i := 114) (x := 5587394) hx hb hK hP hD hS 1 0 rfl rfl (vp_in_iff.mpr ⟨by decide, by decide⟩) dX13_init_808 (fun H locs hP hD hS => ?_)
  rw [tbL_s nmT 114 (j := 114) (v := 5587394) (by decide) (by decide +kernel)] at hP hD
  have hP : va_P (dC, dI) vwCl [(c0, .inr (14, [.null, .null, .null, .null, .int 0, .int 0, .int 0, .null, .null, .null, .int 0, .null, .null, .int 0, .int 0, .int 0, .int 0, .int 0, .int 0, .int 0, .int 0, .int 0, .int 0, .int 0, .int 0, .int 0, .int 0, .int 0, .int 0, .null, .int 0, .int 0, .int 0, .int 0, .null, .int 0, .int 0])), (q1, .inl (y2, 128, .inr (.inl (tbL nmT 115))))] H := hP
  have hD : va_D A [(c0, .inr (14, [.null, .null, .null, .null, .int 0, .int 0, .int 0, .null, .null, .null, .int 0, .null, .null, .int 0, .int 0, .int 0, .int 0, .int 0, .int 0, .int 0, .int 0, .int 0, .int 0, .int 0, .int 0, .int 0, .int 0, .int 0, .int 0, .null, .int 0, .int 0, .int 0, .int 0, .null, .int 0, .int 0])), (q1, .inl (y2, 128, .inr (.inl (tbL nmT 115))))] := hD
  refine lv_dup hx hb dX13_init_809 rfl ?_
  refine lv_bipush (v := 115) hx hb dX13_init_810 (by decide) ?_
  refine lv_ldc2 hx hb hown (hts (.constantLong RX13 237 (5526274)) (List.mem_of_getElem? (i := 120) rfl)) dX13_init_812 ?_
  refine va_last (i := 115) (x := 5526274) hx hb hK hP hD hS 1 0 rfl rfl (vp_in_iff.mpr ⟨by decide, by decide⟩) dX13_init_815 (fun H locs hP hD hS => ?_)
  rw [tbL_s nmT 115 (j := 115) (v := 5526274) (by decide) (by decide +kernel)] at hP hD
  have hP : va_P (dC, dI) vwCl [(c0, .inr (14, [.null, .null, .null, .null, .int 0, .int 0, .int 0, .null, .null, .null, .int 0, .null, .null, .int 0, .int 0, .int 0, .int 0, .int 0, .int 0, .int 0, .int 0, .int 0, .int 0, .int 0, .int 0, .int 0, .int 0, .int 0, .int 0, .null, .int 0, .int 0, .int 0, .int 0, .null, .int 0, .int 0])), (q1, .inl (y2, 128, .inr (.inl (tbL nmT 116))))] H := hP
  have hD : va_D A [(c0, .inr (14, [.null, .null, .null, .null, .int 0, .int 0, .int 0, .null, .null, .null, .int 0, .null, .null, .int 0, .int 0, .int 0, .int 0, .int 0, .int 0, .int 0, .int 0, .int 0, .int 0, .int 0, .int 0, .int 0, .int 0, .int 0, .int 0, .null, .int 0, .int 0, .int 0, .int 0, .null, .int 0, .int 0])), (q1, .inl (y2, 128, .inr (.inl (tbL nmT 116))))] := hD
  refine lv_dup hx hb dX13_init_816 rfl ?_
  refine lv_bipush (v := 116) hx hb dX13_init_817 (by decide) ?_
  refine lv_ldc2 hx hb hown (hts (.constantLong RX13 239 (76)) (List.mem_of_getElem? (i := 121) rfl)) dX13_init_819 ?_
  refine va_last (i := 116) (x := 76) hx hb hK hP hD hS 1 0 rfl rfl (vp_in_iff.mpr ⟨by decide, by decide⟩) dX13_init_822 (fun H locs hP hD hS => ?_)
  rw [tbL_s nmT 116 (j := 116) (v := 76) (by decide) (by decide +kernel)] at hP hD
  have hP : va_P (dC, dI) vwCl [(c0, .inr (14, [.null, .null, .null, .null, .int 0, .int 0, .int 0, .null, .null, .null, .int 0, .null, .null, .int 0, .int 0, .int 0, .int 0, .int 0, .int 0, .int 0, .int 0, .int 0, .int 0, .int 0, .int 0, .int 0, .int 0, .int 0, .int 0, .null, .int 0, .int 0, .int 0, .int 0, .null, .int 0, .int 0])), (q1, .inl (y2, 128, .inr (.inl (tbL nmT 117))))] H := hP
  have hD : va_D A [(c0, .inr (14, [.null, .null, .null, .null, .int 0, .int 0, .int 0, .null, .null, .null, .int 0, .null, .null, .int 0, .int 0, .int 0, .int 0, .int 0, .int 0, .int 0, .int 0, .int 0, .int 0, .int 0, .int 0, .int 0, .int 0, .int 0, .int 0, .null, .int 0, .int 0, .int 0, .int 0, .null, .int 0, .int 0])), (q1, .inl (y2, 128, .inr (.inl (tbL nmT 117))))] := hD
  refine lv_dup hx hb dX13_init_823 rfl ?_
  refine lv_bipush (v := 117) hx hb dX13_init_824 (by decide) ?_
  refine lv_ldc2 hx hb hown (hts (.constantLong RX13 241 (588)) (List.mem_of_getElem? (i := 122) rfl)) dX13_init_826 ?_
  refine va_last (i := 117) (x := 588) hx hb hK hP hD hS 1 0 rfl rfl (vp_in_iff.mpr ⟨by decide, by decide⟩) dX13_init_829 (fun H locs hP hD hS => ?_)
  rw [tbL_s nmT 117 (j := 117) (v := 588) (by decide) (by decide +kernel)] at hP hD
  have hP : va_P (dC, dI) vwCl [(c0, .inr (14, [.null, .null, .null, .null, .int 0, .int 0, .int 0, .null, .null, .null, .int 0, .null, .null, .int 0, .int 0, .int 0, .int 0, .int 0, .int 0, .int 0, .int 0, .int 0, .int 0, .int 0, .int 0, .int 0, .int 0, .int 0, .int 0, .null, .int 0, .int 0, .int 0, .int 0, .null, .int 0, .int 0])), (q1, .inl (y2, 128, .inr (.inl (tbL nmT 118))))] H := hP
  have hD : va_D A [(c0, .inr (14, [.null, .null, .null, .null, .int 0, .int 0, .int 0, .null, .null, .null, .int 0, .null, .null, .int 0, .int 0, .int 0, .int 0, .int 0, .int 0, .int 0, .int 0, .int 0, .int 0, .int 0, .int 0, .int 0, .int 0, .int 0, .int 0, .null, .int 0, .int 0, .int 0, .int 0, .null, .int 0, .int 0])), (q1, .inl (y2, 128, .inr (.inl (tbL nmT 118))))] := hD
  refine lv_dup hx hb dX13_init_830 rfl ?_
  refine lv_bipush (v := 118) hx hb dX13_init_831 (by decide) ?_
  refine lv_ldc2 hx hb hown (hts (.constantLong RX13 243 (341857573)) (List.mem_of_getElem? (i := 123) rfl)) dX13_init_833 ?_
  refine va_last (i := 118) (x := 341857573) hx hb hK hP hD hS 1 0 rfl rfl (vp_in_iff.mpr ⟨by decide, by decide⟩) dX13_init_836 (fun H locs hP hD hS => ?_)
  rw [tbL_s nmT 118 (j := 118) (v := 341857573) (by decide) (by decide +kernel)] at hP hD
  have hP : va_P (dC, dI) vwCl [(c0, .inr (14, [.null, .null, .null, .null, .int 0, .int 0, .int 0, .null, .null, .null, .int 0, .null, .null, .int 0, .int 0, .int 0, .int 0, .int 0, .int 0, .int 0, .int 0, .int 0, .int 0, .int 0, .int 0, .int 0, .int 0, .int 0, .int 0, .null, .int 0, .int 0, .int 0, .int 0, .null, .int 0, .int 0])), (q1, .inl (y2, 128, .inr (.inl (tbL nmT 119))))] H := hP
  have hD : va_D A [(c0, .inr (14, [.null, .null, .null, .null, .int 0, .int 0, .int 0, .null, .null, .null, .int 0, .null, .null, .int 0, .int 0, .int 0, .int 0, .int 0, .int 0, .int 0, .int 0, .int 0, .int 0, .int 0, .int 0, .int 0, .int 0, .int 0, .int 0, .null, .int 0, .int 0, .int 0, .int 0, .null, .int 0, .int 0])), (q1, .inl (y2, 128, .inr (.inl (tbL nmT 119))))] := hD
  refine lv_dup hx hb dX13_init_837 rfl ?_
  refine lv_bipush (v := 119) hx hb dX13_init_838 (by decide) ?_
  refine lv_ldc2 hx hb hown (hts (.constantLong RX13 245 (22024485)) (List.mem_of_getElem? (i := 124) rfl)) dX13_init_840 ?_
  refine va_last (i := 119) (x := 22024485) hx hb hK hP hD hS 1 0 rfl rfl (vp_in_iff.mpr ⟨by decide, by decide⟩) dX13_init_843 (fun H locs hP hD hS => ?_)
  rw [tbL_s nmT 119 (j := 119) (v := 22024485) (by decide) (by decide +kernel)] at hP hD
  have hP : va_P (dC, dI) vwCl [(c0, .inr (14, [.null, .null, .null, .null, .int 0, .int 0, .int 0, .null, .null, .null, .int 0, .null, .null, .int 0, .int 0, .int 0, .int 0, .int 0, .int 0, .int 0, .int 0, .int 0, .int 0, .int 0, .int 0, .int 0, .int 0, .int 0, .int 0, .null, .int 0, .int 0, .int 0, .int 0, .null, .int 0, .int 0])), (q1, .inl (y2, 128, .inr (.inl (tbL nmT 120))))] H := hP
  have hD : va_D A [(c0, .inr (14, [.null, .null, .null, .null, .int 0, .int 0, .int 0, .null, .null, .null, .int 0, .null, .null, .int 0, .int 0, .int 0, .int 0, .int 0, .int 0, .int 0, .int 0, .int 0, .int 0, .int 0, .int 0, .int 0, .int 0, .int 0, .int 0, .null, .int 0, .int 0, .int 0, .int 0, .null, .int 0, .int 0])), (q1, .inl (y2, 128, .inr (.inl (tbL nmT 120))))] := hD
  refine lv_dup hx hb dX13_init_844 rfl ?_
  refine lv_bipush (v := 120) hx hb dX13_init_845 (by decide) ?_
  refine lv_ldc2 hx hb hown (hts (.constantLong RX13 247 (5575013)) (List.mem_of_getElem? (i := 125) rfl)) dX13_init_847 ?_
  refine va_last (i := 120) (x := 5575013) hx hb hK hP hD hS 1 0 rfl rfl (vp_in_iff.mpr ⟨by decide, by decide⟩) dX13_init_850 (fun H locs hP hD hS => ?_)
  rw [tbL_s nmT 120 (j := 120) (v := 5575013) (by decide) (by decide +kernel)] at hP hD
  have hP : va_P (dC, dI) vwCl [(c0, .inr (14, [.null, .null, .null, .null, .int 0, .int 0, .int 0, .null, .null, .null, .int 0, .null, .null, .int 0, .int 0, .int 0, .int 0, .int 0, .int 0, .int 0, .int 0, .int 0, .int 0, .int 0, .int 0, .int 0, .int 0, .int 0, .int 0, .null, .int 0, .int 0, .int 0, .int 0, .null, .int 0, .int 0])), (q1, .inl (y2, 128, .inr (.inl (tbL nmT 121))))] H := hP
  have hD : va_D A [(c0, .inr (14, [.null, .null, .null, .null, .int 0, .int 0, .int 0, .null, .null, .null, .int 0, .null, .null, .int 0, .int 0, .int 0, .int 0, .int 0, .int 0, .int 0, .int 0, .int 0, .int 0, .int 0, .int 0, .int 0, .int 0, .int 0, .int 0, .null, .int 0, .int 0, .int 0, .int 0, .null, .int 0, .int 0])), (q1, .inl (y2, 128, .inr (.inl (tbL nmT 121))))] := hD
  refine lv_dup hx hb dX13_init_851 rfl ?_
  refine lv_bipush (v := 121) hx hb dX13_init_852 (by decide) ?_
  refine lv_ldc2 hx hb hown (hts (.constantLong RX13 249 (89231525)) (List.mem_of_getElem? (i := 126) rfl)) dX13_init_854 ?_
  refine va_last (i := 121) (x := 89231525) hx hb hK hP hD hS 1 0 rfl rfl (vp_in_iff.mpr ⟨by decide, by decide⟩) dX13_init_857 (fun H locs hP hD hS => ?_)
  rw [tbL_s nmT 121 (j := 121) (v := 89231525) (by decide) (by decide +kernel)] at hP hD
  have hP : va_P (dC, dI) vwCl [(c0, .inr (14, [.null, .null, .null, .null, .int 0, .int 0, .int 0, .null, .null, .null, .int 0, .null, .null, .int 0, .int 0, .int 0, .int 0, .int 0, .int 0, .int 0, .int 0, .int 0, .int 0, .int 0, .int 0, .int 0, .int 0, .int 0, .int 0, .null, .int 0, .int 0, .int 0, .int 0, .null, .int 0, .int 0])), (q1, .inl (y2, 128, .inr (.inl (tbL nmT 122))))] H := hP
  have hD : va_D A [(c0, .inr (14, [.null, .null, .null, .null, .int 0, .int 0, .int 0, .null, .null, .null, .int 0, .null, .null, .int 0, .int 0, .int 0, .int 0, .int 0, .int 0, .int 0, .int 0, .int 0, .int 0, .int 0, .int 0, .int 0, .int 0, .int 0, .int 0, .null, .int 0, .int 0, .int 0, .int 0, .null, .int 0, .int 0])), (q1, .inl (y2, 128, .inr (.inl (tbL nmT 122))))] := hD
  refine lv_dup hx hb dX13_init_858 rfl ?_
  refine lv_bipush (v := 122) hx hb dX13_init_859 (by decide) ?_
  refine lv_ldc2 hx hb hown (hts (.constantLong RX13 251 (103813669)) (List.mem_of_getElem? (i := 127) rfl)) dX13_init_861 ?_
  refine va_last (i := 122) (x := 103813669) hx hb hK hP hD hS 1 0 rfl rfl (vp_in_iff.mpr ⟨by decide, by decide⟩) dX13_init_864 (fun H locs hP hD hS => ?_)
  rw [tbL_s nmT 122 (j := 122) (v := 103813669) (by decide) (by decide +kernel)] at hP hD
  have hP : va_P (dC, dI) vwCl [(c0, .inr (14, [.null, .null, .null, .null, .int 0, .int 0, .int 0, .null, .null, .null, .int 0, .null, .null, .int 0, .int 0, .int 0, .int 0, .int 0, .int 0, .int 0, .int 0, .int 0, .int 0, .int 0, .int 0, .int 0, .int 0, .int 0, .int 0, .null, .int 0, .int 0, .int 0, .int 0, .null, .int 0, .int 0])), (q1, .inl (y2, 128, .inr (.inl (tbL nmT 123))))] H := hP
  have hD : va_D A [(c0, .inr (14, [.null, .null, .null, .null, .int 0, .int 0, .int 0, .null, .null, .null, .int 0, .null, .null, .int 0, .int 0, .int 0, .int 0, .int 0, .int 0, .int 0, .int 0, .int 0, .int 0, .int 0, .int 0, .int 0, .int 0, .int 0, .int 0, .null, .int 0, .int 0, .int 0, .int 0, .null, .int 0, .int 0])), (q1, .inl (y2, 128, .inr (.inl (tbL nmT 123))))] := hD
  refine lv_dup hx hb dX13_init_865 rfl ?_
  refine lv_bipush (v := 123) hx hb dX13_init_866 (by decide) ?_
  refine lv_ldc2 hx hb hown (hts (.constantLong RX13 253 (71890405)) (List.mem_of_getElem? (i := 128) rfl)) dX13_init_868 ?_
  refine va_last (i := 123) (x := 71890405) hx hb hK hP hD hS 1 0 rfl rfl (vp_in_iff.mpr ⟨by decide, by decide⟩) dX13_init_871 (fun H locs hP hD hS => ?_)
  rw [tbL_s nmT 123 (j := 123) (v := 71890405) (by decide) (by decide +kernel)] at hP hD
  have hP : va_P (dC, dI) vwCl [(c0, .inr (14, [.null, .null, .null, .null, .int 0, .int 0, .int 0, .null, .null, .null, .int 0, .null, .null, .int 0, .int 0, .int 0, .int 0, .int 0, .int 0, .int 0, .int 0, .int 0, .int 0, .int 0, .int 0, .int 0, .int 0, .int 0, .int 0, .null, .int 0, .int 0, .int 0, .int 0, .null, .int 0, .int 0])), (q1, .inl (y2, 128, .inr (.inl (tbL nmT 124))))] H := hP
  have hD : va_D A [(c0, .inr (14, [.null, .null, .null, .null, .int 0, .int 0, .int 0, .null, .null, .null, .int 0, .null, .null, .int 0, .int 0, .int 0, .int 0, .int 0, .int 0, .int 0, .int 0, .int 0, .int 0, .int 0, .int 0, .int 0, .int 0, .int 0, .int 0, .null, .int 0, .int 0, .int 0, .int 0, .null, .int 0, .int 0])), (q1, .inl (y2, 128, .inr (.inl (tbL nmT 124))))] := hD
  refine lv_dup hx hb dX13_init_872 rfl ?_
  refine lv_bipush (v := 124) hx hb dX13_init_873 (by decide) ?_
  refine lv_ldc2 hx hb hown (hts (.constantLong RX13 255 (9815535717)) (List.mem_of_getElem? (i := 129) rfl)) dX13_init_875 ?_
  refine va_last (i := 124) (x := 9815535717) hx hb hK hP hD hS 1 0 rfl rfl (vp_in_iff.mpr ⟨by decide, by decide⟩) dX13_init_878 (fun H locs hP hD hS => ?_)
  rw [tbL_s nmT 124 (j := 124) (v := 9815535717) (by decide) (by decide +kernel)] at hP hD
  have hP : va_P (dC, dI) vwCl [(c0, .inr (14, [.null, .null, .null, .null, .int 0, .int 0, .int 0, .null, .null, .null, .int 0, .null, .null, .int 0, .int 0, .int 0, .int 0, .int 0, .int 0, .int 0, .int 0, .int 0, .int 0, .int 0, .int 0, .int 0, .int 0, .int 0, .int 0, .null, .int 0, .int 0, .int 0, .int 0, .null, .int 0, .int 0])), (q1, .inl (y2, 128, .inr (.inl (tbL nmT 125))))] H := hP
  have hD : va_D A [(c0, .inr (14, [.null, .null, .null, .null, .int 0, .int 0, .int 0, .null, .null, .null, .int 0, .null, .null, .int 0, .int 0, .int 0, .int 0, .int 0, .int 0, .int 0, .int 0, .int 0, .int 0, .int 0, .int 0, .int 0, .int 0, .int 0, .int 0, .null, .int 0, .int 0, .int 0, .int 0, .null, .int 0, .int 0])), (q1, .inl (y2, 128, .inr (.inl (tbL nmT 125))))] := hD
  refine lv_dup hx hb dX13_init_879 rfl ?_
  refine lv_bipush (v := 125) hx hb dX13_init_880 (by decide) ?_
  refine lv_ldc2 hx hb hown (hts (.constantLong RX13 257 (28069146725)) (List.mem_of_getElem? (i := 130) rfl)) dX13_init_882 ?_
  refine va_last (i := 125) (x := 28069146725) hx hb hK hP hD hS 1 0 rfl rfl (vp_in_iff.mpr ⟨by decide, by decide⟩) dX13_init_885 (fun H locs hP hD hS => ?_)
  rw [tbL_s nmT 125 (j := 125) (v := 28069146725) (by decide) (by decide +kernel)] at hP hD
  have hP : va_P (dC, dI) vwCl [(c0, .inr (14, [.null, .null, .null, .null, .int 0, .int 0, .int 0, .null, .null, .null, .int 0, .null, .null, .int 0, .int 0, .int 0, .int 0, .int 0, .int 0, .int 0, .int 0, .int 0, .int 0, .int 0, .int 0, .int 0, .int 0, .int 0, .int 0, .null, .int 0, .int 0, .int 0, .int 0, .null, .int 0, .int 0])), (q1, .inl (y2, 128, .inr (.inl (tbL nmT 126))))] H := hP
  have hD : va_D A [(c0, .inr (14, [.null, .null, .null, .null, .int 0, .int 0, .int 0, .null, .null, .null, .int 0, .null, .null, .int 0, .int 0, .int 0, .int 0, .int 0, .int 0, .int 0, .int 0, .int 0, .int 0, .int 0, .int 0, .int 0, .int 0, .int 0, .int 0, .null, .int 0, .int 0, .int 0, .int 0, .null, .int 0, .int 0])), (q1, .inl (y2, 128, .inr (.inl (tbL nmT 126))))] := hD
  refine lv_dup hx hb dX13_init_886 rfl ?_
  refine lv_bipush (v := 126) hx hb dX13_init_887 (by decide) ?_
  refine lv_ldc2 hx hb hown (hts (.constantLong RX13 259 (5419369701)) (List.mem_of_getElem? (i := 131) rfl)) dX13_init_889 ?_
  refine va_last (i := 126) (x := 5419369701) hx hb hK hP hD hS 1 0 rfl rfl (vp_in_iff.mpr ⟨by decide, by decide⟩) dX13_init_892 (fun H locs hP hD hS => ?_)
  rw [tbL_s nmT 126 (j := 126) (v := 5419369701) (by decide) (by decide +kernel)] at hP hD
  have hP : va_P (dC, dI) vwCl [(c0, .inr (14, [.null, .null, .null, .null, .int 0, .int 0, .int 0, .null, .null, .null, .int 0, .null, .null, .int 0, .int 0, .int 0, .int 0, .int 0, .int 0, .int 0, .int 0, .int 0, .int 0, .int 0, .int 0, .int 0, .int 0, .int 0, .int 0, .null, .int 0, .int 0, .int 0, .int 0, .null, .int 0, .int 0])), (q1, .inl (y2, 128, .inr (.inl (tbL nmT 127))))] H := hP
  have hD : va_D A [(c0, .inr (14, [.null, .null, .null, .null, .int 0, .int 0, .int 0, .null, .null, .null, .int 0, .null, .null, .int 0, .int 0, .int 0, .int 0, .int 0, .int 0, .int 0, .int 0, .int 0, .int 0, .int 0, .int 0, .int 0, .int 0, .int 0, .int 0, .null, .int 0, .int 0, .int 0, .int 0, .null, .int 0, .int 0])), (q1, .inl (y2, 128, .inr (.inl (tbL nmT 127))))] := hD
  refine lv_dup hx hb dX13_init_893 rfl ?_
  refine lv_bipush (v := 127) hx hb dX13_init_894 (by decide) ?_
  refine lv_ldc2 hx hb hown (hts (.constantLong RX13 261 (15152234597)) (List.mem_of_getElem? (i := 132) rfl)) dX13_init_896 ?_
  refine va_last (i := 127) (x := 15152234597) hx hb hK hP hD hS 1 0 rfl rfl (vp_in_iff.mpr ⟨by decide, by decide⟩) dX13_init_899 (fun H locs hP hD hS => ?_)
  rw [tbL_s nmT 127 (j := 127) (v := 15152234597) (by decide) (by decide +kernel)] at hP hD
  have hP : va_P (dC, dI) vwCl [(c0, .inr (14, [.null, .null, .null, .null, .int 0, .int 0, .int 0, .null, .null, .null, .int 0, .null, .null, .int 0, .int 0, .int 0, .int 0, .int 0, .int 0, .int 0, .int 0, .int 0, .int 0, .int 0, .int 0, .int 0, .int 0, .int 0, .int 0, .null, .int 0, .int 0, .int 0, .int 0, .null, .int 0, .int 0])), (q1, .inl (y2, 128, .inr (.inl (tbL nmT 128))))] H := hP
  have hD : va_D A [(c0, .inr (14, [.null, .null, .null, .null, .int 0, .int 0, .int 0, .null, .null, .null, .int 0, .null, .null, .int 0, .int 0, .int 0, .int 0, .int 0, .int 0, .int 0, .int 0, .int 0, .int 0, .int 0, .int 0, .int 0, .int 0, .int 0, .int 0, .null, .int 0, .int 0, .int 0, .int 0, .null, .int 0, .int 0])), (q1, .inl (y2, 128, .inr (.inl (tbL nmT 128))))] := hD
  refine va_putF (D := (dC, dI)) (ci := 14) (v := .ref q1) (ty := .array .long) (C := RX13) (T := TX13) (N := 37) hx hb hts hi_k_X13_init_X13 tyX13 tyX13_ok nmX13 hown hK hP hD hS 0 rfl rfl 0 (by decide) (hts (.fieldLink RX13 263 "TimeMachineModel$Assembler" "names" "[J") (List.mem_of_getElem? (i := 133) rfl)) (fun _ h9 => h9) rfl hin rfl (by decide +kernel) rfl rfl (Nat.le_of_ble_eq_true rfl) dX13_init_900 (fun H locs hP hD hS => ?_)
  have hP : va_P (dC, dI) vwCl [(c0, .inr (14, [.ref q1, .null, .null, .null, .int 0, .int 0, .int 0, .null, .null, .null, .int 0, .null, .null, .int 0, .int 0, .int 0, .int 0, .int 0, .int 0, .int 0, .int 0, .int 0, .int 0, .int 0, .int 0, .int 0, .int 0, .int 0, .int 0, .null, .int 0, .int 0, .int 0, .int 0, .null, .int 0, .int 0])), (q1, .inl (y2, 128, .inr (.inl (tbL nmT 128))))] H := hP
  have hD : va_D A [(c0, .inr (14, [.ref q1, .null, .null, .null, .int 0, .int 0, .int 0, .null, .null, .null, .int 0, .null, .null, .int 0, .int 0, .int 0, .int 0, .int 0, .int 0, .int 0, .int 0, .int 0, .int 0, .int 0, .int 0, .int 0, .int 0, .int 0, .int 0, .null, .int 0, .int 0, .int 0, .int 0, .null, .int 0, .int 0])), (q1, .inl (y2, 128, .inr (.inl (tbL nmT 128))))] := hD
  refine lv_aload_n hx hb dX13_init_903 rfl (lv_at hl 0 rfl) ?_
  refine lv_sipush (v := 128) hx hb dX13_init_904 (by decide) ?_
  refine va_newa (atype := .byte) (ty := .byte) (N' := 128) (a0 := (128, .inl (fun _ => 0))) hx hb (hts (.arrayClass .byte) (List.mem_of_getElem? (i := 134) rfl)) rfl hK hP hD hS hA (fun cA => vp_cell_i cA 128 (fun _ => 0)) (by decide +kernel) (by decide +kernel) (by decide +kernel) (by decide +kernel) (by decide +kernel) dX13_init_907 (fun q131 y132 H hK hP hD hS => ?_)
  have hK : va_K (dC, dI) vwCl [(y2, .long), (y132, .byte)] s := hK
  have hP : va_P (dC, dI) vwCl [(c0, .inr (14, [.ref q1, .null, .null, .null, .int 0, .int 0, .int 0, .null, .null, .null, .int 0, .null, .null, .int 0, .int 0, .int 0, .int 0, .int 0, .int 0, .int 0, .int 0, .int 0, .int 0, .int 0, .int 0, .int 0, .int 0, .int 0, .int 0, .null, .int 0, .int 0, .int 0, .int 0, .null, .int 0, .int 0])), (q1, .inl (y2, 128, .inr (.inl (tbL nmT 128)))), (q131, .inl (y132, 128, .inl (fun _ => 0)))] H := hP
  have hD : va_D A [(c0, .inr (14, [.ref q1, .null, .null, .null, .int 0, .int 0, .int 0, .null, .null, .null, .int 0, .null, .null, .int 0, .int 0, .int 0, .int 0, .int 0, .int 0, .int 0, .int 0, .int 0, .int 0, .int 0, .int 0, .int 0, .int 0, .int 0, .int 0, .null, .int 0, .int 0, .int 0, .int 0, .null, .int 0, .int 0])), (q1, .inl (y2, 128, .inr (.inl (tbL nmT 128)))), (q131, .inl (y132, 128, .inl (fun _ => 0)))] := hD
  refine W.widen (k := 2) (n := 256) (by decide +kernel) (by decide +kernel) ?_
  refine lv_dup hx hb dX13_init_909 rfl ?_
  refine lv_iconst (v := 0) hx hb dX13_init_910 (by decide) ?_
  refine lv_iconst (v := 1) hx hb dX13_init_911 (by decide) ?_
  refine va_bast (i := 0) (x := 1) hx hb hK hP hD hS 2 1 rfl rfl (vp_in_iff.mpr ⟨by decide, by decide⟩) dX13_init_912 (fun H locs hP hD hS => ?_)
  rw [tbI_z shT (j := 0) (v := (vp_nar .byte 1)) (by decide) (by decide +kernel)] at hP hD
  have hP : va_P (dC, dI) vwCl [(c0, .inr (14, [.ref q1, .null, .null, .null, .int 0, .int 0, .int 0, .null, .null, .null, .int 0, .null, .null, .int 0, .int 0, .int 0, .int 0, .int 0, .int 0, .int 0, .int 0, .int 0, .int 0, .int 0, .int 0, .int 0, .int 0, .int 0, .int 0, .null, .int 0, .int 0, .int 0, .int 0, .null, .int 0, .int 0])), (q1, .inl (y2, 128, .inr (.inl (tbL nmT 128)))), (q131, .inl (y132, 128, .inl (tbI shT 1)))] H := hP
  have hD : va_D A [(c0, .inr (14, [.ref q1, .null, .null, .null, .int 0, .int 0, .int 0, .null, .null, .null, .int 0, .null, .null, .int 0, .int 0, .int 0, .int 0, .int 0, .int 0, .int 0, .int 0, .int 0, .int 0, .int 0, .int 0, .int 0, .int 0, .int 0, .int 0, .null, .int 0, .int 0, .int 0, .int 0, .null, .int 0, .int 0])), (q1, .inl (y2, 128, .inr (.inl (tbL nmT 128)))), (q131, .inl (y132, 128, .inl (tbI shT 1)))] := hD
  refine lv_dup hx hb dX13_init_913 rfl ?_
  refine lv_iconst (v := 1) hx hb dX13_init_914 (by decide) ?_
  refine lv_iconst (v := 1) hx hb dX13_init_915 (by decide) ?_
  refine va_bast (i := 1) (x := 1) hx hb hK hP hD hS 2 1 rfl rfl (vp_in_iff.mpr ⟨by decide, by decide⟩) dX13_init_916 (fun H locs hP hD hS => ?_)
  rw [tbI_s shT 1 (j := 1) (v := (vp_nar .byte 1)) (by decide) (by decide +kernel)] at hP hD
  have hP : va_P (dC, dI) vwCl [(c0, .inr (14, [.ref q1, .null, .null, .null, .int 0, .int 0, .int 0, .null, .null, .null, .int 0, .null, .null, .int 0, .int 0, .int 0, .int 0, .int 0, .int 0, .int 0, .int 0, .int 0, .int 0, .int 0, .int 0, .int 0, .int 0, .int 0, .int 0, .null, .int 0, .int 0, .int 0, .int 0, .null, .int 0, .int 0])), (q1, .inl (y2, 128, .inr (.inl (tbL nmT 128)))), (q131, .inl (y132, 128, .inl (tbI shT 2)))] H := hP
  have hD : va_D A [(c0, .inr (14, [.ref q1, .null, .null, .null, .int 0, .int 0, .int 0, .null, .null, .null, .int 0, .null, .null, .int 0, .int 0, .int 0, .int 0, .int 0, .int 0, .int 0, .int 0, .int 0, .int 0, .int 0, .int 0, .int 0, .int 0, .int 0, .int 0, .null, .int 0, .int 0, .int 0, .int 0, .null, .int 0, .int 0])), (q1, .inl (y2, 128, .inr (.inl (tbL nmT 128)))), (q131, .inl (y132, 128, .inl (tbI shT 2)))] := hD
  refine lv_dup hx hb dX13_init_917 rfl ?_
  refine lv_iconst (v := 2) hx hb dX13_init_918 (by decide) ?_
  refine lv_iconst (v := 1) hx hb dX13_init_919 (by decide) ?_
  refine va_bast (i := 2) (x := 1) hx hb hK hP hD hS 2 1 rfl rfl (vp_in_iff.mpr ⟨by decide, by decide⟩) dX13_init_920 (fun H locs hP hD hS => ?_)
  rw [tbI_s shT 2 (j := 2) (v := (vp_nar .byte 1)) (by decide) (by decide +kernel)] at hP hD
  have hP : va_P (dC, dI) vwCl [(c0, .inr (14, [.ref q1, .null, .null, .null, .int 0, .int 0, .int 0, .null, .null, .null, .int 0, .null, .null, .int 0, .int 0, .int 0, .int 0, .int 0, .int 0, .int 0, .int 0, .int 0, .int 0, .int 0, .int 0, .int 0, .int 0, .int 0, .int 0, .null, .int 0, .int 0, .int 0, .int 0, .null, .int 0, .int 0])), (q1, .inl (y2, 128, .inr (.inl (tbL nmT 128)))), (q131, .inl (y132, 128, .inl (tbI shT 3)))] H := hP
  have hD : va_D A [(c0, .inr (14, [.ref q1, .null, .null, .null, .int 0, .int 0, .int 0, .null, .null, .null, .int 0, .null, .null, .int 0, .int 0, .int 0, .int 0, .int 0, .int 0, .int 0, .int 0, .int 0, .int 0, .int 0, .int 0, .int 0, .int 0, .int 0, .int 0, .null, .int 0, .int 0, .int 0, .int 0, .null, .int 0, .int 0])), (q1, .inl (y2, 128, .inr (.inl (tbL nmT 128)))), (q131, .inl (y132, 128, .inl (tbI shT 3)))] := hD
  refine lv_dup hx hb dX13_init_921 rfl ?_
  refine lv_iconst (v := 3) hx hb dX13_init_922 (by decide) ?_
  refine lv_iconst (v := 1) hx hb dX13_init_923 (by decide) ?_
  refine va_bast (i := 3) (x := 1) hx hb hK hP hD hS 2 1 rfl rfl (vp_in_iff.mpr ⟨by decide, by decide⟩) dX13_init_924 (fun H locs hP hD hS => ?_)
  rw [tbI_s shT 3 (j := 3) (v := (vp_nar .byte 1)) (by decide) (by decide +kernel)] at hP hD
  have hP : va_P (dC, dI) vwCl [(c0, .inr (14, [.ref q1, .null, .null, .null, .int 0, .int 0, .int 0, .null, .null, .null, .int 0, .null, .null, .int 0, .int 0, .int 0, .int 0, .int 0, .int 0, .int 0, .int 0, .int 0, .int 0, .int 0, .int 0, .int 0, .int 0, .int 0, .int 0, .null, .int 0, .int 0, .int 0, .int 0, .null, .int 0, .int 0])), (q1, .inl (y2, 128, .inr (.inl (tbL nmT 128)))), (q131, .inl (y132, 128, .inl (tbI shT 4)))] H := hP
  have hD : va_D A [(c0, .inr (14, [.ref q1, .null, .null, .null, .int 0, .int 0, .int 0, .null, .null, .null, .int 0, .null, .null, .int 0, .int 0, .int 0, .int 0, .int 0, .int 0, .int 0, .int 0, .int 0, .int 0, .int 0, .int 0, .int 0, .int 0, .int 0, .int 0, .null, .int 0, .int 0, .int 0, .int 0, .null, .int 0, .int 0])), (q1, .inl (y2, 128, .inr (.inl (tbL nmT 128)))), (q131, .inl (y132, 128, .inl (tbI shT 4)))] := hD
  refine lv_dup hx hb dX13_init_925 rfl ?_
  refine lv_iconst (v := 4) hx hb dX13_init_926 (by decide) ?_
  refine lv_iconst (v := 1) hx hb dX13_init_927 (by decide) ?_
  exact kk q131 y132 _ _ _ hK hP hD hS hl


set_option maxHeartbeats 40000000 in
set_option maxRecDepth 100000 in
theorem k_X13_init_s6 {p : Program} {l : Launch} {e : Env} {s : State} {m : MethodId} {args : Array Value} {below : List Frame} {meth : Method} {c : Code} {Q : State → Prop} {A : Nat → Prop} (dC : Nat → ClassId) (dI : Nat → Nat → Nat) (c0 : Nat) (q1 : Nat) (y2 : ClassId) (q131 : Nat) (y132 : ClassId) (hlt : l.stackTraces = false) (hx : p.tables.exec = Jvm.exec) (hb : c.code = cX13_init) (hml : c.maxLocals = 1) (hown : s.vm.findClass RX13 = some m.cls) (hts : ∀ w ∈ ow_k_X13_init, w.before args s = true) (hin : meth.name = "<init>") (hN : nv_E dI A s) (hA : ∀ q : Nat, s.heap.size ≤ q → A q) {H : Heap} {locs : List Loc} {ls : Array Slot} (hK : va_K (dC, dI) vwCl [(y2, .long), (y132, .byte)] s) (hP : va_P (dC, dI) vwCl [(c0, .inr (14, [.ref q1, .null, .null, .null, .int 0, .int 0, .int 0, .null, .null, .null, .int 0, .null, .null, .int 0, .int 0, .int 0, .int 0, .int 0, .int 0, .int 0, .int 0, .int 0, .int 0, .int 0, .int 0, .int 0, .int 0, .int 0, .int 0, .null, .int 0, .int 0, .int 0, .int 0, .null, .int 0, .int 0])), (q1, .inl (y2, 128, .inr (.inl (tbL nmT 128)))), (q131, .inl (y132, 128, .inl (tbI shT 4)))] H) (hD : va_D A [(c0, .inr (14, [.ref q1, .null, .null, .null, .int 0, .int 0, .int 0, .null, .null, .null, .int 0, .null, .null, .int 0, .int 0, .int 0, .int 0, .int 0, .int 0, .int 0, .int 0, .int 0, .int 0, .int 0, .int 0, .int 0, .int 0, .int 0, .int 0, .null, .int 0, .int 0, .int 0, .int 0, .null, .int 0, .int 0])), (q1, .inl (y2, 128, .inr (.inl (tbL nmT 128)))), (q131, .inl (y132, 128, .inl (tbI shT 4)))]) (hS : va_S A s.heap H locs) (hl : lv_has ls 1 [(0, .ref c0)]) (kk : ∀ (H : Heap) (locs : List Loc) (ls : Array Slot), va_K (dC, dI) vwCl [(y2, .long), (y132, .byte)] s → va_P (dC, dI) vwCl [(c0, .inr (14, [.ref q1, .null, .null, .null, .int 0, .int 0, .int 0, .null, .null, .null, .int 0, .null, .null, .int 0, .int 0, .int 0, .int 0, .int 0, .int 0, .int 0, .int 0, .int 0, .int 0, .int 0, .int 0, .int 0, .int 0, .int 0, .int 0, .null, .int 0, .int 0, .int 0, .int 0, .null, .int 0, .int 0])), (q1, .inl (y2, 128, .inr (.inl (tbL nmT 128)))), (q131, .inl (y132, 128, .inl (tbI shT 27)))] H → va_D A [(c0, .inr (14, [.ref q1, .null, .null, .null, .int 0, .int 0, .int 0, .null, .null, .null, .int 0, .null, .null, .int 0, .int 0, .int 0, .int 0, .int 0, .int 0, .int 0, .int 0, .int 0, .int 0, .int 0, .int 0, .int 0, .int 0, .int 0, .int 0, .null, .int 0, .int 0, .int 0, .int 0, .null, .int 0, .int 0])), (q1, .inl (y2, 128, .inr (.inl (tbL nmT 128)))), (q131, .inl (y132, 128, .inl (tbI shT 27)))] → va_S A s.heap H locs → lv_has ls 1 [(0, .ref c0)] → W p l e (headSpec ow_k_X13_init ({ frames := 1, cells := 10, slots := 131956, locals := 12 })).room s m args below meth c H locs 2 256 Q (F0 m 1039 ls [.ref q131, .ref q131, .ref c0])) : W p l e (headSpec ow_k_X13_init ({ frames := 1, cells := 10, slots := 131956, locals := 12 })).room s m args below meth c H locs 2 256 Q (F0 m 928 ls [.int 1, .int 4, .ref q131, .ref q131, .ref c0]) := by
  refine va_bast (i := 4) (x := 1) hx hb hK hP hD hS 2 1 rfl rfl (vp_in_iff.mpr ⟨by decide, by decide⟩) dX13_init_928 (fun H locs hP hD hS => ?_)
  rw [tbI_s shT 4 (j := 4) (v := (vp_nar .byte 1)) (by decide) (by decide +kernel)] at hP hD
  have hP : va_P (dC, dI) vwCl [(c0, .inr (14, [.ref q1, .null, .null, .null, .int 0, .int 0, .int 0, .null, .null, .null, .int 0, .null, .null, .int 0, .int 0, .int 0, .int 0, .int 0, .int 0, .int 0, .int 0, .int 0, .int 0, .int 0, .int 0, .int 0, .int 0, .int 0, .int 0, .null, .int 0, .int 0, .int 0, .int 0, .null, .int 0, .int 0])), (q1, .inl (y2, 128, .inr (.inl (tbL nmT 128)))), (q131, .inl (y132, 128, .inl (tbI shT 5)))] H := hP
  have hD : va_D A [(c0, .inr (14, [.ref q1, .null, .null, .null, .int 0, .int 0, .int 0, .null, .null, .null, .int 0, .null, .null, .int 0, .int 0, .int 0, .int 0, .int 0, .int 0, .int 0, .int 0, .int 0, .int 0, .int 0, .int 0, .int 0, .int 0, .int 0, .int 0, .null, .int 0, .int 0, .int 0, .int 0, .null, .int 0, .int 0])), (q1, .inl (y2, 128, .inr (.inl (tbL nmT 128)))), (q131, .inl (y132, 128, .inl (tbI shT 5)))] := hD
  refine lv_dup hx hb dX13_init_929 rfl ?_
  refine lv_iconst (v := 5) hx hb dX13_init_930 (by decide) ?_
  refine lv_iconst (v := 1) hx hb dX13_init_931 (by decide) ?_
  refine va_bast (i := 5) (x := 1) hx hb hK hP hD hS 2 1 rfl rfl (vp_in_iff.mpr ⟨by decide, by decide⟩) dX13_init_932 (fun H locs hP hD hS => ?_)
  rw [tbI_s shT 5 (j := 5) (v := (vp_nar .byte 1)) (by decide) (by decide +kernel)] at hP hD
  have hP : va_P (dC, dI) vwCl [(c0, .inr (14, [.ref q1, .null, .null, .null, .int 0, .int 0, .int 0, .null, .null, .null, .int 0, .null, .null, .int 0, .int 0, .int 0, .int 0, .int 0, .int 0, .int 0, .int 0, .int 0, .int 0, .int 0, .int 0, .int 0, .int 0, .int 0, .int 0, .null, .int 0, .int 0, .int 0, .int 0, .null, .int 0, .int 0])), (q1, .inl (y2, 128, .inr (.inl (tbL nmT 128)))), (q131, .inl (y132, 128, .inl (tbI shT 6)))] H := hP
  have hD : va_D A [(c0, .inr (14, [.ref q1, .null, .null, .null, .int 0, .int 0, .int 0, .null, .null, .null, .int 0, .null, .null, .int 0, .int 0, .int 0, .int 0, .int 0, .int 0, .int 0, .int 0, .int 0, .int 0, .int 0, .int 0, .int 0, .int 0, .int 0, .int 0, .null, .int 0, .int 0, .int 0, .int 0, .null, .int 0, .int 0])), (q1, .inl (y2, 128, .inr (.inl (tbL nmT 128)))), (q131, .inl (y132, 128, .inl (tbI shT 6)))] := hD
  refine lv_dup hx hb dX13_init_933 rfl ?_
  refine lv_bipush (v := 6) hx hb dX13_init_934 (by decide) ?_
  refine lv_iconst (v := 1) hx hb dX13_init_936 (by decide) ?_
  refine va_bast (i := 6) (x := 1) hx hb hK hP hD hS 2 1 rfl rfl (vp_in_iff.mpr ⟨by decide, by decide⟩) dX13_init_937 (fun H locs hP hD hS => ?_)
  rw [tbI_s shT 6 (j := 6) (v := (vp_nar .byte 1)) (by decide) (by decide +kernel)] at hP hD
  have hP : va_P (dC, dI) vwCl [(c0, .inr (14, [.ref q1, .null, .null, .null, .int 0, .int 0, .int 0, .null, .null, .null, .int 0, .null, .null, .int 0, .int 0, .int 0, .int 0, .int 0, .int 0, .int 0, .int 0, .int 0, .int 0, .int 0, .int 0, .int 0, .int 0, .int 0, .int 0, .null, .int 0, .int 0, .int 0, .int 0, .null, .int 0, .int 0])), (q1, .inl (y2, 128, .inr (.inl (tbL nmT 128)))), (q131, .inl (y132, 128, .inl (tbI shT 7)))] H := hP
  have hD : va_D A [(c0, .inr (14, [.ref q1, .null, .null, .null, .int 0, .int 0, .int 0, .null, .null, .null, .int 0, .null, .null, .int 0, .int 0, .int 0, .int 0, .int 0, .int 0, .int 0, .int 0, .int 0, .int 0, .int 0, .int 0, .int 0, .int 0, .int 0, .int 0, .null, .int 0, .int 0, .int 0, .int 0, .null, .int 0, .int 0])), (q1, .inl (y2, 128, .inr (.inl (tbL nmT 128)))), (q131, .inl (y132, 128, .inl (tbI shT 7)))] := hD
  refine lv_dup hx hb dX13_init_938 rfl ?_
  refine lv_bipush (v := 7) hx hb dX13_init_939 (by decide) ?_
  refine lv_iconst (v := 1) hx hb dX13_init_941 (by decide) ?_
  refine va_bast (i := 7) (x := 1) hx hb hK hP hD hS 2 1 rfl rfl (vp_in_iff.mpr ⟨by decide, by decide⟩) dX13_init_942 (fun H locs hP hD hS => ?_)
  rw [tbI_s shT 7 (j := 7) (v := (vp_nar .byte 1)) (by decide) (by decide +kernel)] at hP hD
  have hP : va_P (dC, dI) vwCl [(c0, .inr (14, [.ref q1, .null, .null, .null, .int 0, .int 0, .int 0, .null, .null, .null, .int 0, .null, .null, .int 0, .int 0, .int 0, .int 0, .int 0, .int 0, .int 0, .int 0, .int 0, .int 0, .int 0, .int 0, .int 0, .int 0, .int 0, .int 0, .null, .int 0, .int 0, .int 0, .int 0, .null, .int 0, .int 0])), (q1, .inl (y2, 128, .inr (.inl (tbL nmT 128)))), (q131, .inl (y132, 128, .inl (tbI shT 8)))] H := hP
  have hD : va_D A [(c0, .inr (14, [.ref q1, .null, .null, .null, .int 0, .int 0, .int 0, .null, .null, .null, .int 0, .null, .null, .int 0, .int 0, .int 0, .int 0, .int 0, .int 0, .int 0, .int 0, .int 0, .int 0, .int 0, .int 0, .int 0, .int 0, .int 0, .int 0, .null, .int 0, .int 0, .int 0, .int 0, .null, .int 0, .int 0])), (q1, .inl (y2, 128, .inr (.inl (tbL nmT 128)))), (q131, .inl (y132, 128, .inl (tbI shT 8)))] := hD
  refine lv_dup hx hb dX13_init_943 rfl ?_
  refine lv_bipush (v := 8) hx hb dX13_init_944 (by decide) ?_
  refine lv_iconst (v := 1) hx hb dX13_init_946 (by decide) ?_
  refine va_bast (i := 8) (x := 1) hx hb hK hP hD hS 2 1 rfl rfl (vp_in_iff.mpr ⟨by decide, by decide⟩) dX13_init_947 (fun H locs hP hD hS => ?_)
  rw [tbI_s shT 8 (j := 8) (v := (vp_nar .byte 1)) (by decide) (by decide +kernel)] at hP hD
  have hP : va_P (dC, dI) vwCl [(c0, .inr (14, [.ref q1, .null, .null, .null, .int 0, .int 0, .int 0, .null, .null, .null, .int 0, .null, .null, .int 0, .int 0, .int 0, .int 0, .int 0, .int 0, .int 0, .int 0, .int 0, .int 0, .int 0, .int 0, .int 0, .int 0, .int 0, .int 0, .null, .int 0, .int 0, .int 0, .int 0, .null, .int 0, .int 0])), (q1, .inl (y2, 128, .inr (.inl (tbL nmT 128)))), (q131, .inl (y132, 128, .inl (tbI shT 9)))] H := hP
  have hD : va_D A [(c0, .inr (14, [.ref q1, .null, .null, .null, .int 0, .int 0, .int 0, .null, .null, .null, .int 0, .null, .null, .int 0, .int 0, .int 0, .int 0, .int 0, .int 0, .int 0, .int 0, .int 0, .int 0, .int 0, .int 0, .int 0, .int 0, .int 0, .int 0, .null, .int 0, .int 0, .int 0, .int 0, .null, .int 0, .int 0])), (q1, .inl (y2, 128, .inr (.inl (tbL nmT 128)))), (q131, .inl (y132, 128, .inl (tbI shT 9)))] := hD
  refine lv_dup hx hb dX13_init_948 rfl ?_
  refine lv_bipush (v := 9) hx hb dX13_init_949 (by decide) ?_
  refine lv_iconst (v := 1) hx hb dX13_init_951 (by decide) ?_
  refine va_bast (i := 9) (x := 1) hx hb hK hP hD hS 2 1 rfl rfl (vp_in_iff.mpr ⟨by decide, by decide⟩) dX13_init_952 (fun H locs hP hD hS => ?_)
  rw [tbI_s shT 9 (j := 9) (v := (vp_nar .byte 1)) (by decide) (by decide +kernel)] at hP hD
  have hP : va_P (dC, dI) vwCl [(c0, .inr (14, [.ref q1, .null, .null, .null, .int 0, .int 0, .int 0, .null, .null, .null, .int 0, .null, .null, .int 0, .int 0, .int 0, .int 0, .int 0, .int 0, .int 0, .int 0, .int 0, .int 0, .int 0, .int 0, .int 0, .int 0, .int 0, .int 0, .null, .int 0, .int 0, .int 0, .int 0, .null, .int 0, .int 0])), (q1, .inl (y2, 128, .inr (.inl (tbL nmT 128)))), (q131, .inl (y132, 128, .inl (tbI shT 10)))] H := hP
  have hD : va_D A [(c0, .inr (14, [.ref q1, .null, .null, .null, .int 0, .int 0, .int 0, .null, .null, .null, .int 0, .null, .null, .int 0, .int 0, .int 0, .int 0, .int 0, .int 0, .int 0, .int 0, .int 0, .int 0, .int 0, .int 0, .int 0, .int 0, .int 0, .int 0, .null, .int 0, .int 0, .int 0, .int 0, .null, .int 0, .int 0])), (q1, .inl (y2, 128, .inr (.inl (tbL nmT 128)))), (q131, .inl (y132, 128, .inl (tbI shT 10)))] := hD
  refine lv_dup hx hb dX13_init_953 rfl ?_
  refine lv_bipush (v := 10) hx hb dX13_init_954 (by decide) ?_
  refine lv_iconst (v := 1) hx hb dX13_init_956 (by decide) ?_
  refine va_bast (i := 10) (x := 1) hx hb hK hP hD hS 2 1 rfl rfl (vp_in_iff.mpr ⟨by decide, by decide⟩) dX13_init_957 (fun H locs hP hD hS => ?_)
  rw [tbI_s shT 10 (j := 10) (v := (vp_nar .byte 1)) (by decide) (by decide +kernel)] at hP hD
  have hP : va_P (dC, dI) vwCl [(c0, .inr (14, [.ref q1, .null, .null, .null, .int 0, .int 0, .int 0, .null, .null, .null, .int 0, .null, .null, .int 0, .int 0, .int 0, .int 0, .int 0, .int 0, .int 0, .int 0, .int 0, .int 0, .int 0, .int 0, .int 0, .int 0, .int 0, .int 0, .null, .int 0, .int 0, .int 0, .int 0, .null, .int 0, .int 0])), (q1, .inl (y2, 128, .inr (.inl (tbL nmT 128)))), (q131, .inl (y132, 128, .inl (tbI shT 11)))] H := hP
  have hD : va_D A [(c0, .inr (14, [.ref q1, .null, .null, .null, .int 0, .int 0, .int 0, .null, .null, .null, .int 0, .null, .null, .int 0, .int 0, .int 0, .int 0, .int 0, .int 0, .int 0, .int 0, .int 0, .int 0, .int 0, .int 0, .int 0, .int 0, .int 0, .int 0, .null, .int 0, .int 0, .int 0, .int 0, .null, .int 0, .int 0])), (q1, .inl (y2, 128, .inr (.inl (tbL nmT 128)))), (q131, .inl (y132, 128, .inl (tbI shT 11)))] := hD
  refine lv_dup hx hb dX13_init_958 rfl ?_
  refine lv_bipush (v := 11) hx hb dX13_init_959 (by decide) ?_
  refine lv_iconst (v := 1) hx hb dX13_init_961 (by decide) ?_
  refine va_bast (i := 11) (x := 1) hx hb hK hP hD hS 2 1 rfl rfl (vp_in_iff.mpr ⟨by decide, by decide⟩) dX13_init_962 (fun H locs hP hD hS => ?_)
  rw [tbI_s shT 11 (j := 11) (v := (vp_nar .byte 1)) (by decide) (by decide +kernel)] at hP hD
  have hP : va_P (dC, dI) vwCl [(c0, .inr (14, [.ref q1, .null, .null, .null, .int 0, .int 0, .int 0, .null, .null, .null, .int 0, .null, .null, .int 0, .int 0, .int 0, .int 0, .int 0, .int 0, .int 0, .int 0, .int 0, .int 0, .int 0, .int 0, .int 0, .int 0, .int 0, .int 0, .null, .int 0, .int 0, .int 0, .int 0, .null, .int 0, .int 0])), (q1, .inl (y2, 128, .inr (.inl (tbL nmT 128)))), (q131, .inl (y132, 128, .inl (tbI shT 12)))] H := hP
  have hD : va_D A [(c0, .inr (14, [.ref q1, .null, .null, .null, .int 0, .int 0, .int 0, .null, .null, .null, .int 0, .null, .null, .int 0, .int 0, .int 0, .int 0, .int 0, .int 0, .int 0, .int 0, .int 0, .int 0, .int 0, .int 0, .int 0, .int 0, .int 0, .int 0, .null, .int 0, .int 0, .int 0, .int 0, .null, .int 0, .int 0])), (q1, .inl (y2, 128, .inr (.inl (tbL nmT 128)))), (q131, .inl (y132, 128, .inl (tbI shT 12)))] := hD
  refine lv_dup hx hb dX13_init_963 rfl ?_
  refine lv_bipush (v := 12) hx hb dX13_init_964 (by decide) ?_
  refine lv_iconst (v := 1) hx hb dX13_init_966 (by decide) ?_
  refine va_bast (i := 12) (x := 1) hx hb hK hP hD hS 2 1 rfl rfl (vp_in_iff.mpr ⟨by decide, by decide⟩) dX13_init_967 (fun H locs hP hD hS => ?_)
  rw [tbI_s shT 12 (j := 12) (v := (vp_nar .byte 1)) (by decide) (by decide +kernel)] at hP hD
  have hP : va_P (dC, dI) vwCl [(c0, .inr (14, [.ref q1, .null, .null, .null, .int 0, .int 0, .int 0, .null, .null, .null, .int 0, .null, .null, .int 0, .int 0, .int 0, .int 0, .int 0, .int 0, .int 0, .int 0, .int 0, .int 0, .int 0, .int 0, .int 0, .int 0, .int 0, .int 0, .null, .int 0, .int 0, .int 0, .int 0, .null, .int 0, .int 0])), (q1, .inl (y2, 128, .inr (.inl (tbL nmT 128)))), (q131, .inl (y132, 128, .inl (tbI shT 13)))] H := hP
  have hD : va_D A [(c0, .inr (14, [.ref q1, .null, .null, .null, .int 0, .int 0, .int 0, .null, .null, .null, .int 0, .null, .null, .int 0, .int 0, .int 0, .int 0, .int 0, .int 0, .int 0, .int 0, .int 0, .int 0, .int 0, .int 0, .int 0, .int 0, .int 0, .int 0, .null, .int 0, .int 0, .int 0, .int 0, .null, .int 0, .int 0])), (q1, .inl (y2, 128, .inr (.inl (tbL nmT 128)))), (q131, .inl (y132, 128, .inl (tbI shT 13)))] := hD
  refine lv_dup hx hb dX13_init_968 rfl ?_
  refine lv_bipush (v := 13) hx hb dX13_init_969 (by decide) ?_
  refine lv_iconst (v := 1) hx hb dX13_init_971 (by decide) ?_
  refine va_bast (i := 13) (x := 1) hx hb hK hP hD hS 2 1 rfl rfl (vp_in_iff.mpr ⟨by decide, by decide⟩) dX13_init_972 (fun H locs hP hD hS => ?_)
  rw [tbI_s shT 13 (j := 13) (v := (vp_nar .byte 1)) (by decide) (by decide +kernel)] at hP hD
  have hP : va_P (dC, dI) vwCl [(c0, .inr (14, [.ref q1, .null, .null, .null, .int 0, .int 0, .int 0, .null, .null, .null, .int 0, .null, .null, .int 0, .int 0, .int 0, .int 0, .int 0, .int 0, .int 0, .int 0, .int 0, .int 0, .int 0, .int 0, .int 0, .int 0, .int 0, .int 0, .null, .int 0, .int 0, .int 0, .int 0, .null, .int 0, .int 0])), (q1, .inl (y2, 128, .inr (.inl (tbL nmT 128)))), (q131, .inl (y132, 128, .inl (tbI shT 14)))] H := hP
  have hD : va_D A [(c0, .inr (14, [.ref q1, .null, .null, .null, .int 0, .int 0, .int 0, .null, .null, .null, .int 0, .null, .null, .int 0, .int 0, .int 0, .int 0, .int 0, .int 0, .int 0, .int 0, .int 0, .int 0, .int 0, .int 0, .int 0, .int 0, .int 0, .int 0, .null, .int 0, .int 0, .int 0, .int 0, .null, .int 0, .int 0])), (q1, .inl (y2, 128, .inr (.inl (tbL nmT 128)))), (q131, .inl (y132, 128, .inl (tbI shT 14)))] := hD
  refine lv_dup hx hb dX13_init_973 rfl ?_
  refine lv_bipush (v := 14) hx hb dX13_init_974 (by decide) ?_
  refine lv_iconst (v := 1) hx hb dX13_init_976 (by decide) ?_
  refine va_bast (i := 14) (x := 1) hx hb hK hP hD hS 2 1 rfl rfl (vp_in_iff.mpr ⟨by decide, by decide⟩) dX13_init_977 (fun H locs hP hD hS => ?_)
  rw [tbI_s shT 14 (j := 14) (v := (vp_nar .byte 1)) (by decide) (by decide +kernel)] at hP hD
  have hP : va_P (dC, dI) vwCl [(c0, .inr (14, [.ref q1, .null, .null, .null, .int 0, .int 0, .int 0, .null, .null, .null, .int 0, .null, .null, .int 0, .int 0, .int 0, .int 0, .int 0, .int 0, .int 0, .int 0, .int 0, .int 0, .int 0, .int 0, .int 0, .int 0, .int 0, .int 0, .null, .int 0, .int 0, .int 0, .int 0, .null, .int 0, .int 0])), (q1, .inl (y2, 128, .inr (.inl (tbL nmT 128)))), (q131, .inl (y132, 128, .inl (tbI shT 15)))] H := hP
  have hD : va_D A [(c0, .inr (14, [.ref q1, .null, .null, .null, .int 0, .int 0, .int 0, .null, .null, .null, .int 0, .null, .null, .int 0, .int 0, .int 0, .int 0, .int 0, .int 0, .int 0, .int 0, .int 0, .int 0, .int 0, .int 0, .int 0, .int 0, .int 0, .int 0, .null, .int 0, .int 0, .int 0, .int 0, .null, .int 0, .int 0])), (q1, .inl (y2, 128, .inr (.inl (tbL nmT 128)))), (q131, .inl (y132, 128, .inl (tbI shT 15)))] := hD
  refine lv_dup hx hb dX13_init_978 rfl ?_
  refine lv_bipush (v := 15) hx hb dX13_init_979 (by decide) ?_
  refine lv_iconst (v := 1) hx hb dX13_init_981 (by decide) ?_
  refine va_bast (i := 15) (x := 1) hx hb hK hP hD hS 2 1 rfl rfl (vp_in_iff.mpr ⟨by decide, by decide⟩) dX13_init_982 (fun H locs hP hD hS => ?_)
  rw [tbI_s shT 15 (j := 15) (v := (vp_nar .byte 1)) (by decide) (by decide +kernel)] at hP hD
  have hP : va_P (dC, dI) vwCl [(c0, .inr (14, [.ref q1, .null, .null, .null, .int 0, .int 0, .int 0, .null, .null, .null, .int 0, .null, .null, .int 0, .int 0, .int 0, .int 0, .int 0, .int 0, .int 0, .int 0, .int 0, .int 0, .int 0, .int 0, .int 0, .int 0, .int 0, .int 0, .null, .int 0, .int 0, .int 0, .int 0, .null, .int 0, .int 0])), (q1, .inl (y2, 128, .inr (.inl (tbL nmT 128)))), (q131, .inl (y132, 128, .inl (tbI shT 16)))] H := hP
  have hD : va_D A [(c0, .inr (14, [.ref q1, .null, .null, .null, .int 0, .int 0, .int 0, .null, .null, .null, .int 0, .null, .null, .int 0, .int 0, .int 0, .int 0, .int 0, .int 0, .int 0, .int 0, .int 0, .int 0, .int 0, .int 0, .int 0, .int 0, .int 0, .int 0, .null, .int 0, .int 0, .int 0, .int 0, .null, .int 0, .int 0])), (q1, .inl (y2, 128, .inr (.inl (tbL nmT 128)))), (q131, .inl (y132, 128, .inl (tbI shT 16)))] := hD
  refine lv_dup hx hb dX13_init_983 rfl ?_
  refine lv_bipush (v := 16) hx hb dX13_init_984 (by decide) ?_
  refine lv_iconst (v := 1) hx hb dX13_init_986 (by decide) ?_
  refine va_bast (i := 16) (x := 1) hx hb hK hP hD hS 2 1 rfl rfl (vp_in_iff.mpr ⟨by decide, by decide⟩) dX13_init_987 (fun H locs hP hD hS => ?_)
  rw [tbI_s shT 16 (j := 16) (v := (vp_nar .byte 1)) (by decide) (by decide +kernel)] at hP hD
  have hP : va_P (dC, dI) vwCl [(c0, .inr (14, [.ref q1, .null, .null, .null, .int 0, .int 0, .int 0, .null, .null, .null, .int 0, .null, .null, .int 0, .int 0, .int 0, .int 0, .int 0, .int 0, .int 0, .int 0, .int 0, .int 0, .int 0, .int 0, .int 0, .int 0, .int 0, .int 0, .null, .int 0, .int 0, .int 0, .int 0, .null, .int 0, .int 0])), (q1, .inl (y2, 128, .inr (.inl (tbL nmT 128)))), (q131, .inl (y132, 128, .inl (tbI shT 17)))] H := hP
  have hD : va_D A [(c0, .inr (14, [.ref q1, .null, .null, .null, .int 0, .int 0, .int 0, .null, .null, .null, .int 0, .null, .null, .int 0, .int 0, .int 0, .int 0, .int 0, .int 0, .int 0, .int 0, .int 0, .int 0, .int 0, .int 0, .int 0, .int 0, .int 0, .int 0, .null, .int 0, .int 0, .int 0, .int 0, .null, .int 0, .int 0])), (q1, .inl (y2, 128, .inr (.inl (tbL nmT 128)))), (q131, .inl (y132, 128, .inl (tbI shT 17)))] := hD
  refine lv_dup hx hb dX13_init_988 rfl ?_
  refine lv_bipush (v := 17) hx hb dX13_init_989 (by decide) ?_
  refine lv_iconst (v := 1) hx hb dX13_init_991 (by decide) ?_
  refine va_bast (i := 17) (x := 1) hx hb hK hP hD hS 2 1 rfl rfl (vp_in_iff.mpr ⟨by decide, by decide⟩) dX13_init_992 (fun H locs hP hD hS => ?_)
  rw [tbI_s shT 17 (j := 17) (v := (vp_nar .byte 1)) (by decide) (by decide +kernel)] at hP hD
  have hP : va_P (dC, dI) vwCl [(c0, .inr (14, [.ref q1, .null, .null, .null, .int 0, .int 0, .int 0, .null, .null, .null, .int 0, .null, .null, .int 0, .int 0, .int 0, .int 0, .int 0, .int 0, .int 0, .int 0, .int 0, .int 0, .int 0, .int 0, .int 0, .int 0, .int 0, .int 0, .null, .int 0, .int 0, .int 0, .int 0, .null, .int 0, .int 0])), (q1, .inl (y2, 128, .inr (.inl (tbL nmT 128)))), (q131, .inl (y132, 128, .inl (tbI shT 18)))] H := hP
  have hD : va_D A [(c0, .inr (14, [.ref q1, .null, .null, .null, .int 0, .int 0, .int 0, .null, .null, .null, .int 0, .null, .null, .int 0, .int 0, .int 0, .int 0, .int 0, .int 0, .int 0, .int 0, .int 0, .int 0, .int 0, .int 0, .int 0, .int 0, .int 0, .int 0, .null, .int 0, .int 0, .int 0, .int 0, .null, .int 0, .int 0])), (q1, .inl (y2, 128, .inr (.inl (tbL nmT 128)))), (q131, .inl (y132, 128, .inl (tbI shT 18)))] := hD
  refine lv_dup hx hb dX13_init_993 rfl ?_
  refine lv_bipush (v := 18) hx hb dX13_init_994 (by decide) ?_
  refine lv_iconst (v := 2) hx hb dX13_init_996 (by decide) ?_
  refine va_bast (i := 18) (x := 2) hx hb hK hP hD hS 2 1 rfl rfl (vp_in_iff.mpr ⟨by decide, by decide⟩) dX13_init_997 (fun H locs hP hD hS => ?_)
  rw [tbI_s shT 18 (j := 18) (v := (vp_nar .byte 2)) (by decide) (by decide +kernel)] at hP hD
  have hP : va_P (dC, dI) vwCl [(c0, .inr (14, [.ref q1, .null, .null, .null, .int 0, .int 0, .int 0, .null, .null, .null, .int 0, .null, .null, .int 0, .int 0, .int 0, .int 0, .int 0, .int 0, .int 0, .int 0, .int 0, .int 0, .int 0, .int 0, .int 0, .int 0, .int 0, .int 0, .null, .int 0, .int 0, .int 0, .int 0, .null, .int 0, .int 0])), (q1, .inl (y2, 128, .inr (.inl (tbL nmT 128)))), (q131, .inl (y132, 128, .inl (tbI shT 19)))] H := hP
  have hD : va_D A [(c0, .inr (14, [.ref q1, .null, .null, .null, .int 0, .int 0, .int 0, .null, .null, .null, .int 0, .null, .null, .int 0, .int 0, .int 0, .int 0, .int 0, .int 0, .int 0, .int 0, .int 0, .int 0, .int 0, .int 0, .int 0, .int 0, .int 0, .int 0, .null, .int 0, .int 0, .int 0, .int 0, .null, .int 0, .int 0])), (q1, .inl (y2, 128, .inr (.inl (tbL nmT 128)))), (q131, .inl (y132, 128, .inl (tbI shT 19)))] := hD
  refine lv_dup hx hb dX13_init_998 rfl ?_
  refine lv_bipush (v := 19) hx hb dX13_init_999 (by decide) ?_
  refine lv_iconst (v := 2) hx hb dX13_init_1001 (by decide) ?_
  refine va_bast (i := 19) (x := 2) hx hb hK hP hD hS 2 1 rfl rfl (vp_in_iff.mpr ⟨by decide, by decide⟩) dX13_init_1002 (fun H locs hP hD hS => ?_)
  rw [tbI_s shT 19 (j := 19) (v := (vp_nar .byte 2)) (by decide) (by decide +kernel)] at hP hD
  have hP : va_P (dC, dI) vwCl [(c0, .inr (14, [.ref q1, .null, .null, .null, .int 0, .int 0, .int 0, .null, .null, .null, .int 0, .null, .null, .int 0, .int 0, .int 0, .int 0, .int 0, .int 0, .int 0, .int 0, .int 0, .int 0, .int 0, .int 0, .int 0, .int 0, .int 0, .int 0, .null, .int 0, .int 0, .int 0, .int 0, .null, .int 0, .int 0])), (q1, .inl (y2, 128, .inr (.inl (tbL nmT 128)))), (q131, .inl (y132, 128, .inl (tbI shT 20)))] H := hP
  have hD : va_D A [(c0, .inr (14, [.ref q1, .null, .null, .null, .int 0, .int 0, .int 0, .null, .null, .null, .int 0, .null, .null, .int 0, .int 0, .int 0, .int 0, .int 0, .int 0, .int 0, .int 0, .int 0, .int 0, .int 0, .int 0, .int 0, .int 0, .int 0, .int 0, .null, .int 0, .int 0, .int 0, .int 0, .null, .int 0, .int 0])), (q1, .inl (y2, 128, .inr (.inl (tbL nmT 128)))), (q131, .inl (y132, 128, .inl (tbI shT 20)))] := hD
  refine lv_dup hx hb dX13_init_1003 rfl ?_
  refine lv_bipush (v := 20) hx hb dX13_init_1004 (by decide) ?_
  refine lv_iconst (v := 2) hx hb dX13_init_1006 (by decide) ?_
  refine va_bast (i := 20) (x := 2) hx hb hK hP hD hS 2 1 rfl rfl (vp_in_iff.mpr ⟨by decide, by decide⟩) dX13_init_1007 (fun H locs hP hD hS => ?_)
  rw [tbI_s shT 20 (j := 20) (v := (vp_nar .byte 2)) (by decide) (by decide +kernel)] at hP hD
  have hP : va_P (dC, dI) vwCl [(c0, .inr (14, [.ref q1, .null, .null, .null, .int 0, .int 0, .int 0, .null, .null, .null, .int 0, .null, .null, .int 0, .int 0, .int 0, .int 0, .int 0, .int 0, .int 0, .int 0, .int 0, .int 0, .int 0, .int 0, .int 0, .int 0, .int 0, .int 0, .null, .int 0, .int 0, .int 0, .int 0, .null, .int 0, .int 0])), (q1, .inl (y2, 128, .inr (.inl (tbL nmT 128)))), (q131, .inl (y132, 128, .inl (tbI shT 21)))] H := hP
  have hD : va_D A [(c0, .inr (14, [.ref q1, .null, .null, .null, .int 0, .int 0, .int 0, .null, .null, .null, .int 0, .null, .null, .int 0, .int 0, .int 0, .int 0, .int 0, .int 0, .int 0, .int 0, .int 0, .int 0, .int 0, .int 0, .int 0, .int 0, .int 0, .int 0, .null, .int 0, .int 0, .int 0, .int 0, .null, .int 0, .int 0])), (q1, .inl (y2, 128, .inr (.inl (tbL nmT 128)))), (q131, .inl (y132, 128, .inl (tbI shT 21)))] := hD
  refine lv_dup hx hb dX13_init_1008 rfl ?_
  refine lv_bipush (v := 21) hx hb dX13_init_1009 (by decide) ?_
  refine lv_iconst (v := 2) hx hb dX13_init_1011 (by decide) ?_
  refine va_bast (i := 21) (x := 2) hx hb hK hP hD hS 2 1 rfl rfl (vp_in_iff.mpr ⟨by decide, by decide⟩) dX13_init_1012 (fun H locs hP hD hS => ?_)
  rw [tbI_s shT 21 (j := 21) (v := (vp_nar .byte 2)) (by decide) (by decide +kernel)] at hP hD
  have hP : va_P (dC, dI) vwCl [(c0, .inr (14, [.ref q1, .null, .null, .null, .int 0, .int 0, .int 0, .null, .null, .null, .int 0, .null, .null, .int 0, .int 0, .int 0, .int 0, .int 0, .int 0, .int 0, .int 0, .int 0, .int 0, .int 0, .int 0, .int 0, .int 0, .int 0, .int 0, .null, .int 0, .int 0, .int 0, .int 0, .null, .int 0, .int 0])), (q1, .inl (y2, 128, .inr (.inl (tbL nmT 128)))), (q131, .inl (y132, 128, .inl (tbI shT 22)))] H := hP
  have hD : va_D A [(c0, .inr (14, [.ref q1, .null, .null, .null, .int 0, .int 0, .int 0, .null, .null, .null, .int 0, .null, .null, .int 0, .int 0, .int 0, .int 0, .int 0, .int 0, .int 0, .int 0, .int 0, .int 0, .int 0, .int 0, .int 0, .int 0, .int 0, .int 0, .null, .int 0, .int 0, .int 0, .int 0, .null, .int 0, .int 0])), (q1, .inl (y2, 128, .inr (.inl (tbL nmT 128)))), (q131, .inl (y132, 128, .inl (tbI shT 22)))] := hD
  refine lv_dup hx hb dX13_init_1013 rfl ?_
  refine lv_bipush (v := 22) hx hb dX13_init_1014 (by decide) ?_
  refine lv_iconst (v := 2) hx hb dX13_init_1016 (by decide) ?_
  refine va_bast (i := 22) (x := 2) hx hb hK hP hD hS 2 1 rfl rfl (vp_in_iff.mpr ⟨by decide, by decide⟩) dX13_init_1017 (fun H locs hP hD hS => ?_)
  rw [tbI_s shT 22 (j := 22) (v := (vp_nar .byte 2)) (by decide) (by decide +kernel)] at hP hD
  have hP : va_P (dC, dI) vwCl [(c0, .inr (14, [.ref q1, .null, .null, .null, .int 0, .int 0, .int 0, .null, .null, .null, .int 0, .null, .null, .int 0, .int 0, .int 0, .int 0, .int 0, .int 0, .int 0, .int 0, .int 0, .int 0, .int 0, .int 0, .int 0, .int 0, .int 0, .int 0, .null, .int 0, .int 0, .int 0, .int 0, .null, .int 0, .int 0])), (q1, .inl (y2, 128, .inr (.inl (tbL nmT 128)))), (q131, .inl (y132, 128, .inl (tbI shT 23)))] H := hP
  have hD : va_D A [(c0, .inr (14, [.ref q1, .null, .null, .null, .int 0, .int 0, .int 0, .null, .null, .null, .int 0, .null, .null, .int 0, .int 0, .int 0, .int 0, .int 0, .int 0, .int 0, .int 0, .int 0, .int 0, .int 0, .int 0, .int 0, .int 0, .int 0, .int 0, .null, .int 0, .int 0, .int 0, .int 0, .null, .int 0, .int 0])), (q1, .inl (y2, 128, .inr (.inl (tbL nmT 128)))), (q131, .inl (y132, 128, .inl (tbI shT 23)))] := hD
  refine lv_dup hx hb dX13_init_1018 rfl ?_
  refine lv_bipush (v := 23) hx hb dX13_init_1019 (by decide) ?_
  refine lv_iconst (v := 2) hx hb dX13_init_1021 (by decide) ?_
  refine va_bast (i := 23) (x := 2) hx hb hK hP hD hS 2 1 rfl rfl (vp_in_iff.mpr ⟨by decide, by decide⟩) dX13_init_1022 (fun H locs hP hD hS => ?_)
  rw [tbI_s shT 23 (j := 23) (v := (vp_nar .byte 2)) (by decide) (by decide +kernel)] at hP hD
  have hP : va_P (dC, dI) vwCl [(c0, .inr (14, [.ref q1, .null, .null, .null, .int 0, .int 0, .int 0, .null, .null, .null, .int 0, .null, .null, .int 0, .int 0, .int 0, .int 0, .int 0, .int 0, .int 0, .int 0, .int 0, .int 0, .int 0, .int 0, .int 0, .int 0, .int 0, .int 0, .null, .int 0, .int 0, .int 0, .int 0, .null, .int 0, .int 0])), (q1, .inl (y2, 128, .inr (.inl (tbL nmT 128)))), (q131, .inl (y132, 128, .inl (tbI shT 24)))] H := hP
  have hD : va_D A [(c0, .inr (14, [.ref q1, .null, .null, .null, .int 0, .int 0, .int 0, .null, .null, .null, .int 0, .null, .null, .int 0, .int 0, .int 0, .int 0, .int 0, .int 0, .int 0, .int 0, .int 0, .int 0, .int 0, .int 0, .int 0, .int 0, .int 0, .int 0, .null, .int 0, .int 0, .int 0, .int 0, .null, .int 0, .int 0])), (q1, .inl (y2, 128, .inr (.inl (tbL nmT 128)))), (q131, .inl (y132, 128, .inl (tbI shT 24)))] := hD
  refine lv_dup hx hb dX13_init_1023 rfl ?_
  refine lv_bipush (v := 24) hx hb dX13_init_1024 (by decide) ?_
  refine lv_iconst (v := 3) hx hb dX13_init_1026 (by decide) ?_
  refine va_bast (i := 24) (x := 3) hx hb hK hP hD hS 2 1 rfl rfl (vp_in_iff.mpr ⟨by decide, by decide⟩) dX13_init_1027 (fun H locs hP hD hS => ?_)
  rw [tbI_s shT 24 (j := 24) (v := (vp_nar .byte 3)) (by decide) (by decide +kernel)] at hP hD
  have hP : va_P (dC, dI) vwCl [(c0, .inr (14, [.ref q1, .null, .null, .null, .int 0, .int 0, .int 0, .null, .null, .null, .int 0, .null, .null, .int 0, .int 0, .int 0, .int 0, .int 0, .int 0, .int 0, .int 0, .int 0, .int 0, .int 0, .int 0, .int 0, .int 0, .int 0, .int 0, .null, .int 0, .int 0, .int 0, .int 0, .null, .int 0, .int 0])), (q1, .inl (y2, 128, .inr (.inl (tbL nmT 128)))), (q131, .inl (y132, 128, .inl (tbI shT 25)))] H := hP
  have hD : va_D A [(c0, .inr (14, [.ref q1, .null, .null, .null, .int 0, .int 0, .int 0, .null, .null, .null, .int 0, .null, .null, .int 0, .int 0, .int 0, .int 0, .int 0, .int 0, .int 0, .int 0, .int 0, .int 0, .int 0, .int 0, .int 0, .int 0, .int 0, .int 0, .null, .int 0, .int 0, .int 0, .int 0, .null, .int 0, .int 0])), (q1, .inl (y2, 128, .inr (.inl (tbL nmT 128)))), (q131, .inl (y132, 128, .inl (tbI shT 25)))] := hD
  refine lv_dup hx hb dX13_init_1028 rfl ?_
  refine lv_bipush (v := 25) hx hb dX13_init_1029 (by decide) ?_
  refine lv_iconst (v := 3) hx hb dX13_init_1031 (by decide) ?_
  refine va_bast (i := 25) (x := 3) hx hb hK hP hD hS 2 1 rfl rfl (vp_in_iff.mpr ⟨by decide, by decide⟩) dX13_init_1032 (fun H locs hP hD hS => ?_)
  rw [tbI_s shT 25 (j := 25) (v := (vp_nar .byte 3)) (by decide) (by decide +kernel)] at hP hD
  have hP : va_P (dC, dI) vwCl [(c0, .inr (14, [.ref q1, .null, .null, .null, .int 0, .int 0, .int 0, .null, .null, .null, .int 0, .null, .null, .int 0, .int 0, .int 0, .int 0, .int 0, .int 0, .int 0, .int 0, .int 0, .int 0, .int 0, .int 0, .int 0, .int 0, .int 0, .int 0, .null, .int 0, .int 0, .int 0, .int 0, .null, .int 0, .int 0])), (q1, .inl (y2, 128, .inr (.inl (tbL nmT 128)))), (q131, .inl (y132, 128, .inl (tbI shT 26)))] H := hP
  have hD : va_D A [(c0, .inr (14, [.ref q1, .null, .null, .null, .int 0, .int 0, .int 0, .null, .null, .null, .int 0, .null, .null, .int 0, .int 0, .int 0, .int 0, .int 0, .int 0, .int 0, .int 0, .int 0, .int 0, .int 0, .int 0, .int 0, .int 0, .int 0, .int 0, .null, .int 0, .int 0, .int 0, .int 0, .null, .int 0, .int 0])), (q1, .inl (y2, 128, .inr (.inl (tbL nmT 128)))), (q131, .inl (y132, 128, .inl (tbI shT 26)))] := hD
  refine lv_dup hx hb dX13_init_1033 rfl ?_
  refine lv_bipush (v := 26) hx hb dX13_init_1034 (by decide) ?_
  refine lv_iconst (v := 3) hx hb dX13_init_1036 (by decide) ?_
  refine va_bast (i := 26) (x := 3) hx hb hK hP hD hS 2 1 rfl rfl (vp_in_iff.mpr ⟨by decide, by decide⟩) dX13_init_1037 (fun H locs hP hD hS => ?_)
  rw [tbI_s shT 26 (j := 26) (v := (vp_nar .byte 3)) (by decide) (by decide +kernel)] at hP hD
  have hP : va_P (dC, dI) vwCl [(c0, .inr (14, [.ref q1, .null, .null, .null, .int 0, .int 0, .int 0, .null, .null, .null, .int 0, .null, .null, .int 0, .int 0, .int 0, .int 0, .int 0, .int 0, .int 0, .int 0, .int 0, .int 0, .int 0, .int 0, .int 0, .int 0, .int 0, .int 0, .null, .int 0, .int 0, .int 0, .int 0, .null, .int 0, .int 0])), (q1, .inl (y2, 128, .inr (.inl (tbL nmT 128)))), (q131, .inl (y132, 128, .inl (tbI shT 27)))] H := hP
  have hD : va_D A [(c0, .inr (14, [.ref q1, .null, .null, .null, .int 0, .int 0, .int 0, .null, .null, .null, .int 0, .null, .null, .int 0, .int 0, .int 0, .int 0, .int 0, .int 0, .int 0, .int 0, .int 0, .int 0, .int 0, .int 0, .int 0, .int 0, .int 0, .int 0, .null, .int 0, .int 0, .int 0, .int 0, .null, .int 0, .int 0])), (q1, .inl (y2, 128, .inr (.inl (tbL nmT 128)))), (q131, .inl (y132, 128, .inl (tbI shT 27)))] := hD
  refine lv_dup hx hb dX13_init_1038 rfl ?_
  exact kk _ _ _ hK hP hD hS hl


