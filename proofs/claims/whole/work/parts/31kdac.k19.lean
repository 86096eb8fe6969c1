set_option maxHeartbeats 40000000 in
set_option maxRecDepth 100000 in
theorem k_X13_init_s7 {p : Program} {l : Launch} {e : Env} {s : State} {m : MethodId} {args : Array Value} {below : List Frame} {meth : Method} {c : Code} {Q : State → Prop} {A : Nat → Prop} (dC : Nat → ClassId) (dI : Nat → Nat → Nat) (c0 : Nat) (q1 : Nat) (y2 : ClassId) (q131 : Nat) (y132 : ClassId) (hlt : l.stackTraces = false) (hx : p.tables.exec = Jvm.exec) (hb : c.code = cX13_init) (hml : c.maxLocals = 1) (hown : s.vm.findClass RX13 = some m.cls) (hts : ∀ w ∈ ow_k_X13_init, w.before args s = true) (hin : meth.name = "<init>") (hN : nv_E dI A s) (hA : ∀ q : Nat, s.heap.size ≤ q → A q) {H : Heap} {locs : List Loc} {ls : Array Slot} (hK : va_K (dC, dI) vwCl [(y2, .long), (y132, .byte)] s) (hP : va_P (dC, dI) vwCl [(c0, .inr (14, [.ref q1, .null, .null, .null, .int 0, .int 0, .int 0, .null, .null, .null, .int 0, .null, .null, .int 0, .int 0, .int 0, .int 0, .int 0, .int 0, .int 0, .int 0, .int 0, .int 0, .int 0, .int 0, .int 0, .int 0, .int 0, .int 0, .null, .int 0, .int 0, .int 0, .int 0, .null, .int 0, .int 0])), (q1, .inl (y2, 128, .inr (.inl (tbL nmT 128)))), (q131, .inl (y132, 128, .inl (tbI shT 27)))] H) (hD : va_D A [(c0, .inr (14, [.ref q1, .null, .null, .null, .int 0, .int 0, .int 0, .null, .null, .null, .int 0, .null, .null, .int 0, .int 0, .int 0, .int 0, .int 0, .int 0, .int 0, .int 0, .int 0, .int 0, .int 0, .int 0, .int 0, .int 0, .int 0, .int 0, .null, .int 0, .int 0, .int 0, .int 0, .null, .int 0, .int 0])), (q1, .inl (y2, 128, .inr (.inl (tbL nmT 128)))), (q131, .inl (y132, 128, .inl (tbI shT 27)))]) (hS : va_S A s.heap H locs) (hl : lv_has ls 1 [(0, .ref c0)]) (kk : ∀ (H : Heap) (locs : List Loc) (ls : Array Slot), va_K (dC, dI) vwCl [(y2, .long), (y132, .byte)] s → va_P (dC, dI) vwCl [(c0, .inr (14, [.ref q1, .null, .null, .null, .int 0, .int 0, .int 0, .null, .null, .null, .int 0, .null, .null, .int 0, .int 0, .int 0, .int 0, .int 0, .int 0, .int 0, .int 0, .int 0, .int 0, .int 0, .int 0, .int 0, .int 0, .int 0, .int 0, .null, .int 0, .int 0, .int 0, .int 0, .null, .int 0, .int 0])), (q1, .inl (y2, 128, .inr (.inl (tbL nmT 128)))), (q131, .inl (y132, 128, .inl (tbI shT 49)))] H → va_D A [(c0, .inr (14, [.ref q1, .null, .null, .null, .int 0, .int 0, .int 0, .null, .null, .null, .int 0, .null, .null, .int 0, .int 0, .int 0, .int 0, .int 0, .int 0, .int 0, .int 0, .int 0, .int 0, .int 0, .int 0, .int 0, .int 0, .int 0, .int 0, .null, .int 0, .int 0, .int 0, .int 0, .null, .int 0, .int 0])), (q1, .inl (y2, 128, .inr (.inl (tbL nmT 128)))), (q131, .inl (y132, 128, .inl (tbI shT 49)))] → va_S A s.heap H locs → lv_has ls 1 [(0, .ref c0)] → W p l e (headSpec ow_k_X13_init ({ frames := 1, cells := 10, slots := 131956, locals := 12 })).room s m args below meth c H locs 2 256 Q (F0 m 1167 ls [.int 9, .int 49, .ref q131, .ref q131, .ref c0])) : W p l e (headSpec ow_k_X13_init ({ frames := 1, cells := 10, slots := 131956, locals := 12 })).room s m args below meth c H locs 2 256 Q (F0 m 1039 ls [.ref q131, .ref q131, .ref c0]) := by
  refine lv_bipush (v := 27) hx hb dX13_init_1039 (by decide) ?_
  refine lv_iconst (v := 4) hx hb dX13_init_1041 (by decide) ?_
  refine va_bast (i := 27) (x := 4) hx hb hK hP hD hS 2 1 rfl rfl (vp_in_iff.mpr ⟨by decide, by decide⟩) dX13_init_1042 (fun H locs hP hD hS => ?_)
  rw [tbI_s shT 27 (j := 27) (v := (vp_nar .byte 4)) (by decide) (by decide +kernel)] at hP hD
  have hP : va_P (dC, dI) vwCl [(c0, .inr (14, [.ref q1, .null, .null, .null, .int 0, .int 0, .int 0, .null, .null, .null, .int 0, .null, .null, .int 0, .int 0, .int 0, .int 0, .int 0, .int 0, .int 0, .int 0, .int 0, .int 0, .int 0, .int 0, .int 0, .int 0, .int 0, .int 0, .null, .int 0, .int 0, .int 0, .int 0, .null, .int 0, .int 0])), (q1, .inl (y2, 128, .inr (.inl (tbL nmT 128)))), (q131, .inl (y132, 128, .inl (tbI shT 28)))] H := hP
  have hD : va_D A [(c0, .inr (14, [.ref q1, .null, .null, .null, .int 0, .int 0, .int 0, .null, .null, .null, .int 0, .null, .null, .int 0, .int 0, .int 0, .int 0, .int 0, .int 0, .int 0, .int 0, .int 0, .int 0, .int 0, .int 0, .int 0, .int 0, .int 0, .int 0, .null, .int 0, .int 0, .int 0, .int 0, .null, .int 0, .int 0])), (q1, .inl (y2, 128, .inr (.inl (tbL nmT 128)))), (q131, .inl (y132, 128, .inl (tbI shT 28)))] := hD
  refine lv_dup hx hb dX13_init_1043 rfl ?_
  refine lv_bipush (v := 28) hx hb dX13_init_1044 (by decide) ?_
  refine lv_iconst (v := 4) hx hb dX13_init_1046 (by decide) ?_
  refine va_bast (i := 28) (x := 4) hx hb hK hP hD hS 2 1 rfl rfl (vp_in_iff.mpr ⟨by decide, by decide⟩) dX13_init_1047 (fun H locs hP hD hS => ?_)
  rw [tbI_s shT 28 (j := 28) (v := (vp_nar .byte 4)) (by decide) (by decide +kernel)] at hP hD
  have hP : va_P (dC, dI) vwCl [(c0, .inr (14, [.ref q1, .null, .null, .null, .int 0, .int 0, .int 0, .null, .null, .null, .int 0, .null, .null, .int 0, .int 0, .int 0, .int 0, .int 0, .int 0, .int 0, .int 0, .int 0, .int 0, .int 0, .int 0, .int 0, .int 0, .int 0, .int 0, .null, .int 0, .int 0, .int 0, .int 0, .null, .int 0, .int 0])), (q1, .inl (y2, 128, .inr (.inl (tbL nmT 128)))), (q131, .inl (y132, 128, .inl (tbI shT 29)))] H := hP
  have hD : va_D A [(c0, .inr (14, [.ref q1, .null, .null, .null, .int 0, .int 0, .int 0, .null, .null, .null, .int 0, .null, .null, .int 0, .int 0, .int 0, .int 0, .int 0, .int 0, .int 0, .int 0, .int 0, .int 0, .int 0, .int 0, .int 0, .int 0, .int 0, .int 0, .null, .int 0, .int 0, .int 0, .int 0, .null, .int 0, .int 0])), (q1, .inl (y2, 128, .inr (.inl (tbL nmT 128)))), (q131, .inl (y132, 128, .inl (tbI shT 29)))] := hD
  refine lv_dup hx hb dX13_init_1048 rfl ?_
  refine lv_bipush (v := 29) hx hb dX13_init_1049 (by decide) ?_
  refine lv_iconst (v := 4) hx hb dX13_init_1051 (by decide) ?_
  refine va_bast (i := 29) (x := 4) hx hb hK hP hD hS 2 1 rfl rfl (vp_in_iff.mpr ⟨by decide, by decide⟩) dX13_init_1052 (fun H locs hP hD hS => ?_)
  rw [tbI_s shT 29 (j := 29) (v := (vp_nar .byte 4)) (by decide) (by decide +kernel)] at hP hD
  have hP : va_P (dC, dI) vwCl [(c0, .inr (14, [.ref q1, .null, .null, .null, .int 0, .int 0, .int 0, .null, .null, .null, .int 0, .null, .null, .int 0, .int 0, .int 0, .int 0, .int 0, .int 0, .int 0, .int 0, .int 0, .int 0, .int 0, .int 0, .int 0, .int 0, .int 0, .int 0, .null, .int 0, .int 0, .int 0, .int 0, .null, .int 0, .int 0])), (q1, .inl (y2, 128, .inr (.inl (tbL nmT 128)))), (q131, .inl (y132, 128, .inl (tbI shT 30)))] H := hP
  have hD : va_D A [(c0, .inr (14, [.ref q1, .null, .null, .null, .int 0, .int 0, .int 0, .null, .null, .null, .int 0, .null, .null, .int 0, .int 0, .int 0, .int 0, .int 0, .int 0, .int 0, .int 0, .int 0, .int 0, .int 0, .int 0, .int 0, .int 0, .int 0, .int 0, .null, .int 0, .int 0, .int 0, .int 0, .null, .int 0, .int 0])), (q1, .inl (y2, 128, .inr (.inl (tbL nmT 128)))), (q131, .inl (y132, 128, .inl (tbI shT 30)))] := hD
  refine lv_dup hx hb dX13_init_1053 rfl ?_
  refine lv_bipush (v := 30) hx hb dX13_init_1054 (by decide) ?_
  refine lv_iconst (v := 4) hx hb dX13_init_1056 (by decide) ?_
  refine va_bast (i := 30) (x := 4) hx hb hK hP hD hS 2 1 rfl rfl (vp_in_iff.mpr ⟨by decide, by decide⟩) dX13_init_1057 (fun H locs hP hD hS => ?_)
  rw [tbI_s shT 30 (j := 30) (v := (vp_nar .byte 4)) (by decide) (by decide +kernel)] at hP hD
  have hP : va_P (dC, dI) vwCl [(c0, .inr (14, [.ref q1, .null, .null, .null, .int 0, .int 0, .int 0, .null, .null, .null, .int 0, .null, .null, .int 0, .int 0, .int 0, .int 0, .int 0, .int 0, .int 0, .int 0, .int 0, .int 0, .int 0, .int 0, .int 0, .int 0, .int 0, .int 0, .null, .int 0, .int 0, .int 0, .int 0, .null, .int 0, .int 0])), (q1, .inl (y2, 128, .inr (.inl (tbL nmT 128)))), (q131, .inl (y132, 128, .inl (tbI shT 31)))] H := hP
  have hD : va_D A [(c0, .inr (14, [.ref q1, .null, .null, .null, .int 0, .int 0, .int 0, .null, .null, .null, .int 0, .null, .null, .int 0, .int 0, .int 0, .int 0, .int 0, .int 0, .int 0, .int 0, .int 0, .int 0, .int 0, .int 0, .int 0, .int 0, .int 0, .int 0, .null, .int 0, .int 0, .int 0, .int 0, .null, .int 0, .int 0])), (q1, .inl (y2, 128, .inr (.inl (tbL nmT 128)))), (q131, .inl (y132, 128, .inl (tbI shT 31)))] := hD
  refine lv_dup hx hb dX13_init_1058 rfl ?_
  refine lv_bipush (v := 31) hx hb dX13_init_1059 (by decide) ?_
  refine lv_iconst (v := 4) hx hb dX13_init_1061 (by decide) ?_
  refine va_bast (i := 31) (x := 4) hx hb hK hP hD hS 2 1 rfl rfl (vp_in_iff.mpr ⟨by decide, by decide⟩) dX13_init_1062 (fun H locs hP hD hS => ?_)
  rw [tbI_s shT 31 (j := 31) (v := (vp_nar .byte 4)) (by decide) (by decide +kernel)] at hP hD
  have hP : va_P (dC, dI) vwCl [(c0, .inr (14, [.ref q1, .null, .null, .null, .int 0, .int 0, .int 0, .null, .null, .null, .int 0, .null, .null, .int 0, .int 0, .int 0, .int 0, .int 0, .int 0, .int 0, .int 0, .int 0, .int 0, .int 0, .int 0, .int 0, .int 0, .int 0, .int 0, .null, .int 0, .int 0, .int 0, .int 0, .null, .int 0, .int 0])), (q1, .inl (y2, 128, .inr (.inl (tbL nmT 128)))), (q131, .inl (y132, 128, .inl (tbI shT 32)))] H := hP
  have hD : va_D A [(c0, .inr (14, [.ref q1, .null, .null, .null, .int 0, .int 0, .int 0, .null, .null, .null, .int 0, .null, .null, .int 0, .int 0, .int 0, .int 0, .int 0, .int 0, .int 0, .int 0, .int 0, .int 0, .int 0, .int 0, .int 0, .int 0, .int 0, .int 0, .null, .int 0, .int 0, .int 0, .int 0, .null, .int 0, .int 0])), (q1, .inl (y2, 128, .inr (.inl (tbL nmT 128)))), (q131, .inl (y132, 128, .inl (tbI shT 32)))] := hD
  refine lv_dup hx hb dX13_init_1063 rfl ?_
  refine lv_bipush (v := 32) hx hb dX13_init_1064 (by decide) ?_
  refine lv_bipush (v := 30) hx hb dX13_init_1066 (by decide) ?_
  refine va_bast (i := 32) (x := 30) hx hb hK hP hD hS 2 1 rfl rfl (vp_in_iff.mpr ⟨by decide, by decide⟩) dX13_init_1068 (fun H locs hP hD hS => ?_)
  rw [tbI_s shT 32 (j := 32) (v := (vp_nar .byte 30)) (by decide) (by decide +kernel)] at hP hD
  have hP : va_P (dC, dI) vwCl [(c0, .inr (14, [.ref q1, .null, .null, .null, .int 0, .int 0, .int 0, .null, .null, .null, .int 0, .null, .null, .int 0, .int 0, .int 0, .int 0, .int 0, .int 0, .int 0, .int 0, .int 0, .int 0, .int 0, .int 0, .int 0, .int 0, .int 0, .int 0, .null, .int 0, .int 0, .int 0, .int 0, .null, .int 0, .int 0])), (q1, .inl (y2, 128, .inr (.inl (tbL nmT 128)))), (q131, .inl (y132, 128, .inl (tbI shT 33)))] H := hP
  have hD : va_D A [(c0, .inr (14, [.ref q1, .null, .null, .null, .int 0, .int 0, .int 0, .null, .null, .null, .int 0, .null, .null, .int 0, .int 0, .int 0, .int 0, .int 0, .int 0, .int 0, .int 0, .int 0, .int 0, .int 0, .int 0, .int 0, .int 0, .int 0, .int 0, .null, .int 0, .int 0, .int 0, .int 0, .null, .int 0, .int 0])), (q1, .inl (y2, 128, .inr (.inl (tbL nmT 128)))), (q131, .inl (y132, 128, .inl (tbI shT 33)))] := hD
  refine lv_dup hx hb dX13_init_1069 rfl ?_
  refine lv_bipush (v := 33) hx hb dX13_init_1070 (by decide) ?_
  refine lv_iconst (v := 5) hx hb dX13_init_1072 (by decide) ?_
  refine va_bast (i := 33) (x := 5) hx hb hK hP hD hS 2 1 rfl rfl (vp_in_iff.mpr ⟨by decide, by decide⟩) dX13_init_1073 (fun H locs hP hD hS => ?_)
  rw [tbI_s shT 33 (j := 33) (v := (vp_nar .byte 5)) (by decide) (by decide +kernel)] at hP hD
  have hP : va_P (dC, dI) vwCl [(c0, .inr (14, [.ref q1, .null, .null, .null, .int 0, .int 0, .int 0, .null, .null, .null, .int 0, .null, .null, .int 0, .int 0, .int 0, .int 0, .int 0, .int 0, .int 0, .int 0, .int 0, .int 0, .int 0, .int 0, .int 0, .int 0, .int 0, .int 0, .null, .int 0, .int 0, .int 0, .int 0, .null, .int 0, .int 0])), (q1, .inl (y2, 128, .inr (.inl (tbL nmT 128)))), (q131, .inl (y132, 128, .inl (tbI shT 34)))] H := hP
  have hD : va_D A [(c0, .inr (14, [.ref q1, .null, .null, .null, .int 0, .int 0, .int 0, .null, .null, .null, .int 0, .null, .null, .int 0, .int 0, .int 0, .int 0, .int 0, .int 0, .int 0, .int 0, .int 0, .int 0, .int 0, .int 0, .int 0, .int 0, .int 0, .int 0, .null, .int 0, .int 0, .int 0, .int 0, .null, .int 0, .int 0])), (q1, .inl (y2, 128, .inr (.inl (tbL nmT 128)))), (q131, .inl (y132, 128, .inl (tbI shT 34)))] := hD
  refine lv_dup hx hb dX13_init_1074 rfl ?_
  refine lv_bipush (v := 34) hx hb dX13_init_1075 (by decide) ?_
  refine lv_iconst (v := 5) hx hb dX13_init_1077 (by decide) ?_
  refine va_bast (i := 34) (x := 5) hx hb hK hP hD hS 2 1 rfl rfl (vp_in_iff.mpr ⟨by decide, by decide⟩) dX13_init_1078 (fun H locs hP hD hS => ?_)
  rw [tbI_s shT 34 (j := 34) (v := (vp_nar .byte 5)) (by decide) (by decide +kernel)] at hP hD
  have hP : va_P (dC, dI) vwCl [(c0, .inr (14, [.ref q1, .null, .null, .null, .int 0, .int 0, .int 0, .null, .null, .null, .int 0, .null, .null, .int 0, .int 0, .int 0, .int 0, .int 0, .int 0, .int 0, .int 0, .int 0, .int 0, .int 0, .int 0, .int 0, .int 0, .int 0, .int 0, .null, .int 0, .int 0, .int 0, .int 0, .null, .int 0, .int 0])), (q1, .inl (y2, 128, .inr (.inl (tbL nmT 128)))), (q131, .inl (y132, 128, .inl (tbI shT 35)))] H := hP
  have hD : va_D A [(c0, .inr (14, [.ref q1, .null, .null, .null, .int 0, .int 0, .int 0, .null, .null, .null, .int 0, .null, .null, .int 0, .int 0, .int 0, .int 0, .int 0, .int 0, .int 0, .int 0, .int 0, .int 0, .int 0, .int 0, .int 0, .int 0, .int 0, .int 0, .null, .int 0, .int 0, .int 0, .int 0, .null, .int 0, .int 0])), (q1, .inl (y2, 128, .inr (.inl (tbL nmT 128)))), (q131, .inl (y132, 128, .inl (tbI shT 35)))] := hD
  refine lv_dup hx hb dX13_init_1079 rfl ?_
  refine lv_bipush (v := 35) hx hb dX13_init_1080 (by decide) ?_
  refine lv_iconst (v := 5) hx hb dX13_init_1082 (by decide) ?_
  refine va_bast (i := 35) (x := 5) hx hb hK hP hD hS 2 1 rfl rfl (vp_in_iff.mpr ⟨by decide, by decide⟩) dX13_init_1083 (fun H locs hP hD hS => ?_)
  rw [tbI_s shT 35 (j := 35) (v := (vp_nar .byte 5)) (by decide) (by decide +kernel)] at hP hD
  have hP : va_P (dC, dI) vwCl [(c0, .inr (14, [.ref q1, .null, .null, .null, .int 0, .int 0, .int 0, .null, .null, .null, .int 0, .null, .null, .int 0, .int 0, .int 0, .int 0, .int 0, .int 0, .int 0, .int 0, .int 0, .int 0, .int 0, .int 0, .int 0, .int 0, .int 0, .int 0, .null, .int 0, .int 0, .int 0, .int 0, .null, .int 0, .int 0])), (q1, .inl (y2, 128, .inr (.inl (tbL nmT 128)))), (q131, .inl (y132, 128, .inl (tbI shT 36)))] H := hP
  have hD : va_D A [(c0, .inr (14, [.ref q1, .null, .null, .null, .int 0, .int 0, .int 0, .null, .null, .null, .int 0, .null, .null, .int 0, .int 0, .int 0, .int 0, .int 0, .int 0, .int 0, .int 0, .int 0, .int 0, .int 0, .int 0, .int 0, .int 0, .int 0, .int 0, .null, .int 0, .int 0, .int 0, .int 0, .null, .int 0, .int 0])), (q1, .inl (y2, 128, .inr (.inl (tbL nmT 128)))), (q131, .inl (y132, 128, .inl (tbI shT 36)))] := hD
  refine lv_dup hx hb dX13_init_1084 rfl ?_
  refine lv_bipush (v := 36) hx hb dX13_init_1085 (by decide) ?_
  refine lv_bipush (v := 6) hx hb dX13_init_1087 (by decide) ?_
  refine va_bast (i := 36) (x := 6) hx hb hK hP hD hS 2 1 rfl rfl (vp_in_iff.mpr ⟨by decide, by decide⟩) dX13_init_1089 (fun H locs hP hD hS => ?_)
  rw [tbI_s shT 36 (j := 36) (v := (vp_nar .byte 6)) (by decide) (by decide +kernel)] at hP hD
  have hP : va_P (dC, dI) vwCl [(c0, .inr (14, [.ref q1, .null, .null, .null, .int 0, .int 0, .int 0, .null, .null, .null, .int 0, .null, .null, .int 0, .int 0, .int 0, .int 0, .int 0, .int 0, .int 0, .int 0, .int 0, .int 0, .int 0, .int 0, .int 0, .int 0, .int 0, .int 0, .null, .int 0, .int 0, .int 0, .int 0, .null, .int 0, .int 0])), (q1, .inl (y2, 128, .inr (.inl (tbL nmT 128)))), (q131, .inl (y132, 128, .inl (tbI shT 37)))] H := hP
  have hD : va_D A [(c0, .inr (14, [.ref q1, .null, .null, .null, .int 0, .int 0, .int 0, .null, .null, .null, .int 0, .null, .null, .int 0, .int 0, .int 0, .int 0, .int 0, .int 0, .int 0, .int 0, .int 0, .int 0, .int 0, .int 0, .int 0, .int 0, .int 0, .int 0, .null, .int 0, .int 0, .int 0, .int 0, .null, .int 0, .int 0])), (q1, .inl (y2, 128, .inr (.inl (tbL nmT 128)))), (q131, .inl (y132, 128, .inl (tbI shT 37)))] := hD
  refine lv_dup hx hb dX13_init_1090 rfl ?_
  refine lv_bipush (v := 37) hx hb dX13_init_1091 (by decide) ?_
  refine lv_bipush (v := 6) hx hb dX13_init_1093 (by decide) ?_
  refine va_bast (i := 37) (x := 6) hx hb hK hP hD hS 2 1 rfl rfl (vp_in_iff.mpr ⟨by decide, by decide⟩) dX13_init_1095 (fun H locs hP hD hS => ?_)
  rw [tbI_s shT 37 (j := 37) (v := (vp_nar .byte 6)) (by decide) (by decide +kernel)] at hP hD
  have hP : va_P (dC, dI) vwCl [(c0, .inr (14, [.ref q1, .null, .null, .null, .int 0, .int 0, .int 0, .null, .null, .null, .int 0, .null, .null, .int 0, .int 0, .int 0, .int 0, .int 0, .int 0, .int 0, .int 0, .int 0, .int 0, .int 0, .int 0, .int 0, .int 0, .int 0, .int 0, .null, .int 0, .int 0, .int 0, .int 0, .null, .int 0, .int 0])), (q1, .inl (y2, 128, .inr (.inl (tbL nmT 128)))), (q131, .inl (y132, 128, .inl (tbI shT 38)))] H := hP
  have hD : va_D A [(c0, .inr (14, [.ref q1, .null, .null, .null, .int 0, .int 0, .int 0, .null, .null, .null, .int 0, .null, .null, .int 0, .int 0, .int 0, .int 0, .int 0, .int 0, .int 0, .int 0, .int 0, .int 0, .int 0, .int 0, .int 0, .int 0, .int 0, .int 0, .null, .int 0, .int 0, .int 0, .int 0, .null, .int 0, .int 0])), (q1, .inl (y2, 128, .inr (.inl (tbL nmT 128)))), (q131, .inl (y132, 128, .inl (tbI shT 38)))] := hD
  refine lv_dup hx hb dX13_init_1096 rfl ?_
  refine lv_bipush (v := 38) hx hb dX13_init_1097 (by decide) ?_
  refine lv_bipush (v := 7) hx hb dX13_init_1099 (by decide) ?_
  refine va_bast (i := 38) (x := 7) hx hb hK hP hD hS 2 1 rfl rfl (vp_in_iff.mpr ⟨by decide, by decide⟩) dX13_init_1101 (fun H locs hP hD hS => ?_)
  rw [tbI_s shT 38 (j := 38) (v := (vp_nar .byte 7)) (by decide) (by decide +kernel)] at hP hD
  have hP : va_P (dC, dI) vwCl [(c0, .inr (14, [.ref q1, .null, .null, .null, .int 0, .int 0, .int 0, .null, .null, .null, .int 0, .null, .null, .int 0, .int 0, .int 0, .int 0, .int 0, .int 0, .int 0, .int 0, .int 0, .int 0, .int 0, .int 0, .int 0, .int 0, .int 0, .int 0, .null, .int 0, .int 0, .int 0, .int 0, .null, .int 0, .int 0])), (q1, .inl (y2, 128, .inr (.inl (tbL nmT 128)))), (q131, .inl (y132, 128, .inl (tbI shT 39)))] H := hP
  have hD : va_D A [(c0, .inr (14, [.ref q1, .null, .null, .null, .int 0, .int 0, .int 0, .null, .null, .null, .int 0, .null, .null, .int 0, .int 0, .int 0, .int 0, .int 0, .int 0, .int 0, .int 0, .int 0, .int 0, .int 0, .int 0, .int 0, .int 0, .int 0, .int 0, .null, .int 0, .int 0, .int 0, .int 0, .null, .int 0, .int 0])), (q1, .inl (y2, 128, .inr (.inl (tbL nmT 128)))), (q131, .inl (y132, 128, .inl (tbI shT 39)))] := hD
  refine lv_dup hx hb dX13_init_1102 rfl ?_
  refine lv_bipush (v := 39) hx hb dX13_init_1103 (by decide) ?_
  refine lv_bipush (v := 7) hx hb dX13_init_1105 (by decide) ?_
  refine va_bast (i := 39) (x := 7) hx hb hK hP hD hS 2 1 rfl rfl (vp_in_iff.mpr ⟨by decide, by decide⟩) dX13_init_1107 (fun H locs hP hD hS => ?_)
  rw [tbI_s shT 39 (j := 39) (v := (vp_nar .byte 7)) (by decide) (by decide +kernel)] at hP hD
  have hP : va_P (dC, dI) vwCl [(c0, .inr (14, [.ref q1, .null, .null, .null, .int 0, .int 0, .int 0, .null, .null, .null, .int 0, .null, .null, .int 0, .int 0, .int 0, .int 0, .int 0, .int 0, .int 0, .int 0, .int 0, .int 0, .int 0, .int 0, .int 0, .int 0, .int 0, .int 0, .null, .int 0, .int 0, .int 0, .int 0, .null, .int 0, .int 0])), (q1, .inl (y2, 128, .inr (.inl (tbL nmT 128)))), (q131, .inl (y132, 128, .inl (tbI shT 40)))] H := hP
  have hD : va_D A [(c0, .inr (14, [.ref q1, .null, .null, .null, .int 0, .int 0, .int 0, .null, .null, .null, .int 0, .null, .null, .int 0, .int 0, .int 0, .int 0, .int 0, .int 0, .int 0, .int 0, .int 0, .int 0, .int 0, .int 0, .int 0, .int 0, .int 0, .int 0, .null, .int 0, .int 0, .int 0, .int 0, .null, .int 0, .int 0])), (q1, .inl (y2, 128, .inr (.inl (tbL nmT 128)))), (q131, .inl (y132, 128, .inl (tbI shT 40)))] := hD
  refine lv_dup hx hb dX13_init_1108 rfl ?_
  refine lv_bipush (v := 40) hx hb dX13_init_1109 (by decide) ?_
  refine lv_bipush (v := 7) hx hb dX13_init_1111 (by decide) ?_
  refine va_bast (i := 40) (x := 7) hx hb hK hP hD hS 2 1 rfl rfl (vp_in_iff.mpr ⟨by decide, by decide⟩) dX13_init_1113 (fun H locs hP hD hS => ?_)
  rw [tbI_s shT 40 (j := 40) (v := (vp_nar .byte 7)) (by decide) (by decide +kernel)] at hP hD
  have hP : va_P (dC, dI) vwCl [(c0, .inr (14, [.ref q1, .null, .null, .null, .int 0, .int 0, .int 0, .null, .null, .null, .int 0, .null, .null, .int 0, .int 0, .int 0, .int 0, .int 0, .int 0, .int 0, .int 0, .int 0, .int 0, .int 0, .int 0, .int 0, .int 0, .int 0, .int 0, .null, .int 0, .int 0, .int 0, .int 0, .null, .int 0, .int 0])), (q1, .inl (y2, 128, .inr (.inl (tbL nmT 128)))), (q131, .inl (y132, 128, .inl (tbI shT 41)))] H := hP
  have hD : va_D A [(c0, .inr (14, [.ref q1, .null, .null, .null, .int 0, .int 0, .int 0, .null, .null, .null, .int 0, .null, .null, .int 0, .int 0, .int 0, .int 0, .int 0, .int 0, .int 0, .int 0, .int 0, .int 0, .int 0, .int 0, .int 0, .int 0, .int 0, .int 0, .null, .int 0, .int 0, .int 0, .int 0, .null, .int 0, .int 0])), (q1, .inl (y2, 128, .inr (.inl (tbL nmT 128)))), (q131, .inl (y132, 128, .inl (tbI shT 41)))] := hD
  refine lv_dup hx hb dX13_init_1114 rfl ?_
  refine lv_bipush (v := 41) hx hb dX13_init_1115 (by decide) ?_
  refine lv_bipush (v := 7) hx hb dX13_init_1117 (by decide) ?_
  refine va_bast (i := 41) (x := 7) hx hb hK hP hD hS 2 1 rfl rfl (vp_in_iff.mpr ⟨by decide, by decide⟩) dX13_init_1119 (fun H locs hP hD hS => ?_)
  rw [tbI_s shT 41 (j := 41) (v := (vp_nar .byte 7)) (by decide) (by decide +kernel)] at hP hD
  have hP : va_P (dC, dI) vwCl [(c0, .inr (14, [.ref q1, .null, .null, .null, .int 0, .int 0, .int 0, .null, .null, .null, .int 0, .null, .null, .int 0, .int 0, .int 0, .int 0, .int 0, .int 0, .int 0, .int 0, .int 0, .int 0, .int 0, .int 0, .int 0, .int 0, .int 0, .int 0, .null, .int 0, .int 0, .int 0, .int 0, .null, .int 0, .int 0])), (q1, .inl (y2, 128, .inr (.inl (tbL nmT 128)))), (q131, .inl (y132, 128, .inl (tbI shT 42)))] H := hP
  have hD : va_D A [(c0, .inr (14, [.ref q1, .null, .null, .null, .int 0, .int 0, .int 0, .null, .null, .null, .int 0, .null, .null, .int 0, .int 0, .int 0, .int 0, .int 0, .int 0, .int 0, .int 0, .int 0, .int 0, .int 0, .int 0, .int 0, .int 0, .int 0, .int 0, .null, .int 0, .int 0, .int 0, .int 0, .null, .int 0, .int 0])), (q1, .inl (y2, 128, .inr (.inl (tbL nmT 128)))), (q131, .inl (y132, 128, .inl (tbI shT 42)))] := hD
  refine lv_dup hx hb dX13_init_1120 rfl ?_
  refine lv_bipush (v := 42) hx hb dX13_init_1121 (by decide) ?_
  refine lv_bipush (v := 7) hx hb dX13_init_1123 (by decide) ?_
  refine va_bast (i := 42) (x := 7) hx hb hK hP hD hS 2 1 rfl rfl (vp_in_iff.mpr ⟨by decide, by decide⟩) dX13_init_1125 (fun H locs hP hD hS => ?_)
  rw [tbI_s shT 42 (j := 42) (v := (vp_nar .byte 7)) (by decide) (by decide +kernel)] at hP hD
  have hP : va_P (dC, dI) vwCl [(c0, .inr (14, [.ref q1, .null, .null, .null, .int 0, .int 0, .int 0, .null, .null, .null, .int 0, .null, .null, .int 0, .int 0, .int 0, .int 0, .int 0, .int 0, .int 0, .int 0, .int 0, .int 0, .int 0, .int 0, .int 0, .int 0, .int 0, .int 0, .null, .int 0, .int 0, .int 0, .int 0, .null, .int 0, .int 0])), (q1, .inl (y2, 128, .inr (.inl (tbL nmT 128)))), (q131, .inl (y132, 128, .inl (tbI shT 43)))] H := hP
  have hD : va_D A [(c0, .inr (14, [.ref q1, .null, .null, .null, .int 0, .int 0, .int 0, .null, .null, .null, .int 0, .null, .null, .int 0, .int 0, .int 0, .int 0, .int 0, .int 0, .int 0, .int 0, .int 0, .int 0, .int 0, .int 0, .int 0, .int 0, .int 0, .int 0, .null, .int 0, .int 0, .int 0, .int 0, .null, .int 0, .int 0])), (q1, .inl (y2, 128, .inr (.inl (tbL nmT 128)))), (q131, .inl (y132, 128, .inl (tbI shT 43)))] := hD
  refine lv_dup hx hb dX13_init_1126 rfl ?_
  refine lv_bipush (v := 43) hx hb dX13_init_1127 (by decide) ?_
  refine lv_bipush (v := 7) hx hb dX13_init_1129 (by decide) ?_
  refine va_bast (i := 43) (x := 7) hx hb hK hP hD hS 2 1 rfl rfl (vp_in_iff.mpr ⟨by decide, by decide⟩) dX13_init_1131 (fun H locs hP hD hS => ?_)
  rw [tbI_s shT 43 (j := 43) (v := (vp_nar .byte 7)) (by decide) (by decide +kernel)] at hP hD
  have hP : va_P (dC, dI) vwCl [(c0, .inr (14, [.ref q1, .null, .null, .null, .int 0, .int 0, .int 0, .null, .null, .null, .int 0, .null, .null, .int 0, .int 0, .int 0, .int 0, .int 0, .int 0, .int 0, .int 0, .int 0, .int 0, .int 0, .int 0, .int 0, .int 0, .int 0, .int 0, .null, .int 0, .int 0, .int 0, .int 0, .null, .int 0, .int 0])), (q1, .inl (y2, 128, .inr (.inl (tbL nmT 128)))), (q131, .inl (y132, 128, .inl (tbI shT 44)))] H := hP
  have hD : va_D A [(c0, .inr (14, [.ref q1, .null, .null, .null, .int 0, .int 0, .int 0, .null, .null, .null, .int 0, .null, .null, .int 0, .int 0, .int 0, .int 0, .int 0, .int 0, .int 0, .int 0, .int 0, .int 0, .int 0, .int 0, .int 0, .int 0, .int 0, .int 0, .null, .int 0, .int 0, .int 0, .int 0, .null, .int 0, .int 0])), (q1, .inl (y2, 128, .inr (.inl (tbL nmT 128)))), (q131, .inl (y132, 128, .inl (tbI shT 44)))] := hD
  refine lv_dup hx hb dX13_init_1132 rfl ?_
  refine lv_bipush (v := 44) hx hb dX13_init_1133 (by decide) ?_
  refine lv_bipush (v := 8) hx hb dX13_init_1135 (by decide) ?_
  refine va_bast (i := 44) (x := 8) hx hb hK hP hD hS 2 1 rfl rfl (vp_in_iff.mpr ⟨by decide, by decide⟩) dX13_init_1137 (fun H locs hP hD hS => ?_)
  rw [tbI_s shT 44 (j := 44) (v := (vp_nar .byte 8)) (by decide) (by decide +kernel)] at hP hD
  have hP : va_P (dC, dI) vwCl [(c0, .inr (14, [.ref q1, .null, .null, .null, .int 0, .int 0, .int 0, .null, .null, .null, .int 0, .null, .null, .int 0, .int 0, .int 0, .int 0, .int 0, .int 0, .int 0, .int 0, .int 0, .int 0, .int 0, .int 0, .int 0, .int 0, .int 0, .int 0, .null, .int 0, .int 0, .int 0, .int 0, .null, .int 0, .int 0])), (q1, .inl (y2, 128, .inr (.inl (tbL nmT 128)))), (q131, .inl (y132, 128, .inl (tbI shT 45)))] H := hP
  have hD : va_D A [(c0, .inr (14, [.ref q1, .null, .null, .null, .int 0, .int 0, .int 0, .null, .null, .null, .int 0, .null, .null, .int 0, .int 0, .int 0, .int 0, .int 0, .int 0, .int 0, .int 0, .int 0, .int 0, .int 0, .int 0, .int 0, .int 0, .int 0, .int 0, .null, .int 0, .int 0, .int 0, .int 0, .null, .int 0, .int 0])), (q1, .inl (y2, 128, .inr (.inl (tbL nmT 128)))), (q131, .inl (y132, 128, .inl (tbI shT 45)))] := hD
  refine lv_dup hx hb dX13_init_1138 rfl ?_
  refine lv_bipush (v := 45) hx hb dX13_init_1139 (by decide) ?_
  refine lv_bipush (v := 9) hx hb dX13_init_1141 (by decide) ?_
  refine va_bast (i := 45) (x := 9) hx hb hK hP hD hS 2 1 rfl rfl (vp_in_iff.mpr ⟨by decide, by decide⟩) dX13_init_1143 (fun H locs hP hD hS => ?_)
  rw [tbI_s shT 45 (j := 45) (v := (vp_nar .byte 9)) (by decide) (by decide +kernel)] at hP hD
  have hP : va_P (dC, dI) vwCl [(c0, .inr (14, [.ref q1, .null, .null, .null, .int 0, .int 0, .int 0, .null, .null, .null, .int 0, .null, .null, .int 0, .int 0, .int 0, .int 0, .int 0, .int 0, .int 0, .int 0, .int 0, .int 0, .int 0, .int 0, .int 0, .int 0, .int 0, .int 0, .null, .int 0, .int 0, .int 0, .int 0, .null, .int 0, .int 0])), (q1, .inl (y2, 128, .inr (.inl (tbL nmT 128)))), (q131, .inl (y132, 128, .inl (tbI shT 46)))] H := hP
  have hD : va_D A [(c0, .inr (14, [.ref q1, .null, .null, .null, .int 0, .int 0, .int 0, .null, .null, .null, .int 0, .null, .null, .int 0, .int 0, .int 0, .int 0, .int 0, .int 0, .int 0, .int 0, .int 0, .int 0, .int 0, .int 0, .int 0, .int 0, .int 0, .int 0, .null, .int 0, .int 0, .int 0, .int 0, .null, .int 0, .int 0])), (q1, .inl (y2, 128, .inr (.inl (tbL nmT 128)))), (q131, .inl (y132, 128, .inl (tbI shT 46)))] := hD
  refine lv_dup hx hb dX13_init_1144 rfl ?_
  refine lv_bipush (v := 46) hx hb dX13_init_1145 (by decide) ?_
  refine lv_bipush (v := 9) hx hb dX13_init_1147 (by decide) ?_
  refine va_bast (i := 46) (x := 9) hx hb hK hP hD hS 2 1 rfl rfl (vp_in_iff.mpr ⟨by decide, by decide⟩) dX13_init_1149 (fun H locs hP hD hS => ?_)
  rw [tbI_s shT 46 (j := 46) (v := (vp_nar .byte 9)) (by decide) (by decide +kernel)] at hP hD
  have hP : va_P (dC, dI) vwCl [(c0, .inr (14, [.ref q1, .null, .null, .null, .int 0, .int 0, .int 0, .null, .null, .null, .int 0, .null, .null, .int 0, .int 0, .int 0, .int 0, .int 0, .int 0, .int 0, .int 0, .int 0, .int 0, .int 0, .int 0, .int 0, .int 0, .int 0, .int 0, .null, .int 0, .int 0, .int 0, .int 0, .null, .int 0, .int 0])), (q1, .inl (y2, 128, .inr (.inl (tbL nmT 128)))), (q131, .inl (y132, 128, .inl (tbI shT 47)))] H := hP
  have hD : va_D A [(c0, .inr (14, [.ref q1, .null, .null, .null, .int 0, .int 0, .int 0, .null, .null, .null, .int 0, .null, .null, .int 0, .int 0, .int 0, .int 0, .int 0, .int 0, .int 0, .int 0, .int 0, .int 0, .int 0, .int 0, .int 0, .int 0, .int 0, .int 0, .null, .int 0, .int 0, .int 0, .int 0, .null, .int 0, .int 0])), (q1, .inl (y2, 128, .inr (.inl (tbL nmT 128)))), (q131, .inl (y132, 128, .inl (tbI shT 47)))] := hD
  refine lv_dup hx hb dX13_init_1150 rfl ?_
  refine lv_bipush (v := 47) hx hb dX13_init_1151 (by decide) ?_
  refine lv_bipush (v := 9) hx hb dX13_init_1153 (by decide) ?_
  refine va_bast (i := 47) (x := 9) hx hb hK hP hD hS 2 1 rfl rfl (vp_in_iff.mpr ⟨by decide, by decide⟩) dX13_init_1155 (fun H locs hP hD hS => ?_)
  rw [tbI_s shT 47 (j := 47) (v := (vp_nar .byte 9)) (by decide) (by decide +kernel)] at hP hD
  have hP : va_P (dC, dI) vwCl [(c0, .inr (14, [.ref q1, .null, .null, .null, .int 0, .int 0, .int 0, .null, .null, .null, .int 0, .null, .null, .int 0, .int 0, .int 0, .int 0, .int 0, .int 0, .int 0, .int 0, .int 0, .int 0, .int 0, .int 0, .int 0, .int 0, .int 0, .int 0, .null, .int 0, .int 0, .int 0, .int 0, .null, .int 0, .int 0])), (q1, .inl (y2, 128, .inr (.inl (tbL nmT 128)))), (q131, .inl (y132, 128, .inl (tbI shT 48)))] H := hP
  have hD : va_D A [(c0, .inr (14, [.ref q1, .null, .null, .null, .int 0, .int 0, .int 0, .null, .null, .null, .int 0, .null, .null, .int 0, .int 0, .int 0, .int 0, .int 0, .int 0, .int 0, .int 0, .int 0, .int 0, .int 0, .int 0, .int 0, .int 0, .int 0, .int 0, .null, .int 0, .int 0, .int 0, .int 0, .null, .int 0, .int 0])), (q1, .inl (y2, 128, .inr (.inl (tbL nmT 128)))), (q131, .inl (y132, 128, .inl (tbI shT 48)))] := hD
  refine lv_dup hx hb dX13_init_1156 rfl ?_
  refine lv_bipush (v := 48) hx hb dX13_init_1157 (by decide) ?_
  refine lv_bipush (v := 9) hx hb dX13_init_1159 (by decide) ?_
  refine va_bast (i := 48) (x := 9) hx hb hK hP hD hS 2 1 rfl rfl (vp_in_iff.mpr ⟨by decide, by decide⟩) dX13_init_1161 (fun H locs hP hD hS => ?_)
  rw [tbI_s shT 48 (j := 48) (v := (vp_nar .byte 9)) (by decide) (by decide +kernel)] at hP hD
  have hP : va_P (dC, dI) vwCl [(c0, .inr (14, [.ref q1, .null, .null, .null, .int 0, .int 0, .int 0, .null, .null, .null, .int 0, .null, .null, .int 0, .int 0, .int 0, .int 0, .int 0, .int 0, .int 0, .int 0, .int 0, .int 0, .int 0, .int 0, .int 0, .int 0, .int 0, .int 0, .null, .int 0, .int 0, .int 0, .int 0, .null, .int 0, .int 0])), (q1, .inl (y2, 128, .inr (.inl (tbL nmT 128)))), (q131, .inl (y132, 128, .inl (tbI shT 49)))] H := hP
  have hD : va_D A [(c0, .inr (14, [.ref q1, .null, .null, .null, .int 0, .int 0, .int 0, .null, .null, .null, .int 0, .null, .null, .int 0, .int 0, .int 0, .int 0, .int 0, .int 0, .int 0, .int 0, .int 0, .int 0, .int 0, .int 0, .int 0, .int 0, .int 0, .int 0, .null, .int 0, .int 0, .int 0, .int 0, .null, .int 0, .int 0])), (q1, .inl (y2, 128, .inr (.inl (tbL nmT 128)))), (q131, .inl (y132, 128, .inl (tbI shT 49)))] := hD
  refine lv_dup hx hb dX13_init_1162 rfl ?_
  refine lv_bipush (v := 49) hx hb dX13_init_1163 (by decide) ?_
  refine lv_bipush (v := 9) hx hb dX13_init_1165 (by decide) ?_
  exact kk _ _ _ hK hP hD hS hl


set_option maxHeartbeats 40000000 in
set_option maxRecDepth 100000 in
theorem k_X13_init_s8 {p : Program} {l : Launch} {e : Env} {s : State} {m : MethodId} {args : Array Value} {below : List Frame} {meth : Method} {c : Code} {Q : State → Prop} {A : Nat → Prop} (dC : Nat → ClassId) (dI : Nat → Nat → Nat) (c0 : Nat) (q1 : Nat) (y2 : ClassId) (q131 : Nat) (y132 : ClassId) (hlt : l.stackTraces = false) (hx : p.tables.exec = Jvm.exec) (hb : c.code = cX13_init) (hml : c.maxLocals = 1) (hown : s.vm.findClass RX13 = some m.cls) (hts : ∀ w ∈ ow_k_X13_init, w.before args s = true) (hin : meth.name = "<init>") (hN : nv_E dI A s) (hA : ∀ q : Nat, s.heap.size ≤ q → A q) {H : Heap} {locs : List Loc} {ls : Array Slot} (hK : va_K (dC, dI) vwCl [(y2, .long), (y132, .byte)] s) (hP : va_P (dC, dI) vwCl [(c0, .inr (14, [.ref q1, .null, .null, .null, .int 0, .int 0, .int 0, .null, .null, .null, .int 0, .null, .null, .int 0, .int 0, .int 0, .int 0, .int 0, .int 0, .int 0, .int 0, .int 0, .int 0, .int 0, .int 0, .int 0, .int 0, .int 0, .int 0, .null, .int 0, .int 0, .int 0, .int 0, .null, .int 0, .int 0])), (q1, .inl (y2, 128, .inr (.inl (tbL nmT 128)))), (q131, .inl (y132, 128, .inl (tbI shT 49)))] H) (hD : va_D A [(c0, .inr (14, [.ref q1, .null, .null, .null, .int 0, .int 0, .int 0, .null, .null, .null, .int 0, .null, .null, .int 0, .int 0, .int 0, .int 0, .int 0, .int 0, .int 0, .int 0, .int 0, .int 0, .int 0, .int 0, .int 0, .int 0, .int 0, .int 0, .null, .int 0, .int 0, .int 0, .int 0, .null, .int 0, .int 0])), (q1, .inl (y2, 128, .inr (.inl (tbL nmT 128)))), (q131, .inl (y132, 128, .inl (tbI shT 49)))]) (hS : va_S A s.heap H locs) (hl : lv_has ls 1 [(0, .ref c0)]) (kk : ∀ (H : Heap) (locs : List Loc) (ls : Array Slot), va_K (dC, dI) vwCl [(y2, .long), (y132, .byte)] s → va_P (dC, dI) vwCl [(c0, .inr (14, [.ref q1, .null, .null, .null, .int 0, .int 0, .int 0, .null, .null, .null, .int 0, .null, .null, .int 0, .int 0, .int 0, .int 0, .int 0, .int 0, .int 0, .int 0, .int 0, .int 0, .int 0, .int 0, .int 0, .int 0, .int 0, .int 0, .null, .int 0, .int 0, .int 0, .int 0, .null, .int 0, .int 0])), (q1, .inl (y2, 128, .inr (.inl (tbL nmT 128)))), (q131, .inl (y132, 128, .inl (tbI shT 72)))] H → va_D A [(c0, .inr (14, [.ref q1, .null, .null, .null, .int 0, .int 0, .int 0, .null, .null, .null, .int 0, .null, .null, .int 0, .int 0, .int 0, .int 0, .int 0, .int 0, .int 0, .int 0, .int 0, .int 0, .int 0, .int 0, .int 0, .int 0, .int 0, .int 0, .null, .int 0, .int 0, .int 0, .int 0, .null, .int 0, .int 0])), (q1, .inl (y2, 128, .inr (.inl (tbL nmT 128)))), (q131, .inl (y132, 128, .inl (tbI shT 72)))] → va_S A s.heap H locs → lv_has ls 1 [(0, .ref c0)] → W p l e (headSpec ow_k_X13_init ({ frames := 1, cells := 10, slots := 131956, locals := 12 })).room s m args below meth c H locs 2 256 Q (F0 m 1301 ls [.ref q131, .ref q131, .ref c0])) : W p l e (headSpec ow_k_X13_init ({ frames := 1, cells := 10, slots := 131956, locals := 12 })).room s m args below meth c H locs 2 256 Q (F0 m 1167 ls [.int 9, .int 49, .ref q131, .ref q131, .ref c0]) := by
  refine va_bast (i := 49) (x := 9) hx hb hK hP hD hS 2 1 rfl rfl (vp_in_iff.mpr ⟨by decide, by decide⟩) dX13_init_1167 (fun H locs hP hD hS => ?_)
  rw [tbI_s shT 49 (j := 49) (v := (vp_nar .byte 9)) (by decide) (by decide +kernel)] at hP hD
  have hP : va_P (dC, dI) vwCl [(c0, .inr (14, [.ref q1, .null, .null, .null, .int 0, .int 0, .int 0, .null, .null, .null, .int 0, .null, .null, .int 0, .int 0, .int 0, .int 0, .int 0, .int 0, .int 0, .int 0, .int 0, .int 0, .int 0, .int 0, .int 0, .int 0, .int 0, .int 0, .null, .int 0, .int 0, .int 0, .int 0, .null, .int 0, .int 0])), (q1, .inl (y2, 128, .inr (.inl (tbL nmT 128)))), (q131, .inl (y132, 128, .inl (tbI shT 50)))] H := hP
  have hD : va_D A [(c0, .inr (14, [.ref q1, .null, .null, .null, .int 0, .int 0, .int 0, .null, .null, .null, .int 0, .null, .null, .int 0, .int 0, .int 0, .int 0, .int 0, .int 0, .int 0, .int 0, .int 0, .int 0, .int 0, .int 0, .int 0, .int 0, .int 0, .int 0, .null, .int 0, .int 0, .int 0, .int 0, .null, .int 0, .int 0])), (q1, .inl (y2, 128, .inr (.inl (tbL nmT 128)))), (q131, .inl (y132, 128, .inl (tbI shT 50)))] := hD
  refine lv_dup hx hb dX13_init_1168 rfl ?_
  refine lv_bipush (v := 50) hx hb dX13_init_1169 (by decide) ?_
  refine lv_bipush (v := 9) hx hb dX13_init_1171 (by decide) ?_
  refine va_bast (i := 50) (x := 9) hx hb hK hP hD hS 2 1 rfl rfl (vp_in_iff.mpr ⟨by decide, by decide⟩) dX13_init_1173 (fun H locs hP hD hS => ?_)
  rw [tbI_s shT 50 (j := 50) (v := (vp_nar .byte 9)) (by decide) (by decide +kernel)] at hP hD
  have hP : va_P (dC, dI) vwCl [(c0, .inr (14, [.ref q1, .null, .null, .null, .int 0, .int 0, .int 0, .null, .null, .null, .int 0, .null, .null, .int 0, .int 0, .int 0, .int 0, .int 0, .int 0, .int 0, .int 0, .int 0, .int 0, .int 0, .int 0, .int 0, .int 0, .int 0, .int 0, .null, .int 0, .int 0, .int 0, .int 0, .null, .int 0, .int 0])), (q1, .inl (y2, 128, .inr (.inl (tbL nmT 128)))), (q131, .inl (y132, 128, .inl (tbI shT 51)))] H := hP
  have hD : va_D A [(c0, .inr (14, [.ref q1, .null, .null, .null, .int 0, .int 0, .int 0, .null, .null, .null, .int 0, .null, .null, .int 0, .int 0, .int 0, .int 0, .int 0, .int 0, .int 0, .int 0, .int 0, .int 0, .int 0, .int 0, .int 0, .int 0, .int 0, .int 0, .null, .int 0, .int 0, .int 0, .int 0, .null, .int 0, .int 0])), (q1, .inl (y2, 128, .inr (.inl (tbL nmT 128)))), (q131, .inl (y132, 128, .inl (tbI shT 51)))] := hD
  refine lv_dup hx hb dX13_init_1174 rfl ?_
  refine lv_bipush (v := 51) hx hb dX13_init_1175 (by decide) ?_
  refine lv_bipush (v := 9) hx hb dX13_init_1177 (by decide) ?_
  refine va_bast (i := 51) (x := 9) hx hb hK hP hD hS 2 1 rfl rfl (vp_in_iff.mpr ⟨by decide, by decide⟩) dX13_init_1179 (fun H locs hP hD hS => ?_)
  rw [tbI_s shT 51 (j := 51) (v := (vp_nar .byte 9)) (by decide) (by decide +kernel)] at hP hD
  have hP : va_P (dC, dI) vwCl [(c0, .inr (14, [.ref q1, .null, .null, .null, .int 0, .int 0, .int 0, .null, .null, .null, .int 0, .null, .null, .int 0, .int 0, .int 0, .int 0, .int 0, .int 0, .int 0, .int 0, .int 0, .int 0, .int 0, .int 0, .int 0, .int 0, .int 0, .int 0, .null, .int 0, .int 0, .int 0, .int 0, .null, .int 0, .int 0])), (q1, .inl (y2, 128, .inr (.inl (tbL nmT 128)))), (q131, .inl (y132, 128, .inl (tbI shT 52)))] H := hP
  have hD : va_D A [(c0, .inr (14, [.ref q1, .null, .null, .null, .int 0, .int 0, .int 0, .null, .null, .null, .int 0, .null, .null, .int 0, .int 0, .int 0, .int 0, .int 0, .int 0, .int 0, .int 0, .int 0, .int 0, .int 0, .int 0, .int 0, .int 0, .int 0, .int 0, .null, .int 0, .int 0, .int 0, .int 0, .null, .int 0, .int 0])), (q1, .inl (y2, 128, .inr (.inl (tbL nmT 128)))), (q131, .inl (y132, 128, .inl (tbI shT 52)))] := hD
  refine lv_dup hx hb dX13_init_1180 rfl ?_
  refine lv_bipush (v := 52) hx hb dX13_init_1181 (by decide) ?_
  refine lv_bipush (v := 9) hx hb dX13_init_1183 (by decide) ?_
  refine va_bast (i := 52) (x := 9) hx hb hK hP hD hS 2 1 rfl rfl (vp_in_iff.mpr ⟨by decide, by decide⟩) dX13_init_1185 (fun H locs hP hD hS => ?_)
  rw [tbI_s shT 52 (j := 52) (v := (vp_nar .byte 9)) (by decide) (by decide +kernel)] at hP hD
  have hP : va_P (dC, dI) vwCl [(c0, .inr (14, [.ref q1, .null, .null, .null, .int 0, .int 0, .int 0, .null, .null, .null, .int 0, .null, .null, .int 0, .int 0, .int 0, .int 0, .int 0, .int 0, .int 0, .int 0, .int 0, .int 0, .int 0, .int 0, .int 0, .int 0, .int 0, .int 0, .null, .int 0, .int 0, .int 0, .int 0, .null, .int 0, .int 0])), (q1, .inl (y2, 128, .inr (.inl (tbL nmT 128)))), (q131, .inl (y132, 128, .inl (tbI shT 53)))] H := hP
  have hD : va_D A [(c0, .inr (14, [.ref q1, .null, .null, .null, .int 0, .int 0, .int 0, .null, .null, .null, .int 0, .null, .null, .int 0, .int 0, .int 0, .int 0, .int 0, .int 0, .int 0, .int 0, .int 0, .int 0, .int 0, .int 0, .int 0, .int 0, .int 0, .int 0, .null, .int 0, .int 0, .int 0, .int 0, .null, .int 0, .int 0])), (q1, .inl (y2, 128, .inr (.inl (tbL nmT 128)))), (q131, .inl (y132, 128, .inl (tbI shT 53)))] := hD
  refine lv_dup hx hb dX13_init_1186 rfl ?_
  refine lv_bipush (v := 53) hx hb dX13_init_1187 (by decide) ?_
  refine lv_bipush (v := 9) hx hb dX13_init_1189 (by decide) ?_
  refine va_bast (i := 53) (x := 9) hx hb hK hP hD hS 2 1 rfl rfl (vp_in_iff.mpr ⟨by decide, by decide⟩) dX13_init_1191 (fun H locs hP hD hS => ?_)
  rw [tbI_s shT 53 (j := 53) (v := (vp_nar .byte 9)) (by decide) (by decide +kernel)] at hP hD
  have hP : va_P (dC, dI) vwCl [(c0, .inr (14, [.ref q1, .null, .null, .null, .int 0, .int 0, .int 0, .null, .null, .null, .int 0, .null, .null, .int 0, .int 0, .int 0, .int 0, .int 0, .int 0, .int 0, .int 0, .int 0, .int 0, .int 0, .int 0, .int 0, .int 0, .int 0, .int 0, .null, .int 0, .int 0, .int 0, .int 0, .null, .int 0, .int 0])), (q1, .inl (y2, 128, .inr (.inl (tbL nmT 128)))), (q131, .inl (y132, 128, .inl (tbI shT 54)))] H := hP
  have hD : va_D A [(c0, .inr (14, [.ref q1, .null, .null, .null, .int 0, .int 0, .int 0, .null, .null, .null, .int 0, .null, .null, .int 0, .int 0, .int 0, .int 0, .int 0, .int 0, .int 0, .int 0, .int 0, .int 0, .int 0, .int 0, .int 0, .int 0, .int 0, .int 0, .null, .int 0, .int 0, .int 0, .int 0, .null, .int 0, .int 0])), (q1, .inl (y2, 128, .inr (.inl (tbL nmT 128)))), (q131, .inl (y132, 128, .inl (tbI shT 54)))] := hD
  refine lv_dup hx hb dX13_init_1192 rfl ?_
  refine lv_bipush (v := 54) hx hb dX13_init_1193 (by decide) ?_
  refine lv_bipush (v := 9) hx hb dX13_init_1195 (by decide) ?_
  refine va_bast (i := 54) (x := 9) hx hb hK hP hD hS 2 1 rfl rfl (vp_in_iff.mpr ⟨by decide, by decide⟩) dX13_init_1197 (fun H locs hP hD hS => ?_)
  rw [tbI_s shT 54 (j := 54) (v := (vp_nar .byte 9)) (by decide) (by decide +kernel)] at hP hD
  have hP : va_P (dC, dI) vwCl [(c0, .inr (14, [.ref q1, .null, .null, .null, .int 0, .int 0, .int 0, .null, .null, .null, .int 0, .null, .null, .int 0, .int 0, .int 0, .int 0, .int 0, .int 0, .int 0, .int 0, .int 0, .int 0, .int 0, .int 0, .int 0, .int 0, .int 0, .int 0, .null, .int 0, .int 0, .int 0, .int 0, .null, .int 0, .int 0])), (q1, .inl (y2, 128, .inr (.inl (tbL nmT 128)))), (q131, .inl (y132, 128, .inl (tbI shT 55)))] H := hP
  have hD : va_D A [(c0, .inr (14, [.ref q1, .null, .null, .null, .int 0, .int 0, .int 0, .null, .null, .null, .int 0, .null, .null, .int 0, .int 0, .int 0, .int 0, .int 0, .int 0, .int 0, .int 0, .int 0, .int 0, .int 0, .int 0, .int 0, .int 0, .int 0, .int 0, .null, .int 0, .int 0, .int 0, .int 0, .null, .int 0, .int 0])), (q1, .inl (y2, 128, .inr (.inl (tbL nmT 128)))), (q131, .inl (y132, 128, .inl (tbI shT 55)))] := hD
  refine lv_dup hx hb dX13_init_1198 rfl ?_
  refine lv_bipush (v := 55) hx hb dX13_init_1199 (by decide) ?_
  refine lv_bipush (v := 10) hx hb dX13_init_1201 (by decide) ?_
  refine va_bast (i := 55) (x := 10) hx hb hK hP hD hS 2 1 rfl rfl (vp_in_iff.mpr ⟨by decide, by decide⟩) dX13_init_1203 (fun H locs hP hD hS => ?_)
  rw [tbI_s shT 55 (j := 55) (v := (vp_nar .byte 10)) (by decide) (by decide +kernel)] at hP hD
  have hP : va_P (dC, dI) vwCl [(c0, .inr (14, [.ref q1, .null, .null, .null, .int 0, .int 0, .int 0, .null, .null, .null, .int 0, .null, .null, .int 0, .int 0, .int 0, .int 0, .int 0, .int 0, .int 0, .int 0, .int 0, .int 0, .int 0, .int 0, .int 0, .int 0, .int 0, .int 0, .null, .int 0, .int 0, .int 0, .int 0, .null, .int 0, .int 0])), (q1, .inl (y2, 128, .inr (.inl (tbL nmT 128)))), (q131, .inl (y132, 128, .inl (tbI shT 56)))] H := hP
  have hD : va_D A [(c0, .inr (14, [.ref q1, .null, .null, .null, .int 0, .int 0, .int 0, .null, .null, .null, .int 0, .null, .null, .int 0, .int 0, .int 0, .int 0, .int 0, .int 0, .int 0, .int 0, .int 0, .int 0, .int 0, .int 0, .int 0, .int 0, .int 0, .int 0, .null, .int 0, .int 0, .int 0, .int 0, .null, .int 0, .int 0])), (q1, .inl (y2, 128, .inr (.inl (tbL nmT 128)))), (q131, .inl (y132, 128, .inl (tbI shT 56)))] := hD
  refine lv_dup hx hb dX13_init_1204 rfl ?_
  refine lv_bipush (v := 56) hx hb dX13_init_1205 (by decide) ?_
  refine lv_bipush (v := 11) hx hb dX13_init_1207 (by decide) ?_
  refine va_bast (i := 56) (x := 11) hx hb hK hP hD hS 2 1 rfl rfl (vp_in_iff.mpr ⟨by decide, by decide⟩) dX13_init_1209 (fun H locs hP hD hS => ?_)
  rw [tbI_s shT 56 (j := 56) (v := (vp_nar .byte 11)) (by decide) (by decide +kernel)] at hP hD
  have hP : va_P (dC, dI) vwCl [(c0, .inr (14, [.ref q1, .null, .null, .null, .int 0, .int 0, .int 0, .null, .null, .null, .int 0, .null, .null, .int 0, .int 0, .int 0, .int 0, .int 0, .int 0, .int 0, .int 0, .int 0, .int 0, .int 0, .int 0, .int 0, .int 0, .int 0, .int 0, .null, .int 0, .int 0, .int 0, .int 0, .null, .int 0, .int 0])), (q1, .inl (y2, 128, .inr (.inl (tbL nmT 128)))), (q131, .inl (y132, 128, .inl (tbI shT 57)))] H := hP
  have hD : va_D A [(c0, .inr (14, [.ref q1, .null, .null, .null, .int 0, .int 0, .int 0, .null, .null, .null, .int 0, .null, .null, .int 0, .int 0, .int 0, .int 0, .int 0, .int 0, .int 0, .int 0, .int 0, .int 0, .int 0, .int 0, .int 0, .int 0, .int 0, .int 0, .null, .int 0, .int 0, .int 0, .int 0, .null, .int 0, .int 0])), (q1, .inl (y2, 128, .inr (.inl (tbL nmT 128)))), (q131, .inl (y132, 128, .inl (tbI shT 57)))] := hD
  refine lv_dup hx hb dX13_init_1210 rfl ?_
  refine lv_bipush (v := 57) hx hb dX13_init_1211 (by decide) ?_
  refine lv_bipush (v := 11) hx hb dX13_init_1213 (by decide) ?_
  refine va_bast (i := 57) (x := 11) hx hb hK hP hD hS 2 1 rfl rfl (vp_in_iff.mpr ⟨by decide, by decide⟩) dX13_init_1215 (fun H locs hP hD hS => ?_)
  rw [tbI_s shT 57 (j := 57) (v := (vp_nar .byte 11)) (by decide) (by decide +kernel)] at hP hD
  have hP : va_P (dC, dI) vwCl [(c0, .inr (14, [.ref q1, .null, .null, .null, .int 0, .int 0, .int 0, .null, .null, .null, .int 0, .null, .null, .int 0, .int 0, .int 0, .int 0, .int 0, .int 0, .int 0, .int 0, .int 0, .int 0, .int 0, .int 0, .int 0, .int 0, .int 0, .int 0, .null, .int 0, .int 0, .int 0, .int 0, .null, .int 0, .int 0])), (q1, .inl (y2, 128, .inr (.inl (tbL nmT 128)))), (q131, .inl (y132, 128, .inl (tbI shT 58)))] H := hP
  have hD : va_D A [(c0, .inr (14, [.ref q1, .null, .null, .null, .int 0, .int 0, .int 0, .null, .null, .null, .int 0, .null, .null, .int 0, .int 0, .int 0, .int 0, .int 0, .int 0, .int 0, .int 0, .int 0, .int 0, .int 0, .int 0, .int 0, .int 0, .int 0, .int 0, .null, .int 0, .int 0, .int 0, .int 0, .null, .int 0, .int 0])), (q1, .inl (y2, 128, .inr (.inl (tbL nmT 128)))), (q131, .inl (y132, 128, .inl (tbI shT 58)))] := hD
  refine lv_dup hx hb dX13_init_1216 rfl ?_
  refine lv_bipush (v := 58) hx hb dX13_init_1217 (by decide) ?_
  refine lv_bipush (v := 11) hx hb dX13_init_1219 (by decide) ?_
  refine va_bast (i := 58) (x := 11) hx hb hK hP hD hS 2 1 rfl rfl (vp_in_iff.mpr ⟨by decide, by decide⟩) dX13_init_1221 (fun H locs hP hD hS => ?_)
  rw [tbI_s shT 58 (j := 58) (v := (vp_nar .byte 11)) (by decide) (by decide +kernel)] at hP hD
  have hP : va_P (dC, dI) vwCl [(c0, .inr (14, [.ref q1, .null, .null, .null, .int 0, .int 0, .int 0, .null, .null, .null, .int 0, .null, .null, .int 0, .int 0, .int 0, .int 0, .int 0, .int 0, .int 0, .int 0, .int 0, .int 0, .int 0, .int 0, .int 0, .int 0, .int 0, .int 0, .null, .int 0, .int 0, .int 0, .int 0, .null, .int 0, .int 0])), (q1, .inl (y2, 128, .inr (.inl (tbL nmT 128)))), (q131, .inl (y132, 128, .inl (tbI shT 59)))] H := hP
  have hD : va_D A [(c0, .inr (14, [.ref q1, .null, .null, .null, .int 0, .int 0, .int 0, .null, .null, .null, .int 0, .null, .null, .int 0, .int 0, .int 0, .int 0, .int 0, .int 0, .int 0, .int 0, .int 0, .int 0, .int 0, .int 0, .int 0, .int 0, .int 0, .int 0, .null, .int 0, .int 0, .int 0, .int 0, .null, .int 0, .int 0])), (q1, .inl (y2, 128, .inr (.inl (tbL nmT 128)))), (q131, .inl (y132, 128, .inl (tbI shT 59)))] := hD
  refine lv_dup hx hb dX13_init_1222 rfl ?_
  refine lv_bipush (v := 59) hx hb dX13_init_1223 (by decide) ?_
  refine lv_bipush (v := 11) hx hb dX13_init_1225 (by decide) ?_
  refine va_bast (i := 59) (x := 11) hx hb hK hP hD hS 2 1 rfl rfl (vp_in_iff.mpr ⟨by decide, by decide⟩) dX13_init_1227 (fun H locs hP hD hS => ?_)
  rw [tbI_s shT 59 (j := 59) (v := (vp_nar .byte 11)) (by decide) (by decide +kernel)] at hP hD
  have hP : va_P (dC, dI) vwCl [(c0, .inr (14, [.ref q1, .null, .null, .null, .int 0, .int 0, .int 0, .null, .null, .null, .int 0, .null, .null, .int 0, .int 0, .int 0, .int 0, .int 0, .int 0, .int 0, .int 0, .int 0, .int 0, .int 0, .int 0, .int 0, .int 0, .int 0, .int 0, .null, .int 0, .int 0, .int 0, .int 0, .null, .int 0, .int 0])), (q1, .inl (y2, 128, .inr (.inl (tbL nmT 128)))), (q131, .inl (y132, 128, .inl (tbI shT 60)))] H := hP
  have hD : va_D A [(c0, .inr (14, [.ref q1, .null, .null, .null, .int 0, .int 0, .int 0, .null, .null, .null, .int 0, .null, .null, .int 0, .int 0, .int 0, .int 0, .int 0, .int 0, .int 0, .int 0, .int 0, .int 0, .int 0, .int 0, .int 0, .int 0, .int 0, .int 0, .null, .int 0, .int 0, .int 0, .int 0, .null, .int 0, .int 0])), (q1, .inl (y2, 128, .inr (.inl (tbL nmT 128)))), (q131, .inl (y132, 128, .inl (tbI shT 60)))] := hD
  refine lv_dup hx hb dX13_init_1228 rfl ?_
  refine lv_bipush (v := 60) hx hb dX13_init_1229 (by decide) ?_
  refine lv_bipush (v := 11) hx hb dX13_init_1231 (by decide) ?_
  refine va_bast (i := 60) (x := 11) hx hb hK hP hD hS 2 1 rfl rfl (vp_in_iff.mpr ⟨by decide, by decide⟩) dX13_init_1233 (fun H locs hP hD hS => ?_)
  rw [tbI_s shT 60 (j := 60) (v := (vp_nar .byte 11)) (by decide) (by decide +kernel)] at hP hD
  have hP : va_P (dC, dI) vwCl [(c0, .inr (14, [.ref q1, .null, .null, .null, .int 0, .int 0, .int 0, .null, .null, .null, .int 0, .null, .null, .int 0, .int 0, .int 0, .int 0, .int 0, .int 0, .int 0, .int 0, .int 0, .int 0, .int 0, .int 0, .int 0, .int 0, .int 0, .int 0, .null, .int 0, .int 0, .int 0, .int 0, .null, .int 0, .int 0])), (q1, .inl (y2, 128, .inr (.inl (tbL nmT 128)))), (q131, .inl (y132, 128, .inl (tbI shT 61)))] H := hP
  have hD : va_D A [(c0, .inr (14, [.ref q1, .null, .null, .null, .int 0, .int 0, .int 0, .null, .null, .null, .int 0, .null, .null, .int 0, .int 0, .int 0, .int 0, .int 0, .int 0, .int 0, .int 0, .int 0, .int 0, .int 0, .int 0, .int 0, .int 0, .int 0, .int 0, .null, .int 0, .int 0, .int 0, .int 0, .null, .int 0, .int 0])), (q1, .inl (y2, 128, .inr (.inl (tbL nmT 128)))), (q131, .inl (y132, 128, .inl (tbI shT 61)))] := hD
  refine lv_dup hx hb dX13_init_1234 rfl ?_
  refine lv_bipush (v := 61) hx hb dX13_init_1235 (by decide) ?_
  refine lv_bipush (v := 11) hx hb dX13_init_1237 (by decide) ?_
  refine va_bast (i := 61) (x := 11) hx hb hK hP hD hS 2 1 rfl rfl (vp_in_iff.mpr ⟨by decide, by decide⟩) dX13_init_1239 (fun H locs hP hD hS => ?_)
  rw [tbI_s shT 61 (j := 61) (v := (vp_nar .byte 11)) (by decide) (by decide +kernel)] at hP hD
  have hP : va_P (dC, dI) vwCl [(c0, .inr (14, [.ref q1, .null, .null, .null, .int 0, .int 0, .int 0, .null, .null, .null, .int 0, .null, .null, .int 0, .int 0, .int 0, .int 0, .int 0, .int 0, .int 0, .int 0, .int 0, .int 0, .int 0, .int 0, .int 0, .int 0, .int 0, .int 0, .null, .int 0, .int 0, .int 0, .int 0, .null, .int 0, .int 0])), (q1, .inl (y2, 128, .inr (.inl (tbL nmT 128)))), (q131, .inl (y132, 128, .inl (tbI shT 62)))] H := hP
  have hD : va_D A [(c0, .inr (14, [.ref q1, .null, .null, .null, .int 0, .int 0, .int 0, .null, .null, .null, .int 0, .null, .null, .int 0, .int 0, .int 0, .int 0, .int 0, .int 0, .int 0, .int 0, .int 0, .int 0, .int 0, .int 0, .int 0, .int 0, .int 0, .int 0, .null, .int 0, .int 0, .int 0, .int 0, .null, .int 0, .int 0])), (q1, .inl (y2, 128, .inr (.inl (tbL nmT 128)))), (q131, .inl (y132, 128, .inl (tbI shT 62)))] := hD
  refine lv_dup hx hb dX13_init_1240 rfl ?_
  refine lv_bipush (v := 62) hx hb dX13_init_1241 (by decide) ?_
  refine lv_bipush (v := 12) hx hb dX13_init_1243 (by decide) ?_
  refine va_bast (i := 62) (x := 12) hx hb hK hP hD hS 2 1 rfl rfl (vp_in_iff.mpr ⟨by decide, by decide⟩) dX13_init_1245 (fun H locs hP hD hS => ?_)
  rw [tbI_s shT 62 (j := 62) (v := (vp_nar .byte 12)) (by decide) (by decide +kernel)] at hP hD
  have hP : va_P (dC, dI) vwCl [(c0, .inr (14, [.ref q1, .null, .null, .null, .int 0, .int 0, .int 0, .null, .null, .null, .int 0, .null, .null, .int 0, .int 0, .int 0, .int 0, .int 0, .int 0, .int 0, .int 0, .int 0, .int 0, .int 0, .int 0, .int 0, .int 0, .int 0, .int 0, .null, .int 0, .int 0, .int 0, .int 0, .null, .int 0, .int 0])), (q1, .inl (y2, 128, .inr (.inl (tbL nmT 128)))), (q131, .inl (y132, 128, .inl (tbI shT 63)))] H := hP
  have hD : va_D A [(c0, .inr (14, [.ref q1, .null, .null, .null, .int 0, .int 0, .int 0, .null, .null, .null, .int 0, .null, .null, .int 0, .int 0, .int 0, .int 0, .int 0, .int 0, .int 0, .int 0, .int 0, .int 0, .int 0, .int 0, .int 0, .int 0, .int 0, .int 0, .null, .int 0, .int 0, .int 0, .int 0, .null, .int 0, .int 0])), (q1, .inl (y2, 128, .inr (.inl (tbL nmT 128)))), (q131, .inl (y132, 128, .inl (tbI shT 63)))] := hD
  refine lv_dup hx hb dX13_init_1246 rfl ?_
  refine lv_bipush (v := 63) hx hb dX13_init_1247 (by decide) ?_
  refine lv_bipush (v := 12) hx hb dX13_init_1249 (by decide) ?_
  refine va_bast (i := 63) (x := 12) hx hb hK hP hD hS 2 1 rfl rfl (vp_in_iff.mpr ⟨by decide, by decide⟩) dX13_init_1251 (fun H locs hP hD hS => ?_)
  rw [tbI_s shT 63 (j := 63) (v := (vp_nar .byte 12)) (by decide) (by decide +kernel)] at hP hD
  have hP : va_P (dC, dI) vwCl [(c0, .inr (14, [.ref q1, .null, .null, .null, .int 0, .int 0, .int 0, .null, .null, .null, .int 0, .null, .null, .int 0, .int 0, .int 0, .int 0, .int 0, .int 0, .int 0, .int 0, .int 0, .int 0, .int 0, .int 0, .int 0, .int 0, .int 0, .int 0, .null, .int 0, .int 0, .int 0, .int 0, .null, .int 0, .int 0])), (q1, .inl (y2, 128, .inr (.inl (tbL nmT 128)))), (q131, .inl (y132, 128, .inl (tbI shT 64)))] H := hP
  have hD : va_D A [(c0, .inr (14, [.ref q1, .null, .null, .null, .int 0, .int 0, .int 0, .null, .null, .null, .int 0, .null, .null, .int 0, .int 0, .int 0, .int 0, .int 0, .int 0, .int 0, .int 0, .int 0, .int 0, .int 0, .int 0, .int 0, .int 0, .int 0, .int 0, .null, .int 0, .int 0, .int 0, .int 0, .null, .int 0, .int 0])), (q1, .inl (y2, 128, .inr (.inl (tbL nmT 128)))), (q131, .inl (y132, 128, .inl (tbI shT 64)))] := hD
  refine lv_dup hx hb dX13_init_1252 rfl ?_
  refine lv_bipush (v := 64) hx hb dX13_init_1253 (by decide) ?_
  refine lv_bipush (v := 12) hx hb dX13_init_1255 (by decide) ?_
  refine va_bast (i := 64) (x := 12) hx hb hK hP hD hS 2 1 rfl rfl (vp_in_iff.mpr ⟨by decide, by decide⟩) dX13_init_1257 (fun H locs hP hD hS => ?_)
  rw [tbI_s shT 64 (j := 64) (v := (vp_nar .byte 12)) (by decide) (by decide +kernel)] at hP hD
  have hP : va_P (dC, dI) vwCl [(c0, .inr (14, [.ref q1, .null, .null, .null, .int 0, .int 0, .int 0, .null, .null, .null, .int 0, .null, .null, .int 0, .int 0, .int 0, .int 0, .int 0, .int 0, .int 0, .int 0, .int 0, .int 0, .int 0, .int 0, .int 0, .int 0, .int 0, .int 0, .null, .int 0, .int 0, .int 0, .int 0, .null, .int 0, .int 0])), (q1, .inl (y2, 128, .inr (.inl (tbL nmT 128)))), (q131, .inl (y132, 128, .inl (tbI shT 65)))] H := hP
  have hD : va_D A [(c0, .inr (14, [.ref q1, .null, .null, .null, .int 0, .int 0, .int 0, .null, .null, .null, .int 0, .null, .null, .int 0, .int 0, .int 0, .int 0, .int 0, .int 0, .int 0, .int 0, .int 0, .int 0, .int 0, .int 0, .int 0, .int 0, .int 0, .int 0, .null, .int 0, .int 0, .int 0, .int 0, .null, .int 0, .int 0])), (q1, .inl (y2, 128, .inr (.inl (tbL nmT 128)))), (q131, .inl (y132, 128, .inl (tbI shT 65)))] := hD
  refine lv_dup hx hb dX13_init_1258 rfl ?_
  refine lv_bipush (v := 65) hx hb dX13_init_1259 (by decide) ?_
  refine lv_bipush (v := 12) hx hb dX13_init_1261 (by decide) ?_
  refine va_bast (i := 65) (x := 12) hx hb hK hP hD hS 2 1 rfl rfl (vp_in_iff.mpr ⟨by decide, by decide⟩) dX13_init_1263 (fun H locs hP hD hS => ?_)
  rw [tbI_s shT 65 (j := 65) (v := (vp_nar .byte 12)) (by decide) (by decide +kernel)] at hP hD
  have hP : va_P (dC, dI) vwCl [(c0, .inr (14, [.ref q1, .null, .null, .null, .int 0, .int 0, .int 0, .null, .null, .null, .int 0, .null, .null, .int 0, .int 0, .int 0, .int 0, .int 0, .int 0, .int 0, .int 0, .int 0, .int 0, .int 0, .int 0, .int 0, .int 0, .int 0, .int 0, .null, .int 0, .int 0, .int 0, .int 0, .null, .int 0, .int 0])), (q1, .inl (y2, 128, .inr (.inl (tbL nmT 128)))), (q131, .inl (y132, 128, .inl (tbI shT 66)))] H := hP
  have hD : va_D A [(c0, .inr (14, [.ref q1, .null, .null, .null, .int 0, .int 0, .int 0, .null, .null, .null, .int 0, .null, .null, .int 0, .int 0, .int 0, .int 0, .int 0, .int 0, .int 0, .int 0, .int 0, .int 0, .int 0, .int 0, .int 0, .int 0, .int 0, .int 0, .null, .int 0, .int 0, .int 0, .int 0, .null, .int 0, .int 0])), (q1, .inl (y2, 128, .inr (.inl (tbL nmT 128)))), (q131, .inl (y132, 128, .inl (tbI shT 66)))] := hD
  refine lv_dup hx hb dX13_init_1264 rfl ?_
  refine lv_bipush (v := 66) hx hb dX13_init_1265 (by decide) ?_
  refine lv_bipush (v := 12) hx hb dX13_init_1267 (by decide) ?_
  refine va_bast (i := 66) (x := 12) hx hb hK hP hD hS 2 1 rfl rfl (vp_in_iff.mpr ⟨by decide, by decide⟩) dX13_init_1269 (fun H locs hP hD hS => ?_)
  rw [tbI_s shT 66 (j := 66) (v := (vp_nar .byte 12)) (by decide) (by decide +kernel)] at hP hD
  have hP : va_P (dC, dI) vwCl [(c0, .inr (14, [.ref q1, .null, .null, .null, .int 0, .int 0, .int 0, .null, .null, .null, .int 0, .null, .null, .int 0, .int 0, .int 0, .int 0, .int 0, .int 0, .int 0, .int 0, .int 0, .int 0, .int 0, .int 0, .int 0, .int 0, .int 0, .int 0, .null, .int 0, .int 0, .int 0, .int 0, .null, .int 0, .int 0])), (q1, .inl (y2, 128, .inr (.inl (tbL nmT 128)))), (q131, .inl (y132, 128, .inl (tbI shT 67)))] H := hP
  have hD : va_D A [(c0, .inr (14, [.ref q1, .null, .null, .null, .int 0, .int 0, .int 0, .null, .null, .null, .int 0, .null, .null, .int 0, .int 0, .int 0, .int 0, .int 0, .int 0, .int 0, .int 0, .int 0, .int 0, .int 0, .int 0, .int 0, .int 0, .int 0, .int 0, .null, .int 0, .int 0, .int 0, .int 0, .null, .int 0, .int 0])), (q1, .inl (y2, 128, .inr (.inl (tbL nmT 128)))), (q131, .inl (y132, 128, .inl (tbI shT 67)))] := hD
  refine lv_dup hx hb dX13_init_1270 rfl ?_
  refine lv_bipush (v := 67) hx hb dX13_init_1271 (by decide) ?_
  refine lv_bipush (v := 12) hx hb dX13_init_1273 (by decide) ?_
  refine va_bast (i := 67) (x := 12) hx hb hK hP hD hS 2 1 rfl rfl (vp_in_iff.mpr ⟨by decide, by decide⟩) dX13_init_1275 (fun H locs hP hD hS => ?_)
  rw [tbI_s shT 67 (j := 67) (v := (vp_nar .byte 12)) (by decide) (by decide +kernel)] at hP hD
  have hP : va_P (dC, dI) vwCl [(c0, .inr (14, [.ref q1, .null, .null, .null, .int 0, .int 0, .int 0, .null, .null, .null, .int 0, .null, .null, .int 0, .int 0, .int 0, .int 0, .int 0, .int 0, .int 0, .int 0, .int 0, .int 0, .int 0, .int 0, .int 0, .int 0, .int 0, .int 0, .null, .int 0, .int 0, .int 0, .int 0, .null, .int 0, .int 0])), (q1, .inl (y2, 128, .inr (.inl (tbL nmT 128)))), (q131, .inl (y132, 128, .inl (tbI shT 68)))] H := hP
  have hD : va_D A [(c0, .inr (14, [.ref q1, .null, .null, .null, .int 0, .int 0, .int 0, .null, .null, .null, .int 0, .null, .null, .int 0, .int 0, .int 0, .int 0, .int 0, .int 0, .int 0, .int 0, .int 0, .int 0, .int 0, .int 0, .int 0, .int 0, .int 0, .int 0, .null, .int 0, .int 0, .int 0, .int 0, .null, .int 0, .int 0])), (q1, .inl (y2, 128, .inr (.inl (tbL nmT 128)))), (q131, .inl (y132, 128, .inl (tbI shT 68)))] := hD
  refine lv_dup hx hb dX13_init_1276 rfl ?_
  refine lv_bipush (v := 68) hx hb dX13_init_1277 (by decide) ?_
  refine lv_bipush (v := 13) hx hb dX13_init_1279 (by decide) ?_
  refine va_bast (i := 68) (x := 13) hx hb hK hP hD hS 2 1 rfl rfl (vp_in_iff.mpr ⟨by decide, by decide⟩) dX13_init_1281 (fun H locs hP hD hS => ?_)
  rw [tbI_s shT 68 (j := 68) (v := (vp_nar .byte 13)) (by decide) (by decide +kernel)] at hP hD
  have hP : va_P (dC, dI) vwCl [(c0, .inr (14, [.ref q1, .null, .null, .null, .int 0, .int 0, .int 0, .null, .null, .null, .int 0, .null, .null, .int 0, .int 0, .int 0, .int 0, .int 0, .int 0, .int 0, .int 0, .int 0, .int 0, .int 0, .int 0, .int 0, .int 0, .int 0, .int 0, .null, .int 0, .int 0, .int 0, .int 0, .null, .int 0, .int 0])), (q1, .inl (y2, 128, .inr (.inl (tbL nmT 128)))), (q131, .inl (y132, 128, .inl (tbI shT 69)))] H := hP
  have hD : va_D A [(c0, .inr (14, [.ref q1, .null, .null, .null, .int 0, .int 0, .int 0, .null, .null, .null, .int 0, .null, .null, .int 0, .int 0, .int 0, .int 0, .int 0, .int 0, .int 0, .int 0, .int 0, .int 0, .int 0, .int 0, .int 0, .int 0, .int 0, .int 0, .null, .int 0, .int 0, .int 0, .int 0, .null, .int 0, .int 0])), (q1, .inl (y2, 128, .inr (.inl (tbL nmT 128)))), (q131, .inl (y132, 128, .inl (tbI shT 69)))] := hD
  refine lv_dup hx hb dX13_init_1282 rfl ?_
  refine lv_bipush (v := 69) hx hb dX13_init_1283 (by decide) ?_
  refine lv_bipush (v := 14) hx hb dX13_init_1285 (by decide) ?_
  refine va_bast (i := 69) (x := 14) hx hb hK hP hD hS 2 1 rfl rfl (vp_in_iff.mpr ⟨by decide, by decide⟩) dX13_init_1287 (fun H locs hP hD hS => ?_)
  rw [tbI_s shT 69 (j := 69) (v := (vp_nar .byte 14)) (by decide) (by decide +kernel)] at hP hD
  have hP : va_P (dC, dI) vwCl [(c0, .inr (14, [.ref q1, .null, .null, .null, .int 0, .int 0, .int 0, .null, .null, .null, .int 0, .null, .null, .int 0, .int 0, .int 0, .int 0, .int 0, .int 0, .int 0, .int 0, .int 0, .int 0, .int 0, .int 0, .int 0, .int 0, .int 0, .int 0, .null, .int 0, .int 0, .int 0, .int 0, .null, .int 0, .int 0])), (q1, .inl (y2, 128, .inr (.inl (tbL nmT 128)))), (q131, .inl (y132, 128, .inl (tbI shT 70)))] H := hP
  have hD : va_D A [(c0, .inr (14, [.ref q1, .null, .null, .null, .int 0, .int 0, .int 0, .null, .null, .null, .int 0, .null, .null, .int 0, .int 0, .int 0, .int 0, .int 0, .int 0, .int 0, .int 0, .int 0, .int 0, .int 0, .int 0, .int 0, .int 0, .int 0, .int 0, .null, .int 0, .int 0, .int 0, .int 0, .null, .int 0, .int 0])), (q1, .inl (y2, 128, .inr (.inl (tbL nmT 128)))), (q131, .inl (y132, 128, .inl (tbI shT 70)))] := hD
  refine lv_dup hx hb dX13_init_1288 rfl ?_
  refine lv_bipush (v := 70) hx hb dX13_init_1289 (by decide) ?_
  refine lv_bipush (v := 14) hx hb dX13_init_1291 (by decide) ?_
  refine va_bast (i := 70) (x := 14) hx hb hK hP hD hS 2 1 rfl rfl (vp_in_iff.mpr ⟨by decide, by decide⟩) dX13_init_1293 (fun H locs hP hD hS => ?_)
  rw [tbI_s shT 70 (j := 70) (v := (vp_nar .byte 14)) (by decide) (by decide +kernel)] at hP hD
  have hP : va_P (dC, dI) vwCl [(c0, .inr (14, [.ref q1, .null, .null, .null, .int 0, .int 0, .int 0, .null, .null, .null, .int 0, .null, .null, .int 0, .int 0, .int 0, .int 0, .int 0, .int 0, .int 0, .int 0, .int 0, .int 0, .int 0, .int 0, .int 0, .int 0, .int 0, .int 0, .null, .int 0, .int 0, .int 0, .int 0, .null, .int 0, .int 0])), (q1, .inl (y2, 128, .inr (.inl (tbL nmT 128)))), (q131, .inl (y132, 128, .inl (tbI shT 71)))] H := hP
  have hD : va_D A [(c0, .inr (14, [.ref q1, .null, .null, .null, .int 0, .int 0, .int 0, .null, .null, .null, .int 0, .null, .null, .int 0, .int 0, .int 0, .int 0, .int 0, .int 0, .int 0, .int 0, .int 0, .int 0, .int 0, .int 0, .int 0, .int 0, .int 0, .int 0, .null, .int 0, .int 0, .int 0, .int 0, .null, .int 0, .int 0])), (q1, .inl (y2, 128, .inr (.inl (tbL nmT 128)))), (q131, .inl (y132, 128, .inl (tbI shT 71)))] := hD
  refine lv_dup hx hb dX13_init_1294 rfl ?_
  refine lv_bipush (v := 71) hx hb dX13_init_1295 (by decide) ?_
  refine lv_bipush (v := 16) hx hb dX13_init_1297 (by decide) ?_
  refine va_bast (i := 71) (x := 16) hx hb hK hP hD hS 2 1 rfl rfl (vp_in_iff.mpr ⟨by decide, by decide⟩) dX13_init_1299 (fun H locs hP hD hS => ?_)
  rw [tbI_s shT 71 (j := 71) (v := (vp_nar .byte 16)) (by decide) (by decide +kernel)] at hP hD
  have hP : va_P (dC, dI) vwCl [(c0, .inr (14, [.ref q1, .null, .null, .null, .int 0, .int 0, .int 0, .null, .null, .null, .int 0, .null, .null, .int 0, .int 0, .int 0, .int 0, .int 0, .int 0, .int 0, .int 0, .int 0, .int 0, .int 0, .int 0, .int 0, .int 0, .int 0, .int 0, .null, .int 0, .int 0, .int 0, .int 0, .null, .int 0, .int 0])), (q1, .inl (y2, 128, .inr (.inl (tbL nmT 128)))), (q131, .inl (y132, 128, .inl (tbI shT 72)))] H := hP
  have hD : va_D A [(c0, .inr (14, [.ref q1, .null, .null, .null, .int 0, .int 0, .int 0, .null, .null, .null, .int 0, .null, .null, .int 0, .int 0, .int 0, .int 0, .int 0, .int 0, .int 0, .int 0, .int 0, .int 0, .int 0, .int 0, .int 0, .int 0, .int 0, .int 0, .null, .int 0, .int 0, .int 0, .int 0, .null, .int 0, .int 0])), (q1, .inl (y2, 128, .inr (.inl (tbL nmT 128)))), (q131, .inl (y132, 128, .inl (tbI shT 72)))] := hD
  refine lv_dup hx hb dX13_init_1300 rfl ?_
  exact kk _ _ _ hK hP hD hS hl


set_option maxHeartbeats 40000000 in
set_option maxRecDepth 100000 in
theorem k_X13_init_s9 {p : Program} {l : Launch} {e : Env} {s : State} {m : MethodId} {args : Array Value} {below : List Frame} {meth : Method} {c : Code} {Q : State → Prop} {A : Nat → Prop} (dC : Nat → ClassId) (dI : Nat → Nat → Nat) (c0 : Nat) (q1 : Nat) (y2 : ClassId) (q131 : Nat) (y132 : ClassId) (hlt : l.stackTraces = false) (hx : p.tables.exec = Jvm.exec) (hb : c.code = cX13_init) (hml : c.maxLocals = 1) (hown : s.vm.findClass RX13 = some m.cls) (hts : ∀ w ∈ ow_k_X13_init, w.before args s = true) (hin : meth.name = "<init>") (hN : nv_E dI A s) (hA : ∀ q : Nat, s.heap.size ≤ q → A q) {H : Heap} {locs : List Loc} {ls : Array Slot} (hK : va_K (dC, dI) vwCl [(y2, .long), (y132, .byte)] s) (hP : va_P (dC, dI) vwCl [(c0, .inr (14, [.ref q1, .null, .null, .null, .int 0, .int 0, .int 0, .null, .null, .null, .int 0, .null, .null, .int 0, .int 0, .int 0, .int 0, .int 0, .int 0, .int 0, .int 0, .int 0, .int 0, .int 0, .int 0, .int 0, .int 0, .int 0, .int 0, .null, .int 0, .int 0, .int 0, .int 0, .null, .int 0, .int 0])), (q1, .inl (y2, 128, .inr (.inl (tbL nmT 128)))), (q131, .inl (y132, 128, .inl (tbI shT 72)))] H) (hD : va_D A [(c0, .inr (14, [.ref q1, .null, .null, .null, .int 0, .int 0, .int 0, .null, .null, .null, .int 0, .null, .null, .int 0, .int 0, .int 0, .int 0, .int 0, .int 0, .int 0, .int 0, .int 0, .int 0, .int 0, .int 0, .int 0, .int 0, .int 0, .int 0, .null, .int 0, .int 0, .int 0, .int 0, .null, .int 0, .int 0])), (q1, .inl (y2, 128, .inr (.inl (tbL nmT 128)))), (q131, .inl (y132, 128, .inl (tbI shT 72)))]) (hS : va_S A s.heap H locs) (hl : lv_has ls 1 [(0, .ref c0)]) (kk : ∀ (H : Heap) (locs : List Loc) (ls : Array Slot), va_K (dC, dI) vwCl [(y2, .long), (y132, .byte)] s → va_P (dC, dI) vwCl [(c0, .inr (14, [.ref q1, .null, .null, .null, .int 0, .int 0, .int 0, .null, .null, .null, .int 0, .null, .null, .int 0, .int 0, .int 0, .int 0, .int 0, .int 0, .int 0, .int 0, .int 0, .int 0, .int 0, .int 0, .int 0, .int 0, .int 0, .int 0, .null, .int 0, .int 0, .int 0, .int 0, .null, .int 0, .int 0])), (q1, .inl (y2, 128, .inr (.inl (tbL nmT 128)))), (q131, .inl (y132, 128, .inl (tbI shT 94)))] H → va_D A [(c0, .inr (14, [.ref q1, .null, .null, .null, .int 0, .int 0, .int 0, .null, .null, .null, .int 0, .null, .null, .int 0, .int 0, .int 0, .int 0, .int 0, .int 0, .int 0, .int 0, .int 0, .int 0, .int 0, .int 0, .int 0, .int 0, .int 0, .int 0, .null, .int 0, .int 0, .int 0, .int 0, .null, .int 0, .int 0])), (q1, .inl (y2, 128, .inr (.inl (tbL nmT 128)))), (q131, .inl (y132, 128, .inl (tbI shT 94)))] → va_S A s.heap H locs → lv_has ls 1 [(0, .ref c0)] → W p l e (headSpec ow_k_X13_init ({ frames := 1, cells := 10, slots := 131956, locals := 12 })).room s m args below meth c H locs 2 256 Q (F0 m 1437 ls [.int 29, .int 94, .ref q131, .ref q131, .ref c0])) : W p l e (headSpec ow_k_X13_init ({ frames := 1, cells := 10, slots := 131956, locals := 12 })).room s m args below meth c H locs 2 256 Q (F0 m 1301 ls [.ref q131, .ref q131, .ref c0]) := by
  refine lv_bipush (v := 72) hx hb dX13_init_1301 (by decide) ?_
  refine lv_bipush (v := 16) hx hb dX13_init_1303 (by decide) ?_
  refine va_bast (i := 72) (x := 16) hx hb hK hP hD hS 2 1 rfl rfl (vp_in_iff.mpr ⟨by decide, by decide⟩) dX13_init_1305 (fun H locs hP hD hS => ?_)
  rw [tbI_s shT 72 (j := 72) (v := (vp_nar .byte 16)) (by decide) (by decide +kernel)] at hP hD
  have hP : va_P (dC, dI) vwCl [(c0, .inr (14, [.ref q1, .null, .null, .null, .int 0, .int 0, .int 0, .null, .null, .null, .int 0, .null, .null, .int 0, .int 0, .int 0, .int 0, .int 0, .int 0, .int 0, .int 0, .int 0, .int 0, .int 0, .int 0, .int 0, .int 0, .int 0, .int 0, .null, .int 0, .int 0, .int 0, .int 0, .null, .int 0, .int 0])), (q1, .inl (y2, 128, .inr (.inl (tbL nmT 128)))), (q131, .inl (y132, 128, .inl (tbI shT 73)))] H := hP
  have hD : va_D A [(c0, .inr (14, [.ref q1, .null, .null, .null, .int 0, .int 0, .int 0, .null, .null, .null, .int 0, .null, .null, .int 0, .int 0, .int 0, .int 0, .int 0, .int 0, .int 0, .int 0, .int 0, .int 0, .int 0, .int 0, .int 0, .int 0, .int 0, .int 0, .null, .int 0, .int 0, .int 0, .int 0, .null, .int 0, .int 0])), (q1, .inl (y2, 128, .inr (.inl (tbL nmT 128)))), (q131, .inl (y132, 128, .inl (tbI shT 73)))] := hD
  refine lv_dup hx hb dX13_init_1306 rfl ?_
  refine lv_bipush (v := 73) hx hb dX13_init_1307 (by decide) ?_
  refine lv_bipush (v := 17) hx hb dX13_init_1309 (by decide) ?_
  refine va_bast (i := 73) (x := 17) hx hb hK hP hD hS 2 1 rfl rfl (vp_in_iff.mpr ⟨by decide, by decide⟩) dX13_init_1311 (fun H locs hP hD hS => ?_)
  rw [tbI_s shT 73 (j := 73) (v := (vp_nar .byte 17)) (by decide) (by decide +kernel)] at hP hD
  have hP : va_P (dC, dI) vwCl [(c0, .inr (14, [.ref q1, .null, .null, .null, .int 0, .int 0, .int 0, .null, .null, .null, .int 0, .null, .null, .int 0, .int 0, .int 0, .int 0, .int 0, .int 0, .int 0, .int 0, .int 0, .int 0, .int 0, .int 0, .int 0, .int 0, .int 0, .int 0, .null, .int 0, .int 0, .int 0, .int 0, .null, .int 0, .int 0])), (q1, .inl (y2, 128, .inr (.inl (tbL nmT 128)))), (q131, .inl (y132, 128, .inl (tbI shT 74)))] H := hP
  have hD : va_D A [(c0, .inr (14, [.ref q1, .null, .null, .null, .int 0, .int 0, .int 0, .null, .null, .null, .int 0, .null, .null, .int 0, .int 0, .int 0, .int 0, .int 0, .int 0, .int 0, .int 0, .int 0, .int 0, .int 0, .int 0, .int 0, .int 0, .int 0, .int 0, .null, .int 0, .int 0, .int 0, .int 0, .null, .int 0, .int 0])), (q1, .inl (y2, 128, .inr (.inl (tbL nmT 128)))), (q131, .inl (y132, 128, .inl (tbI shT 74)))] := hD
  refine lv_dup hx hb dX13_init_1312 rfl ?_
  refine lv_bipush (v := 74) hx hb dX13_init_1313 (by decide) ?_
  refine lv_bipush (v := 17) hx hb dX13_init_1315 (by decide) ?_
  refine va_bast (i := 74) (x := 17) hx hb hK hP hD hS 2 1 rfl rfl (vp_in_iff.mpr ⟨by decide, by decide⟩) dX13_init_1317 (fun H locs hP hD hS => ?_)
  rw [tbI_s shT 74 (j := 74) (v := (vp_nar .byte 17)) (by decide) (by decide +kernel)] at hP hD
  have hP : va_P (dC, dI) vwCl [(c0, .inr (14, [.ref q1, .null, .null, .null, .int 0, .int 0, .int 0, .null, .null, .null, .int 0, .null, .null, .int 0, .int 0, .int 0, .int 0, .int 0, .int 0, .int 0, .int 0, .int 0, .int 0, .int 0, .int 0, .int 0, .int 0, .int 0, .int 0, .null, .int 0, .int 0, .int 0, .int 0, .null, .int 0, .int 0])), (q1, .inl (y2, 128, .inr (.inl (tbL nmT 128)))), (q131, .inl (y132, 128, .inl (tbI shT 75)))] H := hP
  have hD : va_D A [(c0, .inr (14, [.ref q1, .null, .null, .null, .int 0, .int 0, .int 0, .null, .null, .null, .int 0, .null, .null, .int 0, .int 0, .int 0, .int 0, .int 0, .int 0, .int 0, .int 0, .int 0, .int 0, .int 0, .int 0, .int 0, .int 0, .int 0, .int 0, .null, .int 0, .int 0, .int 0, .int 0, .null, .int 0, .int 0])), (q1, .inl (y2, 128, .inr (.inl (tbL nmT 128)))), (q131, .inl (y132, 128, .inl (tbI shT 75)))] := hD
  refine lv_dup hx hb dX13_init_1318 rfl ?_
  refine lv_bipush (v := 75) hx hb dX13_init_1319 (by decide) ?_
  refine lv_bipush (v := 18) hx hb dX13_init_1321 (by decide) ?_
  refine va_bast (i := 75) (x := 18) hx hb hK hP hD hS 2 1 rfl rfl (vp_in_iff.mpr ⟨by decide, by decide⟩) dX13_init_1323 (fun H locs hP hD hS => ?_)
  rw [tbI_s shT 75 (j := 75) (v := (vp_nar .byte 18)) (by decide) (by decide +kernel)] at hP hD
  have hP : va_P (dC, dI) vwCl [(c0, .inr (14, [.ref q1, .null, .null, .null, .int 0, .int 0, .int 0, .null, .null, .null, .int 0, .null, .null, .int 0, .int 0, .int 0, .int 0, .int 0, .int 0, .int 0, .int 0, .int 0, .int 0, .int 0, .int 0, .int 0, .int 0, .int 0, .int 0, .null, .int 0, .int 0, .int 0, .int 0, .null, .int 0, .int 0])), (q1, .inl (y2, 128, .inr (.inl (tbL nmT 128)))), (q131, .inl (y132, 128, .inl (tbI shT 76)))] H := hP
  have hD : va_D A [(c0, .inr (14, [.ref q1, .null, .null, .null, .int 0, .int 0, .int 0, .null, .null, .null, .int 0, .null, .null, .int 0, .int 0, .int 0, .int 0, .int 0, .int 0, .int 0, .int 0, .int 0, .int 0, .int 0, .int 0, .int 0, .int 0, .int 0, .int 0, .null, .int 0, .int 0, .int 0, .int 0, .null, .int 0, .int 0])), (q1, .inl (y2, 128, .inr (.inl (tbL nmT 128)))), (q131, .inl (y132, 128, .inl (tbI shT 76)))] := hD
  refine lv_dup hx hb dX13_init_1324 rfl ?_
  refine lv_bipush (v := 76) hx hb dX13_init_1325 (by decide) ?_
  refine lv_bipush (v := 19) hx hb dX13_init_1327 (by decide) ?_
  refine va_bast (i := 76) (x := 19) hx hb hK hP hD hS 2 1 rfl rfl (vp_in_iff.mpr ⟨by decide, by decide⟩) dX13_init_1329 (fun H locs hP hD hS => ?_)
  rw [tbI_s shT 76 (j := 76) (v := (vp_nar .byte 19)) (by decide) (by decide +kernel)] at hP hD
  have hP : va_P (dC, dI) vwCl [(c0, .inr (14, [.ref q1, .null, .null, .null, .int 0, .int 0, .int 0, .null, .null, .null, .int 0, .null, .null, .int 0, .int 0, .int 0, .int 0, .int 0, .int 0, .int 0, .int 0, .int 0, .int 0, .int 0, .int 0, .int 0, .int 0, .int 0, .int 0, .null, .int 0, .int 0, .int 0, .int 0, .null, .int 0, .int 0])), (q1, .inl (y2, 128, .inr (.inl (tbL nmT 128)))), (q131, .inl (y132, 128, .inl (tbI shT 77)))] H := hP
  have hD : va_D A [(c0, .inr (14, [.ref q1, .null, .null, .null, .int 0, .int 0, .int 0, .null, .null, .null, .int 0, .null, .null, .int 0, .int 0, .int 0, .int 0, .int 0, .int 0, .int 0, .int 0, .int 0, .int 0, .int 0, .int 0, .int 0, .int 0, .int 0, .int 0, .null, .int 0, .int 0, .int 0, .int 0, .null, .int 0, .int 0])), (q1, .inl (y2, 128, .inr (.inl (tbL nmT 128)))), (q131, .inl (y132, 128, .inl (tbI shT 77)))] := hD
  refine lv_dup hx hb dX13_init_1330 rfl ?_
  refine lv_bipush (v := 77) hx hb dX13_init_1331 (by decide) ?_
  refine lv_bipush (v := 19) hx hb dX13_init_1333 (by decide) ?_
  refine va_bast (i := 77) (x := 19) hx hb hK hP hD hS 2 1 rfl rfl (vp_in_iff.mpr ⟨by decide, by decide⟩) dX13_init_1335 (fun H locs hP hD hS => ?_)
  rw [tbI_s shT 77 (j := 77) (v := (vp_nar .byte 19)) (by decide) (by decide +kernel)] at hP hD
  have hP : va_P (dC, dI) vwCl [(c0, .inr (14, [.ref q1, .null, .null, .null, .int 0, .int 0, .int 0, .null, .null, .null, .int 0, .null, .null, .int 0, .int 0, .int 0, .int 0, .int 0, .int 0, .int 0, .int 0, .int 0, .int 0, .int 0, .int 0, .int 0, .int 0, .int 0, .int 0, .null, .int 0, .int 0, .int 0, .int 0, .null, .int 0, .int 0])), (q1, .inl (y2, 128, .inr (.inl (tbL nmT 128)))), (q131, .inl (y132, 128, .inl (tbI shT 78)))] H := hP
  have hD : va_D A [(c0, .inr (14, [.ref q1, .null, .null, .null, .int 0, .int 0, .int 0, .null, .null, .null, .int 0, .null, .null, .int 0, .int 0, .int 0, .int 0, .int 0, .int 0, .int 0, .int 0, .int 0, .int 0, .int 0, .int 0, .int 0, .int 0, .int 0, .int 0, .null, .int 0, .int 0, .int 0, .int 0, .null, .int 0, .int 0])), (q1, .inl (y2, 128, .inr (.inl (tbL nmT 128)))), (q131, .inl (y132, 128, .inl (tbI shT 78)))] := hD
  refine lv_dup hx hb dX13_init_1336 rfl ?_
  refine lv_bipush (v := 78) hx hb dX13_init_1337 (by decide) ?_
  refine lv_bipush (v := 20) hx hb dX13_init_1339 (by decide) ?_
  refine va_bast (i := 78) (x := 20) hx hb hK hP hD hS 2 1 rfl rfl (vp_in_iff.mpr ⟨by decide, by decide⟩) dX13_init_1341 (fun H locs hP hD hS => ?_)
  rw [tbI_s shT 78 (j := 78) (v := (vp_nar .byte 20)) (by decide) (by decide +kernel)] at hP hD
  have hP : va_P (dC, dI) vwCl [(c0, .inr (14, [.ref q1, .null, .null, .null, .int 0, .int 0, .int 0, .null, .null, .null, .int 0, .null, .null, .int 0, .int 0, .int 0, .int 0, .int 0, .int 0, .int 0, .int 0, .int 0, .int 0, .int 0, .int 0, .int 0, .int 0, .int 0, .int 0, .null, .int 0, .int 0, .int 0, .int 0, .null, .int 0, .int 0])), (q1, .inl (y2, 128, .inr (.inl (tbL nmT 128)))), (q131, .inl (y132, 128, .inl (tbI shT 79)))] H := hP
  have hD : va_D A [(c0, .inr (14, [.ref q1, .null, .null, .null, .int 0, .int 0, .int 0, .null, .null, .null, .int 0, .null, .null, .int 0, .int 0, .int 0, .int 0, .int 0, .int 0, .int 0, .int 0, .int 0, .int 0, .int 0, .int 0, .int 0, .int 0, .int 0, .int 0, .null, .int 0, .int 0, .int 0, .int 0, .null, .int 0, .int 0])), (q1, .inl (y2, 128, .inr (.inl (tbL nmT 128)))), (q131, .inl (y132, 128, .inl (tbI shT 79)))] := hD
  refine lv_dup hx hb dX13_init_1342 rfl ?_
  refine lv_bipush (v := 79) hx hb dX13_init_1343 (by decide) ?_
  refine lv_bipush (v := 21) hx hb dX13_init_1345 (by decide) ?_
  refine va_bast (i := 79) (x := 21) hx hb hK hP hD hS 2 1 rfl rfl (vp_in_iff.mpr ⟨by decide, by decide⟩) dX13_init_1347 (fun H locs hP hD hS => ?_)
  rw [tbI_s shT 79 (j := 79) (v := (vp_nar .byte 21)) (by decide) (by decide +kernel)] at hP hD
  have hP : va_P (dC, dI) vwCl [(c0, .inr (14, [.ref q1, .null, .null, .null, .int 0, .int 0, .int 0, .null, .null, .null, .int 0, .null, .null, .int 0, .int 0, .int 0, .int 0, .int 0, .int 0, .int 0, .int 0, .int 0, .int 0, .int 0, .int 0, .int 0, .int 0, .int 0, .int 0, .null, .int 0, .int 0, .int 0, .int 0, .null, .int 0, .int 0])), (q1, .inl (y2, 128, .inr (.inl (tbL nmT 128)))), (q131, .inl (y132, 128, .inl (tbI shT 80)))] H := hP
  have hD : va_D A [(c0, .inr (14, [.ref q1, .null, .null, .null, .int 0, .int 0, .int 0, .null, .null, .null, .int 0, .null, .null, .int 0, .int 0, .int 0, .int 0, .int 0, .int 0, .int 0, .int 0, .int 0, .int 0, .int 0, .int 0, .int 0, .int 0, .int 0, .int 0, .null, .int 0, .int 0, .int 0, .int 0, .null, .int 0, .int 0])), (q1, .inl (y2, 128, .inr (.inl (tbL nmT 128)))), (q131, .inl (y132, 128, .inl (tbI shT 80)))] := hD
  refine lv_dup hx hb dX13_init_1348 rfl ?_
  refine lv_bipush (v := 80) hx hb dX13_init_1349 (by decide) ?_
  refine lv_bipush (v := 21) hx hb dX13_init_1351 (by decide) ?_
  refine va_bast (i := 80) (x := 21) hx hb hK hP hD hS 2 1 rfl rfl (vp_in_iff.mpr ⟨by decide, by decide⟩) dX13_init_1353 (fun H locs hP hD hS => ?_)
  rw [tbI_s shT 80 (j := 80) (v := (vp_nar .byte 21)) (by decide) (by decide +kernel)] at hP hD
  have hP : va_P (dC, dI) vwCl [(c0, .inr (14, [.ref q1, .null, .null, .null, .int 0, .int 0, .int 0, .null, .null, .null, .int 0, .null, .null, .int 0, .int 0, .int 0, .int 0, .int 0, .int 0, .int 0, .int 0, .int 0, .int 0, .int 0, .int 0, .int 0, .int 0, .int 0, .int 0, .null, .int 0, .int 0, .int 0, .int 0, .null, .int 0, .int 0])), (q1, .inl (y2, 128, .inr (.inl (tbL nmT 128)))), (q131, .inl (y132, 128, .inl (tbI shT 81)))] H := hP
  have hD : va_D A [(c0, .inr (14, [.ref q1, .null, .null, .null, .int 0, .int 0, .int 0, .null, .null, .null, .int 0, .null, .null, .int 0, .int 0, .int 0, .int 0, .int 0, .int 0, .int 0, .int 0, .int 0, .int 0, .int 0, .int 0, .int 0, .int 0, .int 0, .int 0, .null, .int 0, .int 0, .int 0, .int 0, .null, .int 0, .int 0])), (q1, .inl (y2, 128, .inr (.inl (tbL nmT 128)))), (q131, .inl (y132, 128, .inl (tbI shT 81)))] := hD
  refine lv_dup hx hb dX13_init_1354 rfl ?_
  refine lv_bipush (v := 81) hx hb dX13_init_1355 (by decide) ?_
  refine lv_bipush (v := 22) hx hb dX13_init_1357 (by decide) ?_
  refine va_bast (i := 81) (x := 22) hx hb hK hP hD hS 2 1 rfl rfl (vp_in_iff.mpr ⟨by decide, by decide⟩) dX13_init_1359 (fun H locs hP hD hS => ?_)
  rw [tbI_s shT 81 (j := 81) (v := (vp_nar .byte 22)) (by decide) (by decide +kernel)] at hP hD
  have hP : va_P (dC, dI) vwCl [(c0, .inr (14, [.ref q1, .null, .null, .null, .int 0, .int 0, .int 0, .null, .null, .null, .int 0, .null, .null, .int 0, .int 0, .int 0, .int 0, .int 0, .int 0, .int 0, .int 0, .int 0, .int 0, .int 0, .int 0, .int 0, .int 0, .int 0, .int 0, .null, .int 0, .int 0, .int 0, .int 0, .null, .int 0, .int 0])), (q1, .inl (y2, 128, .inr (.inl (tbL nmT 128)))), (q131, .inl (y132, 128, .inl (tbI shT 82)))] H := hP
  have hD : va_D A [(c0, .inr (14, [.ref q1, .null, .null, .null, .int 0, .int 0, .int 0, .null, .null, .null, .int 0, .null, .null, .int 0, .int 0, .int 0, .int 0, .int 0, .int 0, .int 0, .int 0, .int 0, .int 0, .int 0, .int 0, .int 0, .int 0, .int 0, .int 0, .null, .int 0, .int 0, .int 0, .int 0, .null, .int 0, .int 0])), (q1, .inl (y2, 128, .inr (.inl (tbL nmT 128)))), (q131, .inl (y132, 128, .inl (tbI shT 82)))] := hD
  refine lv_dup hx hb dX13_init_1360 rfl ?_
  refine lv_bipush (v := 82) hx hb dX13_init_1361 (by decide) ?_
  refine lv_bipush (v := 23) hx hb dX13_init_1363 (by decide) ?_
  refine va_bast (i := 82) (x := 23) hx hb hK hP hD hS 2 1 rfl rfl (vp_in_iff.mpr ⟨by decide, by decide⟩) dX13_init_1365 (fun H locs hP hD hS => ?_)
  rw [tbI_s shT 82 (j := 82) (v := (vp_nar .byte 23)) (by decide) (by decide +kernel)] at hP hD
  have hP : va_P (dC, dI) vwCl [(c0, .inr (14, [.ref q1, .null, .null, .null, .int 0, .int 0, .int 0, .null, .null, .null, .int 0, .null, .null, .int 0, .int 0, .int 0, .int 0, .int 0, .int 0, .int 0, .int 0, .int 0, .int 0, .int 0, .int 0, .int 0, .int 0, .int 0, .int 0, .null, .int 0, .int 0, .int 0, .int 0, .null, .int 0, .int 0])), (q1, .inl (y2, 128, .inr (.inl (tbL nmT 128)))), (q131, .inl (y132, 128, .inl (tbI shT 83)))] H := hP
  have hD : va_D A [(c0, .inr (14, [.ref q1, .null, .null, .null, .int 0, .int 0, .int 0, .null, .null, .null, .int 0, .null, .null, .int 0, .int 0, .int 0, .int 0, .int 0, .int 0, .int 0, .int 0, .int 0, .int 0, .int 0, .int 0, .int 0, .int 0, .int 0, .int 0, .null, .int 0, .int 0, .int 0, .int 0, .null, .int 0, .int 0])), (q1, .inl (y2, 128, .inr (.inl (tbL nmT 128)))), (q131, .inl (y132, 128, .inl (tbI shT 83)))] := hD
  refine lv_dup hx hb dX13_init_1366 rfl ?_
  refine lv_bipush (v := 83) hx hb dX13_init_1367 (by decide) ?_
  refine lv_bipush (v := 23) hx hb dX13_init_1369 (by decide) ?_
  refine va_bast (i := 83) (x := 23) hx hb hK hP hD hS 2 1 rfl rfl (vp_in_iff.mpr ⟨by decide, by decide⟩) dX13_init_1371 (fun H locs hP hD hS => ?_)
  rw [tbI_s shT 83 (j := 83) (v := (vp_nar .byte 23)) (by decide) (by decide +kernel)] at hP hD
  have hP : va_P (dC, dI) vwCl [(c0, .inr (14, [.ref q1, .null, .null, .null, .int 0, .int 0, .int 0, .null, .null, .null, .int 0, .null, .null, .int 0, .int 0, .int 0, .int 0, .int 0, .int 0, .int 0, .int 0, .int 0, .int 0, .int 0, .int 0, .int 0, .int 0, .int 0, .int 0, .null, .int 0, .int 0, .int 0, .int 0, .null, .int 0, .int 0])), (q1, .inl (y2, 128, .inr (.inl (tbL nmT 128)))), (q131, .inl (y132, 128, .inl (tbI shT 84)))] H := hP
  have hD : va_D A [(c0, .inr (14, [.ref q1, .null, .null, .null, .int 0, .int 0, .int 0, .null, .null, .null, .int 0, .null, .null, .int 0, .int 0, .int 0, .int 0, .int 0, .int 0, .int 0, .int 0, .int 0, .int 0, .int 0, .int 0, .int 0, .int 0, .int 0, .int 0, .null, .int 0, .int 0, .int 0, .int 0, .null, .int 0, .int 0])), (q1, .inl (y2, 128, .inr (.inl (tbL nmT 128)))), (q131, .inl (y132, 128, .inl (tbI shT 84)))] := hD
  refine lv_dup hx hb dX13_init_1372 rfl ?_
  refine lv_bipush (v := 84) hx hb dX13_init_1373 (by decide) ?_
  refine lv_bipush (v := 23) hx hb dX13_init_1375 (by decide) ?_
  refine va_bast (i := 84) (x := 23) hx hb hK hP hD hS 2 1 rfl rfl (vp_in_iff.mpr ⟨by decide, by decide⟩) dX13_init_1377 (fun H locs hP hD hS => ?_)
  rw [tbI_s shT 84 (j := 84) (v := (vp_nar .byte 23)) (by decide) (by decide +kernel)] at hP hD
  have hP : va_P (dC, dI) vwCl [(c0, .inr (14, [.ref q1, .null, .null, .null, .int 0, .int 0, .int 0, .null, .null, .null, .int 0, .null, .null, .int 0, .int 0, .int 0, .int 0, .int 0, .int 0, .int 0, .int 0, .int 0, .int 0, .int 0, .int 0, .int 0, .int 0, .int 0, .int 0, .null, .int 0, .int 0, .int 0, .int 0, .null, .int 0, .int 0])), (q1, .inl (y2, 128, .inr (.inl (tbL nmT 128)))), (q131, .inl (y132, 128, .inl (tbI shT 85)))] H := hP
  have hD : va_D A [(c0, .inr (14, [.ref q1, .null, .null, .null, .int 0, .int 0, .int 0, .null, .null, .null, .int 0, .null, .null, .int 0, .int 0, .int 0, .int 0, .int 0, .int 0, .int 0, .int 0, .int 0, .int 0, .int 0, .int 0, .int 0, .int 0, .int 0, .int 0, .null, .int 0, .int 0, .int 0, .int 0, .null, .int 0, .int 0])), (q1, .inl (y2, 128, .inr (.inl (tbL nmT 128)))), (q131, .inl (y132, 128, .inl (tbI shT 85)))] := hD
  refine lv_dup hx hb dX13_init_1378 rfl ?_
  refine lv_bipush (v := 85) hx hb dX13_init_1379 (by decide) ?_
  refine lv_bipush (v := 23) hx hb dX13_init_1381 (by decide) ?_
  refine va_bast (i := 85) (x := 23) hx hb hK hP hD hS 2 1 rfl rfl (vp_in_iff.mpr ⟨by decide, by decide⟩) dX13_init_1383 (fun H locs hP hD hS => ?_)
  rw [tbI_s shT 85 (j := 85) (v := (vp_nar .byte 23)) (by decide) (by decide +kernel)] at hP hD
  have hP : va_P (dC, dI) vwCl [(c0, .inr (14, [.ref q1, .null, .null, .null, .int 0, .int 0, .int 0, .null, .null, .null, .int 0, .null, .null, .int 0, .int 0, .int 0, .int 0, .int 0, .int 0, .int 0, .int 0, .int 0, .int 0, .int 0, .int 0, .int 0, .int 0, .int 0, .int 0, .null, .int 0, .int 0, .int 0, .int 0, .null, .int 0, .int 0])), (q1, .inl (y2, 128, .inr (.inl (tbL nmT 128)))), (q131, .inl (y132, 128, .inl (tbI shT 86)))] H := hP
  have hD : va_D A [(c0, .inr (14, [.ref q1, .null, .null, .null, .int 0, .int 0, .int 0, .null, .null, .null, .int 0, .null, .null, .int 0, .int 0, .int 0, .int 0, .int 0, .int 0, .int 0, .int 0, .int 0, .int 0, .int 0, .int 0, .int 0, .int 0, .int 0, .int 0, .null, .int 0, .int 0, .int 0, .int 0, .null, .int 0, .int 0])), (q1, .inl (y2, 128, .inr (.inl (tbL nmT 128)))), (q131, .inl (y132, 128, .inl (tbI shT 86)))] := hD
  refine lv_dup hx hb dX13_init_1384 rfl ?_
  refine lv_bipush (v := 86) hx hb dX13_init_1385 (by decide) ?_
  refine lv_bipush (v := 24) hx hb dX13_init_1387 (by decide) ?_
  refine va_bast (i := 86) (x := 24) hx hb hK hP hD hS 2 1 rfl rfl (vp_in_iff.mpr ⟨by decide, by decide⟩) dX13_init_1389 (fun H locs hP hD hS => ?_)
  rw [tbI_s shT 86 (j := 86) (v := (vp_nar .byte 24)) (by decide) (by decide +kernel)] at hP hD
  have hP : va_P (dC, dI) vwCl [(c0, .inr (14, [.ref q1, .null, .null, .null, .int 0, .int 0, .int 0, .null, .null, .null, .int 0, .null, .null, .int 0, .int 0, .int 0, .int 0, .int 0, .int 0, .int 0, .int 0, .int 0, .int 0, .int 0, .int 0, .int 0, .int 0, .int 0, .int 0, .null, .int 0, .int 0, .int 0, .int 0, .null, .int 0, .int 0])), (q1, .inl (y2, 128, .inr (.inl (tbL nmT 128)))), (q131, .inl (y132, 128, .inl (tbI shT 87)))] H := hP
  have hD : va_D A [(c0, .inr (14, [.ref q1, .null, .null, .null, .int 0, .int 0, .int 0, .null, .null, .null, .int 0, .null, .null, .int 0, .int 0, .int 0, .int 0, .int 0, .int 0, .int 0, .int 0, .int 0, .int 0, .int 0, .int 0, .int 0, .int 0, .int 0, .int 0, .null, .int 0, .int 0, .int 0, .int 0, .null, .int 0, .int 0])), (q1, .inl (y2, 128, .inr (.inl (tbL nmT 128)))), (q131, .inl (y132, 128, .inl (tbI shT 87)))] := hD
  refine lv_dup hx hb dX13_init_1390 rfl ?_
  refine lv_bipush (v := 87) hx hb dX13_init_1391 (by decide) ?_
  refine lv_bipush (v := 24) hx hb dX13_init_1393 (by decide) ?_
  refine va_bast (i := 87) (x := 24) hx hb hK hP hD hS 2 1 rfl rfl (vp_in_iff.mpr ⟨by decide, by decide⟩) dX13_init_1395 (fun H locs hP hD hS => ?_)
  rw [tbI_s shT 87 (j := 87) (v := (vp_nar .byte 24)) (by decide) (by decide +kernel)] at hP hD
  have hP : va_P (dC, dI) vwCl [(c0, .inr (14, [.ref q1, .null, .null, .null, .int 0, .int 0, .int 0, .null, .null, .null, .int 0, .null, .null, .int 0, .int 0, .int 0, .int 0, .int 0, .int 0, .int 0, .int 0, .int 0, .int 0, .int 0, .int 0, .int 0, .int 0, .int 0, .int 0, .null, .int 0, .int 0, .int 0, .int 0, .null, .int 0, .int 0])), (q1, .inl (y2, 128, .inr (.inl (tbL nmT 128)))), (q131, .inl (y132, 128, .inl (tbI shT 88)))] H := hP
  have hD : va_D A [(c0, .inr (14, [.ref q1, .null, .null, .null, .int 0, .int 0, .int 0, .null, .null, .null, .int 0, .null, .null, .int 0, .int 0, .int 0, .int 0, .int 0, .int 0, .int 0, .int 0, .int 0, .int 0, .int 0, .int 0, .int 0, .int 0, .int 0, .int 0, .null, .int 0, .int 0, .int 0, .int 0, .null, .int 0, .int 0])), (q1, .inl (y2, 128, .inr (.inl (tbL nmT 128)))), (q131, .inl (y132, 128, .inl (tbI shT 88)))] := hD
  refine lv_dup hx hb dX13_init_1396 rfl ?_
  refine lv_bipush (v := 88) hx hb dX13_init_1397 (by decide) ?_
  refine lv_bipush (v := 25) hx hb dX13_init_1399 (by decide) ?_
  refine va_bast (i := 88) (x := 25) hx hb hK hP hD hS 2 1 rfl rfl (vp_in_iff.mpr ⟨by decide, by decide⟩) dX13_init_1401 (fun H locs hP hD hS => ?_)
  rw [tbI_s shT 88 (j := 88) (v := (vp_nar .byte 25)) (by decide) (by decide +kernel)] at hP hD
  have hP : va_P (dC, dI) vwCl [(c0, .inr (14, [.ref q1, .null, .null, .null, .int 0, .int 0, .int 0, .null, .null, .null, .int 0, .null, .null, .int 0, .int 0, .int 0, .int 0, .int 0, .int 0, .int 0, .int 0, .int 0, .int 0, .int 0, .int 0, .int 0, .int 0, .int 0, .int 0, .null, .int 0, .int 0, .int 0, .int 0, .null, .int 0, .int 0])), (q1, .inl (y2, 128, .inr (.inl (tbL nmT 128)))), (q131, .inl (y132, 128, .inl (tbI shT 89)))] H := hP
  have hD : va_D A [(c0, .inr (14, [.ref q1, .null, .null, .null, .int 0, .int 0, .int 0, .null, .null, .null, .int 0, .null, .null, .int 0, .int 0, .int 0, .int 0, .int 0, .int 0, .int 0, .int 0, .int 0, .int 0, .int 0, .int 0, .int 0, .int 0, .int 0, .int 0, .null, .int 0, .int 0, .int 0, .int 0, .null, .int 0, .int 0])), (q1, .inl (y2, 128, .inr (.inl (tbL nmT 128)))), (q131, .inl (y132, 128, .inl (tbI shT 89)))] := hD
  refine lv_dup hx hb dX13_init_1402 rfl ?_
  refine lv_bipush (v := 89) hx hb dX13_init_1403 (by decide) ?_
  refine lv_bipush (v := 26) hx hb dX13_init_1405 (by decide) ?_
  refine va_bast (i := 89) (x := 26) hx hb hK hP hD hS 2 1 rfl rfl (vp_in_iff.mpr ⟨by decide, by decide⟩) dX13_init_1407 (fun H locs hP hD hS => ?_)
  rw [tbI_s shT 89 (j := 89) (v := (vp_nar .byte 26)) (by decide) (by decide +kernel)] at hP hD
  have hP : va_P (dC, dI) vwCl [(c0, .inr (14, [.ref q1, .null, .null, .null, .int 0, .int 0, .int 0, .null, .null, .null, .int 0, .null, .null, .int 0, .int 0, .int 0, .int 0, .int 0, .int 0, .int 0, .int 0, .int 0, .int 0, .int 0, .int 0, .int 0, .int 0, .int 0, .int 0, .null, .int 0, .int 0, .int 0, .int 0, .null, .int 0, .int 0])), (q1, .inl (y2, 128, .inr (.inl (tbL nmT 128)))), (q131, .inl (y132, 128, .inl (tbI shT 90)))] H := hP
  have hD : va_D A [(c0, .inr (14, [.ref q1, .null, .null, .null, .int 0, .int 0, .int 0, .null, .null, .null, .int 0, .null, .null, .int 0, .int 0, .int 0, .int 0, .int 0, .int 0, .int 0, .int 0, .int 0, .int 0, .int 0, .int 0, .int 0, .int 0, .int 0, .int 0, .null, .int 0, .int 0, .int 0, .int 0, .null, .int 0, .int 0])), (q1, .inl (y2, 128, .inr (.inl (tbL nmT 128)))), (q131, .inl (y132, 128, .inl (tbI shT 90)))] := hD
  refine lv_dup hx hb dX13_init_1408 rfl ?_
  refine lv_bipush (v := 90) hx hb dX13_init_1409 (by decide) ?_
  refine lv_bipush (v := 27) hx hb dX13_init_1411 (by decide) ?_
  refine va_bast (i := 90) (x := 27) hx hb hK hP hD hS 2 1 rfl rfl (vp_in_iff.mpr ⟨by decide, by decide⟩) dX13_init_1413 (fun H locs hP hD hS => ?_)
  rw [tbI_s shT 90 (j := 90) (v := (vp_nar .byte 27)) (by decide) (by decide +kernel)] at hP hD
  have hP : va_P (dC, dI) vwCl [(c0, .inr (14, [.ref q1, .null, .null, .null, .int 0, .int 0, .int 0, .null, .null, .null, .int 0, .null, .null, .int 0, .int 0, .int 0, .int 0, .int 0, .int 0, .int 0, .int 0, .int 0, .int 0, .int 0, .int 0, .int 0, .int 0, .int 0, .int 0, .null, .int 0, .int 0, .int 0, .int 0, .null, .int 0, .int 0])), (q1, .inl (y2, 128, .inr (.inl (tbL nmT 128)))), (q131, .inl (y132, 128, .inl (tbI shT 91)))] H := hP
  have hD : va_D A [(c0, .inr (14, [.ref q1, .null, .null, .null, .int 0, .int 0, .int 0, .null, .null, .null, .int 0, .null, .null, .int 0, .int 0, .int 0, .int 0, .int 0, .int 0, .int 0, .int 0, .int 0, .int 0, .int 0, .int 0, .int 0, .int 0, .int 0, .int 0, .null, .int 0, .int 0, .int 0, .int 0, .null, .int 0, .int 0])), (q1, .inl (y2, 128, .inr (.inl (tbL nmT 128)))), (q131, .inl (y132, 128, .inl (tbI shT 91)))] := hD
  refine lv_dup hx hb dX13_init_1414 rfl ?_
  refine lv_bipush (v := 91) hx hb dX13_init_1415 (by decide) ?_
  refine lv_bipush (v := 27) hx hb dX13_init_1417 (by decide) ?_
  refine va_bast (i := 91) (x := 27) hx hb hK hP hD hS 2 1 rfl rfl (vp_in_iff.mpr ⟨by decide, by decide⟩) dX13_init_1419 (fun H locs hP hD hS => ?_)
  rw [tbI_s shT 91 (j := 91) (v := (vp_nar .byte 27)) (by decide) (by decide +kernel)] at hP hD
  have hP : va_P (dC, dI) vwCl [(c0, .inr (14, [.ref q1, .null, .null, .null, .int 0, .int 0, .int 0, .null, .null, .null, .int 0, .null, .null, .int 0, .int 0, .int 0, .int 0, .int 0, .int 0, .int 0, .int 0, .int 0, .int 0, .int 0, .int 0, .int 0, .int 0, .int 0, .int 0, .null, .int 0, .int 0, .int 0, .int 0, .null, .int 0, .int 0])), (q1, .inl (y2, 128, .inr (.inl (tbL nmT 128)))), (q131, .inl (y132, 128, .inl (tbI shT 92)))] H := hP
  have hD : va_D A [(c0, .inr (14, [.ref q1, .null, .null, .null, .int 0, .int 0, .int 0, .null, .null, .null, .int 0, .null, .null, .int 0, .int 0, .int 0, .int 0, .int 0, .int 0, .int 0, .int 0, .int 0, .int 0, .int 0, .int 0, .int 0, .int 0, .int 0, .int 0, .null, .int 0, .int 0, .int 0, .int 0, .null, .int 0, .int 0])), (q1, .inl (y2, 128, .inr (.inl (tbL nmT 128)))), (q131, .inl (y132, 128, .inl (tbI shT 92)))] := hD
  refine lv_dup hx hb dX13_init_1420 rfl ?_
  refine lv_bipush (v := 92) hx hb dX13_init_1421 (by decide) ?_
  refine lv_bipush (v := 28) hx hb dX13_init_1423 (by decide) ?_
  refine va_bast (i := 92) (x := 28) hx hb hK hP hD hS 2 1 rfl rfl (vp_in_iff.mpr ⟨by decide, by decide⟩) dX13_init_1425 (fun H locs hP hD hS => ?_)
  rw [tbI_s shT 92 (j := 92) (v := (vp_nar .byte 28)) (by decide) (by decide +kernel)] at hP hD
  have hP : va_P (dC, dI) vwCl [(c0, .inr (14, [.ref q1, .null, .null, .null, .int 0, .int 0, .int 0, .null, .null, .null, .int 0, .null, .null, .int 0, .int 0, .int 0, .int 0, .int 0, .int 0, .int 0, .int 0, .int 0, .int 0, .int 0, .int 0, .int 0, .int 0, .int 0, .int 0, .null, .int 0, .int 0, .int 0, .int 0, .null, .int 0, .int 0])), (q1, .inl (y2, 128, .inr (.inl (tbL nmT 128)))), (q131, .inl (y132, 128, .inl (tbI shT 93)))] H := hP
  have hD : va_D A [(c0, .inr (14, [.ref q1, .null, .null, .null, .int 0, .int 0, .int 0, .null, .null, .null, .int 0, .null, .null, .int 0, .int 0, .int 0, .int 0, .int 0, .int 0, .int 0, .int 0, .int 0, .int 0, .int 0, .int 0, .int 0, .int 0, .int 0, .int 0, .null, .int 0, .int 0, .int 0, .int 0, .null, .int 0, .int 0])), (q1, .inl (y2, 128, .inr (.inl (tbL nmT 128)))), (q131, .inl (y132, 128, .inl (tbI shT 93)))] := hD
  refine lv_dup hx hb dX13_init_1426 rfl ?_
  refine lv_bipush (v := 93) hx hb dX13_init_1427 (by decide) ?_
  refine lv_bipush (v := 28) hx hb dX13_init_1429 (by decide) ?_
  refine va_bast (i := 93) (x := 28) hx hb hK hP hD hS 2 1 rfl rfl (vp_in_iff.mpr ⟨by decide, by decide⟩) dX13_init_1431 (fun H locs hP hD hS => ?_)
  rw [tbI_s shT 93 (j := 93) (v := (vp_nar .byte 28)) (by decide) (by decide +kernel)] at hP hD
  have hP : va_P (dC, dI) vwCl [(c0, .inr (14, [.ref q1, .null, .null, .null, .int 0, .int 0, .int 0, .null, .null, .null, .int 0, .null, .null, .int 0, .int 0, .int 0, .int 0, .int 0, .int 0, .int 0, .int 0, .int 0, .int 0, .int 0, .int 0, .int 0, .int 0, .int 0, .int 0, .null, .int 0, .int 0, .int 0, .int 0, .null, .int 0, .int 0])), (q1, .inl (y2, 128, .inr (.inl (tbL nmT 128)))), (q131, .inl (y132, 128, .inl (tbI shT 94)))] H := hP
  have hD : va_D A [(c0, .inr (14, [.ref q1, .null, .null, .null, .int 0, .int 0, .int 0, .null, .null, .null, .int 0, .null, .null, .int 0, .int 0, .int 0, .int 0, .int 0, .int 0, .int 0, .int 0, .int 0, .int 0, .int 0, .int 0, .int 0, .int 0, .int 0, .int 0, .null, .int 0, .int 0, .int 0, .int 0, .null, .int 0, .int 0])), (q1, .inl (y2, 128, .inr (.inl (tbL nmT 128)))), (q131, .inl (y132, 128, .inl (tbI shT 94)))] := hD
  refine lv_dup hx hb dX13_init_1432 rfl ?_
  refine lv_bipush (v := 94) hx hb dX13_init_1433 (by decide) ?_
  refine lv_bipush (v := 29) hx hb dX13_init_1435 (by decide) ?_
  exact kk _ _ _ hK hP hD hS hl


set_option maxHeartbeats 40000000 in
set_option maxRecDepth 100000 in
theorem k_X13_init_s10 {p : Program} {l : Launch} {e : Env} {s : State} {m : MethodId} {args : Array Value} {below : List Frame} {meth : Method} {c : Code} {Q : State → Prop} {A : Nat → Prop} (dC : Nat → ClassId) (dI : Nat → Nat → Nat) (c0 : Nat) (q1 : Nat) (y2 : ClassId) (q131 : Nat) (y132 : ClassId) (hlt : l.stackTraces = false) (hx : p.tables.exec = Jvm.exec) (hb : c.code = cX13_init) (hml : c.maxLocals = 1) (hown : s.vm.findClass RX13 = some m.cls) (hts : ∀ w ∈ ow_k_X13_init, w.before args s = true) (hin : meth.name = "<init>") (hN : nv_E dI A s) (hA : ∀ q : Nat, s.heap.size ≤ q → A q) {H : Heap} {locs : List Loc} {ls : Array Slot} (hK : va_K (dC, dI) vwCl [(y2, .long), (y132, .byte)] s) (hP : va_P (dC, dI) vwCl [(c0, .inr (14, [.ref q1, .null, .null, .null, .int 0, .int 0, .int 0, .null, .null, .null, .int 0, .null, .null, .int 0, .int 0, .int 0, .int 0, .int 0, .int 0, .int 0, .int 0, .int 0, .int 0, .int 0, .int 0, .int 0, .int 0, .int 0, .int 0, .null, .int 0, .int 0, .int 0, .int 0, .null, .int 0, .int 0])), (q1, .inl (y2, 128, .inr (.inl (tbL nmT 128)))), (q131, .inl (y132, 128, .inl (tbI shT 94)))] H) (hD : va_D A [(c0, .inr (14, [.ref q1, .null, .null, .null, .int 0, .int 0, .int 0, .null, .null, .null, .int 0, .null, .null, .int 0, .int 0, .int 0, .int 0, .int 0, .int 0, .int 0, .int 0, .int 0, .int 0, .int 0, .int 0, .int 0, .int 0, .int 0, .int 0, .null, .int 0, .int 0, .int 0, .int 0, .null, .int 0, .int 0])), (q1, .inl (y2, 128, .inr (.inl (tbL nmT 128)))), (q131, .inl (y132, 128, .inl (tbI shT 94)))]) (hS : va_S A s.heap H locs) (hl : lv_has ls 1 [(0, .ref c0)]) (kk : ∀ (H : Heap) (locs : List Loc) (ls : Array Slot), va_K (dC, dI) vwCl [(y2, .long), (y132, .byte)] s → va_P (dC, dI) vwCl [(c0, .inr (14, [.ref q1, .null, .null, .null, .int 0, .int 0, .int 0, .null, .null, .null, .int 0, .null, .null, .int 0, .int 0, .int 0, .int 0, .int 0, .int 0, .int 0, .int 0, .int 0, .int 0, .int 0, .int 0, .int 0, .int 0, .int 0, .int 0, .null, .int 0, .int 0, .int 0, .int 0, .null, .int 0, .int 0])), (q1, .inl (y2, 128, .inr (.inl (tbL nmT 128)))), (q131, .inl (y132, 128, .inl (tbI shT 117)))] H → va_D A [(c0, .inr (14, [.ref q1, .null, .null, .null, .int 0, .int 0, .int 0, .null, .null, .null, .int 0, .null, .null, .int 0, .int 0, .int 0, .int 0, .int 0, .int 0, .int 0, .int 0, .int 0, .int 0, .int 0, .int 0, .int 0, .int 0, .int 0, .int 0, .null, .int 0, .int 0, .int 0, .int 0, .null, .int 0, .int 0])), (q1, .inl (y2, 128, .inr (.inl (tbL nmT 128)))), (q131, .inl (y132, 128, .inl (tbI shT 117)))] → va_S A s.heap H locs → lv_has ls 1 [(0, .ref c0)] → W p l e (headSpec ow_k_X13_init ({ frames := 1, cells := 10, slots := 131956, locals := 12 })).room s m args below meth c H locs 2 256 Q (F0 m 1571 ls [.ref q131, .ref q131, .ref c0])) : W p l e (headSpec ow_k_X13_init ({ frames := 1, cells := 10, slots := 131956, locals := 12 })).room s m args below meth c H locs 2 256 Q (F0 m 1437 ls [.int 29, .int 94, .ref q131, .ref q131, .ref c0]) := by
  refine va_bast (i := 94) (x := 29) hx hb hK hP hD hS 2 1 rfl rfl (vp_in_iff.mpr ⟨by decide, by decide⟩) dX13_init_1437 (fun H locs hP hD hS => ?_)
  rw [tbI_s shT 94 (j := 94) (v := (vp_nar .byte 29)) (by decide) (by decide +kernel)] at hP hD
  have hP : va_P (dC, dI) vwCl [(c0, .inr (14, [.ref q1, .null, .null, .null, .int 0, .int 0, .int 0, .null, .null, .null, .int 0, .null, .null, .int 0, .int 0, .int 0, .int 0, .int 0, .int 0, .int 0, .int 0, .int 0, .int 0, .int 0, .int 0, .int 0, .int 0, .int 0, .int 0, .null, .int 0, .int 0, .int 0, .int 0, .null, .int 0, .int 0])), (q1, .inl (y2, 128, .inr (.inl (tbL nmT 128)))), (q131, .inl (y132, 128, .inl (tbI shT 95)))] H := hP
  have hD : va_D A [(c0, .inr (14, [.ref q1, .null, .null, .null, .int 0, .int 0, .int 0, .null, .null, .null, .int 0, .null, .null, .int 0, .int 0, .int 0, .int 0, .int 0, .int 0, .int 0, .int 0, .int 0, .int 0, .int 0, .int 0, .int 0, .int 0, .int 0, .int 0, .null, .int 0, .int 0, .int 0, .int 0, .null, .int 0, .int 0])), (q1, .inl (y2, 128, .inr (.inl (tbL nmT 128)))), (q131, .inl (y132, 128, .inl (tbI shT 95)))] := hD
  refine lv_dup hx hb dX13_init_1438 rfl ?_
  refine lv_bipush (v := 95) hx hb dX13_init_1439 (by decide) ?_
  refine lv_bipush (v := 31) hx hb dX13_init_1441 (by decide) ?_
  refine va_bast (i := 95) (x := 31) hx hb hK hP hD hS 2 1 rfl rfl (vp_in_iff.mpr ⟨by decide, by decide⟩) dX13_init_1443 (fun H locs hP hD hS => ?_)
  rw [tbI_s shT 95 (j := 95) (v := (vp_nar .byte 31)) (by decide) (by decide +kernel)] at hP hD
  have hP : va_P (dC, dI) vwCl [(c0, .inr (14, [.ref q1, .null, .null, .null, .int 0, .int 0, .int 0, .null, .null, .null, .int 0, .null, .null, .int 0, .int 0, .int 0, .int 0, .int 0, .int 0, .int 0, .int 0, .int 0, .int 0, .int 0, .int 0, .int 0, .int 0, .int 0, .int 0, .null, .int 0, .int 0, .int 0, .int 0, .null, .int 0, .int 0])), (q1, .inl (y2, 128, .inr (.inl (tbL nmT 128)))), (q131, .inl (y132, 128, .inl (tbI shT 96)))] H := hP
  have hD : va_D A [(c0, .inr (14, [.ref q1, .null, .null, .null, .int 0, .int 0, .int 0, .null, .null, .null, .int 0, .null, .null, .int 0, .int 0, .int 0, .int 0, .int 0, .int 0, .int 0, .int 0, .int 0, .int 0, .int 0, .int 0, .int 0, .int 0, .int 0, .int 0, .null, .int 0, .int 0, .int 0, .int 0, .null, .int 0, .int 0])), (q1, .inl (y2, 128, .inr (.inl (tbL nmT 128)))), (q131, .inl (y132, 128, .inl (tbI shT 96)))] := hD
  refine lv_dup hx hb dX13_init_1444 rfl ?_
  refine lv_bipush (v := 96) hx hb dX13_init_1445 (by decide) ?_
  refine lv_bipush (v := 31) hx hb dX13_init_1447 (by decide) ?_
  refine va_bast (i := 96) (x := 31) hx hb hK hP hD hS 2 1 rfl rfl (vp_in_iff.mpr ⟨by decide, by decide⟩) dX13_init_1449 (fun H locs hP hD hS => ?_)
  rw [tbI_s shT 96 (j := 96) (v := (vp_nar .byte 31)) (by decide) (by decide +kernel)] at hP hD
  have hP : va_P (dC, dI) vwCl [(c0, .inr (14, [.ref q1, .null, .null, .null, .int 0, .int 0, .int 0, .null, .null, .null, .int 0, .null, .null, .int 0, .int 0, .int 0, .int 0, .int 0, .int 0, .int 0, .int 0, .int 0, .int 0, .int 0, .int 0, .int 0, .int 0, .int 0, .int 0, .null, .int 0, .int 0, .int 0, .int 0, .null, .int 0, .int 0])), (q1, .inl (y2, 128, .inr (.inl (tbL nmT 128)))), (q131, .inl (y132, 128, .inl (tbI shT 97)))] H := hP
  have hD : va_D A [(c0, .inr (14, [.ref q1, .null, .null, .null, .int 0, .int 0, .int 0, .null, .null, .null, .int 0, .null, .null, .int 0, .int 0, .int 0, .int 0, .int 0, .int 0, .int 0, .int 0, .int 0, .int 0, .int 0, .int 0, .int 0, .int 0, .int 0, .int 0, .null, .int 0, .int 0, .int 0, .int 0, .null, .int 0, .int 0])), (q1, .inl (y2, 128, .inr (.inl (tbL nmT 128)))), (q131, .inl (y132, 128, .inl (tbI shT 97)))] := hD
  refine lv_dup hx hb dX13_init_1450 rfl ?_
  refine lv_bipush (v := 97) hx hb dX13_init_1451 (by decide) ?_
  refine lv_bipush (v := 31) hx hb dX13_init_1453 (by decide) ?_
  refine va_bast (i := 97) (x := 31) hx hb hK hP hD hS 2 1 rfl rfl (vp_in_iff.mpr ⟨by decide, by decide⟩) dX13_init_1455 (fun H locs hP hD hS => ?_)
  rw [tbI_s shT 97 (j := 97) (v := (vp_nar .byte 31)) (by decide) (by decide +kernel)] at hP hD
  have hP : va_P (dC, dI) vwCl [(c0, .inr (14, [.ref q1, .null, .null, .null, .int 0, .int 0, .int 0, .null, .null, .null, .int 0, .null, .null, .int 0, .int 0, .int 0, .int 0, .int 0, .int 0, .int 0, .int 0, .int 0, .int 0, .int 0, .int 0, .int 0, .int 0, .int 0, .int 0, .null, .int 0, .int 0, .int 0, .int 0, .null, .int 0, .int 0])), (q1, .inl (y2, 128, .inr (.inl (tbL nmT 128)))), (q131, .inl (y132, 128, .inl (tbI shT 98)))] H := hP
  have hD : va_D A [(c0, .inr (14, [.ref q1, .null, .null, .null, .int 0, .int 0, .int 0, .null, .null, .null, .int 0, .null, .null, .int 0, .int 0, .int 0, .int 0, .int 0, .int 0, .int 0, .int 0, .int 0, .int 0, .int 0, .int 0, .int 0, .int 0, .int 0, .int 0, .null, .int 0, .int 0, .int 0, .int 0, .null, .int 0, .int 0])), (q1, .inl (y2, 128, .inr (.inl (tbL nmT 128)))), (q131, .inl (y132, 128, .inl (tbI shT 98)))] := hD
  refine lv_dup hx hb dX13_init_1456 rfl ?_
  refine lv_bipush (v := 98) hx hb dX13_init_1457 (by decide) ?_
  refine lv_bipush (v := 31) hx hb dX13_init_1459 (by decide) ?_
  refine va_bast (i := 98) (x := 31) hx hb hK hP hD hS 2 1 rfl rfl (vp_in_iff.mpr ⟨by decide, by decide⟩) dX13_init_1461 (fun H locs hP hD hS => ?_)
  rw [tbI_s shT 98 (j := 98) (v := (vp_nar .byte 31)) (by decide) (by decide +kernel)] at hP hD
  have hP : va_P (dC, dI) vwCl [(c0, .inr (14, [.ref q1, .null, .null, .null, .int 0, .int 0, .int 0, .null, .null, .null, .int 0, .null, .null, .int 0, .int 0, .int 0, .int 0, .int 0, .int 0, .int 0, .int 0, .int 0, .int 0, .int 0, .int 0, .int 0, .int 0, .int 0, .int 0, .null, .int 0, .int 0, .int 0, .int 0, .null, .int 0, .int 0])), (q1, .inl (y2, 128, .inr (.inl (tbL nmT 128)))), (q131, .inl (y132, 128, .inl (tbI shT 99)))] H := hP
  have hD : va_D A [(c0, .inr (14, [.ref q1, .null, .null, .null, .int 0, .int 0, .int 0, .null, .null, .null, .int 0, .null, .null, .int 0, .int 0, .int 0, .int 0, .int 0, .int 0, .int 0, .int 0, .int 0, .int 0, .int 0, .int 0, .int 0, .int 0, .int 0, .int 0, .null, .int 0, .int 0, .int 0, .int 0, .null, .int 0, .int 0])), (q1, .inl (y2, 128, .inr (.inl (tbL nmT 128)))), (q131, .inl (y132, 128, .inl (tbI shT 99)))] := hD
  refine lv_dup hx hb dX13_init_1462 rfl ?_
  refine lv_bipush (v := 99) hx hb dX13_init_1463 (by decide) ?_
  refine lv_bipush (v := 32) hx hb dX13_init_1465 (by decide) ?_
  refine va_bast (i := 99) (x := 32) hx hb hK hP hD hS 2 1 rfl rfl (vp_in_iff.mpr ⟨by decide, by decide⟩) dX13_init_1467 (fun H locs hP hD hS => ?_)
  rw [tbI_s shT 99 (j := 99) (v := (vp_nar .byte 32)) (by decide) (by decide +kernel)] at hP hD
  have hP : va_P (dC, dI) vwCl [(c0, .inr (14, [.ref q1, .null, .null, .null, .int 0, .int 0, .int 0, .null, .null, .null, .int 0, .null, .null, .int 0, .int 0, .int 0, .int 0, .int 0, .int 0, .int 0, .int 0, .int 0, .int 0, .int 0, .int 0, .int 0, .int 0, .int 0, .int 0, .null, .int 0, .int 0, .int 0, .int 0, .null, .int 0, .int 0])), (q1, .inl (y2, 128, .inr (.inl (tbL nmT 128)))), (q131, .inl (y132, 128, .inl (tbI shT 100)))] H := hP
  have hD : va_D A [(c0, .inr (14, [.ref q1, .null, .null, .null, .int 0, .int 0, .int 0, .null, .null, .null, .int 0, .null, .null, .int 0, .int 0, .int 0, .int 0, .int 0, .int 0, .int 0, .int 0, .int 0, .int 0, .int 0, .int 0, .int 0, .int 0, .int 0, .int 0, .null, .int 0, .int 0, .int 0, .int 0, .null, .int 0, .int 0])), (q1, .inl (y2, 128, .inr (.inl (tbL nmT 128)))), (q131, .inl (y132, 128, .inl (tbI shT 100)))] := hD
  refine lv_dup hx hb dX13_init_1468 rfl ?_
  refine lv_bipush (v := 100) hx hb dX13_init_1469 (by decide) ?_
  refine lv_bipush (v := 32) hx hb dX13_init_1471 (by decide) ?_
  refine va_bast (i := 100) (x := 32) hx hb hK hP hD hS 2 1 rfl rfl (vp_in_iff.mpr ⟨by decide, by decide⟩) dX13_init_1473 (fun H locs hP hD hS => ?_)
  rw [tbI_s shT 100 (j := 100) (v := (vp_nar .byte 32)) (by decide) (by decide +kernel)] at hP hD
  have hP : va_P (dC, dI) vwCl [(c0, .inr (14, [.ref q1, .null, .null, .null, .int 0, .int 0, .int 0, .null, .null, .null, .int 0, .null, .null, .int 0, .int 0, .int 0, .int 0, .int 0, .int 0, .int 0, .int 0, .int 0, .int 0, .int 0, .int 0, .int 0, .int 0, .int 0, .int 0, .null, .int 0, .int 0, .int 0, .int 0, .null, .int 0, .int 0])), (q1, .inl (y2, 128, .inr (.inl (tbL nmT 128)))), (q131, .inl (y132, 128, .inl (tbI shT 101)))] H := hP
  have hD : va_D A [(c0, .inr (14, [.ref q1, .null, .null, .null, .int 0, .int 0, .int 0, .null, .null, .null, .int 0, .null, .null, .int 0, .int 0, .int 0, .int 0, .int 0, .int 0, .int 0, .int 0, .int 0, .int 0, .int 0, .int 0, .int 0, .int 0, .int 0, .int 0, .null, .int 0, .int 0, .int 0, .int 0, .null, .int 0, .int 0])), (q1, .inl (y2, 128, .inr (.inl (tbL nmT 128)))), (q131, .inl (y132, 128, .inl (tbI shT 101)))] := hD
  refine lv_dup hx hb dX13_init_1474 rfl ?_
  refine lv_bipush (v := 101) hx hb dX13_init_1475 (by decide) ?_
  refine lv_bipush (v := 32) hx hb dX13_init_1477 (by decide) ?_
  refine va_bast (i := 101) (x := 32) hx hb hK hP hD hS 2 1 rfl rfl (vp_in_iff.mpr ⟨by decide, by decide⟩) dX13_init_1479 (fun H locs hP hD hS => ?_)
  rw [tbI_s shT 101 (j := 101) (v := (vp_nar .byte 32)) (by decide) (by decide +kernel)] at hP hD
  have hP : va_P (dC, dI) vwCl [(c0, .inr (14, [.ref q1, .null, .null, .null, .int 0, .int 0, .int 0, .null, .null, .null, .int 0, .null, .null, .int 0, .int 0, .int 0, .int 0, .int 0, .int 0, .int 0, .int 0, .int 0, .int 0, .int 0, .int 0, .int 0, .int 0, .int 0, .int 0, .null, .int 0, .int 0, .int 0, .int 0, .null, .int 0, .int 0])), (q1, .inl (y2, 128, .inr (.inl (tbL nmT 128)))), (q131, .inl (y132, 128, .inl (tbI shT 102)))] H := hP
  have hD : va_D A [(c0, .inr (14, [.ref q1, .null, .null, .null, .int 0, .int 0, .int 0, .null, .null, .null, .int 0, .null, .null, .int 0, .int 0, .int 0, .int 0, .int 0, .int 0, .int 0, .int 0, .int 0, .int 0, .int 0, .int 0, .int 0, .int 0, .int 0, .int 0, .null, .int 0, .int 0, .int 0, .int 0, .null, .int 0, .int 0])), (q1, .inl (y2, 128, .inr (.inl (tbL nmT 128)))), (q131, .inl (y132, 128, .inl (tbI shT 102)))] := hD
  refine lv_dup hx hb dX13_init_1480 rfl ?_
  refine lv_bipush (v := 102) hx hb dX13_init_1481 (by decide) ?_
  refine lv_bipush (v := 33) hx hb dX13_init_1483 (by decide) ?_
  refine va_bast (i := 102) (x := 33) hx hb hK hP hD hS 2 1 rfl rfl (vp_in_iff.mpr ⟨by decide, by decide⟩) dX13_init_1485 (fun H locs hP hD hS => ?_)
  rw [tbI_s shT 102 (j := 102) (v := (vp_nar .byte 33)) (by decide) (by decide +kernel)] at hP hD
  have hP : va_P (dC, dI) vwCl [(c0, .inr (14, [.ref q1, .null, .null, .null, .int 0, .int 0, .int 0, .null, .null, .null, .int 0, .null, .null, .int 0, .int 0, .int 0, .int 0, .int 0, .int 0, .int 0, .int 0, .int 0, .int 0, .int 0, .int 0, .int 0, .int 0, .int 0, .int 0, .null, .int 0, .int 0, .int 0, .int 0, .null, .int 0, .int 0])), (q1, .inl (y2, 128, .inr (.inl (tbL nmT 128)))), (q131, .inl (y132, 128, .inl (tbI shT 103)))] H := hP
  have hD : va_D A [(c0, .inr (14, [.ref q1, .null, .null, .null, .int 0, .int 0, .int 0, .null, .null, .null, .int 0, .null, .null, .int 0, .int 0, .int 0, .int 0, .int 0, .int 0, .int 0, .int 0, .int 0, .int 0, .int 0, .int 0, .int 0, .int 0, .int 0, .int 0, .null, .int 0, .int 0, .int 0, .int 0, .null, .int 0, .int 0])), (q1, .inl (y2, 128, .inr (.inl (tbL nmT 128)))), (q131, .inl (y132, 128, .inl (tbI shT 103)))] := hD
  refine lv_dup hx hb dX13_init_1486 rfl ?_
  refine lv_bipush (v := 103) hx hb dX13_init_1487 (by decide) ?_
  refine lv_bipush (v := 34) hx hb dX13_init_1489 (by decide) ?_
  refine va_bast (i := 103) (x := 34) hx hb hK hP hD hS 2 1 rfl rfl (vp_in_iff.mpr ⟨by decide, by decide⟩) dX13_init_1491 (fun H locs hP hD hS => ?_)
  rw [tbI_s shT 103 (j := 103) (v := (vp_nar .byte 34)) (by decide) (by decide +kernel)] at hP hD
  have hP : va_P (dC, dI) vwCl [(c0, .inr (14, [.ref q1, .null, .null, .null, .int 0, .int 0, .int 0, .null, .null, .null, .int 0, .null, .null, .int 0, .int 0, .int 0, .int 0, .int 0, .int 0, .int 0, .int 0, .int 0, .int 0, .int 0, .int 0, .int 0, .int 0, .int 0, .int 0, .null, .int 0, .int 0, .int 0, .int 0, .null, .int 0, .int 0])), (q1, .inl (y2, 128, .inr (.inl (tbL nmT 128)))), (q131, .inl (y132, 128, .inl (tbI shT 104)))] H := hP
  have hD : va_D A [(c0, .inr (14, [.ref q1, .null, .null, .null, .int 0, .int 0, .int 0, .null, .null, .null, .int 0, .null, .null, .int 0, .int 0, .int 0, .int 0, .int 0, .int 0, .int 0, .int 0, .int 0, .int 0, .int 0, .int 0, .int 0, .int 0, .int 0, .int 0, .null, .int 0, .int 0, .int 0, .int 0, .null, .int 0, .int 0])), (q1, .inl (y2, 128, .inr (.inl (tbL nmT 128)))), (q131, .inl (y132, 128, .inl (tbI shT 104)))] := hD
  refine lv_dup hx hb dX13_init_1492 rfl ?_
  refine lv_bipush (v := 104) hx hb dX13_init_1493 (by decide) ?_
  refine lv_bipush (v := 34) hx hb dX13_init_1495 (by decide) ?_
  refine va_bast (i := 104) (x := 34) hx hb hK hP hD hS 2 1 rfl rfl (vp_in_iff.mpr ⟨by decide, by decide⟩) dX13_init_1497 (fun H locs hP hD hS => ?_)
  rw [tbI_s shT 104 (j := 104) (v := (vp_nar .byte 34)) (by decide) (by decide +kernel)] at hP hD
  have hP : va_P (dC, dI) vwCl [(c0, .inr (14, [.ref q1, .null, .null, .null, .int 0, .int 0, .int 0, .null, .null, .null, .int 0, .null, .null, .int 0, .int 0, .int 0, .int 0, .int 0, .int 0, .int 0, .int 0, .int 0, .int 0, .int 0, .int 0, .int 0, .int 0, .int 0, .int 0, .null, .int 0, .int 0, .int 0, .int 0, .null, .int 0, .int 0])), (q1, .inl (y2, 128, .inr (.inl (tbL nmT 128)))), (q131, .inl (y132, 128, .inl (tbI shT 105)))] H := hP
  have hD : va_D A [(c0, .inr (14, [.ref q1, .null, .null, .null, .int 0, .int 0, .int 0, .null, .null, .null, .int 0, .null, .null, .int 0, .int 0, .int 0, .int 0, .int 0, .int 0, .int 0, .int 0, .int 0, .int 0, .int 0, .int 0, .int 0, .int 0, .int 0, .int 0, .null, .int 0, .int 0, .int 0, .int 0, .null, .int 0, .int 0])), (q1, .inl (y2, 128, .inr (.inl (tbL nmT 128)))), (q131, .inl (y132, 128, .inl (tbI shT 105)))] := hD
  refine lv_dup hx hb dX13_init_1498 rfl ?_
  refine lv_bipush (v := 105) hx hb dX13_init_1499 (by decide) ?_
  refine lv_bipush (v := 34) hx hb dX13_init_1501 (by decide) ?_
  refine va_bast (i := 105) (x := 34) hx hb hK hP hD hS 2 1 rfl rfl (vp_in_iff.mpr ⟨by decide, by decide⟩) dX13_init_1503 (fun H locs hP hD hS => ?_)
  rw [tbI_s shT 105 (j := 105) (v := (vp_nar .byte 34)) (by decide) (by decide +kernel)] at hP hD
  have hP : va_P (dC, dI) vwCl [(c0, .inr (14, [.ref q1, .null, .null, .null, .int 0, .int 0, .int 0, .null, .null, .null, .int 0, .null, .null, .int 0, .int 0, .int 0, .int 0, .int 0, .int 0, .int 0, .int 0, .int 0, .int 0, .int 0, .int 0, .int 0, .int 0, .int 0, .int 0, .null, .int 0, .int 0, .int 0, .int 0, .null, .int 0, .int 0])), (q1, .inl (y2, 128, .inr (.inl (tbL nmT 128)))), (q131, .inl (y132, 128, .inl (tbI shT 106)))] H := hP
  have hD : va_D A [(c0, .inr (14, [.ref q1, .null, .null, .null, .int 0, .int 0, .int 0, .null, .null, .null, .int 0, .null, .null, .int 0, .int 0, .int 0, .int 0, .int 0, .int 0, .int 0, .int 0, .int 0, .int 0, .int 0, .int 0, .int 0, .int 0, .int 0, .int 0, .null, .int 0, .int 0, .int 0, .int 0, .null, .int 0, .int 0])), (q1, .inl (y2, 128, .inr (.inl (tbL nmT 128)))), (q131, .inl (y132, 128, .inl (tbI shT 106)))] := hD
  refine lv_dup hx hb dX13_init_1504 rfl ?_
  refine lv_bipush (v := 106) hx hb dX13_init_1505 (by decide) ?_
  refine lv_bipush (v := 35) hx hb dX13_init_1507 (by decide) ?_
  refine va_bast (i := 106) (x := 35) hx hb hK hP hD hS 2 1 rfl rfl (vp_in_iff.mpr ⟨by decide, by decide⟩) dX13_init_1509 (fun H locs hP hD hS => ?_)
  rw [tbI_s shT 106 (j := 106) (v := (vp_nar .byte 35)) (by decide) (by decide +kernel)] at hP hD
  have hP : va_P (dC, dI) vwCl [(c0, .inr (14, [.ref q1, .null, .null, .null, .int 0, .int 0, .int 0, .null, .null, .null, .int 0, .null, .null, .int 0, .int 0, .int 0, .int 0, .int 0, .int 0, .int 0, .int 0, .int 0, .int 0, .int 0, .int 0, .int 0, .int 0, .int 0, .int 0, .null, .int 0, .int 0, .int 0, .int 0, .null, .int 0, .int 0])), (q1, .inl (y2, 128, .inr (.inl (tbL nmT 128)))), (q131, .inl (y132, 128, .inl (tbI shT 107)))] H := hP
  have hD : va_D A [(c0, .inr (14, [.ref q1, .null, .null, .null, .int 0, .int 0, .int 0, .null, .null, .null, .int 0, .null, .null, .int 0, .int 0, .int 0, .int 0, .int 0, .int 0, .int 0, .int 0, .int 0, .int 0, .int 0, .int 0, .int 0, .int 0, .int 0, .int 0, .null, .int 0, .int 0, .int 0, .int 0, .null, .int 0, .int 0])), (q1, .inl (y2, 128, .inr (.inl (tbL nmT 128)))), (q131, .inl (y132, 128, .inl (tbI shT 107)))] := hD
  refine lv_dup hx hb dX13_init_1510 rfl ?_
  refine lv_bipush (v := 107) hx hb dX13_init_1511 (by decide) ?_
  refine lv_bipush (v := 35) hx hb dX13_init_1513 (by decide) ?_
  refine va_bast (i := 107) (x := 35) hx hb hK hP hD hS 2 1 rfl rfl (vp_in_iff.mpr ⟨by decide, by decide⟩) dX13_init_1515 (fun H locs hP hD hS => ?_)
  rw [tbI_s shT 107 (j := 107) (v := (vp_nar .byte 35)) (by decide) (by decide +kernel)] at hP hD
  have hP : va_P (dC, dI) vwCl [(c0, .inr (14, [.ref q1, .null, .null, .null, .int 0, .int 0, .int 0, .null, .null, .null, .int 0, .null, .null, .int 0, .int 0, .int 0, .int 0, .int 0, .int 0, .int 0, .int 0, .int 0, .int 0, .int 0, .int 0, .int 0, .int 0, .int 0, .int 0, .null, .int 0, .int 0, .int 0, .int 0, .null, .int 0, .int 0])), (q1, .inl (y2, 128, .inr (.inl (tbL nmT 128)))), (q131, .inl (y132, 128, .inl (tbI shT 108)))] H := hP
  have hD : va_D A [(c0, .inr (14, [.ref q1, .null, .null, .null, .int 0, .int 0, .int 0, .null, .null, .null, .int 0, .null, .null, .int 0, .int 0, .int 0, .int 0, .int 0, .int 0, .int 0, .int 0, .int 0, .int 0, .int 0, .int 0, .int 0, .int 0, .int 0, .int 0, .null, .int 0, .int 0, .int 0, .int 0, .null, .int 0, .int 0])), (q1, .inl (y2, 128, .inr (.inl (tbL nmT 128)))), (q131, .inl (y132, 128, .inl (tbI shT 108)))] := hD
  refine lv_dup hx hb dX13_init_1516 rfl ?_
  refine lv_bipush (v := 108) hx hb dX13_init_1517 (by decide) ?_
  refine lv_bipush (v := 35) hx hb dX13_init_1519 (by decide) ?_
  refine va_bast (i := 108) (x := 35) hx hb hK hP hD hS 2 1 rfl rfl (vp_in_iff.mpr ⟨by decide, by decide⟩) dX13_init_1521 (fun H locs hP hD hS => ?_)
  rw [tbI_s shT 108 (j := 108) (v := (vp_nar .byte 35)) (by decide) (by decide +kernel)] at hP hD
  have hP : va_P (dC, dI) vwCl [(c0, .inr (14, [.ref q1, .null, .null, .null, .int 0, .int 0, .int 0, .null, .null, .null, .int 0, .null, .null, .int 0, .int 0, .int 0, .int 0, .int 0, .int 0, .int 0, .int 0, .int 0, .int 0, .int 0, .int 0, .int 0, .int 0, .int 0, .int 0, .null, .int 0, .int 0, .int 0, .int 0, .null, .int 0, .int 0])), (q1, .inl (y2, 128, .inr (.inl (tbL nmT 128)))), (q131, .inl (y132, 128, .inl (tbI shT 109)))] H := hP
  have hD : va_D A [(c0, .inr (14, [.ref q1, .null, .null, .null, .int 0, .int 0, .int 0, .null, .null, .null, .int 0, .null, .null, .int 0, .int 0, .int 0, .int 0, .int 0, .int 0, .int 0, .int 0, .int 0, .int 0, .int 0, .int 0, .int 0, .int 0, .int 0, .int 0, .null, .int 0, .int 0, .int 0, .int 0, .null, .int 0, .int 0])), (q1, .inl (y2, 128, .inr (.inl (tbL nmT 128)))), (q131, .inl (y132, 128, .inl (tbI shT 109)))] := hD
  refine lv_dup hx hb dX13_init_1522 rfl ?_
  refine lv_bipush (v := 109) hx hb dX13_init_1523 (by decide) ?_
  refine lv_bipush (v := 35) hx hb dX13_init_1525 (by decide) ?_
  refine va_bast (i := 109) (x := 35) hx hb hK hP hD hS 2 1 rfl rfl (vp_in_iff.mpr ⟨by decide, by decide⟩) dX13_init_1527 (fun H locs hP hD hS => ?_)
  rw [tbI_s shT 109 (j := 109) (v := (vp_nar .byte 35)) (by decide) (by decide +kernel)] at hP hD
  have hP : va_P (dC, dI) vwCl [(c0, .inr (14, [.ref q1, .null, .null, .null, .int 0, .int 0, .int 0, .null, .null, .null, .int 0, .null, .null, .int 0, .int 0, .int 0, .int 0, .int 0, .int 0, .int 0, .int 0, .int 0, .int 0, .int 0, .int 0, .int 0, .int 0, .int 0, .int 0, .null, .int 0, .int 0, .int 0, .int 0, .null, .int 0, .int 0])), (q1, .inl (y2, 128, .inr (.inl (tbL nmT 128)))), (q131, .inl (y132, 128, .inl (tbI shT 110)))] H := hP
  have hD : va_D A [(c0, .inr (14, [.ref q1, .null, .null, .null, .int 0, .int 0, .int 0, .null, .null, .null, .int 0, .null, .null, .int 0, .int 0, .int 0, .int 0, .int 0, .int 0, .int 0, .int 0, .int 0, .int 0, .int 0, .int 0, .int 0, .int 0, .int 0, .int 0, .null, .int 0, .int 0, .int 0, .int 0, .null, .int 0, .int 0])), (q1, .inl (y2, 128, .inr (.inl (tbL nmT 128)))), (q131, .inl (y132, 128, .inl (tbI shT 110)))] := hD
  refine lv_dup hx hb dX13_init_1528 rfl ?_
  refine lv_bipush (v := 110) hx hb dX13_init_1529 (by decide) ?_
  refine lv_bipush (v := 36) hx hb dX13_init_1531 (by decide) ?_
  refine va_bast (i := 110) (x := 36) hx hb hK hP hD hS 2 1 rfl rfl (vp_in_iff.mpr ⟨by decide, by decide⟩) dX13_init_1533 (fun H locs hP hD hS => ?_)
  rw [tbI_s shT 110 (j := 110) (v := (vp_nar .byte 36)) (by decide) (by decide +kernel)] at hP hD
  have hP : va_P (dC, dI) vwCl [(c0, .inr (14, [.ref q1, .null, .null, .null, .int 0, .int 0, .int 0, .null, .null, .null, .int 0, .null, .null, .int 0, .int 0, .int 0, .int 0, .int 0, .int 0, .int 0, .int 0, .int 0, .int 0, .int 0, .int 0, .int 0, .int 0, .int 0, .int 0, .null, .int 0, .int 0, .int 0, .int 0, .null, .int 0, .int 0])), (q1, .inl (y2, 128, .inr (.inl (tbL nmT 128)))), (q131, .inl (y132, 128, .inl (tbI shT 111)))] H := hP
  have hD : va_D A [(c0, .inr (14, [.ref q1, .null, .null, .null, .int 0, .int 0, .int 0, .null, .null, .null, .int 0, .null, .null, .int 0, .int 0, .int 0, .int 0, .int 0, .int 0, .int 0, .int 0, .int 0, .int 0, .int 0, .int 0, .int 0, .int 0, .int 0, .int 0, .null, .int 0, .int 0, .int 0, .int 0, .null, .int 0, .int 0])), (q1, .inl (y2, 128, .inr (.inl (tbL nmT 128)))), (q131, .inl (y132, 128, .inl (tbI shT 111)))] := hD
  refine lv_dup hx hb dX13_init_1534 rfl ?_
  refine lv_bipush (v := 111) hx hb dX13_init_1535 (by decide) ?_
  refine lv_bipush (v := 36) hx hb dX13_init_1537 (by decide) ?_
  refine va_bast (i := 111) (x := 36) hx hb hK hP hD hS 2 1 rfl rfl (vp_in_iff.mpr ⟨by decide, by decide⟩) dX13_init_1539 (fun H locs hP hD hS => ?_)
  rw [tbI_s shT 111 (j := 111) (v := (vp_nar .byte 36)) (by decide) (by decide +kernel)] at hP hD
  have hP : va_P (dC, dI) vwCl [(c0, .inr (14, [.ref q1, .null, .null, .null, .int 0, .int 0, .int 0, .null, .null, .null, .int 0, .null, .null, .int 0, .int 0, .int 0, .int 0, .int 0, .int 0, .int 0, .int 0, .int 0, .int 0, .int 0, .int 0, .int 0, .int 0, .int 0, .int 0, .null, .int 0, .int 0, .int 0, .int 0, .null, .int 0, .int 0])), (q1, .inl (y2, 128, .inr (.inl (tbL nmT 128)))), (q131, .inl (y132, 128, .inl (tbI shT 112)))] H := hP
  have hD : va_D A [(c0, .inr (14, [.ref q1, .null, .null, .null, .int 0, .int 0, .int 0, .null, .null, .null, .int 0, .null, .null, .int 0, .int 0, .int 0, .int 0, .int 0, .int 0, .int 0, .int 0, .int 0, .int 0, .int 0, .int 0, .int 0, .int 0, .int 0, .int 0, .null, .int 0, .int 0, .int 0, .int 0, .null, .int 0, .int 0])), (q1, .inl (y2, 128, .inr (.inl (tbL nmT 128)))), (q131, .inl (y132, 128, .inl (tbI shT 112)))] := hD
  refine lv_dup hx hb dX13_init_1540 rfl ?_
  refine lv_bipush (v := 112) hx hb dX13_init_1541 (by decide) ?_
  refine lv_bipush (v := 37) hx hb dX13_init_1543 (by decide) ?_
  refine va_bast (i := 112) (x := 37) hx hb hK hP hD hS 2 1 rfl rfl (vp_in_iff.mpr ⟨by decide, by decide⟩) dX13_init_1545 (fun H locs hP hD hS => ?_)
  rw [tbI_s shT 112 (j := 112) (v := (vp_nar .byte 37)) (by decide) (by decide +kernel)] at hP hD
  have hP : va_P (dC, dI) vwCl [(c0, .inr (14, [.ref q1, .null, .null, .null, .int 0, .int 0, .int 0, .null, .null, .null, .int 0, .null, .null, .int 0, .int 0, .int 0, .int 0, .int 0, .int 0, .int 0, .int 0, .int 0, .int 0, .int 0, .int 0, .int 0, .int 0, .int 0, .int 0, .null, .int 0, .int 0, .int 0, .int 0, .null, .int 0, .int 0])), (q1, .inl (y2, 128, .inr (.inl (tbL nmT 128)))), (q131, .inl (y132, 128, .inl (tbI shT 113)))] H := hP
  have hD : va_D A [(c0, .inr (14, [.ref q1, .null, .null, .null, .int 0, .int 0, .int 0, .null, .null, .null, .int 0, .null, .null, .int 0, .int 0, .int 0, .int 0, .int 0, .int 0, .int 0, .int 0, .int 0, .int 0, .int 0, .int 0, .int 0, .int 0, .int 0, .int 0, .null, .int 0, .int 0, .int 0, .int 0, .null, .int 0, .int 0])), (q1, .inl (y2, 128, .inr (.inl (tbL nmT 128)))), (q131, .inl (y132, 128, .inl (tbI shT 113)))] := hD
  refine lv_dup hx hb dX13_init_1546 rfl ?_
  refine lv_bipush (v := 113) hx hb dX13_init_1547 (by decide) ?_
  refine lv_bipush (v := 37) hx hb dX13_init_1549 (by decide) ?_
  refine va_bast (i := 113) (x := 37) hx hb hK hP hD hS 2 1 rfl rfl (vp_in_iff.mpr ⟨by decide, by decide⟩) dX13_init_1551 (fun H locs hP hD hS => ?_)
  rw [tbI_s shT 113 (j := 113) (v := (vp_nar .byte 37)) (by decide) (by decide +kernel)] at hP hD
  have hP : va_P (dC, dI) vwCl [(c0, .inr (14, [.ref q1, .null, .null, .null, .int 0, .int 0, .int 0, .null, .null, .null, .int 0, .null, .null, .int 0, .int 0, .int 0, .int 0, .int 0, .int 0, .int 0, .int 0, .int 0, .int 0, .int 0, .int 0, .int 0, .int 0, .int 0, .int 0, .null, .int 0, .int 0, .int 0, .int 0, .null, .int 0, .int 0])), (q1, .inl (y2, 128, .inr (.inl (tbL nmT 128)))), (q131, .inl (y132, 128, .inl (tbI shT 114)))] H := hP
  have hD : va_D A [(c0, .inr (14, [.ref q1, .null, .null, .null, .int 0, .int 0, .int 0, .null, .null, .null, .int 0, .null, .null, .int 0, .int 0, .int 0, .int 0, .int 0, .int 0, .int 0, .int 0, .int 0, .int 0, .int 0, .int 0, .int 0, .int 0, .int 0, .int 0, .null, .int 0, .int 0, .int 0, .int 0, .null, .int 0, .int 0])), (q1, .inl (y2, 128, .inr (.inl (tbL nmT 128)))), (q131, .inl (y132, 128, .inl (tbI shT 114)))] := hD
  refine lv_dup hx hb dX13_init_1552 rfl ?_
  refine lv_bipush (v := 114) hx hb dX13_init_1553 (by decide) ?_
  refine lv_bipush (v := 37) hx hb dX13_init_1555 (by decide) ?_
  refine va_bast (i := 114) (x := 37) hx hb hK hP hD hS 2 1 rfl rfl (vp_in_iff.mpr ⟨by decide, by decide⟩) dX13_init_1557 (fun H locs hP hD hS => ?_)
  rw [tbI_s shT 114 (j := 114) (v := (vp_nar .byte 37)) (by decide) (by decide +kernel)] at hP hD
  have hP : va_P (dC, dI) vwCl [(c0, .inr (14, [.ref q1, .null, .null, .null, .int 0, .int 0, .int 0, .null, .null, .null, .int 0, .null, .null, .int 0, .int 0, .int 0, .int 0, .int 0, .int 0, .int 0, .int 0, .int 0, .int 0, .int 0, .int 0, .int 0, .int 0, .int 0, .int 0, .null, .int 0, .int 0, .int 0, .int 0, .null, .int 0, .int 0])), (q1, .inl (y2, 128, .inr (.inl (tbL nmT 128)))), (q131, .inl (y132, 128, .inl (tbI shT 115)))] H := hP
  have hD : va_D A [(c0, .inr (14, [.ref q1, .null, .null, .null, .int 0, .int 0, .int 0, .null, .null, .null, .int 0, .null, .null, .int 0, .int 0, .int 0, .int 0, .int 0, .int 0, .int 0, .int 0, .int 0, .int 0, .int 0, .int 0, .int 0, .int 0, .int 0, .int 0, .null, .int 0, .int 0, .int 0, .int 0, .null, .int 0, .int 0])), (q1, .inl (y2, 128, .inr (.inl (tbL nmT 128)))), (q131, .inl (y132, 128, .inl (tbI shT 115)))] := hD
  refine lv_dup hx hb dX13_init_1558 rfl ?_
  refine lv_bipush (v := 115) hx hb dX13_init_1559 (by decide) ?_
  refine lv_bipush (v := 37) hx hb dX13_init_1561 (by decide) ?_
  refine va_bast (i := 115) (x := 37) hx hb hK hP hD hS 2 1 rfl rfl (vp_in_iff.mpr ⟨by decide, by decide⟩) dX13_init_1563 (fun H locs hP hD hS => ?_)
  rw [tbI_s shT 115 (j := 115) (v := (vp_nar .byte 37)) (by decide) (by decide +kernel)] at hP hD
  have hP : va_P (dC, dI) vwCl [(c0, .inr (14, [.ref q1, .null, .null, .null, .int 0, .int 0, .int 0, .null, .null, .null, .int 0, .null, .null, .int 0, .int 0, .int 0, .int 0, .int 0, .int 0, .int 0, .int 0, .int 0, .int 0, .int 0, .int 0, .int 0, .int 0, .int 0, .int 0, .null, .int 0, .int 0, .int 0, .int 0, .null, .int 0, .int 0])), (q1, .inl (y2, 128, .inr (.inl (tbL nmT 128)))), (q131, .inl (y132, 128, .inl (tbI shT 116)))] H := hP
  have hD : va_D A [(c0, .inr (14, [.ref q1, .null, .null, .null, .int 0, .int 0, .int 0, .null, .null, .null, .int 0, .null, .null, .int 0, .int 0, .int 0, .int 0, .int 0, .int 0, .int 0, .int 0, .int 0, .int 0, .int 0, .int 0, .int 0, .int 0, .int 0, .int 0, .null, .int 0, .int 0, .int 0, .int 0, .null, .int 0, .int 0])), (q1, .inl (y2, 128, .inr (.inl (tbL nmT 128)))), (q131, .inl (y132, 128, .inl (tbI shT 116)))] := hD
  refine lv_dup hx hb dX13_init_1564 rfl ?_
  refine lv_bipush (v := 116) hx hb dX13_init_1565 (by decide) ?_
  refine lv_bipush (v := 38) hx hb dX13_init_1567 (by decide) ?_
  refine va_bast (i := 116) (x := 38) hx hb hK hP hD hS 2 1 rfl rfl (vp_in_iff.mpr ⟨by decide, by decide⟩) dX13_init_1569 (fun H locs hP hD hS => ?_)
  rw [tbI_s shT 116 (j := 116) (v := (vp_nar .byte 38)) (by decide) (by decide +kernel)] at hP hD
  have hP : va_P (dC, dI) vwCl [(c0, .inr (14, [.ref q1, .null, .null, .null, .int 0, .int 0, .int 0, .null, .null, .null, .int 0, .null, .null, .int 0, .int 0, .int 0, .int 0, .int 0, .int 0, .int 0, .int 0, .int 0, .int 0, .int 0, .int 0, .int 0, .int 0, .int 0, .int 0, .null, .int 0, .int 0, .int 0, .int 0, .null, .int 0, .int 0])), (q1, .inl (y2, 128, .inr (.inl (tbL nmT 128)))), (q131, .inl (y132, 128, .inl (tbI shT 117)))] H := hP
  have hD : va_D A [(c0, .inr (14, [.ref q1, .null, .null, .null, .int 0, .int 0, .int 0, .null, .null, .null, .int 0, .null, .null, .int 0, .int 0, .int 0, .int 0, .int 0, .int 0, .int 0, .int 0, .int 0, .int 0, .int 0, .int 0, .int 0, .int 0, .int 0, .int 0, .null, .int 0, .int 0, .int 0, .int 0, .null, .int 0, .int 0])), (q1, .inl (y2, 128, .inr (.inl (tbL nmT 128)))), (q131, .inl (y132, 128, .inl (tbI shT 117)))] := hD
  refine lv_dup hx hb dX13_init_1570 rfl ?_
  exact kk _ _ _ hK hP hD hS hl


