set_option maxHeartbeats 40000000 in
set_option maxRecDepth 100000 in
theorem k_X13_init_s7 {p : Program} {l : Launch} {e : Env} {s : State} {m : MethodId} {args : Array Value} {below : List Frame} {meth : Method} {c : Code} {Q : State → Prop} {A : Nat → Prop} (dC : Nat → ClassId) (dI : Nat → Nat → Nat) (c0 : Nat) (q1 : Nat) (y2 : ClassId) (q131 : Nat) (y132 : ClassId) (f130 : Nat → Int64) (f159 : Nat → Int32) (hlt : l.stackTraces = false) (hx : p.tables.exec = Jvm.exec) (hb : c.code = cX13_init) (hml : c.maxLocals = 1) (hown : s.vm.findClass RX13 = some m.cls) (hts : ∀ w ∈ ow_k_X13_init, w.before args s = true) (hin : meth.name = "<init>") (hN : nv_E A s) (hA : ∀ q : Nat, s.heap.size ≤ q → A q) {H : Heap} {locs : List Loc} {ls : Array Slot} (hK : va_K (dC, dI) vwCl [(y2, .long), (y132, .byte)] s) (hP : va_P (dC, dI) vwCl [(c0, .inr (14, [.ref q1, .null, .null, .null, .int 0, .int 0, .int 0, .null, .null, .null, .int 0, .null, .null, .int 0, .int 0, .int 0, .int 0, .int 0, .int 0, .int 0, .int 0, .int 0, .int 0, .int 0, .int 0, .int 0, .int 0, .int 0, .int 0, .null, .int 0, .int 0, .int 0, .int 0, .null, .int 0, .int 0])), (q1, .inl (y2, 128, .inr (.inl f130))), (q131, .inl (y132, 128, .inl f159))] H) (hD : va_D A [(c0, .inr (14, [.ref q1, .null, .null, .null, .int 0, .int 0, .int 0, .null, .null, .null, .int 0, .null, .null, .int 0, .int 0, .int 0, .int 0, .int 0, .int 0, .int 0, .int 0, .int 0, .int 0, .int 0, .int 0, .int 0, .int 0, .int 0, .int 0, .null, .int 0, .int 0, .int 0, .int 0, .null, .int 0, .int 0])), (q1, .inl (y2, 128, .inr (.inl f130))), (q131, .inl (y132, 128, .inl f159))]) (hS : va_S A s.heap H locs) (hl : lv_has ls 1 [(0, .ref c0)]) (kk : ∀ (f181 : Nat → Int32) (H : Heap) (locs : List Loc) (ls : Array Slot), va_K (dC, dI) vwCl [(y2, .long), (y132, .byte)] s → va_P (dC, dI) vwCl [(c0, .inr (14, [.ref q1, .null, .null, .null, .int 0, .int 0, .int 0, .null, .null, .null, .int 0, .null, .null, .int 0, .int 0, .int 0, .int 0, .int 0, .int 0, .int 0, .int 0, .int 0, .int 0, .int 0, .int 0, .int 0, .int 0, .int 0, .int 0, .null, .int 0, .int 0, .int 0, .int 0, .null, .int 0, .int 0])), (q1, .inl (y2, 128, .inr (.inl f130))), (q131, .inl (y132, 128, .inl f181))] H → va_D A [(c0, .inr (14, [.ref q1, .null, .null, .null, .int 0, .int 0, .int 0, .null, .null, .null, .int 0, .null, .null, .int 0, .int 0, .int 0, .int 0, .int 0, .int 0, .int 0, .int 0, .int 0, .int 0, .int 0, .int 0, .int 0, .int 0, .int 0, .int 0, .null, .int 0, .int 0, .int 0, .int 0, .null, .int 0, .int 0])), (q1, .inl (y2, 128, .inr (.inl f130))), (q131, .inl (y132, 128, .inl f181))] → va_S A s.heap H locs → lv_has ls 1 [(0, .ref c0)] → W p l e (headSpec ow_k_X13_init ({ frames := 1, cells := 10, slots := 131956, locals := 12 })).room s m args below meth c H locs 2 256 Q (F0 m 1167 ls [.int 9, .int 49, .ref q131, .ref q131, .ref c0])) : W p l e (headSpec ow_k_X13_init ({ frames := 1, cells := 10, slots := 131956, locals := 12 })).room s m args below meth c H locs 2 256 Q (F0 m 1039 ls [.ref q131, .ref q131, .ref c0]) := by
  refine lv_bipush (v := 27) hx hb dX13_init_1039 (by decide) ?_
  refine lv_iconst (v := 4) hx hb dX13_init_1041 (by decide) ?_
  refine va_bast (i := 27) (x := 4) hx hb hK hP hD hS 2 1 rfl rfl (vp_in_iff.mpr ⟨by decide, by decide⟩) dX13_init_1042 (fun H locs hP hD hS => ?_)
  generalize hf160 : upd f159 (Int32.toNatClampNeg 27) (vp_nar .byte 4) = f160 at hP hD
  have hP : va_P (dC, dI) vwCl [(c0, .inr (14, [.ref q1, .null, .null, .null, .int 0, .int 0, .int 0, .null, .null, .null, .int 0, .null, .null, .int 0, .int 0, .int 0, .int 0, .int 0, .int 0, .int 0, .int 0, .int 0, .int 0, .int 0, .int 0, .int 0, .int 0, .int 0, .int 0, .null, .int 0, .int 0, .int 0, .int 0, .null, .int 0, .int 0])), (q1, .inl (y2, 128, .inr (.inl f130))), (q131, .inl (y132, 128, .inl f160))] H := hP
  have hD : va_D A [(c0, .inr (14, [.ref q1, .null, .null, .null, .int 0, .int 0, .int 0, .null, .null, .null, .int 0, .null, .null, .int 0, .int 0, .int 0, .int 0, .int 0, .int 0, .int 0, .int 0, .int 0, .int 0, .int 0, .int 0, .int 0, .int 0, .int 0, .int 0, .null, .int 0, .int 0, .int 0, .int 0, .null, .int 0, .int 0])), (q1, .inl (y2, 128, .inr (.inl f130))), (q131, .inl (y132, 128, .inl f160))] := hD
  refine lv_dup hx hb dX13_init_1043 rfl ?_
  refine lv_bipush (v := 28) hx hb dX13_init_1044 (by decide) ?_
  refine lv_iconst (v := 4) hx hb dX13_init_1046 (by decide) ?_
  refine va_bast (i := 28) (x := 4) hx hb hK hP hD hS 2 1 rfl rfl (vp_in_iff.mpr ⟨by decide, by decide⟩) dX13_init_1047 (fun H locs hP hD hS => ?_)
  generalize hf161 : upd f160 (Int32.toNatClampNeg 28) (vp_nar .byte 4) = f161 at hP hD
  have hP : va_P (dC, dI) vwCl [(c0, .inr (14, [.ref q1, .null, .null, .null, .int 0, .int 0, .int 0, .null, .null, .null, .int 0, .null, .null, .int 0, .int 0, .int 0, .int 0, .int 0, .int 0, .int 0, .int 0, .int 0, .int 0, .int 0, .int 0, .int 0, .int 0, .int 0, .int 0, .null, .int 0, .int 0, .int 0, .int 0, .null, .int 0, .int 0])), (q1, .inl (y2, 128, .inr (.inl f130))), (q131, .inl (y132, 128, .inl f161))] H := hP
  have hD : va_D A [(c0, .inr (14, [.ref q1, .null, .null, .null, .int 0, .int 0, .int 0, .null, .null, .null, .int 0, .null, .null, .int 0, .int 0, .int 0, .int 0, .int 0, .int 0, .int 0, .int 0, .int 0, .int 0, .int 0, .int 0, .int 0, .int 0, .int 0, .int 0, .null, .int 0, .int 0, .int 0, .int 0, .null, .int 0, .int 0])), (q1, .inl (y2, 128, .inr (.inl f130))), (q131, .inl (y132, 128, .inl f161))] := hD
  refine lv_dup hx hb dX13_init_1048 rfl ?_
  refine lv_bipush (v := 29) hx hb dX13_init_1049 (by decide) ?_
  refine lv_iconst (v := 4) hx hb dX13_init_1051 (by decide) ?_
  refine va_bast (i := 29) (x := 4) hx hb hK hP hD hS 2 1 rfl rfl (vp_in_iff.mpr ⟨by decide, by decide⟩) dX13_init_1052 (fun H locs hP hD hS => ?_)
  generalize hf162 : upd f161 (Int32.toNatClampNeg 29) (vp_nar .byte 4) = f162 at hP hD
  have hP : va_P (dC, dI) vwCl [(c0, .inr (14, [.ref q1, .null, .null, .null, .int 0, .int 0, .int 0, .null, .null, .null, .int 0, .null, .null, .int 0, .int 0, .int 0, .int 0, .int 0, .int 0, .int 0, .int 0, .int 0, .int 0, .int 0, .int 0, .int 0, .int 0, .int 0, .int 0, .null, .int 0, .int 0, .int 0, .int 0, .null, .int 0, .int 0])), (q1, .inl (y2, 128, .inr (.inl f130))), (q131, .inl (y132, 128, .inl f162))] H := hP
  have hD : va_D A [(c0, .inr (14, [.ref q1, .null, .null, .null, .int 0, .int 0, .int 0, .null, .null, .null, .int 0, .null, .null, .int 0, .int 0, .int 0, .int 0, .int 0, .int 0, .int 0, .int 0, .int 0, .int 0, .int 0, .int 0, .int 0, .int 0, .int 0, .int 0, .null, .int 0, .int 0, .int 0, .int 0, .null, .int 0, .int 0])), (q1, .inl (y2, 128, .inr (.inl f130))), (q131, .inl (y132, 128, .inl f162))] := hD
  refine lv_dup hx hb dX13_init_1053 rfl ?_
  refine lv_bipush (v := 30) hx hb dX13_init_1054 (by decide) ?_
  refine lv_iconst (v := 4) hx hb dX13_init_1056 (by decide) ?_
  refine va_bast (i := 30) (x := 4) hx hb hK hP hD hS 2 1 rfl rfl (vp_in_iff.mpr ⟨by decide, by decide⟩) dX13_init_1057 (fun H locs hP hD hS => ?_)
  generalize hf163 : upd f162 (Int32.toNatClampNeg 30) (vp_nar .byte 4) = f163 at hP hD
  have hP : va_P (dC, dI) vwCl [(c0, .inr (14, [.ref q1, .null, .null, .null, .int 0, .int 0, .int 0, .null, .null, .null, .int 0, .null, .null, .int 0, .int 0, .int 0, .int 0, .int 0, .int 0, .int 0, .int 0, .int 0, .int 0, .int 0, .int 0, .int 0, .int 0, .int 0, .int 0, .null, .int 0, .int 0, .int 0, .int 0, .null, .int 0, .int 0])), (q1, .inl (y2, 128, .inr (.inl f130))), (q131, .inl (y132, 128, .inl f163))] H := hP
  have hD : va_D A [(c0, .inr (14, [.ref q1, .null, .null, .null, .int 0, .int 0, .int 0, .null, .null, .null, .int 0, .null, .null, .int 0, .int 0, .int 0, .int 0, .int 0, .int 0, .int 0, .int 0, .int 0, .int 0, .int 0, .int 0, .int 0, .int 0, .int 0, .int 0, .null, .int 0, .int 0, .int 0, .int 0, .null, .int 0, .int 0])), (q1, .inl (y2, 128, .inr (.inl f130))), (q131, .inl (y132, 128, .inl f163))] := hD
  refine lv_dup hx hb dX13_init_1058 rfl ?_
  refine lv_bipush (v := 31) hx hb dX13_init_1059 (by decide) ?_
  refine lv_iconst (v := 4) hx hb dX13_init_1061 (by decide) ?_
  refine va_bast (i := 31) (x := 4) hx hb hK hP hD hS 2 1 rfl rfl (vp_in_iff.mpr ⟨by decide, by decide⟩) dX13_init_1062 (fun H locs hP hD hS => ?_)
  generalize hf164 : upd f163 (Int32.toNatClampNeg 31) (vp_nar .byte 4) = f164 at hP hD
  have hP : va_P (dC, dI) vwCl [(c0, .inr (14, [.ref q1, .null, .null, .null, .int 0, .int 0, .int 0, .null, .null, .null, .int 0, .null, .null, .int 0, .int 0, .int 0, .int 0, .int 0, .int 0, .int 0, .int 0, .int 0, .int 0, .int 0, .int 0, .int 0, .int 0, .int 0, .int 0, .null, .int 0, .int 0, .int 0, .int 0, .null, .int 0, .int 0])), (q1, .inl (y2, 128, .inr (.inl f130))), (q131, .inl (y132, 128, .inl f164))] H := hP
  have hD : va_D A [(c0, .inr (14, [.ref q1, .null, .null, .null, .int 0, .int 0, .int 0, .null, .null, .null, .int 0, .null, .null, .int 0, .int 0, .int 0, .int 0, .int 0, .int 0, .int 0, .int 0, .int 0, .int 0, .int 0, .int 0, .int 0, .int 0, .int 0, .int 0, .null, .int 0, .int 0, .int 0, .int 0, .null, .int 0, .int 0])), (q1, .inl (y2, 128, .inr (.inl f130))), (q131, .inl (y132, 128, .inl f164))] := hD
  refine lv_dup hx hb dX13_init_1063 rfl ?_
  refine lv_bipush (v := 32) hx hb dX13_init_1064 (by decide) ?_
  refine lv_bipush (v := 30) hx hb dX13_init_1066 (by decide) ?_
  refine va_bast (i := 32) (x := 30) hx hb hK hP hD hS 2 1 rfl rfl (vp_in_iff.mpr ⟨by decide, by decide⟩) dX13_init_1068 (fun H locs hP hD hS => ?_)
  generalize hf165 : upd f164 (Int32.toNatClampNeg 32) (vp_nar .byte 30) = f165 at hP hD
  have hP : va_P (dC, dI) vwCl [(c0, .inr (14, [.ref q1, .null, .null, .null, .int 0, .int 0, .int 0, .null, .null, .null, .int 0, .null, .null, .int 0, .int 0, .int 0, .int 0, .int 0, .int 0, .int 0, .int 0, .int 0, .int 0, .int 0, .int 0, .int 0, .int 0, .int 0, .int 0, .null, .int 0, .int 0, .int 0, .int 0, .null, .int 0, .int 0])), (q1, .inl (y2, 128, .inr (.inl f130))), (q131, .inl (y132, 128, .inl f165))] H := hP
  have hD : va_D A [(c0, .inr (14, [.ref q1, .null, .null, .null, .int 0, .int 0, .int 0, .null, .null, .null, .int 0, .null, .null, .int 0, .int 0, .int 0, .int 0, .int 0, .int 0, .int 0, .int 0, .int 0, .int 0, .int 0, .int 0, .int 0, .int 0, .int 0, .int 0, .null, .int 0, .int 0, .int 0, .int 0, .null, .int 0, .int 0])), (q1, .inl (y2, 128, .inr (.inl f130))), (q131, .inl (y132, 128, .inl f165))] := hD
  refine lv_dup hx hb dX13_init_1069 rfl ?_
  refine lv_bipush (v := 33) hx hb dX13_init_1070 (by decide) ?_
  refine lv_iconst (v := 5) hx hb dX13_init_1072 (by decide) ?_
  refine va_bast (i := 33) (x := 5) hx hb hK hP hD hS 2 1 rfl rfl (vp_in_iff.mpr ⟨by decide, by decide⟩) dX13_init_1073 (fun H locs hP hD hS => ?_)
  generalize hf166 : upd f165 (Int32.toNatClampNeg 33) (vp_nar .byte 5) = f166 at hP hD
  have hP : va_P (dC, dI) vwCl [(c0, .inr (14, [.ref q1, .null, .null, .null, .int 0, .int 0, .int 0, .null, .null, .null, .int 0, .null, .null, .int 0, .int 0, .int 0, .int 0, .int 0, .int 0, .int 0, .int 0, .int 0, .int 0, .int 0, .int 0, .int 0, .int 0, .int 0, .int 0, .null, .int 0, .int 0, .int 0, .int 0, .null, .int 0, .int 0])), (q1, .inl (y2, 128, .inr (.inl f130))), (q131, .inl (y132, 128, .inl f166))] H := hP
  have hD : va_D A [(c0, .inr (14, [.ref q1, .null, .null, .null, .int 0, .int 0, .int 0, .null, .null, .null, .int 0, .null, .null, .int 0, .int 0, .int 0, .int 0, .int 0, .int 0, .int 0, .int 0, .int 0, .int 0, .int 0, .int 0, .int 0, .int 0, .int 0, .int 0, .null, .int 0, .int 0, .int 0, .int 0, .null, .int 0, .int 0])), (q1, .inl (y2, 128, .inr (.inl f130))), (q131, .inl (y132, 128, .inl f166))] := hD
  refine lv_dup hx hb dX13_init_1074 rfl ?_
  refine lv_bipush (v := 34) hx hb dX13_init_1075 (by decide) ?_
  refine lv_iconst (v := 5) hx hb dX13_init_1077 (by decide) ?_
  refine va_bast (i := 34) (x := 5) hx hb hK hP hD hS 2 1 rfl rfl (vp_in_iff.mpr ⟨by decide, by decide⟩) dX13_init_1078 (fun H locs hP hD hS => ?_)
  generalize hf167 : upd f166 (Int32.toNatClampNeg 34) (vp_nar .byte 5) = f167 at hP hD
  have hP : va_P (dC, dI) vwCl [(c0, .inr (14, [.ref q1, .null, .null, .null, .int 0, .int 0, .int 0, .null, .null, .null, .int 0, .null, .null, .int 0, .int 0, .int 0, .int 0, .int 0, .int 0, .int 0, .int 0, .int 0, .int 0, .int 0, .int 0, .int 0, .int 0, .int 0, .int 0, .null, .int 0, .int 0, .int 0, .int 0, .null, .int 0, .int 0])), (q1, .inl (y2, 128, .inr (.inl f130))), (q131, .inl (y132, 128, .inl f167))] H := hP
  have hD : va_D A [(c0, .inr (14, [.ref q1, .null, .null, .null, .int 0, .int 0, .int 0, .null, .null, .null, .int 0, .null, .null, .int 0, .int 0, .int 0, .int 0, .int 0, .int 0, .int 0, .int 0, .int 0, .int 0, .int 0, .int 0, .int 0, .int 0, .int 0, .int 0, .null, .int 0, .int 0, .int 0, .int 0, .null, .int 0, .int 0])), (q1, .inl (y2, 128, .inr (.inl f130))), (q131, .inl (y132, 128, .inl f167))] := hD
  refine lv_dup hx hb dX13_init_1079 rfl ?_
  refine lv_bipush (v := 35) hx hb dX13_init_1080 (by decide) ?_
  refine lv_iconst (v := 5) hx hb dX13_init_1082 (by decide) ?_
  refine va_bast (i := 35) (x := 5) hx hb hK hP hD hS 2 1 rfl rfl (vp_in_iff.mpr ⟨by decide, by decide⟩) dX13_init_1083 (fun H locs hP hD hS => ?_)
  generalize hf168 : upd f167 (Int32.toNatClampNeg 35) (vp_nar .byte 5) = f168 at hP hD
  have hP : va_P (dC, dI) vwCl [(c0, .inr (14, [.ref q1, .null, .null, .null, .int 0, .int 0, .int 0, .null, .null, .null, .int 0, .null, .null, .int 0, .int 0, .int 0, .int 0, .int 0, .int 0, .int 0, .int 0, .int 0, .int 0, .int 0, .int 0, .int 0, .int 0, .int 0, .int 0, .null, .int 0, .int 0, .int 0, .int 0, .null, .int 0, .int 0])), (q1, .inl (y2, 128, .inr (.inl f130))), (q131, .inl (y132, 128, .inl f168))] H := hP
  have hD : va_D A [(c0, .inr (14, [.ref q1, .null, .null, .null, .int 0, .int 0, .int 0, .null, .null, .null, .int 0, .null, .null, .int 0, .int 0, .int 0, .int 0, .int 0, .int 0, .int 0, .int 0, .int 0, .int 0, .int 0, .int 0, .int 0, .int 0, .int 0, .int 0, .null, .int 0, .int 0, .int 0, .int 0, .null, .int 0, .int 0])), (q1, .inl (y2, 128, .inr (.inl f130))), (q131, .inl (y132, 128, .inl f168))] := hD
  refine lv_dup hx hb dX13_init_1084 rfl ?_
  refine lv_bipush (v := 36) hx hb dX13_init_1085 (by decide) ?_
  refine lv_bipush (v := 6) hx hb dX13_init_1087 (by decide) ?_
  refine va_bast (i := 36) (x := 6) hx hb hK hP hD hS 2 1 rfl rfl (vp_in_iff.mpr ⟨by decide, by decide⟩) dX13_init_1089 (fun H locs hP hD hS => ?_)
  generalize hf169 : upd f168 (Int32.toNatClampNeg 36) (vp_nar .byte 6) = f169 at hP hD
  have hP : va_P (dC, dI) vwCl [(c0, .inr (14, [.ref q1, .null, .null, .null, .int 0, .int 0, .int 0, .null, .null, .null, .int 0, .null, .null, .int 0, .int 0, .int 0, .int 0, .int 0, .int 0, .int 0, .int 0, .int 0, .int 0, .int 0, .int 0, .int 0, .int 0, .int 0, .int 0, .null, .int 0, .int 0, .int 0, .int 0, .null, .int 0, .int 0])), (q1, .inl (y2, 128, .inr (.inl f130))), (q131, .inl (y132, 128, .inl f169))] H := hP
  have hD : va_D A [(c0, .inr (14, [.ref q1, .null, .null, .null, .int 0, .int 0, .int 0, .null, .null, .null, .int 0, .null, .null, .int 0, .int 0, .int 0, .int 0, .int 0, .int 0, .int 0, .int 0, .int 0, .int 0, .int 0, .int 0, .int 0, .int 0, .int 0, .int 0, .null, .int 0, .int 0, .int 0, .int 0, .null, .int 0, .int 0])), (q1, .inl (y2, 128, .inr (.inl f130))), (q131, .inl (y132, 128, .inl f169))] := hD
  refine lv_dup hx hb dX13_init_1090 rfl ?_
  refine lv_bipush (v := 37) hx hb dX13_init_1091 (by decide) ?_
  refine lv_bipush (v := 6) hx hb dX13_init_1093 (by decide) ?_
  refine va_bast (i := 37) (x := 6) hx hb hK hP hD hS 2 1 rfl rfl (vp_in_iff.mpr ⟨by decide, by decide⟩) dX13_init_1095 (fun H locs hP hD hS => ?_)
  generalize hf170 : upd f169 (Int32.toNatClampNeg 37) (vp_nar .byte 6) = f170 at hP hD
  have hP : va_P (dC, dI) vwCl [(c0, .inr (14, [.ref q1, .null, .null, .null, .int 0, .int 0, .int 0, .null, .null, .null, .int 0, .null, .null, .int 0, .int 0, .int 0, .int 0, .int 0, .int 0, .int 0, .int 0, .int 0, .int 0, .int 0, .int 0, .int 0, .int 0, .int 0, .int 0, .null, .int 0, .int 0, .int 0, .int 0, .null, .int 0, .int 0])), (q1, .inl (y2, 128, .inr (.inl f130))), (q131, .inl (y132, 128, .inl f170))] H := hP
  have hD : va_D A [(c0, .inr (14, [.ref q1, .null, .null, .null, .int 0, .int 0, .int 0, .null, .null, .null, .int 0, .null, .null, .int 0, .int 0, .int 0, .int 0, .int 0, .int 0, .int 0, .int 0, .int 0, .int 0, .int 0, .int 0, .int 0, .int 0, .int 0, .int 0, .null, .int 0, .int 0, .int 0, .int 0, .null, .int 0, .int 0])), (q1, .inl (y2, 128, .inr (.inl f130))), (q131, .inl (y132, 128, .inl f170))] := hD
  refine lv_dup hx hb dX13_init_1096 rfl ?_
  refine lv_bipush (v := 38) hx hb dX13_init_1097 (by decide) ?_
  refine lv_bipush (v := 7) hx hb dX13_init_1099 (by decide) ?_
  refine va_bast (i := 38) (x := 7) hx hb hK hP hD hS 2 1 rfl rfl (vp_in_iff.mpr ⟨by decide, by decide⟩) dX13_init_1101 (fun H locs hP hD hS => ?_)
  generalize hf171 : upd f170 (Int32.toNatClampNeg 38) (vp_nar .byte 7) = f171 at hP hD
  have hP : va_P (dC, dI) vwCl [(c0, .inr (14, [.ref q1, .null, .null, .null, .int 0, .int 0, .int 0, .null, .null, .null, .int 0, .null, .null, .int 0, .int 0, .int 0, .int 0, .int 0, .int 0, .int 0, .int 0, .int 0, .int 0, .int 0, .int 0, .int 0, .int 0, .int 0, .int 0, .null, .int 0, .int 0, .int 0, .int 0, .null, .int 0, .int 0])), (q1, .inl (y2, 128, .inr (.inl f130))), (q131, .inl (y132, 128, .inl f171))] H := hP
  have hD : va_D A [(c0, .inr (14, [.ref q1, .null, .null, .null, .int 0, .int 0, .int 0, .null, .null, .null, .int 0, .null, .null, .int 0, .int 0, .int 0, .int 0, .int 0, .int 0, .int 0, .int 0, .int 0, .int 0, .int 0, .int 0, .int 0, .int 0, .int 0, .int 0, .null, .int 0, .int 0, .int 0, .int 0, .null, .int 0, .int 0])), (q1, .inl (y2, 128, .inr (.inl f130))), (q131, .inl (y132, 128, .inl f171))] := hD
  refine lv_dup hx hb dX13_init_1102 rfl ?_
  refine lv_bipush (v := 39) hx hb dX13_init_1103 (by decide) ?_
  refine lv_bipush (v := 7) hx hb dX13_init_1105 (by decide) ?_
  refine va_bast (i := 39) (x := 7) hx hb hK hP hD hS 2 1 rfl rfl (vp_in_iff.mpr ⟨by decide, by decide⟩) dX13_init_1107 (fun H locs hP hD hS => ?_)
  generalize hf172 : upd f171 (Int32.toNatClampNeg 39) (vp_nar .byte 7) = f172 at hP hD
  have hP : va_P (dC, dI) vwCl [(c0, .inr (14, [.ref q1, .null, .null, .null, .int 0, .int 0, .int 0, .null, .null, .null, .int 0, .null, .null, .int 0, .int 0, .int 0, .int 0, .int 0, .int 0, .int 0, .int 0, .int 0, .int 0, .int 0, .int 0, .int 0, .int 0, .int 0, .int 0, .null, .int 0, .int 0, .int 0, .int 0, .null, .int 0, .int 0])), (q1, .inl (y2, 128, .inr (.inl f130))), (q131, .inl (y132, 128, .inl f172))] H := hP
  have hD : va_D A [(c0, .inr (14, [.ref q1, .null, .null, .null, .int 0, .int 0, .int 0, .null, .null, .null, .int 0, .null, .null, .int 0, .int 0, .int 0, .int 0, .int 0, .int 0, .int 0, .int 0, .int 0, .int 0, .int 0, .int 0, .int 0, .int 0, .int 0, .int 0, .null, .int 0, .int 0, .int 0, .int 0, .null, .int 0, .int 0])), (q1, .inl (y2, 128, .inr (.inl f130))), (q131, .inl (y132, 128, .inl f172))] := hD
  refine lv_dup hx hb dX13_init_1108 rfl ?_
  refine lv_bipush (v := 40) hx hb dX13_init_1109 (by decide) ?_
  refine lv_bipush (v := 7) hx hb dX13_init_1111 (by decide) ?_
  refine va_bast (i := 40) (x := 7) hx hb hK hP hD hS 2 1 rfl rfl (vp_in_iff.mpr ⟨by decide, by decide⟩) dX13_init_1113 (fun H locs hP hD hS => ?_)
  generalize hf173 : upd f172 (Int32.toNatClampNeg 40) (vp_nar .byte 7) = f173 at hP hD
  have hP : va_P (dC, dI) vwCl [(c0, .inr (14, [.ref q1, .null, .null, .null, .int 0, .int 0, .int 0, .null, .null, .null, .int 0, .null, .null, .int 0, .int 0, .int 0, .int 0, .int 0, .int 0, .int 0, .int 0, .int 0, .int 0, .int 0, .int 0, .int 0, .int 0, .int 0, .int 0, .null, .int 0, .int 0, .int 0, .int 0, .null, .int 0, .int 0])), (q1, .inl (y2, 128, .inr (.inl f130))), (q131, .inl (y132, 128, .inl f173))] H := hP
  have hD : va_D A [(c0, .inr (14, [.ref q1, .null, .null, .null, .int 0, .int 0, .int 0, .null, .null, .null, .int 0, .null, .null, .int 0, .int 0, .int 0, .int 0, .int 0, .int 0, .int 0, .int 0, .int 0, .int 0, .int 0, .int 0, .int 0, .int 0, .int 0, .int 0, .null, .int 0, .int 0, .int 0, .int 0, .null, .int 0, .int 0])), (q1, .inl (y2, 128, .inr (.inl f130))), (q131, .inl (y132, 128, .inl f173))] := hD
  refine lv_dup hx hb dX13_init_1114 rfl ?_
  refine lv_bipush (v := 41) hx hb dX13_init_1115 (by decide) ?_
  refine lv_bipush (v := 7) hx hb dX13_init_1117 (by decide) ?_
  refine va_bast (i := 41) (x := 7) hx hb hK hP hD hS 2 1 rfl rfl (vp_in_iff.mpr ⟨by decide, by decide⟩) dX13_init_1119 (fun H locs hP hD hS => ?_)
  generalize hf174 : upd f173 (Int32.toNatClampNeg 41) (vp_nar .byte 7) = f174 at hP hD
  have hP : va_P (dC, dI) vwCl [(c0, .inr (14, [.ref q1, .null, .null, .null, .int 0, .int 0, .int 0, .null, .null, .null, .int 0, .null, .null, .int 0, .int 0, .int 0, .int 0, .int 0, .int 0, .int 0, .int 0, .int 0, .int 0, .int 0, .int 0, .int 0, .int 0, .int 0, .int 0, .null, .int 0, .int 0, .int 0, .int 0, .null, .int 0, .int 0])), (q1, .inl (y2, 128, .inr (.inl f130))), (q131, .inl (y132, 128, .inl f174))] H := hP
  have hD : va_D A [(c0, .inr (14, [.ref q1, .null, .null, .null, .int 0, .int 0, .int 0, .null, .null, .null, .int 0, .null, .null, .int 0, .int 0, .int 0, .int 0, .int 0, .int 0, .int 0, .int 0, .int 0, .int 0, .int 0, .int 0, .int 0, .int 0, .int 0, .int 0, .null, .int 0, .int 0, .int 0, .int 0, .null, .int 0, .int 0])), (q1, .inl (y2, 128, .inr (.inl f130))), (q131, .inl (y132, 128, .inl f174))] := hD
  refine lv_dup hx hb dX13_init_1120 rfl ?_
  refine lv_bipush (v := 42) hx hb dX13_init_1121 (by decide) ?_
  refine lv_bipush (v := 7) hx hb dX13_init_1123 (by decide) ?_
  refine va_bast (i := 42) (x := 7) hx hb hK hP hD hS 2 1 rfl rfl (vp_in_iff.mpr ⟨by decide, by decide⟩) dX13_init_1125 (fun H locs hP hD hS => ?_)
  generalize hf175 : upd f174 (Int32.toNatClampNeg 42) (vp_nar .byte 7) = f175 at hP hD
  have hP : va_P (dC, dI) vwCl [(c0, .inr (14, [.ref q1, .null, .null, .null, .int 0, .int 0, .int 0, .null, .null, .null, .int 0, .null, .null, .int 0, .int 0, .int 0, .int 0, .int 0, .int 0, .int 0, .int 0, .int 0, .int 0, .int 0, .int 0, .int 0, .int 0, .int 0, .int 0, .null, .int 0, .int 0, .int 0, .int 0, .null, .int 0, .int 0])), (q1, .inl (y2, 128, .inr (.inl f130))), (q131, .inl (y132, 128, .inl f175))] H := hP
  have hD : va_D A [(c0, .inr (14, [.ref q1, .null, .null, .null, .int 0, .int 0, .int 0, .null, .null, .null, .int 0, .null, .null, .int 0, .int 0, .int 0, .int 0, .int 0, .int 0, .int 0, .int 0, .int 0, .int 0, .int 0, .int 0, .int 0, .int 0, .int 0, .int 0, .null, .int 0, .int 0, .int 0, .int 0, .null, .int 0, .int 0])), (q1, .inl (y2, 128, .inr (.inl f130))), (q131, .inl (y132, 128, .inl f175))] := hD
  refine lv_dup hx hb dX13_init_1126 rfl ?_
  refine lv_bipush (v := 43) hx hb dX13_init_1127 (by decide) ?_
  refine lv_bipush (v := 7) hx hb dX13_init_1129 (by decide) ?_
  refine va_bast (i := 43) (x := 7) hx hb hK hP hD hS 2 1 rfl rfl (vp_in_iff.mpr ⟨by decide, by decide⟩) dX13_init_1131 (fun H locs hP hD hS => ?_)
  generalize hf176 : upd f175 (Int32.toNatClampNeg 43) (vp_nar .byte 7) = f176 at hP hD
  have hP : va_P (dC, dI) vwCl [(c0, .inr (14, [.ref q1, .null, .null, .null, .int 0, .int 0, .int 0, .null, .null, .null, .int 0, .null, .null, .int 0, .int 0, .int 0, .int 0, .int 0, .int 0, .int 0, .int 0, .int 0, .int 0, .int 0, .int 0, .int 0, .int 0, .int 0, .int 0, .null, .int 0, .int 0, .int 0, .int 0, .null, .int 0, .int 0])), (q1, .inl (y2, 128, .inr (.inl f130))), (q131, .inl (y132, 128, .inl f176))] H := hP
  have hD : va_D A [(c0, .inr (14, [.ref q1, .null, .null, .null, .int 0, .int 0, .int 0, .null, .null, .null, .int 0, .null, .null, .int 0, .int 0, .int 0, .int 0, .int 0, .int 0, .int 0, .int 0, .int 0, .int 0, .int 0, .int 0, .int 0, .int 0, .int 0, .int 0, .null, .int 0, .int 0, .int 0, .int 0, .null, .int 0, .int 0])), (q1, .inl (y2, 128, .inr (.inl f130))), (q131, .inl (y132, 128, .inl f176))] := hD
  refine lv_dup hx hb dX13_init_1132 rfl ?_
  refine lv_bipush (v := 44) hx hb dX13_init_1133 (by decide) ?_
  refine lv_bipush (v := 8) hx hb dX13_init_1135 (by decide) ?_
  refine va_bast (i := 44) (x := 8) hx hb hK hP hD hS 2 1 rfl rfl (vp_in_iff.mpr ⟨by decide, by decide⟩) dX13_init_1137 (fun H locs hP hD hS => ?_)
  generalize hf177 : upd f176 (Int32.toNatClampNeg 44) (vp_nar .byte 8) = f177 at hP hD
  have hP : va_P (dC, dI) vwCl [(c0, .inr (14, [.ref q1, .null, .null, .null, .int 0, .int 0, .int 0, .null, .null, .null, .int 0, .null, .null, .int 0, .int 0, .int 0, .int 0, .int 0, .int 0, .int 0, .int 0, .int 0, .int 0, .int 0, .int 0, .int 0, .int 0, .int 0, .int 0, .null, .int 0, .int 0, .int 0, .int 0, .null, .int 0, .int 0])), (q1, .inl (y2, 128, .inr (.inl f130))), (q131, .inl (y132, 128, .inl f177))] H := hP
  have hD : va_D A [(c0, .inr (14, [.ref q1, .null, .null, .null, .int 0, .int 0, .int 0, .null, .null, .null, .int 0, .null, .null, .int 0, .int 0, .int 0, .int 0, .int 0, .int 0, .int 0, .int 0, .int 0, .int 0, .int 0, .int 0, .int 0, .int 0, .int 0, .int 0, .null, .int 0, .int 0, .int 0, .int 0, .null, .int 0, .int 0])), (q1, .inl (y2, 128, .inr (.inl f130))), (q131, .inl (y132, 128, .inl f177))] := hD
  refine lv_dup hx hb dX13_init_1138 rfl ?_
  refine lv_bipush (v := 45) hx hb dX13_init_1139 (by decide) ?_
  refine lv_bipush (v := 9) hx hb dX13_init_1141 (by decide) ?_
  refine va_bast (i := 45) (x := 9) hx hb hK hP hD hS 2 1 rfl rfl (vp_in_iff.mpr ⟨by decide, by decide⟩) dX13_init_1143 (fun H locs hP hD hS => ?_)
  generalize hf178 : upd f177 (Int32.toNatClampNeg 45) (vp_nar .byte 9) = f178 at hP hD
  have hP : va_P (dC, dI) vwCl [(c0, .inr (14, [.ref q1, .null, .null, .null, .int 0, .int 0, .int 0, .null, .null, .null, .int 0, .null, .null, .int 0, .int 0, .int 0, .int 0, .int 0, .int 0, .int 0, .int 0, .int 0, .int 0, .int 0, .int 0, .int 0, .int 0, .int 0, .int 0, .null, .int 0, .int 0, .int 0, .int 0, .null, .int 0, .int 0])), (q1, .inl (y2, 128, .inr (.inl f130))), (q131, .inl (y132, 128, .inl f178))] H := hP
  have hD : va_D A [(c0, .inr (14, [.ref q1, .null, .null, .null, .int 0, .int 0, .int 0, .null, .null, .null, .int 0, .null, .null, .int 0, .int 0, .int 0, .int 0, .int 0, .int 0, .int 0, .int 0, .int 0, .int 0, .int 0, .int 0, .int 0, .int 0, .int 0, .int 0, .null, .int 0, .int 0, .int 0, .int 0, .null, .int 0, .int 0])), (q1, .inl (y2, 128, .inr (.inl f130))), (q131, .inl (y132, 128, .inl f178))] := hD
  refine lv_dup hx hb dX13_init_1144 rfl ?_
  refine lv_bipush (v := 46) hx hb dX13_init_1145 (by decide) ?_
  refine lv_bipush (v := 9) hx hb dX13_init_1147 (by decide) ?_
  refine va_bast (i := 46) (x := 9) hx hb hK hP hD hS 2 1 rfl rfl (vp_in_iff.mpr ⟨by decide, by decide⟩) dX13_init_1149 (fun H locs hP hD hS => ?_)
  generalize hf179 : upd f178 (Int32.toNatClampNeg 46) (vp_nar .byte 9) = f179 at hP hD
  have hP : va_P (dC, dI) vwCl [(c0, .inr (14, [.ref q1, .null, .null, .null, .int 0, .int 0, .int 0, .null, .null, .null, .int 0, .null, .null, .int 0, .int 0, .int 0, .int 0, .int 0, .int 0, .int 0, .int 0, .int 0, .int 0, .int 0, .int 0, .int 0, .int 0, .int 0, .int 0, .null, .int 0, .int 0, .int 0, .int 0, .null, .int 0, .int 0])), (q1, .inl (y2, 128, .inr (.inl f130))), (q131, .inl (y132, 128, .inl f179))] H := hP
  have hD : va_D A [(c0, .inr (14, [.ref q1, .null, .null, .null, .int 0, .int 0, .int 0, .null, .null, .null, .int 0, .null, .null, .int 0, .int 0, .int 0, .int 0, .int 0, .int 0, .int 0, .int 0, .int 0, .int 0, .int 0, .int 0, .int 0, .int 0, .int 0, .int 0, .null, .int 0, .int 0, .int 0, .int 0, .null, .int 0, .int 0])), (q1, .inl (y2, 128, .inr (.inl f130))), (q131, .inl (y132, 128, .inl f179))] := hD
  refine lv_dup hx hb dX13_init_1150 rfl ?_
  refine lv_bipush (v := 47) hx hb dX13_init_1151 (by decide) ?_
  refine lv_bipush (v := 9) hx hb dX13_init_1153 (by decide) ?_
  refine va_bast (i := 47) (x := 9) hx hb hK hP hD hS 2 1 rfl rfl (vp_in_iff.mpr ⟨by decide, by decide⟩) dX13_init_1155 (fun H locs hP hD hS => ?_)
  generalize hf180 : upd f179 (Int32.toNatClampNeg 47) (vp_nar .byte 9) = f180 at hP hD
  have hP : va_P (dC, dI) vwCl [(c0, .inr (14, [.ref q1, .null, .null, .null, .int 0, .int 0, .int 0, .null, .null, .null, .int 0, .null, .null, .int 0, .int 0, .int 0, .int 0, .int 0, .int 0, .int 0, .int 0, .int 0, .int 0, .int 0, .int 0, .int 0, .int 0, .int 0, .int 0, .null, .int 0, .int 0, .int 0, .int 0, .null, .int 0, .int 0])), (q1, .inl (y2, 128, .inr (.inl f130))), (q131, .inl (y132, 128, .inl f180))] H := hP
  have hD : va_D A [(c0, .inr (14, [.ref q1, .null, .null, .null, .int 0, .int 0, .int 0, .null, .null, .null, .int 0, .null, .null, .int 0, .int 0, .int 0, .int 0, .int 0, .int 0, .int 0, .int 0, .int 0, .int 0, .int 0, .int 0, .int 0, .int 0, .int 0, .int 0, .null, .int 0, .int 0, .int 0, .int 0, .null, .int 0, .int 0])), (q1, .inl (y2, 128, .inr (.inl f130))), (q131, .inl (y132, 128, .inl f180))] := hD
  refine lv_dup hx hb dX13_init_1156 rfl ?_
  refine lv_bipush (v := 48) hx hb dX13_init_1157 (by decide) ?_
  refine lv_bipush (v := 9) hx hb dX13_init_1159 (by decide) ?_
  refine va_bast (i := 48) (x := 9) hx hb hK hP hD hS 2 1 rfl rfl (vp_in_iff.mpr ⟨by decide, by decide⟩) dX13_init_1161 (fun H locs hP hD hS => ?_)
  generalize hf181 : upd f180 (Int32.toNatClampNeg 48) (vp_nar .byte 9) = f181 at hP hD
  have hP : va_P (dC, dI) vwCl [(c0, .inr (14, [.ref q1, .null, .null, .null, .int 0, .int 0, .int 0, .null, .null, .null, .int 0, .null, .null, .int 0, .int 0, .int 0, .int 0, .int 0, .int 0, .int 0, .int 0, .int 0, .int 0, .int 0, .int 0, .int 0, .int 0, .int 0, .int 0, .null, .int 0, .int 0, .int 0, .int 0, .null, .int 0, .int 0])), (q1, .inl (y2, 128, .inr (.inl f130))), (q131, .inl (y132, 128, .inl f181))] H := hP
  have hD : va_D A [(c0, .inr (14, [.ref q1, .null, .null, .null, .int 0, .int 0, .int 0, .null, .null, .null, .int 0, .null, .null, .int 0, .int 0, .int 0, .int 0, .int 0, .int 0, .int 0, .int 0, .int 0, .int 0, .int 0, .int 0, .int 0, .int 0, .int 0, .int 0, .null, .int 0, .int 0, .int 0, .int 0, .null, .int 0, .int 0])), (q1, .inl (y2, 128, .inr (.inl f130))), (q131, .inl (y132, 128, .inl f181))] := hD
  refine lv_dup hx hb dX13_init_1162 rfl ?_
  refine lv_bipush (v := 49) hx hb dX13_init_1163 (by decide) ?_
  refine lv_bipush (v := 9) hx hb dX13_init_1165 (by decide) ?_
  exact kk f181 _ _ _ hK hP hD hS hl

set_option maxHeartbeats 40000000 in
set_option maxRecDepth 100000 in
theorem k_X13_init_s8 {p : Program} {l : Launch} {e : Env} {s : State} {m : MethodId} {args : Array Value} {below : List Frame} {meth : Method} {c : Code} {Q : State → Prop} {A : Nat → Prop} (dC : Nat → ClassId) (dI : Nat → Nat → Nat) (c0 : Nat) (q1 : Nat) (y2 : ClassId) (q131 : Nat) (y132 : ClassId) (f130 : Nat → Int64) (f181 : Nat → Int32) (hlt : l.stackTraces = false) (hx : p.tables.exec = Jvm.exec) (hb : c.code = cX13_init) (hml : c.maxLocals = 1) (hown : s.vm.findClass RX13 = some m.cls) (hts : ∀ w ∈ ow_k_X13_init, w.before args s = true) (hin : meth.name = "<init>") (hN : nv_E A s) (hA : ∀ q : Nat, s.heap.size ≤ q → A q) {H : Heap} {locs : List Loc} {ls : Array Slot} (hK : va_K (dC, dI) vwCl [(y2, .long), (y132, .byte)] s) (hP : va_P (dC, dI) vwCl [(c0, .inr (14, [.ref q1, .null, .null, .null, .int 0, .int 0, .int 0, .null, .null, .null, .int 0, .null, .null, .int 0, .int 0, .int 0, .int 0, .int 0, .int 0, .int 0, .int 0, .int 0, .int 0, .int 0, .int 0, .int 0, .int 0, .int 0, .int 0, .null, .int 0, .int 0, .int 0, .int 0, .null, .int 0, .int 0])), (q1, .inl (y2, 128, .inr (.inl f130))), (q131, .inl (y132, 128, .inl f181))] H) (hD : va_D A [(c0, .inr (14, [.ref q1, .null, .null, .null, .int 0, .int 0, .int 0, .null, .null, .null, .int 0, .null, .null, .int 0, .int 0, .int 0, .int 0, .int 0, .int 0, .int 0, .int 0, .int 0, .int 0, .int 0, .int 0, .int 0, .int 0, .int 0, .int 0, .null, .int 0, .int 0, .int 0, .int 0, .null, .int 0, .int 0])), (q1, .inl (y2, 128, .inr (.inl f130))), (q131, .inl (y132, 128, .inl f181))]) (hS : va_S A s.heap H locs) (hl : lv_has ls 1 [(0, .ref c0)]) (kk : ∀ (f204 : Nat → Int32) (H : Heap) (locs : List Loc) (ls : Array Slot), va_K (dC, dI) vwCl [(y2, .long), (y132, .byte)] s → va_P (dC, dI) vwCl [(c0, .inr (14, [.ref q1, .null, .null, .null, .int 0, .int 0, .int 0, .null, .null, .null, .int 0, .null, .null, .int 0, .int 0, .int 0, .int 0, .int 0, .int 0, .int 0, .int 0, .int 0, .int 0, .int 0, .int 0, .int 0, .int 0, .int 0, .int 0, .null, .int 0, .int 0, .int 0, .int 0, .null, .int 0, .int 0])), (q1, .inl (y2, 128, .inr (.inl f130))), (q131, .inl (y132, 128, .inl f204))] H → va_D A [(c0, .inr (14, [.ref q1, .null, .null, .null, .int 0, .int 0, .int 0, .null, .null, .null, .int 0, .null, .null, .int 0, .int 0, .int 0, .int 0, .int 0, .int 0, .int 0, .int 0, .int 0, .int 0, .int 0, .int 0, .int 0, .int 0, .int 0, .int 0, .null, .int 0, .int 0, .int 0, .int 0, .null, .int 0, .int 0])), (q1, .inl (y2, 128, .inr (.inl f130))), (q131, .inl (y132, 128, .inl f204))] → va_S A s.heap H locs → lv_has ls 1 [(0, .ref c0)] → W p l e (headSpec ow_k_X13_init ({ frames := 1, cells := 10, slots := 131956, locals := 12 })).room s m args below meth c H locs 2 256 Q (F0 m 1301 ls [.ref q131, .ref q131, .ref c0])) : W p l e (headSpec ow_k_X13_init ({ frames := 1, cells := 10, slots := 131956, locals := 12 })).room s m args below meth c H locs 2 256 Q (F0 m 1167 ls [.int 9, .int 49, .ref q131, .ref q131, .ref c0]) := by
  refine va_bast (i := 49) (x := 9) hx hb hK hP hD hS 2 1 rfl rfl (vp_in_iff.mpr ⟨by decide, by decide⟩) dX13_init_1167 (fun H locs hP hD hS => ?_)
  generalize hf182 : upd f181 (Int32.toNatClampNeg 49) (vp_nar .byte 9) = f182 at hP hD
  have hP : va_P (dC, dI) vwCl [(c0, .inr (14, [.ref q1, .null, .null, .null, .int 0, .int 0, .int 0, .null, .null, .null, .int 0, .null, .null, .int 0, .int 0, .int 0, .int 0, .int 0, .int 0, .int 0, .int 0, .int 0, .int 0, .int 0, .int 0, .int 0, .int 0, .int 0, .int 0, .null, .int 0, .int 0, .int 0, .int 0, .null, .int 0, .int 0])), (q1, .inl (y2, 128, .inr (.inl f130))), (q131, .inl (y132, 128, .inl f182))] H := hP
  have hD : va_D A [(c0, .inr (14, [.ref q1, .null, .null, .null, .int 0, .int 0, .int 0, .null, .null, .null, .int 0, .null, .null, .int 0, .int 0, .int 0, .int 0, .int 0, .int 0, .int 0, .int 0, .int 0, .int 0, .int 0, .int 0, .int 0, .int 0, .int 0, .int 0, .null, .int 0, .int 0, .int 0, .int 0, .null, .int 0, .int 0])), (q1, .inl (y2, 128, .inr (.inl f130))), (q131, .inl (y132, 128, .inl f182))] := hD
  refine lv_dup hx hb dX13_init_1168 rfl ?_
  refine lv_bipush (v := 50) hx hb dX13_init_1169 (by decide) ?_
  refine lv_bipush (v := 9) hx hb dX13_init_1171 (by decide) ?_
  refine va_bast (i := 50) (x := 9) hx hb hK hP hD hS 2 1 rfl rfl (vp_in_iff.mpr ⟨by decide, by decide⟩) dX13_init_1173 (fun H locs hP hD hS => ?_)
  generalize hf183 : upd f182 (Int32.toNatClampNeg 50) (vp_nar .byte 9) = f183 at hP hD
  have hP : va_P (dC, dI) vwCl [(c0, .inr (14, [.ref q1, .null, .null, .null, .int 0, .int 0, .int 0, .null, .null, .null, .int 0, .null, .null, .int 0, .int 0, .int 0, .int 0, .int 0, .int 0, .int 0, .int 0, .int 0, .int 0, .int 0, .int 0, .int 0, .int 0, .int 0, .int 0, .null, .int 0, .int 0, .int 0, .int 0, .null, .int 0, .int 0])), (q1, .inl (y2, 128, .inr (.inl f130))), (q131, .inl (y132, 128, .inl f183))] H := hP
  have hD : va_D A [(c0, .inr (14, [.ref q1, .null, .null, .null, .int 0, .int 0, .int 0, .null, .null, .null, .int 0, .null, .null, .int 0, .int 0, .int 0, .int 0, .int 0, .int 0, .int 0, .int 0, .int 0, .int 0, .int 0, .int 0, .int 0, .int 0, .int 0, .int 0, .null, .int 0, .int 0, .int 0, .int 0, .null, .int 0, .int 0])), (q1, .inl (y2, 128, .inr (.inl f130))), (q131, .inl (y132, 128, .inl f183))] := hD
  refine lv_dup hx hb dX13_init_1174 rfl ?_
  refine lv_bipush (v := 51) hx hb dX13_init_1175 (by decide) ?_
  refine lv_bipush (v := 9) hx hb dX13_init_1177 (by decide) ?_
  refine va_bast (i := 51) (x := 9) hx hb hK hP hD hS 2 1 rfl rfl (vp_in_iff.mpr ⟨by decide, by decide⟩) dX13_init_1179 (fun H locs hP hD hS => ?_)
  generalize hf184 : upd f183 (Int32.toNatClampNeg 51) (vp_nar .byte 9) = f184 at hP hD
  have hP : va_P (dC, dI) vwCl [(c0, .inr (14, [.ref q1, .null, .null, .null, .int 0, .int 0, .int 0, .null, .null, .null, .int 0, .null, .null, .int 0, .int 0, .int 0, .int 0, .int 0, .int 0, .int 0, .int 0, .int 0, .int 0, .int 0, .int 0, .int 0, .int 0, .int 0, .int 0, .null, .int 0, .int 0, .int 0, .int 0, .null, .int 0, .int 0])), (q1, .inl (y2, 128, .inr (.inl f130))), (q131, .inl (y132, 128, .inl f184))] H := hP
  have hD : va_D A [(c0, .inr (14, [.ref q1, .null, .null, .null, .int 0, .int 0, .int 0, .null, .null, .null, .int 0, .null, .null, .int 0, .int 0, .int 0, .int 0, .int 0, .int 0, .int 0, .int 0, .int 0, .int 0, .int 0, .int 0, .int 0, .int 0, .int 0, .int 0, .null, .int 0, .int 0, .int 0, .int 0, .null, .int 0, .int 0])), (q1, .inl (y2, 128, .inr (.inl f130))), (q131, .inl (y132, 128, .inl f184))] := hD
  refine lv_dup hx hb dX13_init_1180 rfl ?_
  refine lv_bipush (v := 52) hx hb dX13_init_1181 (by decide) ?_
  refine lv_bipush (v := 9) hx hb dX13_init_1183 (by decide) ?_
  refine va_bast (i := 52) (x := 9) hx hb hK hP hD hS 2 1 rfl rfl (vp_in_iff.mpr ⟨by decide, by decide⟩) dX13_init_1185 (fun H locs hP hD hS => ?_)
  generalize hf185 : upd f184 (Int32.toNatClampNeg 52) (vp_nar .byte 9) = f185 at hP hD
  have hP : va_P (dC, dI) vwCl [(c0, .inr (14, [.ref q1, .null, .null, .null, .int 0, .int 0, .int 0, .null, .null, .null, .int 0, .null, .null, .int 0, .int 0, .int 0, .int 0, .int 0, .int 0, .int 0, .int 0, .int 0, .int 0, .int 0, .int 0, .int 0, .int 0, .int 0, .int 0, .null, .int 0, .int 0, .int 0, .int 0, .null, .int 0, .int 0])), (q1, .inl (y2, 128, .inr (.inl f130))), (q131, .inl (y132, 128, .inl f185))] H := hP
  have hD : va_D A [(c0, .inr (14, [.ref q1, .null, .null, .null, .int 0, .int 0, .int 0, .null, .null, .null, .int 0, .null, .null, .int 0, .int 0, .int 0, .int 0, .int 0, .int 0, .int 0, .int 0, .int 0, .int 0, .int 0, .int 0, .int 0, .int 0, .int 0, .int 0, .null, .int 0, .int 0, .int 0, .int 0, .null, .int 0, .int 0])), (q1, .inl (y2, 128, .inr (.inl f130))), (q131, .inl (y132, 128, .inl f185))] := hD
  refine lv_dup hx hb dX13_init_1186 rfl ?_
  refine lv_bipush (v := 53) hx hb dX13_init_1187 (by decide) ?_
  refine lv_bipush (v := 9) hx hb dX13_init_1189 (by decide) ?_
  refine va_bast (i := 53) (x := 9) hx hb hK hP hD hS 2 1 rfl rfl (vp_in_iff.mpr ⟨by decide, by decide⟩) dX13_init_1191 (fun H locs hP hD hS => ?_)
  generalize hf186 : upd f185 (Int32.toNatClampNeg 53) (vp_nar .byte 9) = f186 at hP hD
  have hP : va_P (dC, dI) vwCl [(c0, .inr (14, [.ref q1, .null, .null, .null, .int 0, .int 0, .int 0, .null, .null, .null, .int 0, .null, .null, .int 0, .int 0, .int 0, .int 0, .int 0, .int 0, .int 0, .int 0, .int 0, .int 0, .int 0, .int 0, .int 0, .int 0, .int 0, .int 0, .null, .int 0, .int 0, .int 0, .int 0, .null, .int 0, .int 0])), (q1, .inl (y2, 128, .inr (.inl f130))), (q131, .inl (y132, 128, .inl f186))] H := hP
  have hD : va_D A [(c0, .inr (14, [.ref q1, .null, .null, .null, .int 0, .int 0, .int 0, .null, .null, .null, .int 0, .null, .null, .int 0, .int 0, .int 0, .int 0, .int 0, .int 0, .int 0, .int 0, .int 0, .int 0, .int 0, .int 0, .int 0, .int 0, .int 0, .int 0, .null, .int 0, .int 0, .int 0, .int 0, .null, .int 0, .int 0])), (q1, .inl (y2, 128, .inr (.inl f130))), (q131, .inl (y132, 128, .inl f186))] := hD
  refine lv_dup hx hb dX13_init_1192 rfl ?_
  refine lv_bipush (v := 54) hx hb dX13_init_1193 (by decide) ?_
  refine lv_bipush (v := 9) hx hb dX13_init_1195 (by decide) ?_
  refine va_bast (i := 54) (x := 9) hx hb hK hP hD hS 2 1 rfl rfl (vp_in_iff.mpr ⟨by decide, by decide⟩) dX13_init_1197 (fun H locs hP hD hS => ?_)
  generalize hf187 : upd f186 (Int32.toNatClampNeg 54) (vp_nar .byte 9) = f187 at hP hD
  have hP : va_P (dC, dI) vwCl [(c0, .inr (14, [.ref q1, .null, .null, .null, .int 0, .int 0, .int 0, .null, .null, .null, .int 0, .null, .null, .int 0, .int 0, .int 0, .int 0, .int 0, .int 0, .int 0, .int 0, .int 0, .int 0, .int 0, .int 0, .int 0, .int 0, .int 0, .int 0, .null, .int 0, .int 0, .int 0, .int 0, .null, .int 0, .int 0])), (q1, .inl (y2, 128, .inr (.inl f130))), (q131, .inl (y132, 128, .inl f187))] H := hP
  have hD : va_D A [(c0, .inr (14, [.ref q1, .null, .null, .null, .int 0, .int 0, .int 0, .null, .null, .null, .int 0, .null, .null, .int 0, .int 0, .int 0, .int 0, .int 0, .int 0, .int 0, .int 0, .int 0, .int 0, .int 0, .int 0, .int 0, .int 0, .int 0, .int 0, .null, .int 0, .int 0, .int 0, .int 0, .null, .int 0, .int 0])), (q1, .inl (y2, 128, .inr (.inl f130))), (q131, .inl (y132, 128, .inl f187))] := hD
  refine lv_dup hx hb dX13_init_1198 rfl ?_
  refine lv_bipush (v := 55) hx hb dX13_init_1199 (by decide) ?_
  refine lv_bipush (v := 10) hx hb dX13_init_1201 (by decide) ?_
  refine va_bast (i := 55) (x := 10) hx hb hK hP hD hS 2 1 rfl rfl (vp_in_iff.mpr ⟨by decide, by decide⟩) dX13_init_1203 (fun H locs hP hD hS => ?_)
  generalize hf188 : upd f187 (Int32.toNatClampNeg 55) (vp_nar .byte 10) = f188 at hP hD
  have hP : va_P (dC, dI) vwCl [(c0, .inr (14, [.ref q1, .null, .null, .null, .int 0, .int 0, .int 0, .null, .null, .null, .int 0, .null, .null, .int 0, .int 0, .int 0, .int 0, .int 0, .int 0, .int 0, .int 0, .int 0, .int 0, .int 0, .int 0, .int 0, .int 0, .int 0, .int 0, .null, .int 0, .int 0, .int 0, .int 0, .null, .int 0, .int 0])), (q1, .inl (y2, 128, .inr (.inl f130))), (q131, .inl (y132, 128, .inl f188))] H := hP
  have hD : va_D A [(c0, .inr (14, [.ref q1, .null, .null, .null, .int 0, .int 0, .int 0, .null, .null, .null, .int 0, .null, .null, .int 0, .int 0, .int 0, .int 0, .int 0, .int 0, .int 0, .int 0, .int 0, .int 0, .int 0, .int 0, .int 0, .int 0, .int 0, .int 0, .null, .int 0, .int 0, .int 0, .int 0, .null, .int 0, .int 0])), (q1, .inl (y2, 128, .inr (.inl f130))), (q131, .inl (y132, 128, .inl f188))] := hD
  refine lv_dup hx hb dX13_init_1204 rfl ?_
  refine lv_bipush (v := 56) hx hb dX13_init_1205 (by decide) ?_
  refine lv_bipush (v := 11) hx hb dX13_init_1207 (by decide) ?_
  refine va_bast (i := 56) (x := 11) hx hb hK hP hD hS 2 1 rfl rfl (vp_in_iff.mpr ⟨by decide, by decide⟩) dX13_init_1209 (fun H locs hP hD hS => ?_)
  generalize hf189 : upd f188 (Int32.toNatClampNeg 56) (vp_nar .byte 11) = f189 at hP hD
  have hP : va_P (dC, dI) vwCl [(c0, .inr (14, [.ref q1, .null, .null, .null, .int 0, .int 0, .int 0, .null, .null, .null, .int 0, .null, .null, .int 0, .int 0, .int 0, .int 0, .int 0, .int 0, .int 0, .int 0, .int 0, .int 0, .int 0, .int 0, .int 0, .int 0, .int 0, .int 0, .null, .int 0, .int 0, .int 0, .int 0, .null, .int 0, .int 0])), (q1, .inl (y2, 128, .inr (.inl f130))), (q131, .inl (y132, 128, .inl f189))] H := hP
  have hD : va_D A [(c0, .inr (14, [.ref q1, .null, .null, .null, .int 0, .int 0, .int 0, .null, .null, .null, .int 0, .null, .null, .int 0, .int 0, .int 0, .int 0, .int 0, .int 0, .int 0, .int 0, .int 0, .int 0, .int 0, .int 0, .int 0, .int 0, .int 0, .int 0, .null, .int 0, .int 0, .int 0, .int 0, .null, .int 0, .int 0])), (q1, .inl (y2, 128, .inr (.inl f130))), (q131, .inl (y132, 128, .inl f189))] := hD
  refine lv_dup hx hb dX13_init_1210 rfl ?_
  refine lv_bipush (v := 57) hx hb dX13_init_1211 (by decide) ?_
  refine lv_bipush (v := 11) hx hb dX13_init_1213 (by decide) ?_
  refine va_bast (i := 57) (x := 11) hx hb hK hP hD hS 2 1 rfl rfl (vp_in_iff.mpr ⟨by decide, by decide⟩) dX13_init_1215 (fun H locs hP hD hS => ?_)
  generalize hf190 : upd f189 (Int32.toNatClampNeg 57) (vp_nar .byte 11) = f190 at hP hD
  have hP : va_P (dC, dI) vwCl [(c0, .inr (14, [.ref q1, .null, .null, .null, .int 0, .int 0, .int 0, .null, .null, .null, .int 0, .null, .null, .int 0, .int 0, .int 0, .int 0, .int 0, .int 0, .int 0, .int 0, .int 0, .int 0, .int 0, .int 0, .int 0, .int 0, .int 0, .int 0, .null, .int 0, .int 0, .int 0, .int 0, .null, .int 0, .int 0])), (q1, .inl (y2, 128, .inr (.inl f130))), (q131, .inl (y132, 128, .inl f190))] H := hP
  have hD : va_D A [(c0, .inr (14, [.ref q1, .null, .null, .null, .int 0, .int 0, .int 0, .null, .null, .null, .int 0, .null, .null, .int 0, .int 0, .int 0, .int 0, .int 0, .int 0, .int 0, .int 0, .int 0, .int 0, .int 0, .int 0, .int 0, .int 0, .int 0, .int 0, .null, .int 0, .int 0, .int 0, .int 0, .null, .int 0, .int 0])), (q1, .inl (y2, 128, .inr (.inl f130))), (q131, .inl (y132, 128, .inl f190))] := hD
  refine lv_dup hx hb dX13_init_1216 rfl ?_
  refine lv_bipush (v := 58) hx hb dX13_init_1217 (by decide) ?_
  refine lv_bipush (v := 11) hx hb dX13_init_1219 (by decide) ?_
  refine va_bast (i := 58) (x := 11) hx hb hK hP hD hS 2 1 rfl rfl (vp_in_iff.mpr ⟨by decide, by decide⟩) dX13_init_1221 (fun H locs hP hD hS => ?_)
  generalize hf191 : upd f190 (Int32.toNatClampNeg 58) (vp_nar .byte 11) = f191 at hP hD
  have hP : va_P (dC, dI) vwCl [(c0, .inr (14, [.ref q1, .null, .null, .null, .int 0, .int 0, .int 0, .null, .null, .null, .int 0, .null, .null, .int 0, .int 0, .int 0, .int 0, .int 0, .int 0, .int 0, .int 0, .int 0, .int 0, .int 0, .int 0, .int 0, .int 0, .int 0, .int 0, .null, .int 0, .int 0, .int 0, .int 0, .null, .int 0, .int 0])), (q1, .inl (y2, 128, .inr (.inl f130))), (q131, .inl (y132, 128, .inl f191))] H := hP
  have hD : va_D A [(c0, .inr (14, [.ref q1, .null, .null, .null, .int 0, .int 0, .int 0, .null, .null, .null, .int 0, .null, .null, .int 0, .int 0, .int 0, .int 0, .int 0, .int 0, .int 0, .int 0, .int 0, .int 0, .int 0, .int 0, .int 0, .int 0, .int 0, .int 0, .null, .int 0, .int 0, .int 0, .int 0, .null, .int 0, .int 0])), (q1, .inl (y2, 128, .inr (.inl f130))), (q131, .inl (y132, 128, .inl f191))] := hD
  refine lv_dup hx hb dX13_init_1222 rfl ?_
  refine lv_bipush (v := 59) hx hb dX13_init_1223 (by decide) ?_
  refine lv_bipush (v := 11) hx hb dX13_init_1225 (by decide) ?_
  refine va_bast (i := 59) (x := 11) hx hb hK hP hD hS 2 1 rfl rfl (vp_in_iff.mpr ⟨by decide, by decide⟩) dX13_init_1227 (fun H locs hP hD hS => ?_)
  generalize hf192 : upd f191 (Int32.toNatClampNeg 59) (vp_nar .byte 11) = f192 at hP hD
  have hP : va_P (dC, dI) vwCl [(c0, .inr (14, [.ref q1, .null, .null, .null, .int 0, .int 0, .int 0, .null, .null, .null, .int 0, .null, .null, .int 0, .int 0, .int 0, .int 0, .int 0, .int 0, .int 0, .int 0, .int 0, .int 0, .int 0, .int 0, .int 0, .int 0, .int 0, .int 0, .null, .int 0, .int 0, .int 0, .int 0, .null, .int 0, .int 0])), (q1, .inl (y2, 128, .inr (.inl f130))), (q131, .inl (y132, 128, .inl f192))] H := hP
  have hD : va_D A [(c0, .inr (14, [.ref q1, .null, .null, .null, .int 0, .int 0, .int 0, .null, .null, .null, .int 0, .null, .null, .int 0, .int 0, .int 0, .int 0, .int 0, .int 0, .int 0, .int 0, .int 0, .int 0, .int 0, .int 0, .int 0, .int 0, .int 0, .int 0, .null, .int 0, .int 0, .int 0, .int 0, .null, .int 0, .int 0])), (q1, .inl (y2, 128, .inr (.inl f130))), (q131, .inl (y132, 128, .inl f192))] := hD
  refine lv_dup hx hb dX13_init_1228 rfl ?_
  refine lv_bipush (v := 60) hx hb dX13_init_1229 (by decide) ?_
  refine lv_bipush (v := 11) hx hb dX13_init_1231 (by decide) ?_
  refine va_bast (i := 60) (x := 11) hx hb hK hP hD hS 2 1 rfl rfl (vp_in_iff.mpr ⟨by decide, by decide⟩) dX13_init_1233 (fun H locs hP hD hS => ?_)
  generalize hf193 : upd f192 (Int32.toNatClampNeg 60) (vp_nar .byte 11) = f193 at hP hD
  have hP : va_P (dC, dI) vwCl [(c0, .inr (14, [.ref q1, .null, .null, .null, .int 0, .int 0, .int 0, .null, .null, .null, .int 0, .null, .null, .int 0, .int 0, .int 0, .int 0, .int 0, .int 0, .int 0, .int 0, .int 0, .int 0, .int 0, .int 0, .int 0, .int 0, .int 0, .int 0, .null, .int 0, .int 0, .int 0, .int 0, .null, .int 0, .int 0])), (q1, .inl (y2, 128, .inr (.inl f130))), (q131, .inl (y132, 128, .inl f193))] H := hP
  have hD : va_D A [(c0, .inr (14, [.ref q1, .null, .null, .null, .int 0, .int 0, .int 0, .null, .null, .null, .int 0, .null, .null, .int 0, .int 0, .int 0, .int 0, .int 0, .int 0, .int 0, .int 0, .int 0, .int 0, .int 0, .int 0, .int 0, .int 0, .int 0, .int 0, .null, .int 0, .int 0, .int 0, .int 0, .null, .int 0, .int 0])), (q1, .inl (y2, 128, .inr (.inl f130))), (q131, .inl (y132, 128, .inl f193))] := hD
  refine lv_dup hx hb dX13_init_1234 rfl ?_
  refine lv_bipush (v := 61) hx hb dX13_init_1235 (by decide) ?_
  refine lv_bipush (v := 11) hx hb dX13_init_1237 (by decide) ?_
  refine va_bast (i := 61) (x := 11) hx hb hK hP hD hS 2 1 rfl rfl (vp_in_iff.mpr ⟨by decide, by decide⟩) dX13_init_1239 (fun H locs hP hD hS => ?_)
  generalize hf194 : upd f193 (Int32.toNatClampNeg 61) (vp_nar .byte 11) = f194 at hP hD
  have hP : va_P (dC, dI) vwCl [(c0, .inr (14, [.ref q1, .null, .null, .null, .int 0, .int 0, .int 0, .null, .null, .null, .int 0, .null, .null, .int 0, .int 0, .int 0, .int 0, .int 0, .int 0, .int 0, .int 0, .int 0, .int 0, .int 0, .int 0, .int 0, .int 0, .int 0, .int 0, .null, .int 0, .int 0, .int 0, .int 0, .null, .int 0, .int 0])), (q1, .inl (y2, 128, .inr (.inl f130))), (q131, .inl (y132, 128, .inl f194))] H := hP
  have hD : va_D A [(c0, .inr (14, [.ref q1, .null, .null, .null, .int 0, .int 0, .int 0, .null, .null, .null, .int 0, .null, .null, .int 0, .int 0, .int 0, .int 0, .int 0, .int 0, .int 0, .int 0, .int 0, .int 0, .int 0, .int 0, .int 0, .int 0, .int 0, .int 0, .null, .int 0, .int 0, .int 0, .int 0, .null, .int 0, .int 0])), (q1, .inl (y2, 128, .inr (.inl f130))), (q131, .inl (y132, 128, .inl f194))] := hD
  refine lv_dup hx hb dX13_init_1240 rfl ?_
  refine lv_bipush (v := 62) hx hb dX13_init_1241 (by decide) ?_
  refine lv_bipush (v := 12) hx hb dX13_init_1243 (by decide) ?_
  refine va_bast (i := 62) (x := 12) hx hb hK hP hD hS 2 1 rfl rfl (vp_in_iff.mpr ⟨by decide, by decide⟩) dX13_init_1245 (fun H locs hP hD hS => ?_)
  generalize hf195 : upd f194 (Int32.toNatClampNeg 62) (vp_nar .byte 12) = f195 at hP hD
  have hP : va_P (dC, dI) vwCl [(c0, .inr (14, [.ref q1, .null, .null, .null, .int 0, .int 0, .int 0, .null, .null, .null, .int 0, .null, .null, .int 0, .int 0, .int 0, .int 0, .int 0, .int 0, .int 0, .int 0, .int 0, .int 0, .int 0, .int 0, .int 0, .int 0, .int 0, .int 0, .null, .int 0, .int 0, .int 0, .int 0, .null, .int 0, .int 0])), (q1, .inl (y2, 128, .inr (.inl f130))), (q131, .inl (y132, 128, .inl f195))] H := hP
  have hD : va_D A [(c0, .inr (14, [.ref q1, .null, .null, .null, .int 0, .int 0, .int 0, .null, .null, .null, .int 0, .null, .null, .int 0, .int 0, .int 0, .int 0, .int 0, .int 0, .int 0, .int 0, .int 0, .int 0, .int 0, .int 0, .int 0, .int 0, .int 0, .int 0, .null, .int 0, .int 0, .int 0, .int 0, .null, .int 0, .int 0])), (q1, .inl (y2, 128, .inr (.inl f130))), (q131, .inl (y132, 128, .inl f195))] := hD
  refine lv_dup hx hb dX13_init_1246 rfl ?_
  refine lv_bipush (v := 63) hx hb dX13_init_1247 (by decide) ?_
  refine lv_bipush (v := 12) hx hb dX13_init_1249 (by decide) ?_
  refine va_bast (i := 63) (x := 12) hx hb hK hP hD hS 2 1 rfl rfl (vp_in_iff.mpr ⟨by decide, by decide⟩) dX13_init_1251 (fun H locs hP hD hS => ?_)
  generalize hf196 : upd f195 (Int32.toNatClampNeg 63) (vp_nar .byte 12) = f196 at hP hD
  have hP : va_P (dC, dI) vwCl [(c0, .inr (14, [.ref q1, .null, .null, .null, .int 0, .int 0, .int 0, .null, .null, .null, .int 0, .null, .null, .int 0, .int 0, .int 0, .int 0, .int 0, .int 0, .int 0, .int 0, .int 0, .int 0, .int 0, .int 0, .int 0, .int 0, .int 0, .int 0, .null, .int 0, .int 0, .int 0, .int 0, .null, .int 0, .int 0])), (q1, .inl (y2, 128, .inr (.inl f130))), (q131, .inl (y132, 128, .inl f196))] H := hP
  have hD : va_D A [(c0, .inr (14, [.ref q1, .null, .null, .null, .int 0, .int 0, .int 0, .null, .null, .null, .int 0, .null, .null, .int 0, .int 0, .int 0, .int 0, .int 0, .int 0, .int 0, .int 0, .int 0, .int 0, .int 0, .int 0, .int 0, .int 0, .int 0, .int 0, .null, .int 0, .int 0, .int 0, .int 0, .null, .int 0, .int 0])), (q1, .inl (y2, 128, .inr (.inl f130))), (q131, .inl (y132, 128, .inl f196))] := hD
  refine lv_dup hx hb dX13_init_1252 rfl ?_
  refine lv_bipush (v := 64) hx hb dX13_init_1253 (by decide) ?_
  refine lv_bipush (v := 12) hx hb dX13_init_1255 (by decide) ?_
  refine va_bast (i := 64) (x := 12) hx hb hK hP hD hS 2 1 rfl rfl (vp_in_iff.mpr ⟨by decide, by decide⟩) dX13_init_1257 (fun H locs hP hD hS => ?_)
  generalize hf197 : upd f196 (Int32.toNatClampNeg 64) (vp_nar .byte 12) = f197 at hP hD
  have hP : va_P (dC, dI) vwCl [(c0, .inr (14, [.ref q1, .null, .null, .null, .int 0, .int 0, .int 0, .null, .null, .null, .int 0, .null, .null, .int 0, .int 0, .int 0, .int 0, .int 0, .int 0, .int 0, .int 0, .int 0, .int 0, .int 0, .int 0, .int 0, .int 0, .int 0, .int 0, .null, .int 0, .int 0, .int 0, .int 0, .null, .int 0, .int 0])), (q1, .inl (y2, 128, .inr (.inl f130))), (q131, .inl (y132, 128, .inl f197))] H := hP
  have hD : va_D A [(c0, .inr (14, [.ref q1, .null, .null, .null, .int 0, .int 0, .int 0, .null, .null, .null, .int 0, .null, .null, .int 0, .int 0, .int 0, .int 0, .int 0, .int 0, .int 0, .int 0, .int 0, .int 0, .int 0, .int 0, .int 0, .int 0, .int 0, .int 0, .null, .int 0, .int 0, .int 0, .int 0, .null, .int 0, .int 0])), (q1, .inl (y2, 128, .inr (.inl f130))), (q131, .inl (y132, 128, .inl f197))] := hD
  refine lv_dup hx hb dX13_init_1258 rfl ?_
  refine lv_bipush (v := 65) hx hb dX13_init_1259 (by decide) ?_
  refine lv_bipush (v := 12) hx hb dX13_init_1261 (by decide) ?_
  refine va_bast (i := 65) (x := 12) hx hb hK hP hD hS 2 1 rfl rfl (vp_in_iff.mpr ⟨by decide, by decide⟩) dX13_init_1263 (fun H locs hP hD hS => ?_)
  generalize hf198 : upd f197 (Int32.toNatClampNeg 65) (vp_nar .byte 12) = f198 at hP hD
  have hP : va_P (dC, dI) vwCl [(c0, .inr (14, [.ref q1, .null, .null, .null, .int 0, .int 0, .int 0, .null, .null, .null, .int 0, .null, .null, .int 0, .int 0, .int 0, .int 0, .int 0, .int 0, .int 0, .int 0, .int 0, .int 0, .int 0, .int 0, .int 0, .int 0, .int 0, .int 0, .null, .int 0, .int 0, .int 0, .int 0, .null, .int 0, .int 0])), (q1, .inl (y2, 128, .inr (.inl f130))), (q131, .inl (y132, 128, .inl f198))] H := hP
  have hD : va_D A [(c0, .inr (14, [.ref q1, .null, .null, .null, .int 0, .int 0, .int 0, .null, .null, .null, .int 0, .null, .null, .int 0, .int 0, .int 0, .int 0, .int 0, .int 0, .int 0, .int 0, .int 0, .int 0, .int 0, .int 0, .int 0, .int 0, .int 0, .int 0, .null, .int 0, .int 0, .int 0, .int 0, .null, .int 0, .int 0])), (q1, .inl (y2, 128, .inr (.inl f130))), (q131, .inl (y132, 128, .inl f198))] := hD
  refine lv_dup hx hb dX13_init_1264 rfl ?_
  refine lv_bipush (v := 66) hx hb dX13_init_1265 (by decide) ?_
  refine lv_bipush (v := 12) hx hb dX13_init_1267 (by decide) ?_
  refine va_bast (i := 66) (x := 12) hx hb hK hP hD hS 2 1 rfl rfl (vp_in_iff.mpr ⟨by decide, by decide⟩) dX13_init_1269 (fun H locs hP hD hS => ?_)
  generalize hf199 : upd f198 (Int32.toNatClampNeg 66) (vp_nar .byte 12) = f199 at hP hD
  have hP : va_P (dC, dI) vwCl [(c0, .inr (14, [.ref q1, .null, .null, .null, .int 0, .int 0, .int 0, .null, .null, .null, .int 0, .null, .null, .int 0, .int 0, .int 0, .int 0, .int 0, .int 0, .int 0, .int 0, .int 0, .int 0, .int 0, .int 0, .int 0, .int 0, .int 0, .int 0, .null, .int 0, .int 0, .int 0, .int 0, .null, .int 0, .int 0])), (q1, .inl (y2, 128, .inr (.inl f130))), (q131, .inl (y132, 128, .inl f199))] H := hP
  have hD : va_D A [(c0, .inr (14, [.ref q1, .null, .null, .null, .int 0, .int 0, .int 0, .null, .null, .null, .int 0, .null, .null, .int 0, .int 0, .int 0, .int 0, .int 0, .int 0, .int 0, .int 0, .int 0, .int 0, .int 0, .int 0, .int 0, .int 0, .int 0, .int 0, .null, .int 0, .int 0, .int 0, .int 0, .null, .int 0, .int 0])), (q1, .inl (y2, 128, .inr (.inl f130))), (q131, .inl (y132, 128, .inl f199))] := hD
  refine lv_dup hx hb dX13_init_1270 rfl ?_
  refine lv_bipush (v := 67) hx hb dX13_init_1271 (by decide) ?_
  refine lv_bipush (v := 12) hx hb dX13_init_1273 (by decide) ?_
  refine va_bast (i := 67) (x := 12) hx hb hK hP hD hS 2 1 rfl rfl (vp_in_iff.mpr ⟨by decide, by decide⟩) dX13_init_1275 (fun H locs hP hD hS => ?_)
  generalize hf200 : upd f199 (Int32.toNatClampNeg 67) (vp_nar .byte 12) = f200 at hP hD
  have hP : va_P (dC, dI) vwCl [(c0, .inr (14, [.ref q1, .null, .null, .null, .int 0, .int 0, .int 0, .null, .null, .null, .int 0, .null, .null, .int 0, .int 0, .int 0, .int 0, .int 0, .int 0, .int 0, .int 0, .int 0, .int 0, .int 0, .int 0, .int 0, .int 0, .int 0, .int 0, .null, .int 0, .int 0, .int 0, .int 0, .null, .int 0, .int 0])), (q1, .inl (y2, 128, .inr (.inl f130))), (q131, .inl (y132, 128, .inl f200))] H := hP
  have hD : va_D A [(c0, .inr (14, [.ref q1, .null, .null, .null, .int 0, .int 0, .int 0, .null, .null, .null, .int 0, .null, .null, .int 0, .int 0, .int 0, .int 0, .int 0, .int 0, .int 0, .int 0, .int 0, .int 0, .int 0, .int 0, .int 0, .int 0, .int 0, .int 0, .null, .int 0, .int 0, .int 0, .int 0, .null, .int 0, .int 0])), (q1, .inl (y2, 128, .inr (.inl f130))), (q131, .inl (y132, 128, .inl f200))] := hD
  refine lv_dup hx hb dX13_init_1276 rfl ?_
  refine lv_bipush (v := 68) hx hb dX13_init_1277 (by decide) ?_
  refine lv_bipush (v := 13) hx hb dX13_init_1279 (by decide) ?_
  refine va_bast (i := 68) (x := 13) hx hb hK hP hD hS 2 1 rfl rfl (vp_in_iff.mpr ⟨by decide, by decide⟩) dX13_init_1281 (fun H locs hP hD hS => ?_)
  generalize hf201 : upd f200 (Int32.toNatClampNeg 68) (vp_nar .byte 13) = f201 at hP hD
  have hP : va_P (dC, dI) vwCl [(c0, .inr (14, [.ref q1, .null, .null, .null, .int 0, .int 0, .int 0, .null, .null, .null, .int 0, .null, .null, .int 0, .int 0, .int 0, .int 0, .int 0, .int 0, .int 0, .int 0, .int 0, .int 0, .int 0, .int 0, .int 0, .int 0, .int 0, .int 0, .null, .int 0, .int 0, .int 0, .int 0, .null, .int 0, .int 0])), (q1, .inl (y2, 128, .inr (.inl f130))), (q131, .inl (y132, 128, .inl f201))] H := hP
  have hD : va_D A [(c0, .inr (14, [.ref q1, .null, .null, .null, .int 0, .int 0, .int 0, .null, .null, .null, .int 0, .null, .null, .int 0, .int 0, .int 0, .int 0, .int 0, .int 0, .int 0, .int 0, .int 0, .int 0, .int 0, .int 0, .int 0, .int 0, .int 0, .int 0, .null, .int 0, .int 0, .int 0, .int 0, .null, .int 0, .int 0])), (q1, .inl (y2, 128, .inr (.inl f130))), (q131, .inl (y132, 128, .inl f201))] := hD
  refine lv_dup hx hb dX13_init_1282 rfl ?_
  refine lv_bipush (v := 69) hx hb dX13_init_1283 (by decide) ?_
  refine lv_bipush (v := 14) hx hb dX13_init_1285 (by decide) ?_
  refine va_bast (i := 69) (x := 14) hx hb hK hP hD hS 2 1 rfl rfl (vp_in_iff.mpr ⟨by decide, by decide⟩) dX13_init_1287 (fun H locs hP hD hS => ?_)
  generalize hf202 : upd f201 (Int32.toNatClampNeg 69) (vp_nar .byte 14) = f202 at hP hD
  have hP : va_P (dC, dI) vwCl [(c0, .inr (14, [.ref q1, .null, .null, .null, .int 0, .int 0, .int 0, .null, .null, .null, .int 0, .null, .null, .int 0, .int 0, .int 0, .int 0, .int 0, .int 0, .int 0, .int 0, .int 0, .int 0, .int 0, .int 0, .int 0, .int 0, .int 0, .int 0, .null, .int 0, .int 0, .int 0, .int 0, .null, .int 0, .int 0])), (q1, .inl (y2, 128, .inr (.inl f130))), (q131, .inl (y132, 128, .inl f202))] H := hP
  have hD : va_D A [(c0, .inr (14, [.ref q1, .null, .null, .null, .int 0, .int 0, .int 0, .null, .null, .null, .int 0, .null, .null, .int 0, .int 0, .int 0, .int 0, .int 0, .int 0, .int 0, .int 0, .int 0, .int 0, .int 0, .int 0, .int 0, .int 0, .int 0, .int 0, .null, .int 0, .int 0, .int 0, .int 0, .null, .int 0, .int 0])), (q1, .inl (y2, 128, .inr (.inl f130))), (q131, .inl (y132, 128, .inl f202))] := hD
  refine lv_dup hx hb dX13_init_1288 rfl ?_
  refine lv_bipush (v := 70) hx hb dX13_init_1289 (by decide) ?_
  refine lv_bipush (v := 14) hx hb dX13_init_1291 (by decide) ?_
  refine va_bast (i := 70) (x := 14) hx hb hK hP hD hS 2 1 rfl rfl (vp_in_iff.mpr ⟨by decide, by decide⟩) dX13_init_1293 (fun H locs hP hD hS => ?_)
  generalize hf203 : upd f202 (Int32.toNatClampNeg 70) (vp_nar .byte 14) = f203 at hP hD
  have hP : va_P (dC, dI) vwCl [(c0, .inr (14, [.ref q1, .null, .null, .null, .int 0, .int 0, .int 0, .null, .null, .null, .int 0, .null, .null, .int 0, .int 0, .int 0, .int 0, .int 0, .int 0, .int 0, .int 0, .int 0, .int 0, .int 0, .int 0, .int 0, .int 0, .int 0, .int 0, .null, .int 0, .int 0, .int 0, .int 0, .null, .int 0, .int 0])), (q1, .inl (y2, 128, .inr (.inl f130))), (q131, .inl (y132, 128, .inl f203))] H := hP
  have hD : va_D A [(c0, .inr (14, [.ref q1, .null, .null, .null, .int 0, .int 0, .int 0, .null, .null, .null, .int 0, .null, .null, .int 0, .int 0, .int 0, .int 0, .int 0, .int 0, .int 0, .int 0, .int 0, .int 0, .int 0, .int 0, .int 0, .int 0, .int 0, .int 0, .null, .int 0, .int 0, .int 0, .int 0, .null, .int 0, .int 0])), (q1, .inl (y2, 128, .inr (.inl f130))), (q131, .inl (y132, 128, .inl f203))] := hD
  refine lv_dup hx hb dX13_init_1294 rfl ?_
  refine lv_bipush (v := 71) hx hb dX13_init_1295 (by decide) ?_
  refine lv_bipush (v := 16) hx hb dX13_init_1297 (by decide) ?_
  refine va_bast (i := 71) (x := 16) hx hb hK hP hD hS 2 1 rfl rfl (vp_in_iff.mpr ⟨by decide, by decide⟩) dX13_init_1299 (fun H locs hP hD hS => ?_)
  generalize hf204 : upd f203 (Int32.toNatClampNeg 71) (vp_nar .byte 16) = f204 at hP hD
  have hP : va_P (dC, dI) vwCl [(c0, .inr (14, [.ref q1, .null, .null, .null, .int 0, .int 0, .int 0, .null, .null, .null, .int 0, .null, .null, .int 0, .int 0, .int 0, .int 0, .int 0, .int 0, .int 0, .int 0, .int 0, .int 0, .int 0, .int 0, .int 0, .int 0, .int 0, .int 0, .null, .int 0, .int 0, .int 0, .int 0, .null, .int 0, .int 0])), (q1, .inl (y2, 128, .inr (.inl f130))), (q131, .inl (y132, 128, .inl f204))] H := hP
  have hD : va_D A [(c0, .inr (14, [.ref q1, .null, .null, .null, .int 0, .int 0, .int 0, .null, .null, .null, .int 0, .null, .null, .int 0, .int 0, .int 0, .int 0, .int 0, .int 0, .int 0, .int 0, .int 0, .int 0, .int 0, .int 0, .int 0, .int 0, .int 0, .int 0, .null, .int 0, .int 0, .int 0, .int 0, .null, .int 0, .int 0])), (q1, .inl (y2, 128, .inr (.inl f130))), (q131, .inl (y132, 128, .inl f204))] := hD
  refine lv_dup hx hb dX13_init_1300 rfl ?_
  exact kk f204 _ _ _ hK hP hD hS hl

set_option maxHeartbeats 40000000 in
set_option maxRecDepth 100000 in
theorem k_X13_init_s9 {p : Program} {l : Launch} {e : Env} {s : State} {m : MethodId} {args : Array Value} {below : List Frame} {meth : Method} {c : Code} {Q : State → Prop} {A : Nat → Prop} (dC : Nat → ClassId) (dI : Nat → Nat → Nat) (c0 : Nat) (q1 : Nat) (y2 : ClassId) (q131 : Nat) (y132 : ClassId) (f130 : Nat → Int64) (f204 : Nat → Int32) (hlt : l.stackTraces = false) (hx : p.tables.exec = Jvm.exec) (hb : c.code = cX13_init) (hml : c.maxLocals = 1) (hown : s.vm.findClass RX13 = some m.cls) (hts : ∀ w ∈ ow_k_X13_init, w.before args s = true) (hin : meth.name = "<init>") (hN : nv_E A s) (hA : ∀ q : Nat, s.heap.size ≤ q → A q) {H : Heap} {locs : List Loc} {ls : Array Slot} (hK : va_K (dC, dI) vwCl [(y2, .long), (y132, .byte)] s) (hP : va_P (dC, dI) vwCl [(c0, .inr (14, [.ref q1, .null, .null, .null, .int 0, .int 0, .int 0, .null, .null, .null, .int 0, .null, .null, .int 0, .int 0, .int 0, .int 0, .int 0, .int 0, .int 0, .int 0, .int 0, .int 0, .int 0, .int 0, .int 0, .int 0, .int 0, .int 0, .null, .int 0, .int 0, .int 0, .int 0, .null, .int 0, .int 0])), (q1, .inl (y2, 128, .inr (.inl f130))), (q131, .inl (y132, 128, .inl f204))] H) (hD : va_D A [(c0, .inr (14, [.ref q1, .null, .null, .null, .int 0, .int 0, .int 0, .null, .null, .null, .int 0, .null, .null, .int 0, .int 0, .int 0, .int 0, .int 0, .int 0, .int 0, .int 0, .int 0, .int 0, .int 0, .int 0, .int 0, .int 0, .int 0, .int 0, .null, .int 0, .int 0, .int 0, .int 0, .null, .int 0, .int 0])), (q1, .inl (y2, 128, .inr (.inl f130))), (q131, .inl (y132, 128, .inl f204))]) (hS : va_S A s.heap H locs) (hl : lv_has ls 1 [(0, .ref c0)]) (kk : ∀ (f226 : Nat → Int32) (H : Heap) (locs : List Loc) (ls : Array Slot), va_K (dC, dI) vwCl [(y2, .long), (y132, .byte)] s → va_P (dC, dI) vwCl [(c0, .inr (14, [.ref q1, .null, .null, .null, .int 0, .int 0, .int 0, .null, .null, .null, .int 0, .null, .null, .int 0, .int 0, .int 0, .int 0, .int 0, .int 0, .int 0, .int 0, .int 0, .int 0, .int 0, .int 0, .int 0, .int 0, .int 0, .int 0, .null, .int 0, .int 0, .int 0, .int 0, .null, .int 0, .int 0])), (q1, .inl (y2, 128, .inr (.inl f130))), (q131, .inl (y132, 128, .inl f226))] H → va_D A [(c0, .inr (14, [.ref q1, .null, .null, .null, .int 0, .int 0, .int 0, .null, .null, .null, .int 0, .null, .null, .int 0, .int 0, .int 0, .int 0, .int 0, .int 0, .int 0, .int 0, .int 0, .int 0, .int 0, .int 0, .int 0, .int 0, .int 0, .int 0, .null, .int 0, .int 0, .int 0, .int 0, .null, .int 0, .int 0])), (q1, .inl (y2, 128, .inr (.inl f130))), (q131, .inl (y132, 128, .inl f226))] → va_S A s.heap H locs → lv_has ls 1 [(0, .ref c0)] → W p l e (headSpec ow_k_X13_init ({ frames := 1, cells := 10, slots := 131956, locals := 12 })).room s m args below meth c H locs 2 256 Q (F0 m 1437 ls [.int 29, .int 94, .ref q131, .ref q131, .ref c0])) : W p l e (headSpec ow_k_X13_init ({ frames := 1, cells := 10, slots := 131956, locals := 12 })).room s m args below meth c H locs 2 256 Q (F0 m 1301 ls [.ref q131, .ref q131, .ref c0]) := by
  refine lv_bipush (v := 72) hx hb dX13_init_1301 (by decide) ?_
  refine lv_bipush (v := 16) hx hb dX13_init_1303 (by decide) ?_
  refine va_bast (i := 72) (x := 16) hx hb hK hP hD hS 2 1 rfl rfl (vp_in_iff.mpr ⟨by decide, by decide⟩) dX13_init_1305 (fun H locs hP hD hS => ?_)
  generalize hf205 : upd f204 (Int32.toNatClampNeg 72) (vp_nar .byte 16) = f205 at hP hD
  have hP : va_P (dC, dI) vwCl [(c0, .inr (14, [.ref q1, .null, .null, .null, .int 0, .int 0, .int 0, .null, .null, .null, .int 0, .null, .null, .int 0, .int 0, .int 0, .int 0, .int 0, .int 0, .int 0, .int 0, .int 0, .int 0, .int 0, .int 0, .int 0, .int 0, .int 0, .int 0, .null, .int 0, .int 0, .int 0, .int 0, .null, .int 0, .int 0])), (q1, .inl (y2, 128, .inr (.inl f130))), (q131, .inl (y132, 128, .inl f205))] H := hP
  have hD : va_D A [(c0, .inr (14, [.ref q1, .null, .null, .null, .int 0, .int 0, .int 0, .null, .null, .null, .int 0, .null, .null, .int 0, .int 0, .int 0, .int 0, .int 0, .int 0, .int 0, .int 0, .int 0, .int 0, .int 0, .int 0, .int 0, .int 0, .int 0, .int 0, .null, .int 0, .int 0, .int 0, .int 0, .null, .int 0, .int 0])), (q1, .inl (y2, 128, .inr (.inl f130))), (q131, .inl (y132, 128, .inl f205))] := hD
  refine lv_dup hx hb dX13_init_1306 rfl ?_
  refine lv_bipush (v := 73) hx hb dX13_init_1307 (by decide) ?_
  refine lv_bipush (v := 17) hx hb dX13_init_1309 (by decide) ?_
  refine va_bast (i := 73) (x := 17) hx hb hK hP hD hS 2 1 rfl rfl (vp_in_iff.mpr ⟨by decide, by decide⟩) dX13_init_1311 (fun H locs hP hD hS => ?_)
  generalize hf206 : upd f205 (Int32.toNatClampNeg 73) (vp_nar .byte 17) = f206 at hP hD
  have hP : va_P (dC, dI) vwCl [(c0, .inr (14, [.ref q1, .null, .null, .null, .int 0, .int 0, .int 0, .null, .null, .null, .int 0, .null, .null, .int 0, .int 0, .int 0, .int 0, .int 0, .int 0, .int 0, .int 0, .int 0, .int 0, .int 0, .int 0, .int 0, .int 0, .int 0, .int 0, .null, .int 0, .int 0, .int 0, .int 0, .null, .int 0, .int 0])), (q1, .inl (y2, 128, .inr (.inl f130))), (q131, .inl (y132, 128, .inl f206))] H := hP
  have hD : va_D A [(c0, .inr (14, [.ref q1, .null, .null, .null, .int 0, .int 0, .int 0, .null, .null, .null, .int 0, .null, .null, .int 0, .int 0, .int 0, .int 0, .int 0, .int 0, .int 0, .int 0, .int 0, .int 0, .int 0, .int 0, .int 0, .int 0, .int 0, .int 0, .null, .int 0, .int 0, .int 0, .int 0, .null, .int 0, .int 0])), (q1, .inl (y2, 128, .inr (.inl f130))), (q131, .inl (y132, 128, .inl f206))] := hD
  refine lv_dup hx hb dX13_init_1312 rfl ?_
  refine lv_bipush (v := 74) hx hb dX13_init_1313 (by decide) ?_
  refine lv_bipush (v := 17) hx hb dX13_init_1315 (by decide) ?_
  refine va_bast (i := 74) (x := 17) hx hb hK hP hD hS 2 1 rfl rfl (vp_in_iff.mpr ⟨by decide, by decide⟩) dX13_init_1317 (fun H locs hP hD hS => ?_)
  generalize hf207 : upd f206 (Int32.toNatClampNeg 74) (vp_nar .byte 17) = f207 at hP hD
  have hP : va_P (dC, dI) vwCl [(c0, .inr (14, [.ref q1, .null, .null, .null, .int 0, .int 0, .int 0, .null, .null, .null, .int 0, .null, .null, .int 0, .int 0, .int 0, .int 0, .int 0, .int 0, .int 0, .int 0, .int 0, .int 0, .int 0, .int 0, .int 0, .int 0, .int 0, .int 0, .null, .int 0, .int 0, .int 0, .int 0, .null, .int 0, .int 0])), (q1, .inl (y2, 128, .inr (.inl f130))), (q131, .inl (y132, 128, .inl f207))] H := hP
  have hD : va_D A [(c0, .inr (14, [.ref q1, .null, .null, .null, .int 0, .int 0, .int 0, .null, .null, .null, .int 0, .null, .null, .int 0, .int 0, .int 0, .int 0, .int 0, .int 0, .int 0, .int 0, .int 0, .int 0, .int 0, .int 0, .int 0, .int 0, .int 0, .int 0, .null, .int 0, .int 0, .int 0, .int 0, .null, .int 0, .int 0])), (q1, .inl (y2, 128, .inr (.inl f130))), (q131, .inl (y132, 128, .inl f207))] := hD
  refine lv_dup hx hb dX13_init_1318 rfl ?_
  refine lv_bipush (v := 75) hx hb dX13_init_1319 (by decide) ?_
  refine lv_bipush (v := 18) hx hb dX13_init_1321 (by decide) ?_
  refine va_bast (i := 75) (x := 18) hx hb hK hP hD hS 2 1 rfl rfl (vp_in_iff.mpr ⟨by decide, by decide⟩) dX13_init_1323 (fun H locs hP hD hS => ?_)
  generalize hf208 : upd f207 (Int32.toNatClampNeg 75) (vp_nar .byte 18) = f208 at hP hD
  have hP : va_P (dC, dI) vwCl [(c0, .inr (14, [.ref q1, .null, .null, .null, .int 0, .int 0, .int 0, .null, .null, .null, .int 0, .null, .null, .int 0, .int 0, .int 0, .int 0, .int 0, .int 0, .int 0, .int 0, .int 0, .int 0, .int 0, .int 0, .int 0, .int 0, .int 0, .int 0, .null, .int 0, .int 0, .int 0, .int 0, .null, .int 0, .int 0])), (q1, .inl (y2, 128, .inr (.inl f130))), (q131, .inl (y132, 128, .inl f208))] H := hP
  have hD : va_D A [(c0, .inr (14, [.ref q1, .null, .null, .null, .int 0, .int 0, .int 0, .null, .null, .null, .int 0, .null, .null, .int 0, .int 0, .int 0, .int 0, .int 0, .int 0, .int 0, .int 0, .int 0, .int 0, .int 0, .int 0, .int 0, .int 0, .int 0, .int 0, .null, .int 0, .int 0, .int 0, .int 0, .null, .int 0, .int 0])), (q1, .inl (y2, 128, .inr (.inl f130))), (q131, .inl (y132, 128, .inl f208))] := hD
  refine lv_dup hx hb dX13_init_1324 rfl ?_
  refine lv_bipush (v := 76) hx hb dX13_init_1325 (by decide) ?_
  refine lv_bipush (v := 19) hx hb dX13_init_1327 (by decide) ?_
  refine va_bast (i := 76) (x := 19) hx hb hK hP hD hS 2 1 rfl rfl (vp_in_iff.mpr ⟨by decide, by decide⟩) dX13_init_1329 (fun H locs hP hD hS => ?_)
  generalize hf209 : upd f208 (Int32.toNatClampNeg 76) (vp_nar .byte 19) = f209 at hP hD
  have hP : va_P (dC, dI) vwCl [(c0, .inr (14, [.ref q1, .null, .null, .null, .int 0, .int 0, .int 0, .null, .null, .null, .int 0, .null, .null, .int 0, .int 0, .int 0, .int 0, .int 0, .int 0, .int 0, .int 0, .int 0, .int 0, .int 0, .int 0, .int 0, .int 0, .int 0, .int 0, .null, .int 0, .int 0, .int 0, .int 0, .null, .int 0, .int 0])), (q1, .inl (y2, 128, .inr (.inl f130))), (q131, .inl (y132, 128, .inl f209))] H := hP
  have hD : va_D A [(c0, .inr (14, [.ref q1, .null, .null, .null, .int 0, .int 0, .int 0, .null, .null, .null, .int 0, .null, .null, .int 0, .int 0, .int 0, .int 0, .int 0, .int 0, .int 0, .int 0, .int 0, .int 0, .int 0, .int 0, .int 0, .int 0, .int 0, .int 0, .null, .int 0, .int 0, .int 0, .int 0, .null, .int 0, .int 0])), (q1, .inl (y2, 128, .inr (.inl f130))), (q131, .inl (y132, 128, .inl f209))] := hD
  refine lv_dup hx hb dX13_init_1330 rfl ?_
  refine lv_bipush (v := 77) hx hb dX13_init_1331 (by decide) ?_
  refine lv_bipush (v := 19) hx hb dX13_init_1333 (by decide) ?_
  refine va_bast (i := 77) (x := 19) hx hb hK hP hD hS 2 1 rfl rfl (vp_in_iff.mpr ⟨by decide, by decide⟩) dX13_init_1335 (fun H locs hP hD hS => ?_)
  generalize hf210 : upd f209 (Int32.toNatClampNeg 77) (vp_nar .byte 19) = f210 at hP hD
  have hP : va_P (dC, dI) vwCl [(c0, .inr (14, [.ref q1, .null, .null, .null, .int 0, .int 0, .int 0, .null, .null, .null, .int 0, .null, .null, .int 0, .int 0, .int 0, .int 0, .int 0, .int 0, .int 0, .int 0, .int 0, .int 0, .int 0, .int 0, .int 0, .int 0, .int 0, .int 0, .null, .int 0, .int 0, .int 0, .int 0, .null, .int 0, .int 0])), (q1, .inl (y2, 128, .inr (.inl f130))), (q131, .inl (y132, 128, .inl f210))] H := hP
  have hD : va_D A [(c0, .inr (14, [.ref q1, .null, .null, .null, .int 0, .int 0, .int 0, .null, .null, .null, .int 0, .null, .null, .int 0, .int 0, .int 0, .int 0, .int 0, .int 0, .int 0, .int 0, .int 0, .int 0, .int 0, .int 0, .int 0, .int 0, .int 0, .int 0, .null, .int 0, .int 0, .int 0, .int 0, .null, .int 0, .int 0])), (q1, .inl (y2, 128, .inr (.inl f130))), (q131, .inl (y132, 128, .inl f210))] := hD
  refine lv_dup hx hb dX13_init_1336 rfl ?_
  refine lv_bipush (v := 78) hx hb dX13_init_1337 (by decide) ?_
  refine lv_bipush (v := 20) hx hb dX13_init_1339 (by decide) ?_
  refine va_bast (i := 78) (x := 20) hx hb hK hP hD hS 2 1 rfl rfl (vp_in_iff.mpr ⟨by decide, by decide⟩) dX13_init_1341 (fun H locs hP hD hS => ?_)
  generalize hf211 : upd f210 (Int32.toNatClampNeg 78) (vp_nar .byte 20) = f211 at hP hD
  have hP : va_P (dC, dI) vwCl [(c0, .inr (14, [.ref q1, .null, .null, .null, .int 0, .int 0, .int 0, .null, .null, .null, .int 0, .null, .null, .int 0, .int 0, .int 0, .int 0, .int 0, .int 0, .int 0, .int 0, .int 0, .int 0, .int 0, .int 0, .int 0, .int 0, .int 0, .int 0, .null, .int 0, .int 0, .int 0, .int 0, .null, .int 0, .int 0])), (q1, .inl (y2, 128, .inr (.inl f130))), (q131, .inl (y132, 128, .inl f211))] H := hP
  have hD : va_D A [(c0, .inr (14, [.ref q1, .null, .null, .null, .int 0, .int 0, .int 0, .null, .null, .null, .int 0, .null, .null, .int 0, .int 0, .int 0, .int 0, .int 0, .int 0, .int 0, .int 0, .int 0, .int 0, .int 0, .int 0, .int 0, .int 0, .int 0, .int 0, .null, .int 0, .int 0, .int 0, .int 0, .null, .int 0, .int 0])), (q1, .inl (y2, 128, .inr (.inl f130))), (q131, .inl (y132, 128, .inl f211))] := hD
  refine lv_dup hx hb dX13_init_1342 rfl ?_
  refine lv_bipush (v := 79) hx hb dX13_init_1343 (by decide) ?_
  refine lv_bipush (v := 21) hx hb dX13_init_1345 (by decide) ?_
  refine va_bast (i := 79) (x := 21) hx hb hK hP hD hS 2 1 rfl rfl (vp_in_iff.mpr ⟨by decide, by decide⟩) dX13_init_1347 (fun H locs hP hD hS => ?_)
  generalize hf212 : upd f211 (Int32.toNatClampNeg 79) (vp_nar .byte 21) = f212 at hP hD
  have hP : va_P (dC, dI) vwCl [(c0, .inr (14, [.ref q1, .null, .null, .null, .int 0, .int 0, .int 0, .null, .null, .null, .int 0, .null, .null, .int 0, .int 0, .int 0, .int 0, .int 0, .int 0, .int 0, .int 0, .int 0, .int 0, .int 0, .int 0, .int 0, .int 0, .int 0, .int 0, .null, .int 0, .int 0, .int 0, .int 0, .null, .int 0, .int 0])), (q1, .inl (y2, 128, .inr (.inl f130))), (q131, .inl (y132, 128, .inl f212))] H := hP
  have hD : va_D A [(c0, .inr (14, [.ref q1, .null, .null, .null, .int 0, .int 0, .int 0, .null, .null, .null, .int 0, .null, .null, .int 0, .int 0, .int 0, .int 0, .int 0, .int 0, .int 0, .int 0, .int 0, .int 0, .int 0, .int 0, .int 0, .int 0, .int 0, .int 0, .null, .int 0, .int 0, .int 0, .int 0, .null, .int 0, .int 0])), (q1, .inl (y2, 128, .inr (.inl f130))), (q131, .inl (y132, 128, .inl f212))] := hD
  refine lv_dup hx hb dX13_init_1348 rfl ?_
  refine lv_bipush (v := 80) hx hb dX13_init_1349 (by decide) ?_
  refine lv_bipush (v := 21) hx hb dX13_init_1351 (by decide) ?_
  refine va_bast (i := 80) (x := 21) hx hb hK hP hD hS 2 1 rfl rfl (vp_in_iff.mpr ⟨by decide, by decide⟩) dX13_init_1353 (fun H locs hP hD hS => ?_)
  generalize hf213 : upd f212 (Int32.toNatClampNeg 80) (vp_nar .byte 21) = f213 at hP hD
  have hP : va_P (dC, dI) vwCl [(c0, .inr (14, [.ref q1, .null, .null, .null, .int 0, .int 0, .int 0, .null, .null, .null, .int 0, .null, .null, .int 0, .int 0, .int 0, .int 0, .int 0, .int 0, .int 0, .int 0, .int 0, .int 0, .int 0, .int 0, .int 0, .int 0, .int 0, .int 0, .null, .int 0, .int 0, .int 0, .int 0, .null, .int 0, .int 0])), (q1, .inl (y2, 128, .inr (.inl f130))), (q131, .inl (y132, 128, .inl f213))] H := hP
  have hD : va_D A [(c0, .inr (14, [.ref q1, .null, .null, .null, .int 0, .int 0, .int 0, .null, .null, .null, .int 0, .null, .null, .int 0, .int 0, .int 0, .int 0, .int 0, .int 0, .int 0, .int 0, .int 0, .int 0, .int 0, .int 0, .int 0, .int 0, .int 0, .int 0, .null, .int 0, .int 0, .int 0, .int 0, .null, .int 0, .int 0])), (q1, .inl (y2, 128, .inr (.inl f130))), (q131, .inl (y132, 128, .inl f213))] := hD
  refine lv_dup hx hb dX13_init_1354 rfl ?_
  refine lv_bipush (v := 81) hx hb dX13_init_1355 (by decide) ?_
  refine lv_bipush (v := 22) hx hb dX13_init_1357 (by decide) ?_
  refine va_bast (i := 81) (x := 22) hx hb hK hP hD hS 2 1 rfl rfl (vp_in_iff.mpr ⟨by decide, by decide⟩) dX13_init_1359 (fun H locs hP hD hS => ?_)
  generalize hf214 : upd f213 (Int32.toNatClampNeg 81) (vp_nar .byte 22) = f214 at hP hD
  have hP : va_P (dC, dI) vwCl [(c0, .inr (14, [.ref q1, .null, .null, .null, .int 0, .int 0, .int 0, .null, .null, .null, .int 0, .null, .null, .int 0, .int 0, .int 0, .int 0, .int 0, .int 0, .int 0, .int 0, .int 0, .int 0, .int 0, .int 0, .int 0, .int 0, .int 0, .int 0, .null, .int 0, .int 0, .int 0, .int 0, .null, .int 0, .int 0])), (q1, .inl (y2, 128, .inr (.inl f130))), (q131, .inl (y132, 128, .inl f214))] H := hP
  have hD : va_D A [(c0, .inr (14, [.ref q1, .null, .null, .null, .int 0, .int 0, .int 0, .null, .null, .null, .int 0, .null, .null, .int 0, .int 0, .int 0, .int 0, .int 0, .int 0, .int 0, .int 0, .int 0, .int 0, .int 0, .int 0, .int 0, .int 0, .int 0, .int 0, .null, .int 0, .int 0, .int 0, .int 0, .null, .int 0, .int 0])), (q1, .inl (y2, 128, .inr (.inl f130))), (q131, .inl (y132, 128, .inl f214))] := hD
  refine lv_dup hx hb dX13_init_1360 rfl ?_
  refine lv_bipush (v := 82) hx hb dX13_init_1361 (by decide) ?_
  refine lv_bipush (v := 23) hx hb dX13_init_1363 (by decide) ?_
  refine va_bast (i := 82) (x := 23) hx hb hK hP hD hS 2 1 rfl rfl (vp_in_iff.mpr ⟨by decide, by decide⟩) dX13_init_1365 (fun H locs hP hD hS => ?_)
  generalize hf215 : upd f214 (Int32.toNatClampNeg 82) (vp_nar .byte 23) = f215 at hP hD
  have hP : va_P (dC, dI) vwCl [(c0, .inr (14, [.ref q1, .null, .null, .null, .int 0, .int 0, .int 0, .null, .null, .null, .int 0, .null, .null, .int 0, .int 0, .int 0, .int 0, .int 0, .int 0, .int 0, .int 0, .int 0, .int 0, .int 0, .int 0, .int 0, .int 0, .int 0, .int 0, .null, .int 0, .int 0, .int 0, .int 0, .null, .int 0, .int 0])), (q1, .inl (y2, 128, .inr (.inl f130))), (q131, .inl (y132, 128, .inl f215))] H := hP
  have hD : va_D A [(c0, .inr (14, [.ref q1, .null, .null, .null, .int 0, .int 0, .int 0, .null, .null, .null, .int 0, .null, .null, .int 0, .int 0, .int 0, .int 0, .int 0, .int 0, .int 0, .int 0, .int 0, .int 0, .int 0, .int 0, .int 0, .int 0, .int 0, .int 0, .null, .int 0, .int 0, .int 0, .int 0, .null, .int 0, .int 0])), (q1, .inl (y2, 128, .inr (.inl f130))), (q131, .inl (y132, 128, .inl f215))] := hD
  refine lv_dup hx hb dX13_init_1366 rfl ?_
  refine lv_bipush (v := 83) hx hb dX13_init_1367 (by decide) ?_
  refine lv_bipush (v := 23) hx hb dX13_init_1369 (by decide) ?_
  refine va_bast (i := 83) (x := 23) hx hb hK hP hD hS 2 1 rfl rfl (vp_in_iff.mpr ⟨by decide, by decide⟩) dX13_init_1371 (fun H locs hP hD hS => ?_)
  generalize hf216 : upd f215 (Int32.toNatClampNeg 83) (vp_nar .byte 23) = f216 at hP hD
  have hP : va_P (dC, dI) vwCl [(c0, .inr (14, [.ref q1, .null, .null, .null, .int 0, .int 0, .int 0, .null, .null, .null, .int 0, .null, .null, .int 0, .int 0, .int 0, .int 0, .int 0, .int 0, .int 0, .int 0, .int 0, .int 0, .int 0, .int 0, .int 0, .int 0, .int 0, .int 0, .null, .int 0, .int 0, .int 0, .int 0, .null, .int 0, .int 0])), (q1, .inl (y2, 128, .inr (.inl f130))), (q131, .inl (y132, 128, .inl f216))] H := hP
  have hD : va_D A [(c0, .inr (14, [.ref q1, .null, .null, .null, .int 0, .int 0, .int 0, .null, .null, .null, .int 0, .null, .null, .int 0, .int 0, .int 0, .int 0, .int 0, .int 0, .int 0, .int 0, .int 0, .int 0, .int 0, .int 0, .int 0, .int 0, .int 0, .int 0, .null, .int 0, .int 0, .int 0, .int 0, .null, .int 0, .int 0])), (q1, .inl (y2, 128, .inr (.inl f130))), (q131, .inl (y132, 128, .inl f216))] := hD
  refine lv_dup hx hb dX13_init_1372 rfl ?_
  refine lv_bipush (v := 84) hx hb dX13_init_1373 (by decide) ?_
  refine lv_bipush (v := 23) hx hb dX13_init_1375 (by decide) ?_
  refine va_bast (i := 84) (x := 23) hx hb hK hP hD hS 2 1 rfl rfl (vp_in_iff.mpr ⟨by decide, by decide⟩) dX13_init_1377 (fun H locs hP hD hS => ?_)
  generalize hf217 : upd f216 (Int32.toNatClampNeg 84) (vp_nar .byte 23) = f217 at hP hD
  have hP : va_P (dC, dI) vwCl [(c0, .inr (14, [.ref q1, .null, .null, .null, .int 0, .int 0, .int 0, .null, .null, .null, .int 0, .null, .null, .int 0, .int 0, .int 0, .int 0, .int 0, .int 0, .int 0, .int 0, .int 0, .int 0, .int 0, .int 0, .int 0, .int 0, .int 0, .int 0, .null, .int 0, .int 0, .int 0, .int 0, .null, .int 0, .int 0])), (q1, .inl (y2, 128, .inr (.inl f130))), (q131, .inl (y132, 128, .inl f217))] H := hP
  have hD : va_D A [(c0, .inr (14, [.ref q1, .null, .null, .null, .int 0, .int 0, .int 0, .null, .null, .null, .int 0, .null, .null, .int 0, .int 0, .int 0, .int 0, .int 0, .int 0, .int 0, .int 0, .int 0, .int 0, .int 0, .int 0, .int 0, .int 0, .int 0, .int 0, .null, .int 0, .int 0, .int 0, .int 0, .null, .int 0, .int 0])), (q1, .inl (y2, 128, .inr (.inl f130))), (q131, .inl (y132, 128, .inl f217))] := hD
  refine lv_dup hx hb dX13_init_1378 rfl ?_
  refine lv_bipush (v := 85) hx hb dX13_init_1379 (by decide) ?_
  refine lv_bipush (v := 23) hx hb dX13_init_1381 (by decide) ?_
  refine va_bast (i := 85) (x := 23) hx hb hK hP hD hS 2 1 rfl rfl (vp_in_iff.mpr ⟨by decide, by decide⟩) dX13_init_1383 (fun H locs hP hD hS => ?_)
  generalize hf218 : upd f217 (Int32.toNatClampNeg 85) (vp_nar .byte 23) = f218 at hP hD
  have hP : va_P (dC, dI) vwCl [(c0, .inr (14, [.ref q1, .null, .null, .null, .int 0, .int 0, .int 0, .null, .null, .null, .int 0, .null, .null, .int 0, .int 0, .int 0, .int 0, .int 0, .int 0, .int 0, .int 0, .int 0, .int 0, .int 0, .int 0, .int 0, .int 0, .int 0, .int 0, .null, .int 0, .int 0, .int 0, .int 0, .null, .int 0, .int 0])), (q1, .inl (y2, 128, .inr (.inl f130))), (q131, .inl (y132, 128, .inl f218))] H := hP
  have hD : va_D A [(c0, .inr (14, [.ref q1, .null, .null, .null, .int 0, .int 0, .int 0, .null, .null, .null, .int 0, .null, .null, .int 0, .int 0, .int 0, .int 0, .int 0, .int 0, .int 0, .int 0, .int 0, .int 0, .int 0, .int 0, .int 0, .int 0, .int 0, .int 0, .null, .int 0, .int 0, .int 0, .int 0, .null, .int 0, .int 0])), (q1, .inl (y2, 128, .inr (.inl f130))), (q131, .inl (y132, 128, .inl f218))] := hD
  refine lv_dup hx hb dX13_init_1384 rfl ?_
  refine lv_bipush (v := 86) hx hb dX13_init_1385 (by decide) ?_
  refine lv_bipush (v := 24) hx hb dX13_init_1387 (by decide) ?_
  refine va_bast (i := 86) (x := 24) hx hb hK hP hD hS 2 1 rfl rfl (vp_in_iff.mpr ⟨by decide, by decide⟩) dX13_init_1389 (fun H locs hP hD hS => ?_)
  generalize hf219 : upd f218 (Int32.toNatClampNeg 86) (vp_nar .byte 24) = f219 at hP hD
  have hP : va_P (dC, dI) vwCl [(c0, .inr (14, [.ref q1, .null, .null, .null, .int 0, .int 0, .int 0, .null, .null, .null, .int 0, .null, .null, .int 0, .int 0, .int 0, .int 0, .int 0, .int 0, .int 0, .int 0, .int 0, .int 0, .int 0, .int 0, .int 0, .int 0, .int 0, .int 0, .null, .int 0, .int 0, .int 0, .int 0, .null, .int 0, .int 0])), (q1, .inl (y2, 128, .inr (.inl f130))), (q131, .inl (y132, 128, .inl f219))] H := hP
  have hD : va_D A [(c0, .inr (14, [.ref q1, .null, .null, .null, .int 0, .int 0, .int 0, .null, .null, .null, .int 0, .null, .null, .int 0, .int 0, .int 0, .int 0, .int 0, .int 0, .int 0, .int 0, .int 0, .int 0, .int 0, .int 0, .int 0, .int 0, .int 0, .int 0, .null, .int 0, .int 0, .int 0, .int 0, .null, .int 0, .int 0])), (q1, .inl (y2, 128, .inr (.inl f130))), (q131, .inl (y132, 128, .inl f219))] := hD
  refine lv_dup hx hb dX13_init_1390 rfl ?_
  refine lv_bipush (v := 87) hx hb dX13_init_1391 (by decide) ?_
  refine lv_bipush (v := 24) hx hb dX13_init_1393 (by decide) ?_
  refine va_bast (i := 87) (x := 24) hx hb hK hP hD hS 2 1 rfl rfl (vp_in_iff.mpr ⟨by decide, by decide⟩) dX13_init_1395 (fun H locs hP hD hS => ?_)
  generalize hf220 : upd f219 (Int32.toNatClampNeg 87) (vp_nar .byte 24) = f220 at hP hD
  have hP : va_P (dC, dI) vwCl [(c0, .inr (14, [.ref q1, .null, .null, .null, .int 0, .int 0, .int 0, .null, .null, .null, .int 0, .null, .null, .int 0, .int 0, .int 0, .int 0, .int 0, .int 0, .int 0, .int 0, .int 0, .int 0, .int 0, .int 0, .int 0, .int 0, .int 0, .int 0, .null, .int 0, .int 0, .int 0, .int 0, .null, .int 0, .int 0])), (q1, .inl (y2, 128, .inr (.inl f130))), (q131, .inl (y132, 128, .inl f220))] H := hP
  have hD : va_D A [(c0, .inr (14, [.ref q1, .null, .null, .null, .int 0, .int 0, .int 0, .null, .null, .null, .int 0, .null, .null, .int 0, .int 0, .int 0, .int 0, .int 0, .int 0, .int 0, .int 0, .int 0, .int 0, .int 0, .int 0, .int 0, .int 0, .int 0, .int 0, .null, .int 0, .int 0, .int 0, .int 0, .null, .int 0, .int 0])), (q1, .inl (y2, 128, .inr (.inl f130))), (q131, .inl (y132, 128, .inl f220))] := hD
  refine lv_dup hx hb dX13_init_1396 rfl ?_
  refine lv_bipush (v := 88) hx hb dX13_init_1397 (by decide) ?_
  refine lv_bipush (v := 25) hx hb dX13_init_1399 (by decide) ?_
  refine va_bast (i := 88) (x := 25) hx hb hK hP hD hS 2 1 rfl rfl (vp_in_iff.mpr ⟨by decide, by decide⟩) dX13_init_1401 (fun H locs hP hD hS => ?_)
  generalize hf221 : upd f220 (Int32.toNatClampNeg 88) (vp_nar .byte 25) = f221 at hP hD
  have hP : va_P (dC, dI) vwCl [(c0, .inr (14, [.ref q1, .null, .null, .null, .int 0, .int 0, .int 0, .null, .null, .null, .int 0, .null, .null, .int 0, .int 0, .int 0, .int 0, .int 0, .int 0, .int 0, .int 0, .int 0, .int 0, .int 0, .int 0, .int 0, .int 0, .int 0, .int 0, .null, .int 0, .int 0, .int 0, .int 0, .null, .int 0, .int 0])), (q1, .inl (y2, 128, .inr (.inl f130))), (q131, .inl (y132, 128, .inl f221))] H := hP
  have hD : va_D A [(c0, .inr (14, [.ref q1, .null, .null, .null, .int 0, .int 0, .int 0, .null, .null, .null, .int 0, .null, .null, .int 0, .int 0, .int 0, .int 0, .int 0, .int 0, .int 0, .int 0, .int 0, .int 0, .int 0, .int 0, .int 0, .int 0, .int 0, .int 0, .null, .int 0, .int 0, .int 0, .int 0, .null, .int 0, .int 0])), (q1, .inl (y2, 128, .inr (.inl f130))), (q131, .inl (y132, 128, .inl f221))] := hD
  refine lv_dup hx hb dX13_init_1402 rfl ?_
  refine lv_bipush (v := 89) hx hb dX13_init_1403 (by decide) ?_
  refine lv_bipush (v := 26) hx hb dX13_init_1405 (by decide) ?_
  refine va_bast (i := 89) (x := 26) hx hb hK hP hD hS 2 1 rfl rfl (vp_in_iff.mpr ⟨by decide, by decide⟩) dX13_init_1407 (fun H locs hP hD hS => ?_)
  generalize hf222 : upd f221 (Int32.toNatClampNeg 89) (vp_nar .byte 26) = f222 at hP hD
  have hP : va_P (dC, dI) vwCl [(c0, .inr (14, [.ref q1, .null, .null, .null, .int 0, .int 0, .int 0, .null, .null, .null, .int 0, .null, .null, .int 0, .int 0, .int 0, .int 0, .int 0, .int 0, .int 0, .int 0, .int 0, .int 0, .int 0, .int 0, .int 0, .int 0, .int 0, .int 0, .null, .int 0, .int 0, .int 0, .int 0, .null, .int 0, .int 0])), (q1, .inl (y2, 128, .inr (.inl f130))), (q131, .inl (y132, 128, .inl f222))] H := hP
  have hD : va_D A [(c0, .inr (14, [.ref q1, .null, .null, .null, .int 0, .int 0, .int 0, .null, .null, .null, .int 0, .null, .null, .int 0, .int 0, .int 0, .int 0, .int 0, .int 0, .int 0, .int 0, .int 0, .int 0, .int 0, .int 0, .int 0, .int 0, .int 0, .int 0, .null, .int 0, .int 0, .int 0, .int 0, .null, .int 0, .int 0])), (q1, .inl (y2, 128, .inr (.inl f130))), (q131, .inl (y132, 128, .inl f222))] := hD
  refine lv_dup hx hb dX13_init_1408 rfl ?_
  refine lv_bipush (v := 90) hx hb dX13_init_1409 (by decide) ?_
  refine lv_bipush (v := 27) hx hb dX13_init_1411 (by decide) ?_
  refine va_bast (i := 90) (x := 27) hx hb hK hP hD hS 2 1 rfl rfl (vp_in_iff.mpr ⟨by decide, by decide⟩) dX13_init_1413 (fun H locs hP hD hS => ?_)
  generalize hf223 : upd f222 (Int32.toNatClampNeg 90) (vp_nar .byte 27) = f223 at hP hD
  have hP : va_P (dC, dI) vwCl [(c0, .inr (14, [.ref q1, .null, .null, .null, .int 0, .int 0, .int 0, .null, .null, .null, .int 0, .null, .null, .int 0, .int 0, .int 0, .int 0, .int 0, .int 0, .int 0, .int 0, .int 0, .int 0, .int 0, .int 0, .int 0, .int 0, .int 0, .int 0, .null, .int 0, .int 0, .int 0, .int 0, .null, .int 0, .int 0])), (q1, .inl (y2, 128, .inr (.inl f130))), (q131, .inl (y132, 128, .inl f223))] H := hP
  have hD : va_D A [(c0, .inr (14, [.ref q1, .null, .null, .null, .int 0, .int 0, .int 0, .null, .null, .null, .int 0, .null, .null, .int 0, .int 0, .int 0, .int 0, .int 0, .int 0, .int 0, .int 0, .int 0, .int 0, .int 0, .int 0, .int 0, .int 0, .int 0, .int 0, .null, .int 0, .int 0, .int 0, .int 0, .null, .int 0, .int 0])), (q1, .inl (y2, 128, .inr (.inl f130))), (q131, .inl (y132, 128, .inl f223))] := hD
  refine lv_dup hx hb dX13_init_1414 rfl ?_
  refine lv_bipush (v := 91) hx hb dX13_init_1415 (by decide) ?_
  refine lv_bipush (v := 27) hx hb dX13_init_1417 (by decide) ?_
  refine va_bast (i := 91) (x := 27) hx hb hK hP hD hS 2 1 rfl rfl (vp_in_iff.mpr ⟨by decide, by decide⟩) dX13_init_1419 (fun H locs hP hD hS => ?_)
  generalize hf224 : upd f223 (Int32.toNatClampNeg 91) (vp_nar .byte 27) = f224 at hP hD
  have hP : va_P (dC, dI) vwCl [(c0, .inr (14, [.ref q1, .null, .null, .null, .int 0, .int 0, .int 0, .null, .null, .null, .int 0, .null, .null, .int 0, .int 0, .int 0, .int 0, .int 0, .int 0, .int 0, .int 0, .int 0, .int 0, .int 0, .int 0, .int 0, .int 0, .int 0, .int 0, .null, .int 0, .int 0, .int 0, .int 0, .null, .int 0, .int 0])), (q1, .inl (y2, 128, .inr (.inl f130))), (q131, .inl (y132, 128, .inl f224))] H := hP
  have hD : va_D A [(c0, .inr (14, [.ref q1, .null, .null, .null, .int 0, .int 0, .int 0, .null, .null, .null, .int 0, .null, .null, .int 0, .int 0, .int 0, .int 0, .int 0, .int 0, .int 0, .int 0, .int 0, .int 0, .int 0, .int 0, .int 0, .int 0, .int 0, .int 0, .null, .int 0, .int 0, .int 0, .int 0, .null, .int 0, .int 0])), (q1, .inl (y2, 128, .inr (.inl f130))), (q131, .inl (y132, 128, .inl f224))] := hD
  refine lv_dup hx hb dX13_init_1420 rfl ?_
  refine lv_bipush (v := 92) hx hb dX13_init_1421 (by decide) ?_
  refine lv_bipush (v := 28) hx hb dX13_init_1423 (by decide) ?_
  refine va_bast (i := 92) (x := 28) hx hb hK hP hD hS 2 1 rfl rfl (vp_in_iff.mpr ⟨by decide, by decide⟩) dX13_init_1425 (fun H locs hP hD hS => ?_)
  generalize hf225 : upd f224 (Int32.toNatClampNeg 92) (vp_nar .byte 28) = f225 at hP hD
  have hP : va_P (dC, dI) vwCl [(c0, .inr (14, [.ref q1, .null, .null, .null, .int 0, .int 0, .int 0, .null, .null, .null, .int 0, .null, .null, .int 0, .int 0, .int 0, .int 0, .int 0, .int 0, .int 0, .int 0, .int 0, .int 0, .int 0, .int 0, .int 0, .int 0, .int 0, .int 0, .null, .int 0, .int 0, .int 0, .int 0, .null, .int 0, .int 0])), (q1, .inl (y2, 128, .inr (.inl f130))), (q131, .inl (y132, 128, .inl f225))] H := hP
  have hD : va_D A [(c0, .inr (14, [.ref q1, .null, .null, .null, .int 0, .int 0, .int 0, .null, .null, .null, .int 0, .null, .null, .int 0, .int 0, .int 0, .int 0, .int 0, .int 0, .int 0, .int 0, .int 0, .int 0, .int 0, .int 0, .int 0, .int 0, .int 0, .int 0, .null, .int 0, .int 0, .int 0, .int 0, .null, .int 0, .int 0])), (q1, .inl (y2, 128, .inr (.inl f130))), (q131, .inl (y132, 128, .inl f225))] := hD
  refine lv_dup hx hb dX13_init_1426 rfl ?_
  refine lv_bipush (v := 93) hx hb dX13_init_1427 (by decide) ?_
  refine lv_bipush (v := 28) hx hb dX13_init_1429 (by decide) ?_
  refine va_bast (i := 93) (x := 28) hx hb hK hP hD hS 2 1 rfl rfl (vp_in_iff.mpr ⟨by decide, by decide⟩) dX13_init_1431 (fun H locs hP hD hS => ?_)
  generalize hf226 : upd f225 (Int32.toNatClampNeg 93) (vp_nar .byte 28) = f226 at hP hD
  have hP : va_P (dC, dI) vwCl [(c0, .inr (14, [.ref q1, .null, .null, .null, .int 0, .int 0, .int 0, .null, .null, .null, .int 0, .null, .null, .int 0, .int 0, .int 0, .int 0, .int 0, .int 0, .int 0, .int 0, .int 0, .int 0, .int 0, .int 0, .int 0, .int 0, .int 0, .int 0, .null, .int 0, .int 0, .int 0, .int 0, .null, .int 0, .int 0])), (q1, .inl (y2, 128, .inr (.inl f130))), (q131, .inl (y132, 128, .inl f226))] H := hP
  have hD : va_D A [(c0, .inr (14, [.ref q1, .null, .null, .null, .int 0, .int 0, .int 0, .null, .null, .null, .int 0, .null, .null, .int 0, .int 0, .int 0, .int 0, .int 0, .int 0, .int 0, .int 0, .int 0, .int 0, .int 0, .int 0, .int 0, .int 0, .int 0, .int 0, .null, .int 0, .int 0, .int 0, .int 0, .null, .int 0, .int 0])), (q1, .inl (y2, 128, .inr (.inl f130))), (q131, .inl (y132, 128, .inl f226))] := hD
  refine lv_dup hx hb dX13_init_1432 rfl ?_
  refine lv_bipush (v := 94) hx hb dX13_init_1433 (by decide) ?_
  refine lv_bipush (v := 29) hx hb dX13_init_1435 (by decide) ?_
  exact kk f226 _ _ _ hK hP hD hS hl

set_option maxHeartbeats 40000000 in
set_option maxRecDepth 100000 in
theorem k_X13_init_s10 {p : Program} {l : Launch} {e : Env} {s : State} {m : MethodId} {args : Array Value} {below : List Frame} {meth : Method} {c : Code} {Q : State → Prop} {A : Nat → Prop} (dC : Nat → ClassId) (dI : Nat → Nat → Nat) (c0 : Nat) (q1 : Nat) (y2 : ClassId) (q131 : Nat) (y132 : ClassId) (f130 : Nat → Int64) (f226 : Nat → Int32) (hlt : l.stackTraces = false) (hx : p.tables.exec = Jvm.exec) (hb : c.code = cX13_init) (hml : c.maxLocals = 1) (hown : s.vm.findClass RX13 = some m.cls) (hts : ∀ w ∈ ow_k_X13_init, w.before args s = true) (hin : meth.name = "<init>") (hN : nv_E A s) (hA : ∀ q : Nat, s.heap.size ≤ q → A q) {H : Heap} {locs : List Loc} {ls : Array Slot} (hK : va_K (dC, dI) vwCl [(y2, .long), (y132, .byte)] s) (hP : va_P (dC, dI) vwCl [(c0, .inr (14, [.ref q1, .null, .null, .null, .int 0, .int 0, .int 0, .null, .null, .null, .int 0, .null, .null, .int 0, .int 0, .int 0, .int 0, .int 0, .int 0, .int 0, .int 0, .int 0, .int 0, .int 0, .int 0, .int 0, .int 0, .int 0, .int 0, .null, .int 0, .int 0, .int 0, .int 0, .null, .int 0, .int 0])), (q1, .inl (y2, 128, .inr (.inl f130))), (q131, .inl (y132, 128, .inl f226))] H) (hD : va_D A [(c0, .inr (14, [.ref q1, .null, .null, .null, .int 0, .int 0, .int 0, .null, .null, .null, .int 0, .null, .null, .int 0, .int 0, .int 0, .int 0, .int 0, .int 0, .int 0, .int 0, .int 0, .int 0, .int 0, .int 0, .int 0, .int 0, .int 0, .int 0, .null, .int 0, .int 0, .int 0, .int 0, .null, .int 0, .int 0])), (q1, .inl (y2, 128, .inr (.inl f130))), (q131, .inl (y132, 128, .inl f226))]) (hS : va_S A s.heap H locs) (hl : lv_has ls 1 [(0, .ref c0)]) (kk : ∀ (f249 : Nat → Int32) (H : Heap) (locs : List Loc) (ls : Array Slot), va_K (dC, dI) vwCl [(y2, .long), (y132, .byte)] s → va_P (dC, dI) vwCl [(c0, .inr (14, [.ref q1, .null, .null, .null, .int 0, .int 0, .int 0, .null, .null, .null, .int 0, .null, .null, .int 0, .int 0, .int 0, .int 0, .int 0, .int 0, .int 0, .int 0, .int 0, .int 0, .int 0, .int 0, .int 0, .int 0, .int 0, .int 0, .null, .int 0, .int 0, .int 0, .int 0, .null, .int 0, .int 0])), (q1, .inl (y2, 128, .inr (.inl f130))), (q131, .inl (y132, 128, .inl f249))] H → va_D A [(c0, .inr (14, [.ref q1, .null, .null, .null, .int 0, .int 0, .int 0, .null, .null, .null, .int 0, .null, .null, .int 0, .int 0, .int 0, .int 0, .int 0, .int 0, .int 0, .int 0, .int 0, .int 0, .int 0, .int 0, .int 0, .int 0, .int 0, .int 0, .null, .int 0, .int 0, .int 0, .int 0, .null, .int 0, .int 0])), (q1, .inl (y2, 128, .inr (.inl f130))), (q131, .inl (y132, 128, .inl f249))] → va_S A s.heap H locs → lv_has ls 1 [(0, .ref c0)] → W p l e (headSpec ow_k_X13_init ({ frames := 1, cells := 10, slots := 131956, locals := 12 })).room s m args below meth c H locs 2 256 Q (F0 m 1571 ls [.ref q131, .ref q131, .ref c0])) : W p l e (headSpec ow_k_X13_init ({ frames := 1, cells := 10, slots := 131956, locals := 12 })).room s m args below meth c H locs 2 256 Q (F0 m 1437 ls [.int 29, .int 94, .ref q131, .ref q131, .ref c0]) := by
  refine va_bast (i := 94) (x := 29) hx hb hK hP hD hS 2 1 rfl rfl (vp_in_iff.mpr ⟨by decide, by decide⟩) dX13_init_1437 (fun H locs hP hD hS => ?_)
  generalize hf227 : upd f226 (Int32.toNatClampNeg 94) (vp_nar .byte 29) = f227 at hP hD
  have hP : va_P (dC, dI) vwCl [(c0, .inr (14, [.ref q1, .null, .null, .null, .int 0, .int 0, .int 0, .null, .null, .null, .int 0, .null, .null, .int 0, .int 0, .int 0, .int 0, .int 0, .int 0, .int 0, .int 0, .int 0, .int 0, .int 0, .int 0, .int 0, .int 0, .int 0, .int 0, .null, .int 0, .int 0, .int 0, .int 0, .null, .int 0, .int 0])), (q1, .inl (y2, 128, .inr (.inl f130))), (q131, .inl (y132, 128, .inl f227))] H := hP
  have hD : va_D A [(c0, .inr (14, [.ref q1, .null, .null, .null, .int 0, .int 0, .int 0, .null, .null, .null, .int 0, .null, .null, .int 0, .int 0, .int 0, .int 0, .int 0, .int 0, .int 0, .int 0, .int 0, .int 0, .int 0, .int 0, .int 0, .int 0, .int 0, .int 0, .null, .int 0, .int 0, .int 0, .int 0, .null, .int 0, .int 0])), (q1, .inl (y2, 128, .inr (.inl f130))), (q131, .inl (y132, 128, .inl f227))] := hD
  refine lv_dup hx hb dX13_init_1438 rfl ?_
  refine lv_bipush (v := 95) hx hb dX13_init_1439 (by decide) ?_
  refine lv_bipush (v := 31) hx hb dX13_init_1441 (by decide) ?_
  refine va_bast (i := 95) (x := 31) hx hb hK hP hD hS 2 1 rfl rfl (vp_in_iff.mpr ⟨by decide, by decide⟩) dX13_init_1443 (fun H locs hP hD hS => ?_)
  generalize hf228 : upd f227 (Int32.toNatClampNeg 95) (vp_nar .byte 31) = f228 at hP hD
  have hP : va_P (dC, dI) vwCl [(c0, .inr (14, [.ref q1, .null, .null, .null, .int 0, .int 0, .int 0, .null, .null, .null, .int 0, .null, .null, .int 0, .int 0, .int 0, .int 0, .int 0, .int 0, .int 0, .int 0, .int 0, .int 0, .int 0, .int 0, .int 0, .int 0, .int 0, .int 0, .null, .int 0, .int 0, .int 0, .int 0, .null, .int 0, .int 0])), (q1, .inl (y2, 128, .inr (.inl f130))), (q131, .inl (y132, 128, .inl f228))] H := hP
  have hD : va_D A [(c0, .inr (14, [.ref q1, .null, .null, .null, .int 0, .int 0, .int 0, .null, .null, .null, .int 0, .null, .null, .int 0, .int 0, .int 0, .int 0, .int 0, .int 0, .int 0, .int 0, .int 0, .int 0, .int 0, .int 0, .int 0, .int 0, .int 0, .int 0, .null, .int 0, .int 0, .int 0, .int 0, .null, .int 0, .int 0])), (q1, .inl (y2, 128, .inr (.inl f130))), (q131, .inl (y132, 128, .inl f228))] := hD
  refine lv_dup hx hb dX13_init_1444 rfl ?_
  refine lv_bipush (v := 96) hx hb dX13_init_1445 (by decide) ?_
  refine lv_bipush (v := 31) hx hb dX13_init_1447 (by decide) ?_
  refine va_bast (i := 96) (x := 31) hx hb hK hP hD hS 2 1 rfl rfl (vp_in_iff.mpr ⟨by decide, by decide⟩) dX13_init_1449 (fun H locs hP hD hS => ?_)
  generalize hf229 : upd f228 (Int32.toNatClampNeg 96) (vp_nar .byte 31) = f229 at hP hD
  have hP : va_P (dC, dI) vwCl [(c0, .inr (14, [.ref q1, .null, .null, .null, .int 0, .int 0, .int 0, .null, .null, .null, .int 0, .null, .null, .int 0, .int 0, .int 0, .int 0, .int 0, .int 0, .int 0, .int 0, .int 0, .int 0, .int 0, .int 0, .int 0, .int 0, .int 0, .int 0, .null, .int 0, .int 0, .int 0, .int 0, .null, .int 0, .int 0])), (q1, .inl (y2, 128, .inr (.inl f130))), (q131, .inl (y132, 128, .inl f229))] H := hP
  have hD : va_D A [(c0, .inr (14, [.ref q1, .null, .null, .null, .int 0, .int 0, .int 0, .null, .null, .null, .int 0, .null, .null, .int 0, .int 0, .int 0, .int 0, .int 0, .int 0, .int 0, .int 0, .int 0, .int 0, .int 0, .int 0, .int 0, .int 0, .int 0, .int 0, .null, .int 0, .int 0, .int 0, .int 0, .null, .int 0, .int 0])), (q1, .inl (y2, 128, .inr (.inl f130))), (q131, .inl (y132, 128, .inl f229))] := hD
  refine lv_dup hx hb dX13_init_1450 rfl ?_
  refine lv_bipush (v := 97) hx hb dX13_init_1451 (by decide) ?_
  refine lv_bipush (v := 31) hx hb dX13_init_1453 (by decide) ?_
  refine va_bast (i := 97) (x := 31) hx hb hK hP hD hS 2 1 rfl rfl (vp_in_iff.mpr ⟨by decide, by decide⟩) dX13_init_1455 (fun H locs hP hD hS => ?_)
  generalize hf230 : upd f229 (Int32.toNatClampNeg 97) (vp_nar .byte 31) = f230 at hP hD
  have hP : va_P (dC, dI) vwCl [(c0, .inr (14, [.ref q1, .null, .null, .null, .int 0, .int 0, .int 0, .null, .null, .null, .int 0, .null, .null, .int 0, .int 0, .int 0, .int 0, .int 0, .int 0, .int 0, .int 0, .int 0, .int 0, .int 0, .int 0, .int 0, .int 0, .int 0, .int 0, .null, .int 0, .int 0, .int 0, .int 0, .null, .int 0, .int 0])), (q1, .inl (y2, 128, .inr (.inl f130))), (q131, .inl (y132, 128, .inl f230))] H := hP
  have hD : va_D A [(c0, .inr (14, [.ref q1, .null, .null, .null, .int 0, .int 0, .int 0, .null, .null, .null, .int 0, .null, .null, .int 0, .int 0, .int 0, .int 0, .int 0, .int 0, .int 0, .int 0, .int 0, .int 0, .int 0, .int 0, .int 0, .int 0, .int 0, .int 0, .null, .int 0, .int 0, .int 0, .int 0, .null, .int 0, .int 0])), (q1, .inl (y2, 128, .inr (.inl f130))), (q131, .inl (y132, 128, .inl f230))] := hD
  refine lv_dup hx hb dX13_init_1456 rfl ?_
  refine lv_bipush (v := 98) hx hb dX13_init_1457 (by decide) ?_
  refine lv_bipush (v := 31) hx hb dX13_init_1459 (by decide) ?_
  refine va_bast (i := 98) (x := 31) hx hb hK hP hD hS 2 1 rfl rfl (vp_in_iff.mpr ⟨by decide, by decide⟩) dX13_init_1461 (fun H locs hP hD hS => ?_)
  generalize hf231 : upd f230 (Int32.toNatClampNeg 98) (vp_nar .byte 31) = f231 at hP hD
  have hP : va_P (dC, dI) vwCl [(c0, .inr (14, [.ref q1, .null, .null, .null, .int 0, .int 0, .int 0, .null, .null, .null, .int 0, .null, .null, .int 0, .int 0, .int 0, .int 0, .int 0, .int 0, .int 0, .int 0, .int 0, .int 0, .int 0, .int 0, .int 0, .int 0, .int 0, .int 0, .null, .int 0, .int 0, .int 0, .int 0, .null, .int 0, .int 0])), (q1, .inl (y2, 128, .inr (.inl f130))), (q131, .inl (y132, 128, .inl f231))] H := hP
  have hD : va_D A [(c0, .inr (14, [.ref q1, .null, .null, .null, .int 0, .int 0, .int 0, .null, .null, .null, .int 0, .null, .null, .int 0, .int 0, .int 0, .int 0, .int 0, .int 0, .int 0, .int 0, .int 0, .int 0, .int 0, .int 0, .int 0, .int 0, .int 0, .int 0, .null, .int 0, .int 0, .int 0, .int 0, .null, .int 0, .int 0])), (q1, .inl (y2, 128, .inr (.inl f130))), (q131, .inl (y132, 128, .inl f231))] := hD
  refine lv_dup hx hb dX13_init_1462 rfl ?_
  refine lv_bipush (v := 99) hx hb dX13_init_1463 (by decide) ?_
  refine lv_bipush (v := 32) hx hb dX13_init_1465 (by decide) ?_
  refine va_bast (i := 99) (x := 32) hx hb hK hP hD hS 2 1 rfl rfl (vp_in_iff.mpr ⟨by decide, by decide⟩) dX13_init_1467 (fun H locs hP hD hS => ?_)
  generalize hf232 : upd f231 (Int32.toNatClampNeg 99) (vp_nar .byte 32) = f232 at hP hD
  have hP : va_P (dC, dI) vwCl [(c0, .inr (14, [.ref q1, .null, .null, .null, .int 0, .int 0, .int 0, .null, .null, .null, .int 0, .null, .null, .int 0, .int 0, .int 0, .int 0, .int 0, .int 0, .int 0, .int 0, .int 0, .int 0, .int 0, .int 0, .int 0, .int 0, .int 0, .int 0, .null, .int 0, .int 0, .int 0, .int 0, .null, .int 0, .int 0])), (q1, .inl (y2, 128, .inr (.inl f130))), (q131, .inl (y132, 128, .inl f232))] H := hP
  have hD : va_D A [(c0, .inr (14, [.ref q1, .null, .null, .null, .int 0, .int 0, .int 0, .null, .null, .null, .int 0, .null, .null, .int 0, .int 0, .int 0, .int 0, .int 0, .int 0, .int 0, .int 0, .int 0, .int 0, .int 0, .int 0, .int 0, .int 0, .int 0, .int 0, .null, .int 0, .int 0, .int 0, .int 0, .null, .int 0, .int 0])), (q1, .inl (y2, 128, .inr (.inl f130))), (q131, .inl (y132, 128, .inl f232))] := hD
  refine lv_dup hx hb dX13_init_1468 rfl ?_
  refine lv_bipush (v := 100) hx hb dX13_init_1469 (by decide) ?_
  refine lv_bipush (v := 32) hx hb dX13_init_1471 (by decide) ?_
  refine va_bast (i := 100) (x := 32) hx hb hK hP hD hS 2 1 rfl rfl (vp_in_iff.mpr ⟨by decide, by decide⟩) dX13_init_1473 (fun H locs hP hD hS => ?_)
  generalize hf233 : upd f232 (Int32.toNatClampNeg 100) (vp_nar .byte 32) = f233 at hP hD
  have hP : va_P (dC, dI) vwCl [(c0, .inr (14, [.ref q1, .null, .null, .null, .int 0, .int 0, .int 0, .null, .null, .null, .int 0, .null, .null, .int 0, .int 0, .int 0, .int 0, .int 0, .int 0, .int 0, .int 0, .int 0, .int 0, .int 0, .int 0, .int 0, .int 0, .int 0, .int 0, .null, .int 0, .int 0, .int 0, .int 0, .null, .int 0, .int 0])), (q1, .inl (y2, 128, .inr (.inl f130))), (q131, .inl (y132, 128, .inl f233))] H := hP
  have hD : va_D A [(c0, .inr (14, [.ref q1, .null, .null, .null, .int 0, .int 0, .int 0, .null, .null, .null, .int 0, .null, .null, .int 0, .int 0, .int 0, .int 0, .int 0, .int 0, .int 0, .int 0, .int 0, .int 0, .int 0, .int 0, .int 0, .int 0, .int 0, .int 0, .null, .int 0, .int 0, .int 0, .int 0, .null, .int 0, .int 0])), (q1, .inl (y2, 128, .inr (.inl f130))), (q131, .inl (y132, 128, .inl f233))] := hD
  refine lv_dup hx hb dX13_init_1474 rfl ?_
  refine lv_bipush (v := 101) hx hb dX13_init_1475 (by decide) ?_
  refine lv_bipush (v := 32) hx hb dX13_init_1477 (by decide) ?_
  refine va_bast (i := 101) (x := 32) hx hb hK hP hD hS 2 1 rfl rfl (vp_in_iff.mpr ⟨by decide, by decide⟩) dX13_init_1479 (fun H locs hP hD hS => ?_)
  generalize hf234 : upd f233 (Int32.toNatClampNeg 101) (vp_nar .byte 32) = f234 at hP hD
  have hP : va_P (dC, dI) vwCl [(c0, .inr (14, [.ref q1, .null, .null, .null, .int 0, .int 0, .int 0, .null, .null, .null, .int 0, .null, .null, .int 0, .int 0, .int 0, .int 0, .int 0, .int 0, .int 0, .int 0, .int 0, .int 0, .int 0, .int 0, .int 0, .int 0, .int 0, .int 0, .null, .int 0, .int 0, .int 0, .int 0, .null, .int 0, .int 0])), (q1, .inl (y2, 128, .inr (.inl f130))), (q131, .inl (y132, 128, .inl f234))] H := hP
  have hD : va_D A [(c0, .inr (14, [.ref q1, .null, .null, .null, .int 0, .int 0, .int 0, .null, .null, .null, .int 0, .null, .null, .int 0, .int 0, .int 0, .int 0, .int 0, .int 0, .int 0, .int 0, .int 0, .int 0, .int 0, .int 0, .int 0, .int 0, .int 0, .int 0, .null, .int 0, .int 0, .int 0, .int 0, .null, .int 0, .int 0])), (q1, .inl (y2, 128, .inr (.inl f130))), (q131, .inl (y132, 128, .inl f234))] := hD
  refine lv_dup hx hb dX13_init_1480 rfl ?_
  refine lv_bipush (v := 102) hx hb dX13_init_1481 (by decide) ?_
  refine lv_bipush (v := 33) hx hb dX13_init_1483 (by decide) ?_
  refine va_bast (i := 102) (x := 33) hx hb hK hP hD hS 2 1 rfl rfl (vp_in_iff.mpr ⟨by decide, by decide⟩) dX13_init_1485 (fun H locs hP hD hS => ?_)
  generalize hf235 : upd f234 (Int32.toNatClampNeg 102) (vp_nar .byte 33) = f235 at hP hD
  have hP : va_P (dC, dI) vwCl [(c0, .inr (14, [.ref q1, .null, .null, .null, .int 0, .int 0, .int 0, .null, .null, .null, .int 0, .null, .null, .int 0, .int 0, .int 0, .int 0, .int 0, .int 0, .int 0, .int 0, .int 0, .int 0, .int 0, .int 0, .int 0, .int 0, .int 0, .int 0, .null, .int 0, .int 0, .int 0, .int 0, .null, .int 0, .int 0])), (q1, .inl (y2, 128, .inr (.inl f130))), (q131, .inl (y132, 128, .inl f235))] H := hP
  have hD : va_D A [(c0, .inr (14, [.ref q1, .null, .null, .null, .int 0, .int 0, .int 0, .null, .null, .null, .int 0, .null, .null, .int 0, .int 0, .int 0, .int 0, .int 0, .int 0, .int 0, .int 0, .int 0, .int 0, .int 0, .int 0, .int 0, .int 0, .int 0, .int 0, .null, .int 0, .int 0, .int 0, .int 0, .null, .int 0, .int 0])), (q1, .inl (y2, 128, .inr (.inl f130))), (q131, .inl (y132, 128, .inl f235))] := hD
  refine lv_dup hx hb dX13_init_1486 rfl ?_
  refine lv_bipush (v := 103) hx hb dX13_init_1487 (by decide) ?_
  refine lv_bipush (v := 34) hx hb dX13_init_1489 (by decide) ?_
  refine va_bast (i := 103) (x := 34) hx hb hK hP hD hS 2 1 rfl rfl (vp_in_iff.mpr ⟨by decide, by decide⟩) dX13_init_1491 (fun H locs hP hD hS => ?_)
  generalize hf236 : upd f235 (Int32.toNatClampNeg 103) (vp_nar .byte 34) = f236 at hP hD
  have hP : va_P (dC, dI) vwCl [(c0, .inr (14, [.ref q1, .null, .null, .null, .int 0, .int 0, .int 0, .null, .null, .null, .int 0, .null, .null, .int 0, .int 0, .int 0, .int 0, .int 0, .int 0, .int 0, .int 0, .int 0, .int 0, .int 0, .int 0, .int 0, .int 0, .int 0, .int 0, .null, .int 0, .int 0, .int 0, .int 0, .null, .int 0, .int 0])), (q1, .inl (y2, 128, .inr (.inl f130))), (q131, .inl (y132, 128, .inl f236))] H := hP
  have hD : va_D A [(c0, .inr (14, [.ref q1, .null, .null, .null, .int 0, .int 0, .int 0, .null, .null, .null, .int 0, .null, .null, .int 0, .int 0, .int 0, .int 0, .int 0, .int 0, .int 0, .int 0, .int 0, .int 0, .int 0, .int 0, .int 0, .int 0, .int 0, .int 0, .null, .int 0, .int 0, .int 0, .int 0, .null, .int 0, .int 0])), (q1, .inl (y2, 128, .inr (.inl f130))), (q131, .inl (y132, 128, .inl f236))] := hD
  refine lv_dup hx hb dX13_init_1492 rfl ?_
  refine lv_bipush (v := 104) hx hb dX13_init_1493 (by decide) ?_
  refine lv_bipush (v := 34) hx hb dX13_init_1495 (by decide) ?_
  refine va_bast (i := 104) (x := 34) hx hb hK hP hD hS 2 1 rfl rfl (vp_in_iff.mpr ⟨by decide, by decide⟩) dX13_init_1497 (fun H locs hP hD hS => ?_)
  generalize hf237 : upd f236 (Int32.toNatClampNeg 104) (vp_nar .byte 34) = f237 at hP hD
  have hP : va_P (dC, dI) vwCl [(c0, .inr (14, [.ref q1, .null, .null, .null, .int 0, .int 0, .int 0, .null, .null, .null, .int 0, .null, .null, .int 0, .int 0, .int 0, .int 0, .int 0, .int 0, .int 0, .int 0, .int 0, .int 0, .int 0, .int 0, .int 0, .int 0, .int 0, .int 0, .null, .int 0, .int 0, .int 0, .int 0, .null, .int 0, .int 0])), (q1, .inl (y2, 128, .inr (.inl f130))), (q131, .inl (y132, 128, .inl f237))] H := hP
  have hD : va_D A [(c0, .inr (14, [.ref q1, .null, .null, .null, .int 0, .int 0, .int 0, .null, .null, .null, .int 0, .null, .null, .int 0, .int 0, .int 0, .int 0, .int 0, .int 0, .int 0, .int 0, .int 0, .int 0, .int 0, .int 0, .int 0, .int 0, .int 0, .int 0, .null, .int 0, .int 0, .int 0, .int 0, .null, .int 0, .int 0])), (q1, .inl (y2, 128, .inr (.inl f130))), (q131, .inl (y132, 128, .inl f237))] := hD
  refine lv_dup hx hb dX13_init_1498 rfl ?_
  refine lv_bipush (v := 105) hx hb dX13_init_1499 (by decide) ?_
  refine lv_bipush (v := 34) hx hb dX13_init_1501 (by decide) ?_
  refine va_bast (i := 105) (x := 34) hx hb hK hP hD hS 2 1 rfl rfl (vp_in_iff.mpr ⟨by decide, by decide⟩) dX13_init_1503 (fun H locs hP hD hS => ?_)
  generalize hf238 : upd f237 (Int32.toNatClampNeg 105) (vp_nar .byte 34) = f238 at hP hD
  have hP : va_P (dC, dI) vwCl [(c0, .inr (14, [.ref q1, .null, .null, .null, .int 0, .int 0, .int 0, .null, .null, .null, .int 0, .null, .null, .int 0, .int 0, .int 0, .int 0, .int 0, .int 0, .int 0, .int 0, .int 0, .int 0, .int 0, .int 0, .int 0, .int 0, .int 0, .int 0, .null, .int 0, .int 0, .int 0, .int 0, .null, .int 0, .int 0])), (q1, .inl (y2, 128, .inr (.inl f130))), (q131, .inl (y132, 128, .inl f238))] H := hP
  have hD : va_D A [(c0, .inr (14, [.ref q1, .null, .null, .null, .int 0, .int 0, .int 0, .null, .null, .null, .int 0, .null, .null, .int 0, .int 0, .int 0, .int 0, .int 0, .int 0, .int 0, .int 0, .int 0, .int 0, .int 0, .int 0, .int 0, .int 0, .int 0, .int 0, .null, .int 0, .int 0, .int 0, .int 0, .null, .int 0, .int 0])), (q1, .inl (y2, 128, .inr (.inl f130))), (q131, .inl (y132, 128, .inl f238))] := hD
  refine lv_dup hx hb dX13_init_1504 rfl ?_
  refine lv_bipush (v := 106) hx hb dX13_init_1505 (by decide) ?_
  refine lv_bipush (v := 35) hx hb dX13_init_1507 (by decide) ?_
  refine va_bast (i := 106) (x := 35) hx hb hK hP hD hS 2 1 rfl rfl (vp_in_iff.mpr ⟨by decide, by decide⟩) dX13_init_1509 (fun H locs hP hD hS => ?_)
  generalize hf239 : upd f238 (Int32.toNatClampNeg 106) (vp_nar .byte 35) = f239 at hP hD
  have hP : va_P (dC, dI) vwCl [(c0, .inr (14, [.ref q1, .null, .null, .null, .int 0, .int 0, .int 0, .null, .null, .null, .int 0, .null, .null, .int 0, .int 0, .int 0, .int 0, .int 0, .int 0, .int 0, .int 0, .int 0, .int 0, .int 0, .int 0, .int 0, .int 0, .int 0, .int 0, .null, .int 0, .int 0, .int 0, .int 0, .null, .int 0, .int 0])), (q1, .inl (y2, 128, .inr (.inl f130))), (q131, .inl (y132, 128, .inl f239))] H := hP
  have hD : va_D A [(c0, .inr (14, [.ref q1, .null, .null, .null, .int 0, .int 0, .int 0, .null, .null, .null, .int 0, .null, .null, .int 0, .int 0, .int 0, .int 0, .int 0, .int 0, .int 0, .int 0, .int 0, .int 0, .int 0, .int 0, .int 0, .int 0, .int 0, .int 0, .null, .int 0, .int 0, .int 0, .int 0, .null, .int 0, .int 0])), (q1, .inl (y2, 128, .inr (.inl f130))), (q131, .inl (y132, 128, .inl f239))] := hD
  refine lv_dup hx hb dX13_init_1510 rfl ?_
  refine lv_bipush (v := 107) hx hb dX13_init_1511 (by decide) ?_
  refine lv_bipush (v := 35) hx hb dX13_init_1513 (by decide) ?_
  refine va_bast (i := 107) (x := 35) hx hb hK hP hD hS 2 1 rfl rfl (vp_in_iff.mpr ⟨by decide, by decide⟩) dX13_init_1515 (fun H locs hP hD hS => ?_)
  generalize hf240 : upd f239 (Int32.toNatClampNeg 107) (vp_nar .byte 35) = f240 at hP hD
  have hP : va_P (dC, dI) vwCl [(c0, .inr (14, [.ref q1, .null, .null, .null, .int 0, .int 0, .int 0, .null, .null, .null, .int 0, .null, .null, .int 0, .int 0, .int 0, .int 0, .int 0, .int 0, .int 0, .int 0, .int 0, .int 0, .int 0, .int 0, .int 0, .int 0, .int 0, .int 0, .null, .int 0, .int 0, .int 0, .int 0, .null, .int 0, .int 0])), (q1, .inl (y2, 128, .inr (.inl f130))), (q131, .inl (y132, 128, .inl f240))] H := hP
  have hD : va_D A [(c0, .inr (14, [.ref q1, .null, .null, .null, .int 0, .int 0, .int 0, .null, .null, .null, .int 0, .null, .null, .int 0, .int 0, .int 0, .int 0, .int 0, .int 0, .int 0, .int 0, .int 0, .int 0, .int 0, .int 0, .int 0, .int 0, .int 0, .int 0, .null, .int 0, .int 0, .int 0, .int 0, .null, .int 0, .int 0])), (q1, .inl (y2, 128, .inr (.inl f130))), (q131, .inl (y132, 128, .inl f240))] := hD
  refine lv_dup hx hb dX13_init_1516 rfl ?_
  refine lv_bipush (v := 108) hx hb dX13_init_1517 (by decide) ?_
  refine lv_bipush (v := 35) hx hb dX13_init_1519 (by decide) ?_
  refine va_bast (i := 108) (x := 35) hx hb hK hP hD hS 2 1 rfl rfl (vp_in_iff.mpr ⟨by decide, by decide⟩) dX13_init_1521 (fun H locs hP hD hS => ?_)
  generalize hf241 : upd f240 (Int32.toNatClampNeg 108) (vp_nar .byte 35) = f241 at hP hD
  have hP : va_P (dC, dI) vwCl [(c0, .inr (14, [.ref q1, .null, .null, .null, .int 0, .int 0, .int 0, .null, .null, .null, .int 0, .null, .null, .int 0, .int 0, .int 0, .int 0, .int 0, .int 0, .int 0, .int 0, .int 0, .int 0, .int 0, .int 0, .int 0, .int 0, .int 0, .int 0, .null, .int 0, .int 0, .int 0, .int 0, .null, .int 0, .int 0])), (q1, .inl (y2, 128, .inr (.inl f130))), (q131, .inl (y132, 128, .inl f241))] H := hP
  have hD : va_D A [(c0, .inr (14, [.ref q1, .null, .null, .null, .int 0, .int 0, .int 0, .null, .null, .null, .int 0, .null, .null, .int 0, .int 0, .int 0, .int 0, .int 0, .int 0, .int 0, .int 0, .int 0, .int 0, .int 0, .int 0, .int 0, .int 0, .int 0, .int 0, .null, .int 0, .int 0, .int 0, .int 0, .null, .int 0, .int 0])), (q1, .inl (y2, 128, .inr (.inl f130))), (q131, .inl (y132, 128, .inl f241))] := hD
  refine lv_dup hx hb dX13_init_1522 rfl ?_
  refine lv_bipush (v := 109) hx hb dX13_init_1523 (by decide) ?_
  refine lv_bipush (v := 35) hx hb dX13_init_1525 (by decide) ?_
  refine va_bast (i := 109) (x := 35) hx hb hK hP hD hS 2 1 rfl rfl (vp_in_iff.mpr ⟨by decide, by decide⟩) dX13_init_1527 (fun H locs hP hD hS => ?_)
  generalize hf242 : upd f241 (Int32.toNatClampNeg 109) (vp_nar .byte 35) = f242 at hP hD
  have hP : va_P (dC, dI) vwCl [(c0, .inr (14, [.ref q1, .null, .null, .null, .int 0, .int 0, .int 0, .null, .null, .null, .int 0, .null, .null, .int 0, .int 0, .int 0, .int 0, .int 0, .int 0, .int 0, .int 0, .int 0, .int 0, .int 0, .int 0, .int 0, .int 0, .int 0, .int 0, .null, .int 0, .int 0, .int 0, .int 0, .null, .int 0, .int 0])), (q1, .inl (y2, 128, .inr (.inl f130))), (q131, .inl (y132, 128, .inl f242))] H := hP
  have hD : va_D A [(c0, .inr (14, [.ref q1, .null, .null, .null, .int 0, .int 0, .int 0, .null, .null, .null, .int 0, .null, .null, .int 0, .int 0, .int 0, .int 0, .int 0, .int 0, .int 0, .int 0, .int 0, .int 0, .int 0, .int 0, .int 0, .int 0, .int 0, .int 0, .null, .int 0, .int 0, .int 0, .int 0, .null, .int 0, .int 0])), (q1, .inl (y2, 128, .inr (.inl f130))), (q131, .inl (y132, 128, .inl f242))] := hD
  refine lv_dup hx hb dX13_init_1528 rfl ?_
  refine lv_bipush (v := 110) hx hb dX13_init_1529 (by decide) ?_
  refine lv_bipush (v := 36) hx hb dX13_init_1531 (by decide) ?_
  refine va_bast (i := 110) (x := 36) hx hb hK hP hD hS 2 1 rfl rfl (vp_in_iff.mpr ⟨by decide, by decide⟩) dX13_init_1533 (fun H locs hP hD hS => ?_)
  generalize hf243 : upd f242 (Int32.toNatClampNeg 110) (vp_nar .byte 36) = f243 at hP hD
  have hP : va_P (dC, dI) vwCl [(c0, .inr (14, [.ref q1, .null, .null, .null, .int 0, .int 0, .int 0, .null, .null, .null, .int 0, .null, .null, .int 0, .int 0, .int 0, .int 0, .int 0, .int 0, .int 0, .int 0, .int 0, .int 0, .int 0, .int 0, .int 0, .int 0, .int 0, .int 0, .null, .int 0, .int 0, .int 0, .int 0, .null, .int 0, .int 0])), (q1, .inl (y2, 128, .inr (.inl f130))), (q131, .inl (y132, 128, .inl f243))] H := hP
  have hD : va_D A [(c0, .inr (14, [.ref q1, .null, .null, .null, .int 0, .int 0, .int 0, .null, .null, .null, .int 0, .null, .null, .int 0, .int 0, .int 0, .int 0, .int 0, .int 0, .int 0, .int 0, .int 0, .int 0, .int 0, .int 0, .int 0, .int 0, .int 0, .int 0, .null, .int 0, .int 0, .int 0, .int 0, .null, .int 0, .int 0])), (q1, .inl (y2, 128, .inr (.inl f130))), (q131, .inl (y132, 128, .inl f243))] := hD
  refine lv_dup hx hb dX13_init_1534 rfl ?_
  refine lv_bipush (v := 111) hx hb dX13_init_1535 (by decide) ?_
  refine lv_bipush (v := 36) hx hb dX13_init_1537 (by decide) ?_
  refine va_bast (i := 111) (x := 36) hx hb hK hP hD hS 2 1 rfl rfl (vp_in_iff.mpr ⟨by decide, by decide⟩) dX13_init_1539 (fun H locs hP hD hS => ?_)
  generalize hf244 : upd f243 (Int32.toNatClampNeg 111) (vp_nar .byte 36) = f244 at hP hD
  have hP : va_P (dC, dI) vwCl [(c0, .inr (14, [.ref q1, .null, .null, .null, .int 0, .int 0, .int 0, .null, .null, .null, .int 0, .null, .null, .int 0, .int 0, .int 0, .int 0, .int 0, .int 0, .int 0, .int 0, .int 0, .int 0, .int 0, .int 0, .int 0, .int 0, .int 0, .int 0, .null, .int 0, .int 0, .int 0, .int 0, .null, .int 0, .int 0])), (q1, .inl (y2, 128, .inr (.inl f130))), (q131, .inl (y132, 128, .inl f244))] H := hP
  have hD : va_D A [(c0, .inr (14, [.ref q1, .null, .null, .null, .int 0, .int 0, .int 0, .null, .null, .null, .int 0, .null, .null, .int 0, .int 0, .int 0, .int 0, .int 0, .int 0, .int 0, .int 0, .int 0, .int 0, .int 0, .int 0, .int 0, .int 0, .int 0, .int 0, .null, .int 0, .int 0, .int 0, .int 0, .null, .int 0, .int 0])), (q1, .inl (y2, 128, .inr (.inl f130))), (q131, .inl (y132, 128, .inl f244))] := hD
  refine lv_dup hx hb dX13_init_1540 rfl ?_
  refine lv_bipush (v := 112) hx hb dX13_init_1541 (by decide) ?_
  refine lv_bipush (v := 37) hx hb dX13_init_1543 (by decide) ?_
  refine va_bast (i := 112) (x := 37) hx hb hK hP hD hS 2 1 rfl rfl (vp_in_iff.mpr ⟨by decide, by decide⟩) dX13_init_1545 (fun H locs hP hD hS => ?_)
  generalize hf245 : upd f244 (Int32.toNatClampNeg 112) (vp_nar .byte 37) = f245 at hP hD
  have hP : va_P (dC, dI) vwCl [(c0, .inr (14, [.ref q1, .null, .null, .null, .int 0, .int 0, .int 0, .null, .null, .null, .int 0, .null, .null, .int 0, .int 0, .int 0, .int 0, .int 0, .int 0, .int 0, .int 0, .int 0, .int 0, .int 0, .int 0, .int 0, .int 0, .int 0, .int 0, .null, .int 0, .int 0, .int 0, .int 0, .null, .int 0, .int 0])), (q1, .inl (y2, 128, .inr (.inl f130))), (q131, .inl (y132, 128, .inl f245))] H := hP
  have hD : va_D A [(c0, .inr (14, [.ref q1, .null, .null, .null, .int 0, .int 0, .int 0, .null, .null, .null, .int 0, .null, .null, .int 0, .int 0, .int 0, .int 0, .int 0, .int 0, .int 0, .int 0, .int 0, .int 0, .int 0, .int 0, .int 0, .int 0, .int 0, .int 0, .null, .int 0, .int 0, .int 0, .int 0, .null, .int 0, .int 0])), (q1, .inl (y2, 128, .inr (.inl f130))), (q131, .inl (y132, 128, .inl f245))] := hD
  refine lv_dup hx hb dX13_init_1546 rfl ?_
  refine lv_bipush (v := 113) hx hb dX13_init_1547 (by decide) ?_
  refine lv_bipush (v := 37) hx hb dX13_init_1549 (by decide) ?_
  refine va_bast (i := 113) (x := 37) hx hb hK hP hD hS 2 1 rfl rfl (vp_in_iff.mpr ⟨by decide, by decide⟩) dX13_init_1551 (fun H locs hP hD hS => ?_)
  generalize hf246 : upd f245 (Int32.toNatClampNeg 113) (vp_nar .byte 37) = f246 at hP hD
  have hP : va_P (dC, dI) vwCl [(c0, .inr (14, [.ref q1, .null, .null, .null, .int 0, .int 0, .int 0, .null, .null, .null, .int 0, .null, .null, .int 0, .int 0, .int 0, .int 0, .int 0, .int 0, .int 0, .int 0, .int 0, .int 0, .int 0, .int 0, .int 0, .int 0, .int 0, .int 0, .null, .int 0, .int 0, .int 0, .int 0, .null, .int 0, .int 0])), (q1, .inl (y2, 128, .inr (.inl f130))), (q131, .inl (y132, 128, .inl f246))] H := hP
  have hD : va_D A [(c0, .inr (14, [.ref q1, .null, .null, .null, .int 0, .int 0, .int 0, .null, .null, .null, .int 0, .null, .null, .int 0, .int 0, .int 0, .int 0, .int 0, .int 0, .int 0, .int 0, .int 0, .int 0, .int 0, .int 0, .int 0, .int 0, .int 0, .int 0, .null, .int 0, .int 0, .int 0, .int 0, .null, .int 0, .int 0])), (q1, .inl (y2, 128, .inr (.inl f130))), (q131, .inl (y132, 128, .inl f246))] := hD
  refine lv_dup hx hb dX13_init_1552 rfl ?_
  refine lv_bipush (v := 114) hx hb dX13_init_1553 (by decide) ?_
  refine lv_bipush (v := 37) hx hb dX13_init_1555 (by decide) ?_
  refine va_bast (i := 114) (x := 37) hx hb hK hP hD hS 2 1 rfl rfl (vp_in_iff.mpr ⟨by decide, by decide⟩) dX13_init_1557 (fun H locs hP hD hS => ?_)
  generalize hf247 : upd f246 (Int32.toNatClampNeg 114) (vp_nar .byte 37) = f247 at hP hD
  have hP : va_P (dC, dI) vwCl [(c0, .inr (14, [.ref q1, .null, .null, .null, .int 0, .int 0, .int 0, .null, .null, .null, .int 0, .null, .null, .int 0, .int 0, .int 0, .int 0, .int 0, .int 0, .int 0, .int 0, .int 0, .int 0, .int 0, .int 0, .int 0, .int 0, .int 0, .int 0, .null, .int 0, .int 0, .int 0, .int 0, .null, .int 0, .int 0])), (q1, .inl (y2, 128, .inr (.inl f130))), (q131, .inl (y132, 128, .inl f247))] H := hP
  have hD : va_D A [(c0, .inr (14, [.ref q1, .null, .null, .null, .int 0, .int 0, .int 0, .null, .null, .null, .int 0, .null, .null, .int 0, .int 0, .int 0, .int 0, .int 0, .int 0, .int 0, .int 0, .int 0, .int 0, .int 0, .int 0, .int 0, .int 0, .int 0, .int 0, .null, .int 0, .int 0, .int 0, .int 0, .null, .int 0, .int 0])), (q1, .inl (y2, 128, .inr (.inl f130))), (q131, .inl (y132, 128, .inl f247))] := hD
  refine lv_dup hx hb dX13_init_1558 rfl ?_
  refine lv_bipush (v := 115) hx hb dX13_init_1559 (by decide) ?_
  refine lv_bipush (v := 37) hx hb dX13_init_1561 (by decide) ?_
  refine va_bast (i := 115) (x := 37) hx hb hK hP hD hS 2 1 rfl rfl (vp_in_iff.mpr ⟨by decide, by decide⟩) dX13_init_1563 (fun H locs hP hD hS => ?_)
  generalize hf248 : upd f247 (Int32.toNatClampNeg 115) (vp_nar .byte 37) = f248 at hP hD
  have hP : va_P (dC, dI) vwCl [(c0, .inr (14, [.ref q1, .null, .null, .null, .int 0, .int 0, .int 0, .null, .null, .null, .int 0, .null, .null, .int 0, .int 0, .int 0, .int 0, .int 0, .int 0, .int 0, .int 0, .int 0, .int 0, .int 0, .int 0, .int 0, .int 0, .int 0, .int 0, .null, .int 0, .int 0, .int 0, .int 0, .null, .int 0, .int 0])), (q1, .inl (y2, 128, .inr (.inl f130))), (q131, .inl (y132, 128, .inl f248))] H := hP
  have hD : va_D A [(c0, .inr (14, [.ref q1, .null, .null, .null, .int 0, .int 0, .int 0, .null, .null, .null, .int 0, .null, .null, .int 0, .int 0, .int 0, .int 0, .int 0, .int 0, .int 0, .int 0, .int 0, .int 0, .int 0, .int 0, .int 0, .int 0, .int 0, .int 0, .null, .int 0, .int 0, .int 0, .int 0, .null, .int 0, .int 0])), (q1, .inl (y2, 128, .inr (.inl f130))), (q131, .inl (y132, 128, .inl f248))] := hD
  refine lv_dup hx hb dX13_init_1564 rfl ?_
  refine lv_bipush (v := 116) hx hb dX13_init_1565 (by decide) ?_
  refine lv_bipush (v := 38) hx hb dX13_init_1567 (by decide) ?_
  refine va_bast (i := 116) (x := 38) hx hb hK hP hD hS 2 1 rfl rfl (vp_in_iff.mpr ⟨by decide, by decide⟩) dX13_init_1569 (fun H locs hP hD hS => ?_)
  generalize hf249 : upd f248 (Int32.toNatClampNeg 116) (vp_nar .byte 38) = f249 at hP hD
  have hP : va_P (dC, dI) vwCl [(c0, .inr (14, [.ref q1, .null, .null, .null, .int 0, .int 0, .int 0, .null, .null, .null, .int 0, .null, .null, .int 0, .int 0, .int 0, .int 0, .int 0, .int 0, .int 0, .int 0, .int 0, .int 0, .int 0, .int 0, .int 0, .int 0, .int 0, .int 0, .null, .int 0, .int 0, .int 0, .int 0, .null, .int 0, .int 0])), (q1, .inl (y2, 128, .inr (.inl f130))), (q131, .inl (y132, 128, .inl f249))] H := hP
  have hD : va_D A [(c0, .inr (14, [.ref q1, .null, .null, .null, .int 0, .int 0, .int 0, .null, .null, .null, .int 0, .null, .null, .int 0, .int 0, .int 0, .int 0, .int 0, .int 0, .int 0, .int 0, .int 0, .int 0, .int 0, .int 0, .int 0, .int 0, .int 0, .int 0, .null, .int 0, .int 0, .int 0, .int 0, .null, .int 0, .int 0])), (q1, .inl (y2, 128, .inr (.inl f130))), (q131, .inl (y132, 128, .inl f249))] := hD
  refine lv_dup hx hb dX13_init_1570 rfl ?_
  exact kk f249 _ _ _ hK hP hD hS hl

set_option maxHeartbeats 40000000 in
set_option maxRecDepth 100000 in
theorem k_X13_init_s11 {p : Program} {l : Launch} {e : Env} {s : State} {m : MethodId} {args : Array Value} {below : List Frame} {meth : Method} {c : Code} {Q : State → Prop} {A : Nat → Prop} (dC : Nat → ClassId) (dI : Nat → Nat → Nat) (c0 : Nat) (q1 : Nat) (y2 : ClassId) (q131 : Nat) (y132 : ClassId) (f130 : Nat → Int64) (f249 : Nat → Int32) (hlt : l.stackTraces = false) (hx : p.tables.exec = Jvm.exec) (hb : c.code = cX13_init) (hml : c.maxLocals = 1) (hown : s.vm.findClass RX13 = some m.cls) (hts : ∀ w ∈ ow_k_X13_init, w.before args s = true) (hin : meth.name = "<init>") (hN : nv_E A s) (hA : ∀ q : Nat, s.heap.size ≤ q → A q) {H : Heap} {locs : List Loc} {ls : Array Slot} (hK : va_K (dC, dI) vwCl [(y2, .long), (y132, .byte)] s) (hP : va_P (dC, dI) vwCl [(c0, .inr (14, [.ref q1, .null, .null, .null, .int 0, .int 0, .int 0, .null, .null, .null, .int 0, .null, .null, .int 0, .int 0, .int 0, .int 0, .int 0, .int 0, .int 0, .int 0, .int 0, .int 0, .int 0, .int 0, .int 0, .int 0, .int 0, .int 0, .null, .int 0, .int 0, .int 0, .int 0, .null, .int 0, .int 0])), (q1, .inl (y2, 128, .inr (.inl f130))), (q131, .inl (y132, 128, .inl f249))] H) (hD : va_D A [(c0, .inr (14, [.ref q1, .null, .null, .null, .int 0, .int 0, .int 0, .null, .null, .null, .int 0, .null, .null, .int 0, .int 0, .int 0, .int 0, .int 0, .int 0, .int 0, .int 0, .int 0, .int 0, .int 0, .int 0, .int 0, .int 0, .int 0, .int 0, .null, .int 0, .int 0, .int 0, .int 0, .null, .int 0, .int 0])), (q1, .inl (y2, 128, .inr (.inl f130))), (q131, .inl (y132, 128, .inl f249))]) (hS : va_S A s.heap H locs) (hl : lv_has ls 1 [(0, .ref c0)]) (kk : ∀ (q261 : Nat) (y262 : ClassId) (f260 : Nat → Int32) (f272 : Nat → Int32) (H : Heap) (locs : List Loc) (ls : Array Slot), va_K (dC, dI) vwCl [(y2, .long), (y132, .byte), (y262, .int)] s → va_P (dC, dI) vwCl [(c0, .inr (14, [.ref q1, .ref q131, .null, .null, .int 0, .int 0, .int 0, .null, .null, .null, .int 0, .null, .null, .int 0, .int 0, .int 0, .int 0, .int 0, .int 0, .int 0, .int 0, .int 0, .int 0, .int 0, .int 0, .int 0, .int 0, .int 0, .int 0, .null, .int 0, .int 0, .int 0, .int 0, .null, .int 0, .int 0])), (q1, .inl (y2, 128, .inr (.inl f130))), (q131, .inl (y132, 128, .inl f260)), (q261, .inl (y262, 128, .inl f272))] H → va_D A [(c0, .inr (14, [.ref q1, .ref q131, .null, .null, .int 0, .int 0, .int 0, .null, .null, .null, .int 0, .null, .null, .int 0, .int 0, .int 0, .int 0, .int 0, .int 0, .int 0, .int 0, .int 0, .int 0, .int 0, .int 0, .int 0, .int 0, .int 0, .int 0, .null, .int 0, .int 0, .int 0, .int 0, .null, .int 0, .int 0])), (q1, .inl (y2, 128, .inr (.inl f130))), (q131, .inl (y132, 128, .inl f260)), (q261, .inl (y262, 128, .inl f272))] → va_S A s.heap H locs → lv_has ls 1 [(0, .ref c0)] → W p l e (headSpec ow_k_X13_init ({ frames := 1, cells := 10, slots := 131956, locals := 12 })).room s m args below meth c H locs 3 384 Q (F0 m 1714 ls [.int 33554483, .int 10, .ref q261, .ref q261, .ref c0])) : W p l e (headSpec ow_k_X13_init ({ frames := 1, cells := 10, slots := 131956, locals := 12 })).room s m args below meth c H locs 2 256 Q (F0 m 1571 ls [.ref q131, .ref q131, .ref c0]) := by
  refine lv_bipush (v := 117) hx hb dX13_init_1571 (by decide) ?_
  refine lv_bipush (v := 39) hx hb dX13_init_1573 (by decide) ?_
  refine va_bast (i := 117) (x := 39) hx hb hK hP hD hS 2 1 rfl rfl (vp_in_iff.mpr ⟨by decide, by decide⟩) dX13_init_1575 (fun H locs hP hD hS => ?_)
  generalize hf250 : upd f249 (Int32.toNatClampNeg 117) (vp_nar .byte 39) = f250 at hP hD
  have hP : va_P (dC, dI) vwCl [(c0, .inr (14, [.ref q1, .null, .null, .null, .int 0, .int 0, .int 0, .null, .null, .null, .int 0, .null, .null, .int 0, .int 0, .int 0, .int 0, .int 0, .int 0, .int 0, .int 0, .int 0, .int 0, .int 0, .int 0, .int 0, .int 0, .int 0, .int 0, .null, .int 0, .int 0, .int 0, .int 0, .null, .int 0, .int 0])), (q1, .inl (y2, 128, .inr (.inl f130))), (q131, .inl (y132, 128, .inl f250))] H := hP
  have hD : va_D A [(c0, .inr (14, [.ref q1, .null, .null, .null, .int 0, .int 0, .int 0, .null, .null, .null, .int 0, .null, .null, .int 0, .int 0, .int 0, .int 0, .int 0, .int 0, .int 0, .int 0, .int 0, .int 0, .int 0, .int 0, .int 0, .int 0, .int 0, .int 0, .null, .int 0, .int 0, .int 0, .int 0, .null, .int 0, .int 0])), (q1, .inl (y2, 128, .inr (.inl f130))), (q131, .inl (y132, 128, .inl f250))] := hD
  refine lv_dup hx hb dX13_init_1576 rfl ?_
  refine lv_bipush (v := 118) hx hb dX13_init_1577 (by decide) ?_
  refine lv_bipush (v := 40) hx hb dX13_init_1579 (by decide) ?_
  refine va_bast (i := 118) (x := 40) hx hb hK hP hD hS 2 1 rfl rfl (vp_in_iff.mpr ⟨by decide, by decide⟩) dX13_init_1581 (fun H locs hP hD hS => ?_)
  generalize hf251 : upd f250 (Int32.toNatClampNeg 118) (vp_nar .byte 40) = f251 at hP hD
  have hP : va_P (dC, dI) vwCl [(c0, .inr (14, [.ref q1, .null, .null, .null, .int 0, .int 0, .int 0, .null, .null, .null, .int 0, .null, .null, .int 0, .int 0, .int 0, .int 0, .int 0, .int 0, .int 0, .int 0, .int 0, .int 0, .int 0, .int 0, .int 0, .int 0, .int 0, .int 0, .null, .int 0, .int 0, .int 0, .int 0, .null, .int 0, .int 0])), (q1, .inl (y2, 128, .inr (.inl f130))), (q131, .inl (y132, 128, .inl f251))] H := hP
  have hD : va_D A [(c0, .inr (14, [.ref q1, .null, .null, .null, .int 0, .int 0, .int 0, .null, .null, .null, .int 0, .null, .null, .int 0, .int 0, .int 0, .int 0, .int 0, .int 0, .int 0, .int 0, .int 0, .int 0, .int 0, .int 0, .int 0, .int 0, .int 0, .int 0, .null, .int 0, .int 0, .int 0, .int 0, .null, .int 0, .int 0])), (q1, .inl (y2, 128, .inr (.inl f130))), (q131, .inl (y132, 128, .inl f251))] := hD
  refine lv_dup hx hb dX13_init_1582 rfl ?_
  refine lv_bipush (v := 119) hx hb dX13_init_1583 (by decide) ?_
  refine lv_bipush (v := 41) hx hb dX13_init_1585 (by decide) ?_
  refine va_bast (i := 119) (x := 41) hx hb hK hP hD hS 2 1 rfl rfl (vp_in_iff.mpr ⟨by decide, by decide⟩) dX13_init_1587 (fun H locs hP hD hS => ?_)
  generalize hf252 : upd f251 (Int32.toNatClampNeg 119) (vp_nar .byte 41) = f252 at hP hD
  have hP : va_P (dC, dI) vwCl [(c0, .inr (14, [.ref q1, .null, .null, .null, .int 0, .int 0, .int 0, .null, .null, .null, .int 0, .null, .null, .int 0, .int 0, .int 0, .int 0, .int 0, .int 0, .int 0, .int 0, .int 0, .int 0, .int 0, .int 0, .int 0, .int 0, .int 0, .int 0, .null, .int 0, .int 0, .int 0, .int 0, .null, .int 0, .int 0])), (q1, .inl (y2, 128, .inr (.inl f130))), (q131, .inl (y132, 128, .inl f252))] H := hP
  have hD : va_D A [(c0, .inr (14, [.ref q1, .null, .null, .null, .int 0, .int 0, .int 0, .null, .null, .null, .int 0, .null, .null, .int 0, .int 0, .int 0, .int 0, .int 0, .int 0, .int 0, .int 0, .int 0, .int 0, .int 0, .int 0, .int 0, .int 0, .int 0, .int 0, .null, .int 0, .int 0, .int 0, .int 0, .null, .int 0, .int 0])), (q1, .inl (y2, 128, .inr (.inl f130))), (q131, .inl (y132, 128, .inl f252))] := hD
  refine lv_dup hx hb dX13_init_1588 rfl ?_
  refine lv_bipush (v := 120) hx hb dX13_init_1589 (by decide) ?_
  refine lv_bipush (v := 42) hx hb dX13_init_1591 (by decide) ?_
  refine va_bast (i := 120) (x := 42) hx hb hK hP hD hS 2 1 rfl rfl (vp_in_iff.mpr ⟨by decide, by decide⟩) dX13_init_1593 (fun H locs hP hD hS => ?_)
  generalize hf253 : upd f252 (Int32.toNatClampNeg 120) (vp_nar .byte 42) = f253 at hP hD
  have hP : va_P (dC, dI) vwCl [(c0, .inr (14, [.ref q1, .null, .null, .null, .int 0, .int 0, .int 0, .null, .null, .null, .int 0, .null, .null, .int 0, .int 0, .int 0, .int 0, .int 0, .int 0, .int 0, .int 0, .int 0, .int 0, .int 0, .int 0, .int 0, .int 0, .int 0, .int 0, .null, .int 0, .int 0, .int 0, .int 0, .null, .int 0, .int 0])), (q1, .inl (y2, 128, .inr (.inl f130))), (q131, .inl (y132, 128, .inl f253))] H := hP
  have hD : va_D A [(c0, .inr (14, [.ref q1, .null, .null, .null, .int 0, .int 0, .int 0, .null, .null, .null, .int 0, .null, .null, .int 0, .int 0, .int 0, .int 0, .int 0, .int 0, .int 0, .int 0, .int 0, .int 0, .int 0, .int 0, .int 0, .int 0, .int 0, .int 0, .null, .int 0, .int 0, .int 0, .int 0, .null, .int 0, .int 0])), (q1, .inl (y2, 128, .inr (.inl f130))), (q131, .inl (y132, 128, .inl f253))] := hD
  refine lv_dup hx hb dX13_init_1594 rfl ?_
  refine lv_bipush (v := 121) hx hb dX13_init_1595 (by decide) ?_
  refine lv_bipush (v := 43) hx hb dX13_init_1597 (by decide) ?_
  refine va_bast (i := 121) (x := 43) hx hb hK hP hD hS 2 1 rfl rfl (vp_in_iff.mpr ⟨by decide, by decide⟩) dX13_init_1599 (fun H locs hP hD hS => ?_)
  generalize hf254 : upd f253 (Int32.toNatClampNeg 121) (vp_nar .byte 43) = f254 at hP hD
  have hP : va_P (dC, dI) vwCl [(c0, .inr (14, [.ref q1, .null, .null, .null, .int 0, .int 0, .int 0, .null, .null, .null, .int 0, .null, .null, .int 0, .int 0, .int 0, .int 0, .int 0, .int 0, .int 0, .int 0, .int 0, .int 0, .int 0, .int 0, .int 0, .int 0, .int 0, .int 0, .null, .int 0, .int 0, .int 0, .int 0, .null, .int 0, .int 0])), (q1, .inl (y2, 128, .inr (.inl f130))), (q131, .inl (y132, 128, .inl f254))] H := hP
  have hD : va_D A [(c0, .inr (14, [.ref q1, .null, .null, .null, .int 0, .int 0, .int 0, .null, .null, .null, .int 0, .null, .null, .int 0, .int 0, .int 0, .int 0, .int 0, .int 0, .int 0, .int 0, .int 0, .int 0, .int 0, .int 0, .int 0, .int 0, .int 0, .int 0, .null, .int 0, .int 0, .int 0, .int 0, .null, .int 0, .int 0])), (q1, .inl (y2, 128, .inr (.inl f130))), (q131, .inl (y132, 128, .inl f254))] := hD
  refine lv_dup hx hb dX13_init_1600 rfl ?_
  refine lv_bipush (v := 122) hx hb dX13_init_1601 (by decide) ?_
  refine lv_bipush (v := 44) hx hb dX13_init_1603 (by decide) ?_
  refine va_bast (i := 122) (x := 44) hx hb hK hP hD hS 2 1 rfl rfl (vp_in_iff.mpr ⟨by decide, by decide⟩) dX13_init_1605 (fun H locs hP hD hS => ?_)
  generalize hf255 : upd f254 (Int32.toNatClampNeg 122) (vp_nar .byte 44) = f255 at hP hD
  have hP : va_P (dC, dI) vwCl [(c0, .inr (14, [.ref q1, .null, .null, .null, .int 0, .int 0, .int 0, .null, .null, .null, .int 0, .null, .null, .int 0, .int 0, .int 0, .int 0, .int 0, .int 0, .int 0, .int 0, .int 0, .int 0, .int 0, .int 0, .int 0, .int 0, .int 0, .int 0, .null, .int 0, .int 0, .int 0, .int 0, .null, .int 0, .int 0])), (q1, .inl (y2, 128, .inr (.inl f130))), (q131, .inl (y132, 128, .inl f255))] H := hP
  have hD : va_D A [(c0, .inr (14, [.ref q1, .null, .null, .null, .int 0, .int 0, .int 0, .null, .null, .null, .int 0, .null, .null, .int 0, .int 0, .int 0, .int 0, .int 0, .int 0, .int 0, .int 0, .int 0, .int 0, .int 0, .int 0, .int 0, .int 0, .int 0, .int 0, .null, .int 0, .int 0, .int 0, .int 0, .null, .int 0, .int 0])), (q1, .inl (y2, 128, .inr (.inl f130))), (q131, .inl (y132, 128, .inl f255))] := hD
  refine lv_dup hx hb dX13_init_1606 rfl ?_
  refine lv_bipush (v := 123) hx hb dX13_init_1607 (by decide) ?_
  refine lv_bipush (v := 45) hx hb dX13_init_1609 (by decide) ?_
  refine va_bast (i := 123) (x := 45) hx hb hK hP hD hS 2 1 rfl rfl (vp_in_iff.mpr ⟨by decide, by decide⟩) dX13_init_1611 (fun H locs hP hD hS => ?_)
  generalize hf256 : upd f255 (Int32.toNatClampNeg 123) (vp_nar .byte 45) = f256 at hP hD
  have hP : va_P (dC, dI) vwCl [(c0, .inr (14, [.ref q1, .null, .null, .null, .int 0, .int 0, .int 0, .null, .null, .null, .int 0, .null, .null, .int 0, .int 0, .int 0, .int 0, .int 0, .int 0, .int 0, .int 0, .int 0, .int 0, .int 0, .int 0, .int 0, .int 0, .int 0, .int 0, .null, .int 0, .int 0, .int 0, .int 0, .null, .int 0, .int 0])), (q1, .inl (y2, 128, .inr (.inl f130))), (q131, .inl (y132, 128, .inl f256))] H := hP
  have hD : va_D A [(c0, .inr (14, [.ref q1, .null, .null, .null, .int 0, .int 0, .int 0, .null, .null, .null, .int 0, .null, .null, .int 0, .int 0, .int 0, .int 0, .int 0, .int 0, .int 0, .int 0, .int 0, .int 0, .int 0, .int 0, .int 0, .int 0, .int 0, .int 0, .null, .int 0, .int 0, .int 0, .int 0, .null, .int 0, .int 0])), (q1, .inl (y2, 128, .inr (.inl f130))), (q131, .inl (y132, 128, .inl f256))] := hD
  refine lv_dup hx hb dX13_init_1612 rfl ?_
  refine lv_bipush (v := 124) hx hb dX13_init_1613 (by decide) ?_
  refine lv_bipush (v := 46) hx hb dX13_init_1615 (by decide) ?_
  refine va_bast (i := 124) (x := 46) hx hb hK hP hD hS 2 1 rfl rfl (vp_in_iff.mpr ⟨by decide, by decide⟩) dX13_init_1617 (fun H locs hP hD hS => ?_)
  generalize hf257 : upd f256 (Int32.toNatClampNeg 124) (vp_nar .byte 46) = f257 at hP hD
  have hP : va_P (dC, dI) vwCl [(c0, .inr (14, [.ref q1, .null, .null, .null, .int 0, .int 0, .int 0, .null, .null, .null, .int 0, .null, .null, .int 0, .int 0, .int 0, .int 0, .int 0, .int 0, .int 0, .int 0, .int 0, .int 0, .int 0, .int 0, .int 0, .int 0, .int 0, .int 0, .null, .int 0, .int 0, .int 0, .int 0, .null, .int 0, .int 0])), (q1, .inl (y2, 128, .inr (.inl f130))), (q131, .inl (y132, 128, .inl f257))] H := hP
  have hD : va_D A [(c0, .inr (14, [.ref q1, .null, .null, .null, .int 0, .int 0, .int 0, .null, .null, .null, .int 0, .null, .null, .int 0, .int 0, .int 0, .int 0, .int 0, .int 0, .int 0, .int 0, .int 0, .int 0, .int 0, .int 0, .int 0, .int 0, .int 0, .int 0, .null, .int 0, .int 0, .int 0, .int 0, .null, .int 0, .int 0])), (q1, .inl (y2, 128, .inr (.inl f130))), (q131, .inl (y132, 128, .inl f257))] := hD
  refine lv_dup hx hb dX13_init_1618 rfl ?_
  refine lv_bipush (v := 125) hx hb dX13_init_1619 (by decide) ?_
  refine lv_bipush (v := 47) hx hb dX13_init_1621 (by decide) ?_
  refine va_bast (i := 125) (x := 47) hx hb hK hP hD hS 2 1 rfl rfl (vp_in_iff.mpr ⟨by decide, by decide⟩) dX13_init_1623 (fun H locs hP hD hS => ?_)
  generalize hf258 : upd f257 (Int32.toNatClampNeg 125) (vp_nar .byte 47) = f258 at hP hD
  have hP : va_P (dC, dI) vwCl [(c0, .inr (14, [.ref q1, .null, .null, .null, .int 0, .int 0, .int 0, .null, .null, .null, .int 0, .null, .null, .int 0, .int 0, .int 0, .int 0, .int 0, .int 0, .int 0, .int 0, .int 0, .int 0, .int 0, .int 0, .int 0, .int 0, .int 0, .int 0, .null, .int 0, .int 0, .int 0, .int 0, .null, .int 0, .int 0])), (q1, .inl (y2, 128, .inr (.inl f130))), (q131, .inl (y132, 128, .inl f258))] H := hP
  have hD : va_D A [(c0, .inr (14, [.ref q1, .null, .null, .null, .int 0, .int 0, .int 0, .null, .null, .null, .int 0, .null, .null, .int 0, .int 0, .int 0, .int 0, .int 0, .int 0, .int 0, .int 0, .int 0, .int 0, .int 0, .int 0, .int 0, .int 0, .int 0, .int 0, .null, .int 0, .int 0, .int 0, .int 0, .null, .int 0, .int 0])), (q1, .inl (y2, 128, .inr (.inl f130))), (q131, .inl (y132, 128, .inl f258))] := hD
  refine lv_dup hx hb dX13_init_1624 rfl ?_
  refine lv_bipush (v := 126) hx hb dX13_init_1625 (by decide) ?_
  refine lv_bipush (v := 48) hx hb dX13_init_1627 (by decide) ?_
  refine va_bast (i := 126) (x := 48) hx hb hK hP hD hS 2 1 rfl rfl (vp_in_iff.mpr ⟨by decide, by decide⟩) dX13_init_1629 (fun H locs hP hD hS => ?_)
  generalize hf259 : upd f258 (Int32.toNatClampNeg 126) (vp_nar .byte 48) = f259 at hP hD
  have hP : va_P (dC, dI) vwCl [(c0, .inr (14, [.ref q1, .null, .null, .null, .int 0, .int 0, .int 0, .null, .null, .null, .int 0, .null, .null, .int 0, .int 0, .int 0, .int 0, .int 0, .int 0, .int 0, .int 0, .int 0, .int 0, .int 0, .int 0, .int 0, .int 0, .int 0, .int 0, .null, .int 0, .int 0, .int 0, .int 0, .null, .int 0, .int 0])), (q1, .inl (y2, 128, .inr (.inl f130))), (q131, .inl (y132, 128, .inl f259))] H := hP
  have hD : va_D A [(c0, .inr (14, [.ref q1, .null, .null, .null, .int 0, .int 0, .int 0, .null, .null, .null, .int 0, .null, .null, .int 0, .int 0, .int 0, .int 0, .int 0, .int 0, .int 0, .int 0, .int 0, .int 0, .int 0, .int 0, .int 0, .int 0, .int 0, .int 0, .null, .int 0, .int 0, .int 0, .int 0, .null, .int 0, .int 0])), (q1, .inl (y2, 128, .inr (.inl f130))), (q131, .inl (y132, 128, .inl f259))] := hD
  refine lv_dup hx hb dX13_init_1630 rfl ?_
  refine lv_bipush (v := 127) hx hb dX13_init_1631 (by decide) ?_
  refine lv_bipush (v := 49) hx hb dX13_init_1633 (by decide) ?_
  refine va_bast (i := 127) (x := 49) hx hb hK hP hD hS 2 1 rfl rfl (vp_in_iff.mpr ⟨by decide, by decide⟩) dX13_init_1635 (fun H locs hP hD hS => ?_)
  generalize hf260 : upd f259 (Int32.toNatClampNeg 127) (vp_nar .byte 49) = f260 at hP hD
  have hP : va_P (dC, dI) vwCl [(c0, .inr (14, [.ref q1, .null, .null, .null, .int 0, .int 0, .int 0, .null, .null, .null, .int 0, .null, .null, .int 0, .int 0, .int 0, .int 0, .int 0, .int 0, .int 0, .int 0, .int 0, .int 0, .int 0, .int 0, .int 0, .int 0, .int 0, .int 0, .null, .int 0, .int 0, .int 0, .int 0, .null, .int 0, .int 0])), (q1, .inl (y2, 128, .inr (.inl f130))), (q131, .inl (y132, 128, .inl f260))] H := hP
  have hD : va_D A [(c0, .inr (14, [.ref q1, .null, .null, .null, .int 0, .int 0, .int 0, .null, .null, .null, .int 0, .null, .null, .int 0, .int 0, .int 0, .int 0, .int 0, .int 0, .int 0, .int 0, .int 0, .int 0, .int 0, .int 0, .int 0, .int 0, .int 0, .int 0, .null, .int 0, .int 0, .int 0, .int 0, .null, .int 0, .int 0])), (q1, .inl (y2, 128, .inr (.inl f130))), (q131, .inl (y132, 128, .inl f260))] := hD
  refine va_putF (D := (dC, dI)) (ci := 14) (v := .ref q131) (ty := .array .byte) (C := RX13) (T := TX13) (N := 37) hx hb hts hi_k_X13_init_X13 tyX13 tyX13_ok nmX13 hown hK hP hD hS 0 rfl rfl 1 (by decide) (hts (.fieldLink RX13 269 "TimeMachineModel$Assembler" "shapes" "[B") (List.mem_of_getElem? (i := 135) rfl)) (fun _ h9 => h9) rfl hin rfl (by decide +kernel) rfl rfl (Nat.le_of_ble_eq_true rfl) dX13_init_1636 (fun H locs hP hD hS => ?_)
  have hP : va_P (dC, dI) vwCl [(c0, .inr (14, [.ref q1, .ref q131, .null, .null, .int 0, .int 0, .int 0, .null, .null, .null, .int 0, .null, .null, .int 0, .int 0, .int 0, .int 0, .int 0, .int 0, .int 0, .int 0, .int 0, .int 0, .int 0, .int 0, .int 0, .int 0, .int 0, .int 0, .null, .int 0, .int 0, .int 0, .int 0, .null, .int 0, .int 0])), (q1, .inl (y2, 128, .inr (.inl f130))), (q131, .inl (y132, 128, .inl f260))] H := hP
  have hD : va_D A [(c0, .inr (14, [.ref q1, .ref q131, .null, .null, .int 0, .int 0, .int 0, .null, .null, .null, .int 0, .null, .null, .int 0, .int 0, .int 0, .int 0, .int 0, .int 0, .int 0, .int 0, .int 0, .int 0, .int 0, .int 0, .int 0, .int 0, .int 0, .int 0, .null, .int 0, .int 0, .int 0, .int 0, .null, .int 0, .int 0])), (q1, .inl (y2, 128, .inr (.inl f130))), (q131, .inl (y132, 128, .inl f260))] := hD
  refine lv_aload_n hx hb dX13_init_1639 rfl (lv_at hl 0 rfl) ?_
  refine lv_sipush (v := 128) hx hb dX13_init_1640 (by decide) ?_
  refine va_newa (atype := .int) (ty := .int) (N' := 128) (a0 := (128, .inl (fun _ => 0))) hx hb (hts (.arrayClass .int) (List.mem_of_getElem? (i := 136) rfl)) rfl hK hP hD hS hA (fun cA => vp_cell_i cA 128 (fun _ => 0)) (by decide +kernel) (by decide +kernel) (by decide +kernel) (by decide +kernel) (by decide +kernel) dX13_init_1643 (fun q261 y262 H hK hP hD hS => ?_)
  have hK : va_K (dC, dI) vwCl [(y2, .long), (y132, .byte), (y262, .int)] s := hK
  have hP : va_P (dC, dI) vwCl [(c0, .inr (14, [.ref q1, .ref q131, .null, .null, .int 0, .int 0, .int 0, .null, .null, .null, .int 0, .null, .null, .int 0, .int 0, .int 0, .int 0, .int 0, .int 0, .int 0, .int 0, .int 0, .int 0, .int 0, .int 0, .int 0, .int 0, .int 0, .int 0, .null, .int 0, .int 0, .int 0, .int 0, .null, .int 0, .int 0])), (q1, .inl (y2, 128, .inr (.inl f130))), (q131, .inl (y132, 128, .inl f260)), (q261, .inl (y262, 128, .inl (fun _ => 0)))] H := hP
  have hD : va_D A [(c0, .inr (14, [.ref q1, .ref q131, .null, .null, .int 0, .int 0, .int 0, .null, .null, .null, .int 0, .null, .null, .int 0, .int 0, .int 0, .int 0, .int 0, .int 0, .int 0, .int 0, .int 0, .int 0, .int 0, .int 0, .int 0, .int 0, .int 0, .int 0, .null, .int 0, .int 0, .int 0, .int 0, .null, .int 0, .int 0])), (q1, .inl (y2, 128, .inr (.inl f130))), (q131, .inl (y132, 128, .inl f260)), (q261, .inl (y262, 128, .inl (fun _ => 0)))] := hD
  refine W.widen (k := 3) (n := 384) (by decide +kernel) (by decide +kernel) ?_
  refine lv_dup hx hb dX13_init_1645 rfl ?_
  refine lv_iconst (v := 0) hx hb dX13_init_1646 (by decide) ?_
  refine lv_bipush (v := 51) hx hb dX13_init_1647 (by decide) ?_
  refine va_iast (i := 0) (x := 51) hx hb hK hP hD hS 3 2 rfl rfl (vp_in_iff.mpr ⟨by decide, by decide⟩) dX13_init_1649 (fun H locs hP hD hS => ?_)
  generalize hf263 : upd (fun _ => 0) (Int32.toNatClampNeg 0) 51 = f263 at hP hD
  have hP : va_P (dC, dI) vwCl [(c0, .inr (14, [.ref q1, .ref q131, .null, .null, .int 0, .int 0, .int 0, .null, .null, .null, .int 0, .null, .null, .int 0, .int 0, .int 0, .int 0, .int 0, .int 0, .int 0, .int 0, .int 0, .int 0, .int 0, .int 0, .int 0, .int 0, .int 0, .int 0, .null, .int 0, .int 0, .int 0, .int 0, .null, .int 0, .int 0])), (q1, .inl (y2, 128, .inr (.inl f130))), (q131, .inl (y132, 128, .inl f260)), (q261, .inl (y262, 128, .inl f263))] H := hP
  have hD : va_D A [(c0, .inr (14, [.ref q1, .ref q131, .null, .null, .int 0, .int 0, .int 0, .null, .null, .null, .int 0, .null, .null, .int 0, .int 0, .int 0, .int 0, .int 0, .int 0, .int 0, .int 0, .int 0, .int 0, .int 0, .int 0, .int 0, .int 0, .int 0, .int 0, .null, .int 0, .int 0, .int 0, .int 0, .null, .int 0, .int 0])), (q1, .inl (y2, 128, .inr (.inl f130))), (q131, .inl (y132, 128, .inl f260)), (q261, .inl (y262, 128, .inl f263))] := hD
  refine lv_dup hx hb dX13_init_1650 rfl ?_
  refine lv_iconst (v := 1) hx hb dX13_init_1651 (by decide) ?_
  refine lv_ldcw hx hb hown (hts (.constant RX13 273 (1073741875)) (List.mem_of_getElem? (i := 137) rfl)) dX13_init_1652 ?_
  refine va_iast (i := 1) (x := 1073741875) hx hb hK hP hD hS 3 2 rfl rfl (vp_in_iff.mpr ⟨by decide, by decide⟩) dX13_init_1655 (fun H locs hP hD hS => ?_)
  generalize hf264 : upd f263 (Int32.toNatClampNeg 1) 1073741875 = f264 at hP hD
  have hP : va_P (dC, dI) vwCl [(c0, .inr (14, [.ref q1, .ref q131, .null, .null, .int 0, .int 0, .int 0, .null, .null, .null, .int 0, .null, .null, .int 0, .int 0, .int 0, .int 0, .int 0, .int 0, .int 0, .int 0, .int 0, .int 0, .int 0, .int 0, .int 0, .int 0, .int 0, .int 0, .null, .int 0, .int 0, .int 0, .int 0, .null, .int 0, .int 0])), (q1, .inl (y2, 128, .inr (.inl f130))), (q131, .inl (y132, 128, .inl f260)), (q261, .inl (y262, 128, .inl f264))] H := hP
  have hD : va_D A [(c0, .inr (14, [.ref q1, .ref q131, .null, .null, .int 0, .int 0, .int 0, .null, .null, .null, .int 0, .null, .null, .int 0, .int 0, .int 0, .int 0, .int 0, .int 0, .int 0, .int 0, .int 0, .int 0, .int 0, .int 0, .int 0, .int 0, .int 0, .int 0, .null, .int 0, .int 0, .int 0, .int 0, .null, .int 0, .int 0])), (q1, .inl (y2, 128, .inr (.inl f130))), (q131, .inl (y132, 128, .inl f260)), (q261, .inl (y262, 128, .inl f264))] := hD
  refine lv_dup hx hb dX13_init_1656 rfl ?_
  refine lv_iconst (v := 2) hx hb dX13_init_1657 (by decide) ?_
  refine lv_sipush (v := 4147) hx hb dX13_init_1658 (by decide) ?_
  refine va_iast (i := 2) (x := 4147) hx hb hK hP hD hS 3 2 rfl rfl (vp_in_iff.mpr ⟨by decide, by decide⟩) dX13_init_1661 (fun H locs hP hD hS => ?_)
  generalize hf265 : upd f264 (Int32.toNatClampNeg 2) 4147 = f265 at hP hD
  have hP : va_P (dC, dI) vwCl [(c0, .inr (14, [.ref q1, .ref q131, .null, .null, .int 0, .int 0, .int 0, .null, .null, .null, .int 0, .null, .null, .int 0, .int 0, .int 0, .int 0, .int 0, .int 0, .int 0, .int 0, .int 0, .int 0, .int 0, .int 0, .int 0, .int 0, .int 0, .int 0, .null, .int 0, .int 0, .int 0, .int 0, .null, .int 0, .int 0])), (q1, .inl (y2, 128, .inr (.inl f130))), (q131, .inl (y132, 128, .inl f260)), (q261, .inl (y262, 128, .inl f265))] H := hP
  have hD : va_D A [(c0, .inr (14, [.ref q1, .ref q131, .null, .null, .int 0, .int 0, .int 0, .null, .null, .null, .int 0, .null, .null, .int 0, .int 0, .int 0, .int 0, .int 0, .int 0, .int 0, .int 0, .int 0, .int 0, .int 0, .int 0, .int 0, .int 0, .int 0, .int 0, .null, .int 0, .int 0, .int 0, .int 0, .null, .int 0, .int 0])), (q1, .inl (y2, 128, .inr (.inl f130))), (q131, .inl (y132, 128, .inl f260)), (q261, .inl (y262, 128, .inl f265))] := hD
  refine lv_dup hx hb dX13_init_1662 rfl ?_
  refine lv_iconst (v := 3) hx hb dX13_init_1663 (by decide) ?_
  refine lv_sipush (v := 8243) hx hb dX13_init_1664 (by decide) ?_
  refine va_iast (i := 3) (x := 8243) hx hb hK hP hD hS 3 2 rfl rfl (vp_in_iff.mpr ⟨by decide, by decide⟩) dX13_init_1667 (fun H locs hP hD hS => ?_)
  generalize hf266 : upd f265 (Int32.toNatClampNeg 3) 8243 = f266 at hP hD
  have hP : va_P (dC, dI) vwCl [(c0, .inr (14, [.ref q1, .ref q131, .null, .null, .int 0, .int 0, .int 0, .null, .null, .null, .int 0, .null, .null, .int 0, .int 0, .int 0, .int 0, .int 0, .int 0, .int 0, .int 0, .int 0, .int 0, .int 0, .int 0, .int 0, .int 0, .int 0, .int 0, .null, .int 0, .int 0, .int 0, .int 0, .null, .int 0, .int 0])), (q1, .inl (y2, 128, .inr (.inl f130))), (q131, .inl (y132, 128, .inl f260)), (q261, .inl (y262, 128, .inl f266))] H := hP
  have hD : va_D A [(c0, .inr (14, [.ref q1, .ref q131, .null, .null, .int 0, .int 0, .int 0, .null, .null, .null, .int 0, .null, .null, .int 0, .int 0, .int 0, .int 0, .int 0, .int 0, .int 0, .int 0, .int 0, .int 0, .int 0, .int 0, .int 0, .int 0, .int 0, .int 0, .null, .int 0, .int 0, .int 0, .int 0, .null, .int 0, .int 0])), (q1, .inl (y2, 128, .inr (.inl f130))), (q131, .inl (y132, 128, .inl f260)), (q261, .inl (y262, 128, .inl f266))] := hD
  refine lv_dup hx hb dX13_init_1668 rfl ?_
  refine lv_iconst (v := 4) hx hb dX13_init_1669 (by decide) ?_
  refine lv_sipush (v := 12339) hx hb dX13_init_1670 (by decide) ?_
  refine va_iast (i := 4) (x := 12339) hx hb hK hP hD hS 3 2 rfl rfl (vp_in_iff.mpr ⟨by decide, by decide⟩) dX13_init_1673 (fun H locs hP hD hS => ?_)
  generalize hf267 : upd f266 (Int32.toNatClampNeg 4) 12339 = f267 at hP hD
  have hP : va_P (dC, dI) vwCl [(c0, .inr (14, [.ref q1, .ref q131, .null, .null, .int 0, .int 0, .int 0, .null, .null, .null, .int 0, .null, .null, .int 0, .int 0, .int 0, .int 0, .int 0, .int 0, .int 0, .int 0, .int 0, .int 0, .int 0, .int 0, .int 0, .int 0, .int 0, .int 0, .null, .int 0, .int 0, .int 0, .int 0, .null, .int 0, .int 0])), (q1, .inl (y2, 128, .inr (.inl f130))), (q131, .inl (y132, 128, .inl f260)), (q261, .inl (y262, 128, .inl f267))] H := hP
  have hD : va_D A [(c0, .inr (14, [.ref q1, .ref q131, .null, .null, .int 0, .int 0, .int 0, .null, .null, .null, .int 0, .null, .null, .int 0, .int 0, .int 0, .int 0, .int 0, .int 0, .int 0, .int 0, .int 0, .int 0, .int 0, .int 0, .int 0, .int 0, .int 0, .int 0, .null, .int 0, .int 0, .int 0, .int 0, .null, .int 0, .int 0])), (q1, .inl (y2, 128, .inr (.inl f130))), (q131, .inl (y132, 128, .inl f260)), (q261, .inl (y262, 128, .inl f267))] := hD
  refine lv_dup hx hb dX13_init_1674 rfl ?_
  refine lv_iconst (v := 5) hx hb dX13_init_1675 (by decide) ?_
  refine lv_sipush (v := 16435) hx hb dX13_init_1676 (by decide) ?_
  refine va_iast (i := 5) (x := 16435) hx hb hK hP hD hS 3 2 rfl rfl (vp_in_iff.mpr ⟨by decide, by decide⟩) dX13_init_1679 (fun H locs hP hD hS => ?_)
  generalize hf268 : upd f267 (Int32.toNatClampNeg 5) 16435 = f268 at hP hD
  have hP : va_P (dC, dI) vwCl [(c0, .inr (14, [.ref q1, .ref q131, .null, .null, .int 0, .int 0, .int 0, .null, .null, .null, .int 0, .null, .null, .int 0, .int 0, .int 0, .int 0, .int 0, .int 0, .int 0, .int 0, .int 0, .int 0, .int 0, .int 0, .int 0, .int 0, .int 0, .int 0, .null, .int 0, .int 0, .int 0, .int 0, .null, .int 0, .int 0])), (q1, .inl (y2, 128, .inr (.inl f130))), (q131, .inl (y132, 128, .inl f260)), (q261, .inl (y262, 128, .inl f268))] H := hP
  have hD : va_D A [(c0, .inr (14, [.ref q1, .ref q131, .null, .null, .int 0, .int 0, .int 0, .null, .null, .null, .int 0, .null, .null, .int 0, .int 0, .int 0, .int 0, .int 0, .int 0, .int 0, .int 0, .int 0, .int 0, .int 0, .int 0, .int 0, .int 0, .int 0, .int 0, .null, .int 0, .int 0, .int 0, .int 0, .null, .int 0, .int 0])), (q1, .inl (y2, 128, .inr (.inl f130))), (q131, .inl (y132, 128, .inl f260)), (q261, .inl (y262, 128, .inl f268))] := hD
  refine lv_dup hx hb dX13_init_1680 rfl ?_
  refine lv_bipush (v := 6) hx hb dX13_init_1681 (by decide) ?_
  refine lv_sipush (v := 20531) hx hb dX13_init_1683 (by decide) ?_
  refine va_iast (i := 6) (x := 20531) hx hb hK hP hD hS 3 2 rfl rfl (vp_in_iff.mpr ⟨by decide, by decide⟩) dX13_init_1686 (fun H locs hP hD hS => ?_)
  generalize hf269 : upd f268 (Int32.toNatClampNeg 6) 20531 = f269 at hP hD
  have hP : va_P (dC, dI) vwCl [(c0, .inr (14, [.ref q1, .ref q131, .null, .null, .int 0, .int 0, .int 0, .null, .null, .null, .int 0, .null, .null, .int 0, .int 0, .int 0, .int 0, .int 0, .int 0, .int 0, .int 0, .int 0, .int 0, .int 0, .int 0, .int 0, .int 0, .int 0, .int 0, .null, .int 0, .int 0, .int 0, .int 0, .null, .int 0, .int 0])), (q1, .inl (y2, 128, .inr (.inl f130))), (q131, .inl (y132, 128, .inl f260)), (q261, .inl (y262, 128, .inl f269))] H := hP
  have hD : va_D A [(c0, .inr (14, [.ref q1, .ref q131, .null, .null, .int 0, .int 0, .int 0, .null, .null, .null, .int 0, .null, .null, .int 0, .int 0, .int 0, .int 0, .int 0, .int 0, .int 0, .int 0, .int 0, .int 0, .int 0, .int 0, .int 0, .int 0, .int 0, .int 0, .null, .int 0, .int 0, .int 0, .int 0, .null, .int 0, .int 0])), (q1, .inl (y2, 128, .inr (.inl f130))), (q131, .inl (y132, 128, .inl f260)), (q261, .inl (y262, 128, .inl f269))] := hD
  refine lv_dup hx hb dX13_init_1687 rfl ?_
  refine lv_bipush (v := 7) hx hb dX13_init_1688 (by decide) ?_
  refine lv_ldcw hx hb hown (hts (.constant RX13 274 (1073762355)) (List.mem_of_getElem? (i := 138) rfl)) dX13_init_1690 ?_
  refine va_iast (i := 7) (x := 1073762355) hx hb hK hP hD hS 3 2 rfl rfl (vp_in_iff.mpr ⟨by decide, by decide⟩) dX13_init_1693 (fun H locs hP hD hS => ?_)
  generalize hf270 : upd f269 (Int32.toNatClampNeg 7) 1073762355 = f270 at hP hD
  have hP : va_P (dC, dI) vwCl [(c0, .inr (14, [.ref q1, .ref q131, .null, .null, .int 0, .int 0, .int 0, .null, .null, .null, .int 0, .null, .null, .int 0, .int 0, .int 0, .int 0, .int 0, .int 0, .int 0, .int 0, .int 0, .int 0, .int 0, .int 0, .int 0, .int 0, .int 0, .int 0, .null, .int 0, .int 0, .int 0, .int 0, .null, .int 0, .int 0])), (q1, .inl (y2, 128, .inr (.inl f130))), (q131, .inl (y132, 128, .inl f260)), (q261, .inl (y262, 128, .inl f270))] H := hP
  have hD : va_D A [(c0, .inr (14, [.ref q1, .ref q131, .null, .null, .int 0, .int 0, .int 0, .null, .null, .null, .int 0, .null, .null, .int 0, .int 0, .int 0, .int 0, .int 0, .int 0, .int 0, .int 0, .int 0, .int 0, .int 0, .int 0, .int 0, .int 0, .int 0, .int 0, .null, .int 0, .int 0, .int 0, .int 0, .null, .int 0, .int 0])), (q1, .inl (y2, 128, .inr (.inl f130))), (q131, .inl (y132, 128, .inl f260)), (q261, .inl (y262, 128, .inl f270))] := hD
  refine lv_dup hx hb dX13_init_1694 rfl ?_
  refine lv_bipush (v := 8) hx hb dX13_init_1695 (by decide) ?_
  refine lv_sipush (v := 24627) hx hb dX13_init_1697 (by decide) ?_
  refine va_iast (i := 8) (x := 24627) hx hb hK hP hD hS 3 2 rfl rfl (vp_in_iff.mpr ⟨by decide, by decide⟩) dX13_init_1700 (fun H locs hP hD hS => ?_)
  generalize hf271 : upd f270 (Int32.toNatClampNeg 8) 24627 = f271 at hP hD
  have hP : va_P (dC, dI) vwCl [(c0, .inr (14, [.ref q1, .ref q131, .null, .null, .int 0, .int 0, .int 0, .null, .null, .null, .int 0, .null, .null, .int 0, .int 0, .int 0, .int 0, .int 0, .int 0, .int 0, .int 0, .int 0, .int 0, .int 0, .int 0, .int 0, .int 0, .int 0, .int 0, .null, .int 0, .int 0, .int 0, .int 0, .null, .int 0, .int 0])), (q1, .inl (y2, 128, .inr (.inl f130))), (q131, .inl (y132, 128, .inl f260)), (q261, .inl (y262, 128, .inl f271))] H := hP
  have hD : va_D A [(c0, .inr (14, [.ref q1, .ref q131, .null, .null, .int 0, .int 0, .int 0, .null, .null, .null, .int 0, .null, .null, .int 0, .int 0, .int 0, .int 0, .int 0, .int 0, .int 0, .int 0, .int 0, .int 0, .int 0, .int 0, .int 0, .int 0, .int 0, .int 0, .null, .int 0, .int 0, .int 0, .int 0, .null, .int 0, .int 0])), (q1, .inl (y2, 128, .inr (.inl f130))), (q131, .inl (y132, 128, .inl f260)), (q261, .inl (y262, 128, .inl f271))] := hD
  refine lv_dup hx hb dX13_init_1701 rfl ?_
  refine lv_bipush (v := 9) hx hb dX13_init_1702 (by decide) ?_
  refine lv_sipush (v := 28723) hx hb dX13_init_1704 (by decide) ?_
  refine va_iast (i := 9) (x := 28723) hx hb hK hP hD hS 3 2 rfl rfl (vp_in_iff.mpr ⟨by decide, by decide⟩) dX13_init_1707 (fun H locs hP hD hS => ?_)
  generalize hf272 : upd f271 (Int32.toNatClampNeg 9) 28723 = f272 at hP hD
  have hP : va_P (dC, dI) vwCl [(c0, .inr (14, [.ref q1, .ref q131, .null, .null, .int 0, .int 0, .int 0, .null, .null, .null, .int 0, .null, .null, .int 0, .int 0, .int 0, .int 0, .int 0, .int 0, .int 0, .int 0, .int 0, .int 0, .int 0, .int 0, .int 0, .int 0, .int 0, .int 0, .null, .int 0, .int 0, .int 0, .int 0, .null, .int 0, .int 0])), (q1, .inl (y2, 128, .inr (.inl f130))), (q131, .inl (y132, 128, .inl f260)), (q261, .inl (y262, 128, .inl f272))] H := hP
  have hD : va_D A [(c0, .inr (14, [.ref q1, .ref q131, .null, .null, .int 0, .int 0, .int 0, .null, .null, .null, .int 0, .null, .null, .int 0, .int 0, .int 0, .int 0, .int 0, .int 0, .int 0, .int 0, .int 0, .int 0, .int 0, .int 0, .int 0, .int 0, .int 0, .int 0, .null, .int 0, .int 0, .int 0, .int 0, .null, .int 0, .int 0])), (q1, .inl (y2, 128, .inr (.inl f130))), (q131, .inl (y132, 128, .inl f260)), (q261, .inl (y262, 128, .inl f272))] := hD
  refine lv_dup hx hb dX13_init_1708 rfl ?_
  refine lv_bipush (v := 10) hx hb dX13_init_1709 (by decide) ?_
  refine lv_ldcw hx hb hown (hts (.constant RX13 275 (33554483)) (List.mem_of_getElem? (i := 139) rfl)) dX13_init_1711 ?_
  exact kk q261 y262 f260 f272 _ _ _ hK hP hD hS hl

