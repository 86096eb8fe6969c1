set_option maxHeartbeats 40000000 in
set_option maxRecDepth 100000 in
theorem db_X13_suffix_182 {p : Program} {l : Launch} {e : Env} {s : State} {m : MethodId} {args : Array Value} {below : List Frame} {meth : Method} {c : Code} {Q : State → Prop} {A : Nat → Prop} {dC : Nat → ClassId} {dI : Nat → Nat → Nat} {a : Nat → Nat} {ac : Nat → ClassId} {n : Nat} {r : Int32 × (St)} (C : nd_C p l s m args c A (dC, dI) cX13_suffix 4 RX13 ow_dm_X13_suffix (dk_X13 ac)) (K : nd_Ki p l e (headSpec ow_dm_X13_suffix ({ frames := 0, cells := 0, slots := 0, locals := 0 })).room s m args below meth c Q A (dC, dI) cX13_suffix .int (St) (dw_X13 a ac) r) : dj_X13_suffix_182 p l e s m args below meth c Q A dC dI a ac (df_X13_suffix_182 n) r := by
  obtain ⟨hlt, hx, hb, hml, hown, hts, hN, hA, hK⟩ := id C
  intro x2 y0 s0 H locs ls h hP hD hS hl
  unfold df_X13_suffix_182 at h
  refine lv_istore_n (lv' := [(3, .int y0), (0, .ref (a 0)), (2, .int x2)]) hx hb dX13_suffix_182 rfl hl (by decide) rfl (fun ls hl => ?_)
  refine lv_iload_n hx hb dX13_suffix_183 rfl (lv_at hl 2 rfl) ?_
  refine lv_if_ne (tgt := 191) hx hb dX13_suffix_184 (by decide) (fun c5 => ?_) (fun c5 => ?_)
  · have h := nd_neg h c5
    exact (db_X13_suffix_191 C K)  s0 _ _ _ h hP hD hS (lv_sub hl [1] rfl)
  · have h := nd_pos h c5
    refine lv_iload_n hx hb dX13_suffix_187 rfl (lv_at hl 0 rfl) ?_
    refine lv_if_eq (tgt := 211) hx hb dX13_suffix_188 (by decide) (fun c8 => ?_) (fun c8 => ?_)
    · have h := nd_pos h c8
      exact (db_X13_suffix_211 C K)  s0 _ _ _ h hP hD hS (lv_sub hl [] rfl)
    · have h := nd_neg h c8
      exact (db_X13_suffix_191 C K)  s0 _ _ _ h hP hD hS (lv_sub hl [1] rfl)
set_option maxHeartbeats 40000000 in
set_option maxRecDepth 100000 in
theorem db_X13_suffix_181 {p : Program} {l : Launch} {e : Env} {s : State} {m : MethodId} {args : Array Value} {below : List Frame} {meth : Method} {c : Code} {Q : State → Prop} {A : Nat → Prop} {dC : Nat → ClassId} {dI : Nat → Nat → Nat} {a : Nat → Nat} {ac : Nat → ClassId} {n : Nat} {r : Int32 × (St)} (C : nd_C p l s m args c A (dC, dI) cX13_suffix 4 RX13 ow_dm_X13_suffix (dk_X13 ac)) (K : nd_Ki p l e (headSpec ow_dm_X13_suffix ({ frames := 0, cells := 0, slots := 0, locals := 0 })).room s m args below meth c Q A (dC, dI) cX13_suffix .int (St) (dw_X13 a ac) r) : dj_X13_suffix_181 p l e s m args below meth c Q A dC dI a ac (df_X13_suffix_181 n) r := by
  obtain ⟨hlt, hx, hb, hml, hown, hts, hN, hA, hK⟩ := id C
  intro x2 s0 H locs ls h hP hD hS hl
  unfold df_X13_suffix_181 at h
  refine lv_iconst (v := 0) hx hb dX13_suffix_181 (by decide) ?_
  exact (db_X13_suffix_182 C K) (x2) (0) s0 _ _ _ h hP hD hS (lv_sub hl [0, 1] rfl)
set_option maxHeartbeats 40000000 in
set_option maxRecDepth 100000 in
theorem db_X13_suffix_139 {p : Program} {l : Launch} {e : Env} {s : State} {m : MethodId} {args : Array Value} {below : List Frame} {meth : Method} {c : Code} {Q : State → Prop} {A : Nat → Prop} {dC : Nat → ClassId} {dI : Nat → Nat → Nat} {a : Nat → Nat} {ac : Nat → ClassId} {n : Nat} {r : Int32 × (St)} (C : nd_C p l s m args c A (dC, dI) cX13_suffix 4 RX13 ow_dm_X13_suffix (dk_X13 ac)) (K : nd_Ki p l e (headSpec ow_dm_X13_suffix ({ frames := 0, cells := 0, slots := 0, locals := 0 })).room s m args below meth c Q A (dC, dI) cX13_suffix .int (St) (dw_X13 a ac) r) : dj_X13_suffix_139 p l e s m args below meth c Q A dC dI a ac (df_X13_suffix_139 n) r := by
  obtain ⟨hlt, hx, hb, hml, hown, hts, hN, hA, hK⟩ := id C
  intro x1 y0 s0 H locs ls h hP hD hS hl
  unfold df_X13_suffix_139 at h
  refine lv_istore_n (lv' := [(2, .int y0), (0, .ref (a 0)), (1, .int x1)]) hx hb dX13_suffix_139 rfl hl (by decide) rfl (fun ls hl => ?_)
  refine lv_iload_n hx hb dX13_suffix_140 rfl (lv_at hl 2 rfl) ?_
  refine lv_iconst (v := 3) hx hb dX13_suffix_141 (by decide) ?_
  refine lv_icmp_le (tgt := 181) hx hb dX13_suffix_142 (by decide) (fun c4 => ?_) (fun c4 => ?_)
  · have h := nd_pos h c4
    exact (db_X13_suffix_181 C K) (y0) s0 _ _ _ h hP hD hS (lv_sub hl [1, 0] rfl)
  · have h := nd_neg h c4
    refine lv_aload_n hx hb dX13_suffix_145 rfl (lv_at hl 1 rfl) ?_
    refine va_get (D := (dC, dI)) (ci := 14) (v := .ref (a 4)) (C := RX13) (T := TX13) (N := 37) hx hb hts hi_dm_X13_suffix_X13 hown hK hP 0 rfl rfl 3 (by decide) (hts (.fieldLink RX13 324 "TimeMachineModel$Assembler" "text" "[C") (List.mem_of_getElem? (i := 3) rfl)) (fun _ h9 => h9) rfl dX13_suffix_146 ?_
    refine lv_aload_n hx hb dX13_suffix_149 rfl (lv_at hl 1 rfl) ?_
    refine va_get (D := (dC, dI)) (ci := 14) (v := .int (sI s0 10)) (C := RX13) (T := TX13) (N := 37) hx hb hts hi_dm_X13_suffix_X13 hown hK hP 0 rfl rfl 19 (by decide) (hts (.fieldLink RX13 371 "TimeMachineModel$Assembler" "to" "I") (List.mem_of_getElem? (i := 1) rfl)) (fun _ h9 => h9) rfl dX13_suffix_150 ?_
    refine lv_iconst (v := 2) hx hb dX13_suffix_153 (by decide) ?_
    refine lv_isub hx hb dX13_suffix_154 ?_
    obtain ⟨i9, h⟩ := nd_ck_e h
    refine va_cald (i := ((sI s0 10) - 2)) hx hb hK hP 4 3 rfl rfl i9 dX13_suffix_155 ?_
    refine lv_bipush (v := 114) hx hb dX13_suffix_156 (by decide) ?_
    refine lv_icmp_ne (tgt := 181) hx hb dX13_suffix_158 (by decide) (fun c10 => ?_) (fun c10 => ?_)
    · have h := nd_neg h c10
      exact (db_X13_suffix_181 C K) (y0) s0 _ _ _ h hP hD hS (lv_sub hl [1, 0] rfl)
    · have h := nd_pos h c10
      refine lv_aload_n hx hb dX13_suffix_161 rfl (lv_at hl 1 rfl) ?_
      refine va_get (D := (dC, dI)) (ci := 14) (v := .ref (a 4)) (C := RX13) (T := TX13) (N := 37) hx hb hts hi_dm_X13_suffix_X13 hown hK hP 0 rfl rfl 3 (by decide) (hts (.fieldLink RX13 324 "TimeMachineModel$Assembler" "text" "[C") (List.mem_of_getElem? (i := 3) rfl)) (fun _ h9 => h9) rfl dX13_suffix_162 ?_
      refine lv_aload_n hx hb dX13_suffix_165 rfl (lv_at hl 1 rfl) ?_
      refine va_get (D := (dC, dI)) (ci := 14) (v := .int (sI s0 10)) (C := RX13) (T := TX13) (N := 37) hx hb hts hi_dm_X13_suffix_X13 hown hK hP 0 rfl rfl 19 (by decide) (hts (.fieldLink RX13 371 "TimeMachineModel$Assembler" "to" "I") (List.mem_of_getElem? (i := 1) rfl)) (fun _ h9 => h9) rfl dX13_suffix_166 ?_
      refine lv_iconst (v := 1) hx hb dX13_suffix_169 (by decide) ?_
      refine lv_isub hx hb dX13_suffix_170 ?_
      obtain ⟨i11, h⟩ := nd_ck_e h
      refine va_cald (i := ((sI s0 10) - 1)) hx hb hK hP 4 3 rfl rfl i11 dX13_suffix_171 ?_
      refine lv_bipush (v := 108) hx hb dX13_suffix_172 (by decide) ?_
      refine lv_icmp_ne (tgt := 181) hx hb dX13_suffix_174 (by decide) (fun c12 => ?_) (fun c12 => ?_)
      · have h := nd_neg h c12
        exact (db_X13_suffix_181 C K) (y0) s0 _ _ _ h hP hD hS (lv_sub hl [1, 0] rfl)
      · have h := nd_pos h c12
        refine lv_iconst (v := 1) hx hb dX13_suffix_177 (by decide) ?_
        refine lv_goto (tgt := 182) hx hb dX13_suffix_178 (by decide) ?_
        exact (db_X13_suffix_182 C K) (y0) (1) s0 _ _ _ h hP hD hS (lv_sub hl [1, 0] rfl)
set_option maxHeartbeats 40000000 in
set_option maxRecDepth 100000 in
theorem db_X13_suffix_138 {p : Program} {l : Launch} {e : Env} {s : State} {m : MethodId} {args : Array Value} {below : List Frame} {meth : Method} {c : Code} {Q : State → Prop} {A : Nat → Prop} {dC : Nat → ClassId} {dI : Nat → Nat → Nat} {a : Nat → Nat} {ac : Nat → ClassId} {n : Nat} {r : Int32 × (St)} (C : nd_C p l s m args c A (dC, dI) cX13_suffix 4 RX13 ow_dm_X13_suffix (dk_X13 ac)) (K : nd_Ki p l e (headSpec ow_dm_X13_suffix ({ frames := 0, cells := 0, slots := 0, locals := 0 })).room s m args below meth c Q A (dC, dI) cX13_suffix .int (St) (dw_X13 a ac) r) : dj_X13_suffix_138 p l e s m args below meth c Q A dC dI a ac (df_X13_suffix_138 n) r := by
  obtain ⟨hlt, hx, hb, hml, hown, hts, hN, hA, hK⟩ := id C
  intro x1 s0 H locs ls h hP hD hS hl
  unfold df_X13_suffix_138 at h
  refine lv_iconst (v := 0) hx hb dX13_suffix_138 (by decide) ?_
  exact (db_X13_suffix_139 C K) (x1) (0) s0 _ _ _ h hP hD hS (lv_sub hl [0, 1] rfl)
set_option maxHeartbeats 40000000 in
set_option maxRecDepth 100000 in
theorem db_X13_suffix_97 {p : Program} {l : Launch} {e : Env} {s : State} {m : MethodId} {args : Array Value} {below : List Frame} {meth : Method} {c : Code} {Q : State → Prop} {A : Nat → Prop} {dC : Nat → ClassId} {dI : Nat → Nat → Nat} {a : Nat → Nat} {ac : Nat → ClassId} {n : Nat} {r : Int32 × (St)} (C : nd_C p l s m args c A (dC, dI) cX13_suffix 4 RX13 ow_dm_X13_suffix (dk_X13 ac)) (K : nd_Ki p l e (headSpec ow_dm_X13_suffix ({ frames := 0, cells := 0, slots := 0, locals := 0 })).room s m args below meth c Q A (dC, dI) cX13_suffix .int (St) (dw_X13 a ac) r) : dj_X13_suffix_97 p l e s m args below meth c Q A dC dI a ac (df_X13_suffix_97 n) r := by
  obtain ⟨hlt, hx, hb, hml, hown, hts, hN, hA, hK⟩ := id C
  intro x1 s0 H locs ls h hP hD hS hl
  unfold df_X13_suffix_97 at h
  refine lv_iload_n hx hb dX13_suffix_97 rfl (lv_at hl 1 rfl) ?_
  refine lv_iconst (v := 3) hx hb dX13_suffix_98 (by decide) ?_
  refine lv_icmp_le (tgt := 138) hx hb dX13_suffix_99 (by decide) (fun c3 => ?_) (fun c3 => ?_)
  · have h := nd_pos h c3
    exact (db_X13_suffix_138 C K) (x1) s0 _ _ _ h hP hD hS (lv_sub hl [0, 1] rfl)
  · have h := nd_neg h c3
    refine lv_aload_n hx hb dX13_suffix_102 rfl (lv_at hl 0 rfl) ?_
    refine va_get (D := (dC, dI)) (ci := 14) (v := .ref (a 4)) (C := RX13) (T := TX13) (N := 37) hx hb hts hi_dm_X13_suffix_X13 hown hK hP 0 rfl rfl 3 (by decide) (hts (.fieldLink RX13 324 "TimeMachineModel$Assembler" "text" "[C") (List.mem_of_getElem? (i := 3) rfl)) (fun _ h9 => h9) rfl dX13_suffix_103 ?_
    refine lv_aload_n hx hb dX13_suffix_106 rfl (lv_at hl 0 rfl) ?_
    refine va_get (D := (dC, dI)) (ci := 14) (v := .int (sI s0 10)) (C := RX13) (T := TX13) (N := 37) hx hb hts hi_dm_X13_suffix_X13 hown hK hP 0 rfl rfl 19 (by decide) (hts (.fieldLink RX13 371 "TimeMachineModel$Assembler" "to" "I") (List.mem_of_getElem? (i := 1) rfl)) (fun _ h9 => h9) rfl dX13_suffix_107 ?_
    refine lv_iconst (v := 2) hx hb dX13_suffix_110 (by decide) ?_
    refine lv_isub hx hb dX13_suffix_111 ?_
    obtain ⟨i13, h⟩ := nd_ck_e h
    refine va_cald (i := ((sI s0 10) - 2)) hx hb hK hP 4 3 rfl rfl i13 dX13_suffix_112 ?_
    refine lv_bipush (v := 97) hx hb dX13_suffix_113 (by decide) ?_
    refine lv_icmp_ne (tgt := 138) hx hb dX13_suffix_115 (by decide) (fun c14 => ?_) (fun c14 => ?_)
    · have h := nd_neg h c14
      exact (db_X13_suffix_138 C K) (x1) s0 _ _ _ h hP hD hS (lv_sub hl [0, 1] rfl)
    · have h := nd_pos h c14
      refine lv_aload_n hx hb dX13_suffix_118 rfl (lv_at hl 0 rfl) ?_
      refine va_get (D := (dC, dI)) (ci := 14) (v := .ref (a 4)) (C := RX13) (T := TX13) (N := 37) hx hb hts hi_dm_X13_suffix_X13 hown hK hP 0 rfl rfl 3 (by decide) (hts (.fieldLink RX13 324 "TimeMachineModel$Assembler" "text" "[C") (List.mem_of_getElem? (i := 3) rfl)) (fun _ h9 => h9) rfl dX13_suffix_119 ?_
      refine lv_aload_n hx hb dX13_suffix_122 rfl (lv_at hl 0 rfl) ?_
      refine va_get (D := (dC, dI)) (ci := 14) (v := .int (sI s0 10)) (C := RX13) (T := TX13) (N := 37) hx hb hts hi_dm_X13_suffix_X13 hown hK hP 0 rfl rfl 19 (by decide) (hts (.fieldLink RX13 371 "TimeMachineModel$Assembler" "to" "I") (List.mem_of_getElem? (i := 1) rfl)) (fun _ h9 => h9) rfl dX13_suffix_123 ?_
      refine lv_iconst (v := 1) hx hb dX13_suffix_126 (by decide) ?_
      refine lv_isub hx hb dX13_suffix_127 ?_
      obtain ⟨i15, h⟩ := nd_ck_e h
      refine va_cald (i := ((sI s0 10) - 1)) hx hb hK hP 4 3 rfl rfl i15 dX13_suffix_128 ?_
      refine lv_bipush (v := 113) hx hb dX13_suffix_129 (by decide) ?_
      refine lv_icmp_ne (tgt := 138) hx hb dX13_suffix_131 (by decide) (fun c16 => ?_) (fun c16 => ?_)
      · have h := nd_neg h c16
        exact (db_X13_suffix_138 C K) (x1) s0 _ _ _ h hP hD hS (lv_sub hl [0, 1] rfl)
      · have h := nd_pos h c16
        refine lv_iconst (v := 1) hx hb dX13_suffix_134 (by decide) ?_
        refine lv_goto (tgt := 139) hx hb dX13_suffix_135 (by decide) ?_
        exact (db_X13_suffix_139 C K) (x1) (1) s0 _ _ _ h hP hD hS (lv_sub hl [0, 1] rfl)
set_option maxHeartbeats 40000000 in
set_option maxRecDepth 100000 in
theorem db_X13_suffix_0 {p : Program} {l : Launch} {e : Env} {s : State} {m : MethodId} {args : Array Value} {below : List Frame} {meth : Method} {c : Code} {Q : State → Prop} {A : Nat → Prop} {dC : Nat → ClassId} {dI : Nat → Nat → Nat} {a : Nat → Nat} {ac : Nat → ClassId} {n : Nat} {r : Int32 × (St)} (C : nd_C p l s m args c A (dC, dI) cX13_suffix 4 RX13 ow_dm_X13_suffix (dk_X13 ac)) (K : nd_Ki p l e (headSpec ow_dm_X13_suffix ({ frames := 0, cells := 0, slots := 0, locals := 0 })).room s m args below meth c Q A (dC, dI) cX13_suffix .int (St) (dw_X13 a ac) r) : dj_X13_suffix_0 p l e s m args below meth c Q A dC dI a ac (df_X13_suffix_0 n) r := by
  obtain ⟨hlt, hx, hb, hml, hown, hts, hN, hA, hK⟩ := id C
  intro s0 H locs ls h hP hD hS hl
  unfold df_X13_suffix_0 at h
  refine lv_aload_n hx hb dX13_suffix_0 rfl (lv_at hl 0 rfl) ?_
  refine va_get (D := (dC, dI)) (ci := 14) (v := .int (sI s0 10)) (C := RX13) (T := TX13) (N := 37) hx hb hts hi_dm_X13_suffix_X13 hown hK hP 0 rfl rfl 19 (by decide) (hts (.fieldLink RX13 371 "TimeMachineModel$Assembler" "to" "I") (List.mem_of_getElem? (i := 1) rfl)) (fun _ h9 => h9) rfl dX13_suffix_1 ?_
  refine lv_aload_n hx hb dX13_suffix_4 rfl (lv_at hl 0 rfl) ?_
  refine va_get (D := (dC, dI)) (ci := 14) (v := .int (sI s0 9)) (C := RX13) (T := TX13) (N := 37) hx hb hts hi_dm_X13_suffix_X13 hown hK hP 0 rfl rfl 18 (by decide) (hts (.fieldLink RX13 368 "TimeMachineModel$Assembler" "from" "I") (List.mem_of_getElem? (i := 2) rfl)) (fun _ h9 => h9) rfl dX13_suffix_5 ?_
  refine lv_isub hx hb dX13_suffix_8 ?_
  refine lv_topi (fun z1 ez1 => ?_)
  have h := nd_at h ez1
  refine lv_istore_n (lv' := [(1, .int z1), (0, .ref (a 0))]) hx hb dX13_suffix_9 rfl hl (by decide) rfl (fun ls hl => ?_)
  refine lv_iload_n hx hb dX13_suffix_10 rfl (lv_at hl 0 rfl) ?_
  refine lv_iconst (v := 5) hx hb dX13_suffix_11 (by decide) ?_
  refine lv_icmp_le (tgt := 97) hx hb dX13_suffix_12 (by decide) (fun c2 => ?_) (fun c2 => ?_)
  · have h := nd_pos h c2
    exact (db_X13_suffix_97 C K) (z1) s0 _ _ _ h hP hD hS (lv_sub hl [1, 0] rfl)
  · have h := nd_neg h c2
    refine lv_aload_n hx hb dX13_suffix_15 rfl (lv_at hl 1 rfl) ?_
    refine va_get (D := (dC, dI)) (ci := 14) (v := .ref (a 4)) (C := RX13) (T := TX13) (N := 37) hx hb hts hi_dm_X13_suffix_X13 hown hK hP 0 rfl rfl 3 (by decide) (hts (.fieldLink RX13 324 "TimeMachineModel$Assembler" "text" "[C") (List.mem_of_getElem? (i := 3) rfl)) (fun _ h9 => h9) rfl dX13_suffix_16 ?_
    refine lv_aload_n hx hb dX13_suffix_19 rfl (lv_at hl 1 rfl) ?_
    refine va_get (D := (dC, dI)) (ci := 14) (v := .int (sI s0 10)) (C := RX13) (T := TX13) (N := 37) hx hb hts hi_dm_X13_suffix_X13 hown hK hP 0 rfl rfl 19 (by decide) (hts (.fieldLink RX13 371 "TimeMachineModel$Assembler" "to" "I") (List.mem_of_getElem? (i := 1) rfl)) (fun _ h9 => h9) rfl dX13_suffix_20 ?_
    refine lv_iconst (v := 5) hx hb dX13_suffix_23 (by decide) ?_
    refine lv_isub hx hb dX13_suffix_24 ?_
    obtain ⟨i17, h⟩ := nd_ck_e h
    refine va_cald (i := ((sI s0 10) - 5)) hx hb hK hP 4 3 rfl rfl i17 dX13_suffix_25 ?_
    refine lv_bipush (v := 46) hx hb dX13_suffix_26 (by decide) ?_
    refine lv_icmp_ne (tgt := 97) hx hb dX13_suffix_28 (by decide) (fun c18 => ?_) (fun c18 => ?_)
    · have h := nd_neg h c18
      exact (db_X13_suffix_97 C K) (z1) s0 _ _ _ h hP hD hS (lv_sub hl [1, 0] rfl)
    · have h := nd_pos h c18
      refine lv_aload_n hx hb dX13_suffix_31 rfl (lv_at hl 1 rfl) ?_
      refine va_get (D := (dC, dI)) (ci := 14) (v := .ref (a 4)) (C := RX13) (T := TX13) (N := 37) hx hb hts hi_dm_X13_suffix_X13 hown hK hP 0 rfl rfl 3 (by decide) (hts (.fieldLink RX13 324 "TimeMachineModel$Assembler" "text" "[C") (List.mem_of_getElem? (i := 3) rfl)) (fun _ h9 => h9) rfl dX13_suffix_32 ?_
      refine lv_aload_n hx hb dX13_suffix_35 rfl (lv_at hl 1 rfl) ?_
      refine va_get (D := (dC, dI)) (ci := 14) (v := .int (sI s0 10)) (C := RX13) (T := TX13) (N := 37) hx hb hts hi_dm_X13_suffix_X13 hown hK hP 0 rfl rfl 19 (by decide) (hts (.fieldLink RX13 371 "TimeMachineModel$Assembler" "to" "I") (List.mem_of_getElem? (i := 1) rfl)) (fun _ h9 => h9) rfl dX13_suffix_36 ?_
      refine lv_iconst (v := 4) hx hb dX13_suffix_39 (by decide) ?_
      refine lv_isub hx hb dX13_suffix_40 ?_
      obtain ⟨i19, h⟩ := nd_ck_e h
      refine va_cald (i := ((sI s0 10) - 4)) hx hb hK hP 4 3 rfl rfl i19 dX13_suffix_41 ?_
      refine lv_bipush (v := 97) hx hb dX13_suffix_42 (by decide) ?_
      refine lv_icmp_ne (tgt := 97) hx hb dX13_suffix_44 (by decide) (fun c20 => ?_) (fun c20 => ?_)
      · have h := nd_neg h c20
        exact (db_X13_suffix_97 C K) (z1) s0 _ _ _ h hP hD hS (lv_sub hl [1, 0] rfl)
      · have h := nd_pos h c20
        refine lv_aload_n hx hb dX13_suffix_47 rfl (lv_at hl 1 rfl) ?_
        refine va_get (D := (dC, dI)) (ci := 14) (v := .ref (a 4)) (C := RX13) (T := TX13) (N := 37) hx hb hts hi_dm_X13_suffix_X13 hown hK hP 0 rfl rfl 3 (by decide) (hts (.fieldLink RX13 324 "TimeMachineModel$Assembler" "text" "[C") (List.mem_of_getElem? (i := 3) rfl)) (fun _ h9 => h9) rfl dX13_suffix_48 ?_
        refine lv_aload_n hx hb dX13_suffix_51 rfl (lv_at hl 1 rfl) ?_
        refine va_get (D := (dC, dI)) (ci := 14) (v := .int (sI s0 10)) (C := RX13) (T := TX13) (N := 37) hx hb hts hi_dm_X13_suffix_X13 hown hK hP 0 rfl rfl 19 (by decide) (hts (.fieldLink RX13 371 "TimeMachineModel$Assembler" "to" "I") (List.mem_of_getElem? (i := 1) rfl)) (fun _ h9 => h9) rfl dX13_suffix_52 ?_
        refine lv_iconst (v := 3) hx hb dX13_suffix_55 (by decide) ?_
        refine lv_isub hx hb dX13_suffix_56 ?_
        obtain ⟨i21, h⟩ := nd_ck_e h
        refine va_cald (i := ((sI s0 10) - 3)) hx hb hK hP 4 3 rfl rfl i21 dX13_suffix_57 ?_
        refine lv_bipush (v := 113) hx hb dX13_suffix_58 (by decide) ?_
        refine lv_icmp_ne (tgt := 97) hx hb dX13_suffix_60 (by decide) (fun c22 => ?_) (fun c22 => ?_)
        · have h := nd_neg h c22
          exact (db_X13_suffix_97 C K) (z1) s0 _ _ _ h hP hD hS (lv_sub hl [1, 0] rfl)
        · have h := nd_pos h c22
          refine lv_aload_n hx hb dX13_suffix_63 rfl (lv_at hl 1 rfl) ?_
          refine va_get (D := (dC, dI)) (ci := 14) (v := .ref (a 4)) (C := RX13) (T := TX13) (N := 37) hx hb hts hi_dm_X13_suffix_X13 hown hK hP 0 rfl rfl 3 (by decide) (hts (.fieldLink RX13 324 "TimeMachineModel$Assembler" "text" "[C") (List.mem_of_getElem? (i := 3) rfl)) (fun _ h9 => h9) rfl dX13_suffix_64 ?_
          refine lv_aload_n hx hb dX13_suffix_67 rfl (lv_at hl 1 rfl) ?_
          refine va_get (D := (dC, dI)) (ci := 14) (v := .int (sI s0 10)) (C := RX13) (T := TX13) (N := 37) hx hb hts hi_dm_X13_suffix_X13 hown hK hP 0 rfl rfl 19 (by decide) (hts (.fieldLink RX13 371 "TimeMachineModel$Assembler" "to" "I") (List.mem_of_getElem? (i := 1) rfl)) (fun _ h9 => h9) rfl dX13_suffix_68 ?_
          refine lv_iconst (v := 2) hx hb dX13_suffix_71 (by decide) ?_
          refine lv_isub hx hb dX13_suffix_72 ?_
          obtain ⟨i23, h⟩ := nd_ck_e h
          refine va_cald (i := ((sI s0 10) - 2)) hx hb hK hP 4 3 rfl rfl i23 dX13_suffix_73 ?_
          refine lv_bipush (v := 114) hx hb dX13_suffix_74 (by decide) ?_
          refine lv_icmp_ne (tgt := 97) hx hb dX13_suffix_76 (by decide) (fun c24 => ?_) (fun c24 => ?_)
          · have h := nd_neg h c24
            exact (db_X13_suffix_97 C K) (z1) s0 _ _ _ h hP hD hS (lv_sub hl [1, 0] rfl)
          · have h := nd_pos h c24
            refine lv_aload_n hx hb dX13_suffix_79 rfl (lv_at hl 1 rfl) ?_
            refine va_get (D := (dC, dI)) (ci := 14) (v := .ref (a 4)) (C := RX13) (T := TX13) (N := 37) hx hb hts hi_dm_X13_suffix_X13 hown hK hP 0 rfl rfl 3 (by decide) (hts (.fieldLink RX13 324 "TimeMachineModel$Assembler" "text" "[C") (List.mem_of_getElem? (i := 3) rfl)) (fun _ h9 => h9) rfl dX13_suffix_80 ?_
            refine lv_aload_n hx hb dX13_suffix_83 rfl (lv_at hl 1 rfl) ?_
            refine va_get (D := (dC, dI)) (ci := 14) (v := .int (sI s0 10)) (C := RX13) (T := TX13) (N := 37) hx hb hts hi_dm_X13_suffix_X13 hown hK hP 0 rfl rfl 19 (by decide) (hts (.fieldLink RX13 371 "TimeMachineModel$Assembler" "to" "I") (List.mem_of_getElem? (i := 1) rfl)) (fun _ h9 => h9) rfl dX13_suffix_84 ?_
            refine lv_iconst (v := 1) hx hb dX13_suffix_87 (by decide) ?_
            refine lv_isub hx hb dX13_suffix_88 ?_
            obtain ⟨i25, h⟩ := nd_ck_e h
            refine va_cald (i := ((sI s0 10) - 1)) hx hb hK hP 4 3 rfl rfl i25 dX13_suffix_89 ?_
            refine lv_bipush (v := 108) hx hb dX13_suffix_90 (by decide) ?_
            refine lv_icmp_ne (tgt := 97) hx hb dX13_suffix_92 (by decide) (fun c26 => ?_) (fun c26 => ?_)
            · have h := nd_neg h c26
              exact (db_X13_suffix_97 C K) (z1) s0 _ _ _ h hP hD hS (lv_sub hl [1, 0] rfl)
            · have h := nd_pos h c26
              refine lv_iconst (v := 5) hx hb dX13_suffix_95 (by decide) ?_
              exact K _ _ _ _ _ _ dX13_suffix_96 rfl (Option.some.inj h).symm hP hD hS
set_option maxHeartbeats 40000000 in
set_option maxRecDepth 100000 in
theorem dm_X13_suffix (l : Launch) (hlt : l.stackTraces = false) (dC : Nat → ClassId) (dI : Nat → Nat → Nat) (a : Nat → Nat) (ac : Nat → ClassId) (n : Nat) (s0 : St) {r : Int32 × (St)} (h : df_X13_suffix n s0 = some r) (sz : Nat) : Met l yX13_suffix ow_dm_X13_suffix ({ frames := 0, cells := 0, slots := 0, locals := 0 }) (va_Pc [.ref (a 0)] (fun U => U.heap.size = sz ∧ va_P (dC, dI) vwCl (dw_X13 a ac s0) U.heap ∧ va_K (dC, dI) vwCl (dk_X13 ac) U ∧ va_D (fun _ => True) (dw_X13 a ac s0) ∧ nv_E (va_A (dw_X13 a ac s0) sz) U)) (va_Qi (fun x _ => x = r.1) (fun (_ : Unit) t => va_P (dC, dI) vwCl (dw_X13 a ac r.2) t.heap ∧ va_K (dC, dI) vwCl (dk_X13 ac) t ∧ va_D (va_A (dw_X13 a ac s0) sz) (dw_X13 a ac r.2)) (va_A (dw_X13 a ac s0) sz)) 0 0 (va_A (dw_X13 a ac s0) sz) := by
  refine Met.ofW (cc := cX13_suffix) (maxL := 4) (ret := (some .int)) (by decide) rfl ?_
  intro p e s m args below meth c s₁ B hml hv
  obtain ⟨rfl, hsz, hP, hK, hD0, hN⟩ := hv
  have hx := B.exec
  have hb := B.bytes
  have hr := B.returns
  have hts := atoms_spec (ws := ow_dm_X13_suffix) B.pre
  have hown : s.vm.findClass RX13 = some m.cls := findClass_of_methodNamed B.named
  have hlocks := B.notSynchronized
  subst hsz
  have hD := hD0.self (sz := s.heap.size)
  generalize hAe : va_A (dw_X13 a ac s0) s.heap.size = A at hD hN ⊢
  have hA : ∀ q : Nat, s.heap.size ≤ q → A q := fun q h => by rw [← hAe]; exact Or.inr h
  have hl := lv_entry ([.ref (a 0)]) (n := 4) (Nat.le_of_ble_eq_true rfl)
  rw [lg_entry_eq]
  generalize (lg_sl ([.ref (a 0)]) ++ List.replicate (4 - (lg_sl ([.ref (a 0)])).length) Slot.unset).toArray = ls at hl ⊢
  have hl : lv_has ls 4 [(0, .ref (a 0))] := hl
  exact db_X13_suffix_0 (dC := dC) (dI := dI) (a := a) (ac := ac) (n := n) (r := r) ⟨hlt, hx, hb, hml, hown, hts, hN, hA, hK⟩ (fun pc v τ H locs ls d z er hP hD hS => by subst er; exact W.zret (v := v) hx hb hr z (fun t ht hW => ⟨⟨v, (), rfl, rfl, by rw [ht]; exact hP, va_K.moved hW.alike hK, hD⟩, hS.F ht⟩) hS.2.2 d) s0 _ _ _ h hP hD va_S.rf (lv_sub hl [0] rfl)
def ow_dm_X13_statement : List Cond := .code yX13_statement cX13_statement 8 none :: ([.fieldLink RX13 522 "TimeMachineModel$Assembler" "mode" "I", .fieldLink RX13 374 "TimeMachineModel$Assembler" "at" "I", .fieldLink RX13 541 "TimeMachineModel$Assembler" "count" "I", .methodLink RX13 416 yX13_scan, .instanceMethod yX13_scan, .selects RX13 yX13_scan yX13_scan, .initialized RX13, .methodLink RX13 645 yX13_suffix, .instanceMethod yX13_suffix, .selects RX13 yX13_suffix yX13_suffix, .fieldLink RX13 368 "TimeMachineModel$Assembler" "from" "I", .fieldLink RX13 371 "TimeMachineModel$Assembler" "to" "I", .methodLink RX13 648 yX13_named, .instanceMethod yX13_named, .selects RX13 yX13_named yX13_named, .fieldLink RX13 269 "TimeMachineModel$Assembler" "shapes" "[B", .fieldLink RX13 319 "TimeMachineModel$Assembler" "patterns" "[I", .methodLink RX13 658 yX13_jumps, .instanceMethod yX13_jumps, .selects RX13 yX13_jumps yX13_jumps, .fieldLink RX13 410 "TimeMachineModel$Assembler" "fault" "I", .methodLink RX13 506 yX13_needs, .instanceMethod yX13_needs, .selects RX13 yX13_needs yX13_needs, .methodLink RX13 661 yX13_branches, .instanceMethod yX13_branches, .selects RX13 yX13_branches yX13_branches, .methodLink RX13 664 yX13_longs, .instanceMethod yX13_longs, .selects RX13 yX13_longs yX13_longs, .methodLink RX13 670 yX13_others, .instanceMethod yX13_others, .selects RX13 yX13_others yX13_others, .methodLink RX13 667 yX13_shorts, .instanceMethod yX13_shorts, .selects RX13 yX13_shorts yX13_shorts, .methodLink RX13 547 yX13_half, .instanceMethod yX13_half, .selects RX13 yX13_half yX13_half, .methodLink RX13 570 yX13_word, .instanceMethod yX13_word, .selects RX13 yX13_word yX13_word, .methodLink RX13 654 yX13_directive, .instanceMethod yX13_directive, .selects RX13 yX13_directive yX13_directive, .methodLink RX13 419 yX13_blame, .instanceMethod yX13_blame, .selects RX13 yX13_blame yX13_blame, .fieldLink RX13 324 "TimeMachineModel$Assembler" "text" "[C", .constant RX13 653 (33554432), .constant RX13 652 (67108864), .constant RX13 651 (100663296)] ++ (u_ws RX13 TX13 37 ++ (ow_dm_X13_scan ++ (ow_dm_X13_suffix ++ (ow_dm_X13_named ++ (ow_dm_X13_jumps ++ (ow_dm_X13_needs ++ (ow_dm_X13_branches ++ (ow_dm_X13_longs ++ (ow_dm_X13_others ++ (ow_dm_X13_shorts ++ (ow_dm_X13_half ++ (ow_dm_X13_word ++ (ow_dm_X13_directive ++ (ow_dm_X13_blame ++ [])))))))))))))))
theorem gd_dm_X13_statement : ∀ w ∈ ow_dm_X13_statement, (w.onTables && w.keeps) = true ∨ ∃ ty, w = Cond.arrayClass ty := List.forall_mem_cons.mpr ⟨good_of_word rfl, List.forall_mem_append.mpr ⟨fun w h => good_of_word (List.all_eq_true.mp (by decide +kernel) w h), List.forall_mem_append.mpr ⟨gu_X13, List.forall_mem_append.mpr ⟨gd_dm_X13_scan, List.forall_mem_append.mpr ⟨gd_dm_X13_suffix, List.forall_mem_append.mpr ⟨gd_dm_X13_named, List.forall_mem_append.mpr ⟨gd_dm_X13_jumps, List.forall_mem_append.mpr ⟨gd_dm_X13_needs, List.forall_mem_append.mpr ⟨gd_dm_X13_branches, List.forall_mem_append.mpr ⟨gd_dm_X13_longs, List.forall_mem_append.mpr ⟨gd_dm_X13_others, List.forall_mem_append.mpr ⟨gd_dm_X13_shorts, List.forall_mem_append.mpr ⟨gd_dm_X13_half, List.forall_mem_append.mpr ⟨gd_dm_X13_word, List.forall_mem_append.mpr ⟨gd_dm_X13_directive, List.forall_mem_append.mpr ⟨gd_dm_X13_blame, fun _ h => nomatch h⟩⟩⟩⟩⟩⟩⟩⟩⟩⟩⟩⟩⟩⟩⟩⟩
theorem hi_dm_X13_statement_X13 : ∀ w ∈ u_ws RX13 TX13 37, w ∈ ow_dm_X13_statement := fun w h => List.mem_cons_of_mem _ (List.mem_append_right _ (List.mem_append_left _ h))
theorem gi_dm_X13_statement_0 : GoodIn ow_dm_X13_statement (wsV RX13 416 RX13 yX13_scan ow_dm_X13_scan) := goodIn_app (goodIn_of _ (by decide +kernel)) (fun w h => ⟨List.mem_cons_of_mem _ (List.mem_append_right _ (List.mem_append_right _ (List.mem_append_left _ h))), gd_dm_X13_scan w h⟩)
theorem gi_dm_X13_statement_1 : GoodIn ow_dm_X13_statement (wsV RX13 645 RX13 yX13_suffix ow_dm_X13_suffix) := goodIn_app (goodIn_of _ (by decide +kernel)) (fun w h => ⟨List.mem_cons_of_mem _ (List.mem_append_right _ (List.mem_append_right _ (List.mem_append_right _ (List.mem_append_left _ h)))), gd_dm_X13_suffix w h⟩)
theorem gi_dm_X13_statement_2 : GoodIn ow_dm_X13_statement (wsV RX13 648 RX13 yX13_named ow_dm_X13_named) := goodIn_app (goodIn_of _ (by decide +kernel)) (fun w h => ⟨List.mem_cons_of_mem _ (List.mem_append_right _ (List.mem_append_right _ (List.mem_append_right _ (List.mem_append_right _ (List.mem_append_left _ h))))), gd_dm_X13_named w h⟩)
theorem gi_dm_X13_statement_3 : GoodIn ow_dm_X13_statement (wsV RX13 658 RX13 yX13_jumps ow_dm_X13_jumps) := goodIn_app (goodIn_of _ (by decide +kernel)) (fun w h => ⟨List.mem_cons_of_mem _ (List.mem_append_right _ (List.mem_append_right _ (List.mem_append_right _ (List.mem_append_right _ (List.mem_append_right _ (List.mem_append_left _ h)))))), gd_dm_X13_jumps w h⟩)
theorem gi_dm_X13_statement_4 : GoodIn ow_dm_X13_statement (wsV RX13 506 RX13 yX13_needs ow_dm_X13_needs) := goodIn_app (goodIn_of _ (by decide +kernel)) (fun w h => ⟨List.mem_cons_of_mem _ (List.mem_append_right _ (List.mem_append_right _ (List.mem_append_right _ (List.mem_append_right _ (List.mem_append_right _ (List.mem_append_right _ (List.mem_append_left _ h))))))), gd_dm_X13_needs w h⟩)
theorem gi_dm_X13_statement_5 : GoodIn ow_dm_X13_statement (wsV RX13 661 RX13 yX13_branches ow_dm_X13_branches) := goodIn_app (goodIn_of _ (by decide +kernel)) (fun w h => ⟨List.mem_cons_of_mem _ (List.mem_append_right _ (List.mem_append_right _ (List.mem_append_right _ (List.mem_append_right _ (List.mem_append_right _ (List.mem_append_right _ (List.mem_append_right _ (List.mem_append_left _ h)))))))), gd_dm_X13_branches w h⟩)
theorem gi_dm_X13_statement_6 : GoodIn ow_dm_X13_statement (wsV RX13 664 RX13 yX13_longs ow_dm_X13_longs) := goodIn_app (goodIn_of _ (by decide +kernel)) (fun w h => ⟨List.mem_cons_of_mem _ (List.mem_append_right _ (List.mem_append_right _ (List.mem_append_right _ (List.mem_append_right _ (List.mem_append_right _ (List.mem_append_right _ (List.mem_append_right _ (List.mem_append_right _ (List.mem_append_left _ h))))))))), gd_dm_X13_longs w h⟩)
theorem gi_dm_X13_statement_7 : GoodIn ow_dm_X13_statement (wsV RX13 670 RX13 yX13_others ow_dm_X13_others) := goodIn_app (goodIn_of _ (by decide +kernel)) (fun w h => ⟨List.mem_cons_of_mem _ (List.mem_append_right _ (List.mem_append_right _ (List.mem_append_right _ (List.mem_append_right _ (List.mem_append_right _ (List.mem_append_right _ (List.mem_append_right _ (List.mem_append_right _ (List.mem_append_right _ (List.mem_append_left _ h)))))))))), gd_dm_X13_others w h⟩)
theorem gi_dm_X13_statement_8 : GoodIn ow_dm_X13_statement (wsV RX13 667 RX13 yX13_shorts ow_dm_X13_shorts) := goodIn_app (goodIn_of _ (by decide +kernel)) (fun w h => ⟨List.mem_cons_of_mem _ (List.mem_append_right _ (List.mem_append_right _ (List.mem_append_right _ (List.mem_append_right _ (List.mem_append_right _ (List.mem_append_right _ (List.mem_append_right _ (List.mem_append_right _ (List.mem_append_right _ (List.mem_append_right _ (List.mem_append_left _ h))))))))))), gd_dm_X13_shorts w h⟩)
theorem gi_dm_X13_statement_9 : GoodIn ow_dm_X13_statement (wsV RX13 547 RX13 yX13_half ow_dm_X13_half) := goodIn_app (goodIn_of _ (by decide +kernel)) (fun w h => ⟨List.mem_cons_of_mem _ (List.mem_append_right _ (List.mem_append_right _ (List.mem_append_right _ (List.mem_append_right _ (List.mem_append_right _ (List.mem_append_right _ (List.mem_append_right _ (List.mem_append_right _ (List.mem_append_right _ (List.mem_append_right _ (List.mem_append_right _ (List.mem_append_left _ h)))))))))))), gd_dm_X13_half w h⟩)
theorem gi_dm_X13_statement_10 : GoodIn ow_dm_X13_statement (wsV RX13 570 RX13 yX13_word ow_dm_X13_word) := goodIn_app (goodIn_of _ (by decide +kernel)) (fun w h => ⟨List.mem_cons_of_mem _ (List.mem_append_right _ (List.mem_append_right _ (List.mem_append_right _ (List.mem_append_right _ (List.mem_append_right _ (List.mem_append_right _ (List.mem_append_right _ (List.mem_append_right _ (List.mem_append_right _ (List.mem_append_right _ (List.mem_append_right _ (List.mem_append_right _ (List.mem_append_left _ h))))))))))))), gd_dm_X13_word w h⟩)
theorem gi_dm_X13_statement_11 : GoodIn ow_dm_X13_statement (wsV RX13 654 RX13 yX13_directive ow_dm_X13_directive) := goodIn_app (goodIn_of _ (by decide +kernel)) (fun w h => ⟨List.mem_cons_of_mem _ (List.mem_append_right _ (List.mem_append_right _ (List.mem_append_right _ (List.mem_append_right _ (List.mem_append_right _ (List.mem_append_right _ (List.mem_append_right _ (List.mem_append_right _ (List.mem_append_right _ (List.mem_append_right _ (List.mem_append_right _ (List.mem_append_right _ (List.mem_append_right _ (List.mem_append_left _ h)))))))))))))), gd_dm_X13_directive w h⟩)
theorem gi_dm_X13_statement_12 : GoodIn ow_dm_X13_statement (wsV RX13 419 RX13 yX13_blame ow_dm_X13_blame) := goodIn_app (goodIn_of _ (by decide +kernel)) (fun w h => ⟨List.mem_cons_of_mem _ (List.mem_append_right _ (List.mem_append_right _ (List.mem_append_right _ (List.mem_append_right _ (List.mem_append_right _ (List.mem_append_right _ (List.mem_append_right _ (List.mem_append_right _ (List.mem_append_right _ (List.mem_append_right _ (List.mem_append_right _ (List.mem_append_right _ (List.mem_append_right _ (List.mem_append_right _ (List.mem_append_left _ h))))))))))))))), gd_dm_X13_blame w h⟩)
def dj_X13_statement_346 (p : Program) (l : Launch) (e : Env) (s : State) (m : MethodId) (args : Array Value) (below : List Frame) (meth : Method) (c : Code) (Q : State → Prop) (A : Nat → Prop) (dC : Nat → ClassId) (dI : Nat → Nat → Nat) (a : Nat → Nat) (ac : Nat → ClassId) (g : (St) → Option (St)) (r : St) : Prop := ∀ (s0 : St) (H : Heap) (locs : List Loc) (ls : Array Slot), g s0 = some r → va_P (dC, dI) vwCl (dw_X13 a ac s0) H → va_D A (dw_X13 a ac s0) → va_S A s.heap H locs → lv_has ls 8 [] → W p l e (headSpec ow_dm_X13_statement ({ frames := 11, cells := 0, slots := 0, locals := 260 })).room s m args below meth c H locs 0 0 Q (F0 m 346 ls [])
def dj_X13_statement_326 (p : Program) (l : Launch) (e : Env) (s : State) (m : MethodId) (args : Array Value) (below : List Frame) (meth : Method) (c : Code) (Q : State → Prop) (A : Nat → Prop) (dC : Nat → ClassId) (dI : Nat → Nat → Nat) (a : Nat → Nat) (ac : Nat → ClassId) (g : (St) → Option (St)) (r : St) : Prop := ∀ (s0 : St) (H : Heap) (locs : List Loc) (ls : Array Slot), g s0 = some r → va_P (dC, dI) vwCl (dw_X13 a ac s0) H → va_D A (dw_X13 a ac s0) → va_S A s.heap H locs → lv_has ls 8 [(0, .ref (a 0))] → W p l e (headSpec ow_dm_X13_statement ({ frames := 11, cells := 0, slots := 0, locals := 260 })).room s m args below meth c H locs 0 0 Q (F0 m 326 ls [])
def dj_X13_statement_232 (p : Program) (l : Launch) (e : Env) (s : State) (m : MethodId) (args : Array Value) (below : List Frame) (meth : Method) (c : Code) (Q : State → Prop) (A : Nat → Prop) (dC : Nat → ClassId) (dI : Nat → Nat → Nat) (a : Nat → Nat) (ac : Nat → ClassId) (g : Int32 → Int32 → (St) → Option (St)) (r : St) : Prop := ∀ (x6 : Int32) (x7 : Int32) (s0 : St) (H : Heap) (locs : List Loc) (ls : Array Slot), g x6 x7 s0 = some r → va_P (dC, dI) vwCl (dw_X13 a ac s0) H → va_D A (dw_X13 a ac s0) → va_S A s.heap H locs → lv_has ls 8 [(0, .ref (a 0)), (6, .int x6), (7, .int x7)] → W p l e (headSpec ow_dm_X13_statement ({ frames := 11, cells := 0, slots := 0, locals := 260 })).room s m args below meth c H locs 0 0 Q (F0 m 232 ls [])
def dj_X13_statement_264 (p : Program) (l : Launch) (e : Env) (s : State) (m : MethodId) (args : Array Value) (below : List Frame) (meth : Method) (c : Code) (Q : State → Prop) (A : Nat → Prop) (dC : Nat → ClassId) (dI : Nat → Nat → Nat) (a : Nat → Nat) (ac : Nat → ClassId) (g : Int32 → Int32 → (St) → Option (St)) (r : St) : Prop := ∀ (x6 : Int32) (x7 : Int32) (s0 : St) (H : Heap) (locs : List Loc) (ls : Array Slot), g x6 x7 s0 = some r → va_P (dC, dI) vwCl (dw_X13 a ac s0) H → va_D A (dw_X13 a ac s0) → va_S A s.heap H locs → lv_has ls 8 [(0, .ref (a 0)), (6, .int x6), (7, .int x7)] → W p l e (headSpec ow_dm_X13_statement ({ frames := 11, cells := 0, slots := 0, locals := 260 })).room s m args below meth c H locs 0 0 Q (F0 m 264 ls [])
def dj_X13_statement_289 (p : Program) (l : Launch) (e : Env) (s : State) (m : MethodId) (args : Array Value) (below : List Frame) (meth : Method) (c : Code) (Q : State → Prop) (A : Nat → Prop) (dC : Nat → ClassId) (dI : Nat → Nat → Nat) (a : Nat → Nat) (ac : Nat → ClassId) (g : Int32 → Int32 → (St) → Option (St)) (r : St) : Prop := ∀ (x6 : Int32) (x7 : Int32) (s0 : St) (H : Heap) (locs : List Loc) (ls : Array Slot), g x6 x7 s0 = some r → va_P (dC, dI) vwCl (dw_X13 a ac s0) H → va_D A (dw_X13 a ac s0) → va_S A s.heap H locs → lv_has ls 8 [(0, .ref (a 0)), (6, .int x6), (7, .int x7)] → W p l e (headSpec ow_dm_X13_statement ({ frames := 11, cells := 0, slots := 0, locals := 260 })).room s m args below meth c H locs 0 0 Q (F0 m 289 ls [])
def dj_X13_statement_275 (p : Program) (l : Launch) (e : Env) (s : State) (m : MethodId) (args : Array Value) (below : List Frame) (meth : Method) (c : Code) (Q : State → Prop) (A : Nat → Prop) (dC : Nat → ClassId) (dI : Nat → Nat → Nat) (a : Nat → Nat) (ac : Nat → ClassId) (g : Int32 → Int32 → (St) → Option (St)) (r : St) : Prop := ∀ (x6 : Int32) (x7 : Int32) (s0 : St) (H : Heap) (locs : List Loc) (ls : Array Slot), g x6 x7 s0 = some r → va_P (dC, dI) vwCl (dw_X13 a ac s0) H → va_D A (dw_X13 a ac s0) → va_S A s.heap H locs → lv_has ls 8 [(0, .ref (a 0)), (6, .int x6), (7, .int x7)] → W p l e (headSpec ow_dm_X13_statement ({ frames := 11, cells := 0, slots := 0, locals := 260 })).room s m args below meth c H locs 0 0 Q (F0 m 275 ls [])
def dj_X13_statement_136 (p : Program) (l : Launch) (e : Env) (s : State) (m : MethodId) (args : Array Value) (below : List Frame) (meth : Method) (c : Code) (Q : State → Prop) (A : Nat → Prop) (dC : Nat → ClassId) (dI : Nat → Nat → Nat) (a : Nat → Nat) (ac : Nat → ClassId) (g : Int32 → Int32 → (St) → Option (St)) (r : St) : Prop := ∀ (x4 : Int32) (x5 : Int32) (s0 : St) (H : Heap) (locs : List Loc) (ls : Array Slot), g x4 x5 s0 = some r → va_P (dC, dI) vwCl (dw_X13 a ac s0) H → va_D A (dw_X13 a ac s0) → va_S A s.heap H locs → lv_has ls 8 [(0, .ref (a 0)), (4, .int x4), (5, .int x5)] → W p l e (headSpec ow_dm_X13_statement ({ frames := 11, cells := 0, slots := 0, locals := 260 })).room s m args below meth c H locs 0 0 Q (F0 m 136 ls [])
def dj_X13_statement_102 (p : Program) (l : Launch) (e : Env) (s : State) (m : MethodId) (args : Array Value) (below : List Frame) (meth : Method) (c : Code) (Q : State → Prop) (A : Nat → Prop) (dC : Nat → ClassId) (dI : Nat → Nat → Nat) (a : Nat → Nat) (ac : Nat → ClassId) (g : Int32 → Int32 → (St) → Option (St)) (r : St) : Prop := ∀ (x4 : Int32) (y0 : Int32) (s0 : St) (H : Heap) (locs : List Loc) (ls : Array Slot), g x4 y0 s0 = some r → va_P (dC, dI) vwCl (dw_X13 a ac s0) H → va_D A (dw_X13 a ac s0) → va_S A s.heap H locs → lv_has ls 8 [(0, .ref (a 0)), (4, .int x4)] → W p l e (headSpec ow_dm_X13_statement ({ frames := 11, cells := 0, slots := 0, locals := 260 })).room s m args below meth c H locs 0 0 Q (F0 m 102 ls [.int y0])
def dj_X13_statement_0 (p : Program) (l : Launch) (e : Env) (s : State) (m : MethodId) (args : Array Value) (below : List Frame) (meth : Method) (c : Code) (Q : State → Prop) (A : Nat → Prop) (dC : Nat → ClassId) (dI : Nat → Nat → Nat) (a : Nat → Nat) (ac : Nat → ClassId) (g : Int32 → Int32 → (St) → Option (St)) (r : St) : Prop := ∀ (v0 : Int32) (v1 : Int32) (s0 : St) (H : Heap) (locs : List Loc) (ls : Array Slot), g v0 v1 s0 = some r → va_P (dC, dI) vwCl (dw_X13 a ac s0) H → va_D A (dw_X13 a ac s0) → va_S A s.heap H locs → lv_has ls 8 [(0, .ref (a 0)), (1, .int v0), (2, .int v1)] → W p l e (headSpec ow_dm_X13_statement ({ frames := 11, cells := 0, slots := 0, locals := 260 })).room s m args below meth c H locs 0 0 Q (F0 m 0 ls [])
set_option maxHeartbeats 40000000 in
set_option maxRecDepth 100000 in
theorem db_X13_statement_346 {p : Program} {l : Launch} {e : Env} {s : State} {m : MethodId} {args : Array Value} {below : List Frame} {meth : Method} {c : Code} {Q : State → Prop} {A : Nat → Prop} {dC : Nat → ClassId} {dI : Nat → Nat → Nat} {a : Nat → Nat} {ac : Nat → ClassId} {n : Nat} {r : St} (C : nd_C p l s m args c A (dC, dI) cX13_statement 8 RX13 ow_dm_X13_statement (dk_X13 ac)) (K : nd_Kv p l e (headSpec ow_dm_X13_statement ({ frames := 11, cells := 0, slots := 0, locals := 260 })).room s m args below meth c Q A (dC, dI) cX13_statement (St) (dw_X13 a ac) r) : dj_X13_statement_346 p l e s m args below meth c Q A dC dI a ac (df_X13_statement_346 n) r := by
  obtain ⟨hlt, hx, hb, hml, hown, hts, hN, hA, hK⟩ := id C
  intro s0 H locs ls h hP hD hS hl
  unfold df_X13_statement_346 at h
  exact K _ _ _ _ _ dX13_statement_346 (Option.some.inj h).symm hP hD hS
set_option maxHeartbeats 40000000 in
set_option maxRecDepth 100000 in
theorem db_X13_statement_326 {p : Program} {l : Launch} {e : Env} {s : State} {m : MethodId} {args : Array Value} {below : List Frame} {meth : Method} {c : Code} {Q : State → Prop} {A : Nat → Prop} {dC : Nat → ClassId} {dI : Nat → Nat → Nat} {a : Nat → Nat} {ac : Nat → ClassId} {n : Nat} {r : St} (C : nd_C p l s m args c A (dC, dI) cX13_statement 8 RX13 ow_dm_X13_statement (dk_X13 ac)) (K : nd_Kv p l e (headSpec ow_dm_X13_statement ({ frames := 11, cells := 0, slots := 0, locals := 260 })).room s m args below meth c Q A (dC, dI) cX13_statement (St) (dw_X13 a ac) r) : dj_X13_statement_326 p l e s m args below meth c Q A dC dI a ac (df_X13_statement_326 n) r := by
  obtain ⟨hlt, hx, hb, hml, hown, hts, hN, hA, hK⟩ := id C
  intro s0 H locs ls h hP hD hS hl
  unfold df_X13_statement_326 at h
  refine lv_aload_n hx hb dX13_statement_326 rfl (lv_at hl 0 rfl) ?_
  refine va_get (D := (dC, dI)) (ci := 14) (v := .int (sI s0 15)) (C := RX13) (T := TX13) (N := 37) hx hb hts hi_dm_X13_statement_X13 hown hK hP 0 rfl rfl 24 (by decide) (hts (.fieldLink RX13 522 "TimeMachineModel$Assembler" "mode" "I") (List.mem_of_getElem? (i := 1) rfl)) (fun _ h9 => h9) rfl dX13_statement_327 ?_
  refine lv_if_ne (tgt := 346) hx hb dX13_statement_330 (by decide) (fun c26 => ?_) (fun c26 => ?_)
  · have h := nd_neg h c26
    exact (db_X13_statement_346 C K)  s0 _ _ _ h hP hD hS (lv_sub hl [] rfl)
  · have h := nd_pos h c26
    refine lv_aload_n hx hb dX13_statement_333 rfl (lv_at hl 0 rfl) ?_
    refine va_get (D := (dC, dI)) (ci := 14) (v := .int (sI s0 12)) (C := RX13) (T := TX13) (N := 37) hx hb hts hi_dm_X13_statement_X13 hown hK hP 0 rfl rfl 21 (by decide) (hts (.fieldLink RX13 410 "TimeMachineModel$Assembler" "fault" "I") (List.mem_of_getElem? (i := 21) rfl)) (fun _ h9 => h9) rfl dX13_statement_334 ?_
    refine lv_if_ne (tgt := 346) hx hb dX13_statement_337 (by decide) (fun c27 => ?_) (fun c27 => ?_)
    · have h := nd_neg h c27
      exact (db_X13_statement_346 C K)  s0 _ _ _ h hP hD hS (lv_sub hl [] rfl)
    · have h := nd_pos h c27
      refine lv_aload_n hx hb dX13_statement_340 rfl (lv_at hl 0 rfl) ?_
      refine lv_iconst (v := 0) hx hb dX13_statement_341 (by decide) ?_
      obtain ⟨q28, s29, hq, h⟩ := nd_b2_e h
      have hPc := hP
      have hDc := hD
      have hKc := hK
      have hFc := nd_rs hD hS hA
      refine nd_cVi (As := [.int 0]) (rest := []) (q := q28) (w' := dw_X13 a ac s29) ⟨hx, hb, hml, hown, hts⟩ (fun sz => dm_X13_needs l hlt dC dI a ac n (0) s0 hq sz) (cwV 1 hts gi_dm_X13_statement_4 rfl rfl rfl (by decide +kernel) ⟨Nat.le_of_ble_eq_true rfl, Nat.le_of_ble_eq_true rfl⟩) hPc hDc hKc hS hA hN (va_recv hKc hPc (ci := 14) (q0 := 0) rfl rfl) rfl hl.1 rfl (Nat.le_of_ble_eq_true rfl) dX13_statement_342 (fun H locs hP1 hD1 hk1 hS => ?_)
      have hP := hP1
      have hD := hD1.weaken (fun k q _ h => hFc q.1 h)
      refine lv_pop hx hb dX13_statement_345 rfl ?_
      exact (db_X13_statement_346 C K)  s29 _ _ _ h hP hD hS (lv_sub hl [] rfl)
set_option maxHeartbeats 40000000 in
set_option maxRecDepth 100000 in
theorem db_X13_statement_232 {p : Program} {l : Launch} {e : Env} {s : State} {m : MethodId} {args : Array Value} {below : List Frame} {meth : Method} {c : Code} {Q : State → Prop} {A : Nat → Prop} {dC : Nat → ClassId} {dI : Nat → Nat → Nat} {a : Nat → Nat} {ac : Nat → ClassId} {n : Nat} {r : St} (C : nd_C p l s m args c A (dC, dI) cX13_statement 8 RX13 ow_dm_X13_statement (dk_X13 ac)) (K : nd_Kv p l e (headSpec ow_dm_X13_statement ({ frames := 11, cells := 0, slots := 0, locals := 260 })).room s m args below meth c Q A (dC, dI) cX13_statement (St) (dw_X13 a ac) r) : dj_X13_statement_232 p l e s m args below meth c Q A dC dI a ac (df_X13_statement_232 n) r := by
  obtain ⟨hlt, hx, hb, hml, hown, hts, hN, hA, hK⟩ := id C
  intro x6 x7 s0 H locs ls h hP hD hS hl
  unfold df_X13_statement_232 at h
  refine lv_aload_n hx hb dX13_statement_232 rfl (lv_at hl 0 rfl) ?_
  refine lv_iload hx hb dX13_statement_233 (lv_at hl 1 rfl) ?_
  refine lv_iload hx hb dX13_statement_235 (lv_at hl 2 rfl) ?_
  obtain ⟨s24, hq, h⟩ := nd_b1_e h
  have hPc := hP
  have hDc := hD
  have hKc := hK
  have hFc := nd_rs hD hS hA
  refine nd_cVv (As := [.int x6, .int x7]) (rest := []) (w' := dw_X13 a ac s24) ⟨hx, hb, hml, hown, hts⟩ (fun sz => dm_X13_jumps l hlt dC dI a ac n (x6) (x7) s0 hq sz) (cwV 2 hts gi_dm_X13_statement_3 rfl rfl rfl (by decide +kernel) ⟨Nat.le_of_ble_eq_true rfl, Nat.le_of_ble_eq_true rfl⟩) hPc hDc hKc hS hA hN (va_recv hKc hPc (ci := 14) (q0 := 0) rfl rfl) rfl hl.1 rfl (Nat.le_of_ble_eq_true rfl) dX13_statement_237 (fun H locs hP1 hD1 hk1 hS => ?_)
  have hP := hP1
  have hD := hD1.weaken (fun k q _ h => hFc q.1 h)
  refine lv_goto (tgt := 326) hx hb dX13_statement_240 (by decide) ?_
  exact (db_X13_statement_326 C K)  s24 _ _ _ h hP hD hS (lv_sub hl [0] rfl)
set_option maxHeartbeats 40000000 in
set_option maxRecDepth 100000 in
theorem db_X13_statement_264 {p : Program} {l : Launch} {e : Env} {s : State} {m : MethodId} {args : Array Value} {below : List Frame} {meth : Method} {c : Code} {Q : State → Prop} {A : Nat → Prop} {dC : Nat → ClassId} {dI : Nat → Nat → Nat} {a : Nat → Nat} {ac : Nat → ClassId} {n : Nat} {r : St} (C : nd_C p l s m args c A (dC, dI) cX13_statement 8 RX13 ow_dm_X13_statement (dk_X13 ac)) (K : nd_Kv p l e (headSpec ow_dm_X13_statement ({ frames := 11, cells := 0, slots := 0, locals := 260 })).room s m args below meth c Q A (dC, dI) cX13_statement (St) (dw_X13 a ac) r) : dj_X13_statement_264 p l e s m args below meth c Q A dC dI a ac (df_X13_statement_264 n) r := by
  obtain ⟨hlt, hx, hb, hml, hown, hts, hN, hA, hK⟩ := id C
  intro x6 x7 s0 H locs ls h hP hD hS hl
  unfold df_X13_statement_264 at h
  refine lv_aload_n hx hb dX13_statement_264 rfl (lv_at hl 0 rfl) ?_
  refine lv_iload hx hb dX13_statement_265 (lv_at hl 1 rfl) ?_
  refine lv_iload hx hb dX13_statement_267 (lv_at hl 2 rfl) ?_
  obtain ⟨s34, hq, h⟩ := nd_b1_e h
  have hPc := hP
  have hDc := hD
  have hKc := hK
  have hFc := nd_rs hD hS hA
  refine nd_cVv (As := [.int x6, .int x7]) (rest := []) (w' := dw_X13 a ac s34) ⟨hx, hb, hml, hown, hts⟩ (fun sz => dm_X13_branches l hlt dC dI a ac n (x6) (x7) s0 hq sz) (cwV 2 hts gi_dm_X13_statement_5 rfl rfl rfl (by decide +kernel) ⟨Nat.le_of_ble_eq_true rfl, Nat.le_of_ble_eq_true rfl⟩) hPc hDc hKc hS hA hN (va_recv hKc hPc (ci := 14) (q0 := 0) rfl rfl) rfl hl.1 rfl (Nat.le_of_ble_eq_true rfl) dX13_statement_269 (fun H locs hP1 hD1 hk1 hS => ?_)
  have hP := hP1
  have hD := hD1.weaken (fun k q _ h => hFc q.1 h)
  refine lv_goto (tgt := 326) hx hb dX13_statement_272 (by decide) ?_
  exact (db_X13_statement_326 C K)  s34 _ _ _ h hP hD hS (lv_sub hl [0] rfl)
set_option maxHeartbeats 40000000 in
set_option maxRecDepth 100000 in
theorem db_X13_statement_289 {p : Program} {l : Launch} {e : Env} {s : State} {m : MethodId} {args : Array Value} {below : List Frame} {meth : Method} {c : Code} {Q : State → Prop} {A : Nat → Prop} {dC : Nat → ClassId} {dI : Nat → Nat → Nat} {a : Nat → Nat} {ac : Nat → ClassId} {n : Nat} {r : St} (C : nd_C p l s m args c A (dC, dI) cX13_statement 8 RX13 ow_dm_X13_statement (dk_X13 ac)) (K : nd_Kv p l e (headSpec ow_dm_X13_statement ({ frames := 11, cells := 0, slots := 0, locals := 260 })).room s m args below meth c Q A (dC, dI) cX13_statement (St) (dw_X13 a ac) r) : dj_X13_statement_289 p l e s m args below meth c Q A dC dI a ac (df_X13_statement_289 n) r := by
  obtain ⟨hlt, hx, hb, hml, hown, hts, hN, hA, hK⟩ := id C
  intro x6 x7 s0 H locs ls h hP hD hS hl
  unfold df_X13_statement_289 at h
  refine lv_aload_n hx hb dX13_statement_289 rfl (lv_at hl 0 rfl) ?_
  refine lv_iload hx hb dX13_statement_290 (lv_at hl 1 rfl) ?_
  refine lv_iload hx hb dX13_statement_292 (lv_at hl 2 rfl) ?_
  obtain ⟨s39, hq, h⟩ := nd_b1_e h
  have hPc := hP
  have hDc := hD
  have hKc := hK
  have hFc := nd_rs hD hS hA
  refine nd_cVv (As := [.int x6, .int x7]) (rest := []) (w' := dw_X13 a ac s39) ⟨hx, hb, hml, hown, hts⟩ (fun sz => dm_X13_longs l hlt dC dI a ac n (x6) (x7) s0 hq sz) (cwV 2 hts gi_dm_X13_statement_6 rfl rfl rfl (by decide +kernel) ⟨Nat.le_of_ble_eq_true rfl, Nat.le_of_ble_eq_true rfl⟩) hPc hDc hKc hS hA hN (va_recv hKc hPc (ci := 14) (q0 := 0) rfl rfl) rfl hl.1 rfl (Nat.le_of_ble_eq_true rfl) dX13_statement_294 (fun H locs hP1 hD1 hk1 hS => ?_)
  have hP := hP1
  have hD := hD1.weaken (fun k q _ h => hFc q.1 h)
  refine lv_goto (tgt := 326) hx hb dX13_statement_297 (by decide) ?_
  exact (db_X13_statement_326 C K)  s39 _ _ _ h hP hD hS (lv_sub hl [0] rfl)
set_option maxHeartbeats 40000000 in
set_option maxRecDepth 100000 in
theorem db_X13_statement_275 {p : Program} {l : Launch} {e : Env} {s : State} {m : MethodId} {args : Array Value} {below : List Frame} {meth : Method} {c : Code} {Q : State → Prop} {A : Nat → Prop} {dC : Nat → ClassId} {dI : Nat → Nat → Nat} {a : Nat → Nat} {ac : Nat → ClassId} {n : Nat} {r : St} (C : nd_C p l s m args c A (dC, dI) cX13_statement 8 RX13 ow_dm_X13_statement (dk_X13 ac)) (K : nd_Kv p l e (headSpec ow_dm_X13_statement ({ frames := 11, cells := 0, slots := 0, locals := 260 })).room s m args below meth c Q A (dC, dI) cX13_statement (St) (dw_X13 a ac) r) : dj_X13_statement_275 p l e s m args below meth c Q A dC dI a ac (df_X13_statement_275 n) r := by
  obtain ⟨hlt, hx, hb, hml, hown, hts, hN, hA, hK⟩ := id C
  intro x6 x7 s0 H locs ls h hP hD hS hl
  unfold df_X13_statement_275 at h
  refine lv_iload hx hb dX13_statement_275 (lv_at hl 1 rfl) ?_
  refine lv_bipush (v := 12) hx hb dX13_statement_277 (by decide) ?_
  refine lv_icmp_lt (tgt := 289) hx hb dX13_statement_279 (by decide) (fun c37 => ?_) (fun c37 => ?_)
  · have h := nd_pos h c37
    exact (db_X13_statement_289 C K) (x6) (x7) s0 _ _ _ h hP hD hS (lv_sub hl [0, 1, 2] rfl)
  · have h := nd_neg h c37
    refine lv_iload hx hb dX13_statement_282 (lv_at hl 1 rfl) ?_
    refine lv_bipush (v := 30) hx hb dX13_statement_284 (by decide) ?_
    refine lv_icmp_ne (tgt := 300) hx hb dX13_statement_286 (by decide) (fun c41 => ?_) (fun c41 => ?_)
    · have h := nd_neg h c41
      refine lv_iload hx hb dX13_statement_300 (lv_at hl 1 rfl) ?_
      refine lv_bipush (v := 30) hx hb dX13_statement_302 (by decide) ?_
      refine lv_icmp_ge (tgt := 318) hx hb dX13_statement_304 (by decide) (fun c42 => ?_) (fun c42 => ?_)
      · have h := nd_pos h c42
        refine lv_aload_n hx hb dX13_statement_318 rfl (lv_at hl 0 rfl) ?_
        refine lv_iload hx hb dX13_statement_319 (lv_at hl 1 rfl) ?_
        refine lv_iload hx hb dX13_statement_321 (lv_at hl 2 rfl) ?_
        obtain ⟨s44, hq, h⟩ := nd_b1_e h
        have hPc := hP
        have hDc := hD
        have hKc := hK
        have hFc := nd_rs hD hS hA
        refine nd_cVv (As := [.int x6, .int x7]) (rest := []) (w' := dw_X13 a ac s44) ⟨hx, hb, hml, hown, hts⟩ (fun sz => dm_X13_others l hlt dC dI a ac n (x6) (x7) s0 hq sz) (cwV 2 hts gi_dm_X13_statement_7 rfl rfl rfl (by decide +kernel) ⟨Nat.le_of_ble_eq_true rfl, Nat.le_of_ble_eq_true rfl⟩) hPc hDc hKc hS hA hN (va_recv hKc hPc (ci := 14) (q0 := 0) rfl rfl) rfl hl.1 rfl (Nat.le_of_ble_eq_true rfl) dX13_statement_323 (fun H locs hP1 hD1 hk1 hS => ?_)
        have hP := hP1
        have hD := hD1.weaken (fun k q _ h => hFc q.1 h)
        exact (db_X13_statement_326 C K)  s44 _ _ _ h hP hD hS (lv_sub hl [0] rfl)
      · have h := nd_neg h c42
        refine lv_aload_n hx hb dX13_statement_307 rfl (lv_at hl 0 rfl) ?_
        refine lv_iload hx hb dX13_statement_308 (lv_at hl 1 rfl) ?_
        refine lv_iload hx hb dX13_statement_310 (lv_at hl 2 rfl) ?_
        obtain ⟨s47, hq, h⟩ := nd_b1_e h
        have hPc := hP
        have hDc := hD
        have hKc := hK
        have hFc := nd_rs hD hS hA
        refine nd_cVv (As := [.int x6, .int x7]) (rest := []) (w' := dw_X13 a ac s47) ⟨hx, hb, hml, hown, hts⟩ (fun sz => dm_X13_shorts l hlt dC dI a ac n (x6) (x7) s0 hq sz) (cwV 2 hts gi_dm_X13_statement_8 rfl rfl rfl (by decide +kernel) ⟨Nat.le_of_ble_eq_true rfl, Nat.le_of_ble_eq_true rfl⟩) hPc hDc hKc hS hA hN (va_recv hKc hPc (ci := 14) (q0 := 0) rfl rfl) rfl hl.1 rfl (Nat.le_of_ble_eq_true rfl) dX13_statement_312 (fun H locs hP1 hD1 hk1 hS => ?_)
        have hP := hP1
        have hD := hD1.weaken (fun k q _ h => hFc q.1 h)
        refine lv_goto (tgt := 326) hx hb dX13_statement_315 (by decide) ?_
        exact (db_X13_statement_326 C K)  s47 _ _ _ h hP hD hS (lv_sub hl [0] rfl)
    · have h := nd_pos h c41
      exact (db_X13_statement_289 C K) (x6) (x7) s0 _ _ _ h hP hD hS (lv_sub hl [0, 1, 2] rfl)
set_option maxHeartbeats 40000000 in
set_option maxRecDepth 100000 in
theorem db_X13_statement_136 {p : Program} {l : Launch} {e : Env} {s : State} {m : MethodId} {args : Array Value} {below : List Frame} {meth : Method} {c : Code} {Q : State → Prop} {A : Nat → Prop} {dC : Nat → ClassId} {dI : Nat → Nat → Nat} {a : Nat → Nat} {ac : Nat → ClassId} {n : Nat} {r : St} (C : nd_C p l s m args c A (dC, dI) cX13_statement 8 RX13 ow_dm_X13_statement (dk_X13 ac)) (K : nd_Kv p l e (headSpec ow_dm_X13_statement ({ frames := 11, cells := 0, slots := 0, locals := 260 })).room s m args below meth c Q A (dC, dI) cX13_statement (St) (dw_X13 a ac) r) : dj_X13_statement_136 p l e s m args below meth c Q A dC dI a ac (df_X13_statement_136 n) r := by
  obtain ⟨hlt, hx, hb, hml, hown, hts, hN, hA, hK⟩ := id C
  intro x4 x5 s0 H locs ls h hP hD hS hl
  unfold df_X13_statement_136 at h
  refine lv_iload hx hb dX13_statement_136 (lv_at hl 1 rfl) ?_
  refine lv_if_ge (tgt := 147) hx hb dX13_statement_138 (by decide) (fun c14 => ?_) (fun c14 => ?_)
  · have h := nd_pos h c14
    refine lv_aload_n hx hb dX13_statement_147 rfl (lv_at hl 0 rfl) ?_
    refine va_get (D := (dC, dI)) (ci := 14) (v := .ref (a 2)) (C := RX13) (T := TX13) (N := 37) hx hb hts hi_dm_X13_statement_X13 hown hK hP 0 rfl rfl 1 (by decide) (hts (.fieldLink RX13 269 "TimeMachineModel$Assembler" "shapes" "[B") (List.mem_of_getElem? (i := 16) rfl)) (fun _ h9 => h9) rfl dX13_statement_148 ?_
    refine lv_iload hx hb dX13_statement_151 (lv_at hl 1 rfl) ?_
    obtain ⟨i15, h⟩ := nd_ck_e h
    refine va_bald (i := x4) hx hb hK hP 2 1 rfl rfl i15 dX13_statement_153 ?_
    refine lv_topi (fun z16 ez16 => ?_)
    have h := nd_at h ez16
    refine lv_istore (lv' := [(6, .int z16), (0, .ref (a 0)), (4, .int x4), (5, .int x5)]) hx hb dX13_statement_154 hl (by decide) rfl (fun ls hl => ?_)
    refine lv_aload_n hx hb dX13_statement_156 rfl (lv_at hl 1 rfl) ?_
    refine va_get (D := (dC, dI)) (ci := 14) (v := .ref (a 3)) (C := RX13) (T := TX13) (N := 37) hx hb hts hi_dm_X13_statement_X13 hown hK hP 0 rfl rfl 2 (by decide) (hts (.fieldLink RX13 319 "TimeMachineModel$Assembler" "patterns" "[I") (List.mem_of_getElem? (i := 17) rfl)) (fun _ h9 => h9) rfl dX13_statement_157 ?_
    refine lv_iload hx hb dX13_statement_160 (lv_at hl 2 rfl) ?_
    obtain ⟨i17, h⟩ := nd_ck_e h
    refine va_iald (i := x4) hx hb hK hP 3 2 rfl rfl i17 dX13_statement_162 ?_
    refine lv_iload hx hb dX13_statement_163 (lv_at hl 3 rfl) ?_
    refine lv_ior hx hb dX13_statement_165 ?_
    refine lv_topi (fun z18 ez18 => ?_)
    have h := nd_at h ez18
    refine lv_istore (lv' := [(7, .int z18), (6, .int z16), (0, .ref (a 0)), (4, .int x4), (5, .int x5)]) hx hb dX13_statement_166 hl (by decide) rfl (fun ls hl => ?_)
    refine lv_iload hx hb dX13_statement_168 (lv_at hl 1 rfl) ?_
    refine lv_bipush (v := 39) hx hb dX13_statement_170 (by decide) ?_
    refine lv_icmp_le (tgt := 186) hx hb dX13_statement_172 (by decide) (fun c19 => ?_) (fun c19 => ?_)
    · have h := nd_pos h c19
      refine lv_iload hx hb dX13_statement_186 (lv_at hl 1 rfl) ?_
      refine lv_bipush (v := 12) hx hb dX13_statement_188 (by decide) ?_
      refine lv_icmp_ne (tgt := 202) hx hb dX13_statement_190 (by decide) (fun c20 => ?_) (fun c20 => ?_)
      · have h := nd_neg h c20
        refine lv_iload hx hb dX13_statement_202 (lv_at hl 1 rfl) ?_
        refine lv_bipush (v := 16) hx hb dX13_statement_204 (by decide) ?_
        refine lv_icmp_ne (tgt := 218) hx hb dX13_statement_206 (by decide) (fun c21 => ?_) (fun c21 => ?_)
        · have h := nd_neg h c21
          refine lv_iload hx hb dX13_statement_218 (lv_at hl 1 rfl) ?_
          refine lv_bipush (v := 8) hx hb dX13_statement_220 (by decide) ?_
          refine lv_icmp_eq (tgt := 232) hx hb dX13_statement_222 (by decide) (fun c22 => ?_) (fun c22 => ?_)
          · have h := nd_pos h c22
            exact (db_X13_statement_232 C K) (z16) (z18) s0 _ _ _ h hP hD hS (lv_sub hl [2, 1, 0] rfl)
          · have h := nd_neg h c22
            refine lv_iload hx hb dX13_statement_225 (lv_at hl 1 rfl) ?_
            refine lv_bipush (v := 34) hx hb dX13_statement_227 (by decide) ?_
            refine lv_icmp_ne (tgt := 243) hx hb dX13_statement_229 (by decide) (fun c31 => ?_) (fun c31 => ?_)
            · have h := nd_neg h c31
              refine lv_iload hx hb dX13_statement_243 (lv_at hl 1 rfl) ?_
              refine lv_bipush (v := 7) hx hb dX13_statement_245 (by decide) ?_
              refine lv_icmp_eq (tgt := 264) hx hb dX13_statement_247 (by decide) (fun c32 => ?_) (fun c32 => ?_)
              · have h := nd_pos h c32
                exact (db_X13_statement_264 C K) (z16) (z18) s0 _ _ _ h hP hD hS (lv_sub hl [2, 1, 0] rfl)
              · have h := nd_neg h c32
                refine lv_iload hx hb dX13_statement_250 (lv_at hl 1 rfl) ?_
                refine lv_bipush (v := 34) hx hb dX13_statement_252 (by decide) ?_
                refine lv_icmp_le (tgt := 275) hx hb dX13_statement_254 (by decide) (fun c36 => ?_) (fun c36 => ?_)
                · have h := nd_pos h c36
                  exact (db_X13_statement_275 C K) (z16) (z18) s0 _ _ _ h hP hD hS (lv_sub hl [2, 1, 0] rfl)
                · have h := nd_neg h c36
                  refine lv_iload hx hb dX13_statement_257 (lv_at hl 1 rfl) ?_
                  refine lv_bipush (v := 38) hx hb dX13_statement_259 (by decide) ?_
                  refine lv_icmp_ge (tgt := 275) hx hb dX13_statement_261 (by decide) (fun c49 => ?_) (fun c49 => ?_)
                  · have h := nd_pos h c49
                    exact (db_X13_statement_275 C K) (z16) (z18) s0 _ _ _ h hP hD hS (lv_sub hl [2, 1, 0] rfl)
                  · have h := nd_neg h c49
                    exact (db_X13_statement_264 C K) (z16) (z18) s0 _ _ _ h hP hD hS (lv_sub hl [2, 1, 0] rfl)
            · have h := nd_pos h c31
              exact (db_X13_statement_232 C K) (z16) (z18) s0 _ _ _ h hP hD hS (lv_sub hl [2, 1, 0] rfl)
        · have h := nd_pos h c21
          refine lv_aload_n hx hb dX13_statement_209 rfl (lv_at hl 2 rfl) ?_
          refine lv_iload hx hb dX13_statement_210 (lv_at hl 0 rfl) ?_
          obtain ⟨s51, hq, h⟩ := nd_b1_e h
          have hPc := hP
          have hDc := hD
          have hKc := hK
          have hFc := nd_rs hD hS hA
          refine nd_cVv (As := [.int z18]) (rest := []) (w' := dw_X13 a ac s51) ⟨hx, hb, hml, hown, hts⟩ (fun sz => dm_X13_half l hlt dC dI a ac n (z18) s0 hq sz) (cwV 1 hts gi_dm_X13_statement_9 rfl rfl rfl (by decide +kernel) ⟨Nat.le_of_ble_eq_true rfl, Nat.le_of_ble_eq_true rfl⟩) hPc hDc hKc hS hA hN (va_recv hKc hPc (ci := 14) (q0 := 0) rfl rfl) rfl hl.1 rfl (Nat.le_of_ble_eq_true rfl) dX13_statement_212 (fun H locs hP1 hD1 hk1 hS => ?_)
          have hP := hP1
          have hD := hD1.weaken (fun k q _ h => hFc q.1 h)
          refine lv_goto (tgt := 326) hx hb dX13_statement_215 (by decide) ?_
          exact (db_X13_statement_326 C K)  s51 _ _ _ h hP hD hS (lv_sub hl [2] rfl)
      · have h := nd_pos h c20
        refine lv_aload_n hx hb dX13_statement_193 rfl (lv_at hl 2 rfl) ?_
        refine lv_iload hx hb dX13_statement_194 (lv_at hl 0 rfl) ?_
        obtain ⟨s54, hq, h⟩ := nd_b1_e h
        have hPc := hP
        have hDc := hD
        have hKc := hK
        have hFc := nd_rs hD hS hA
        refine nd_cVv (As := [.int z18]) (rest := []) (w' := dw_X13 a ac s54) ⟨hx, hb, hml, hown, hts⟩ (fun sz => dm_X13_word l hlt dC dI a ac n (z18) s0 hq sz) (cwV 1 hts gi_dm_X13_statement_10 rfl rfl rfl (by decide +kernel) ⟨Nat.le_of_ble_eq_true rfl, Nat.le_of_ble_eq_true rfl⟩) hPc hDc hKc hS hA hN (va_recv hKc hPc (ci := 14) (q0 := 0) rfl rfl) rfl hl.1 rfl (Nat.le_of_ble_eq_true rfl) dX13_statement_196 (fun H locs hP1 hD1 hk1 hS => ?_)
        have hP := hP1
        have hD := hD1.weaken (fun k q _ h => hFc q.1 h)
        refine lv_goto (tgt := 326) hx hb dX13_statement_199 (by decide) ?_
        exact (db_X13_statement_326 C K)  s54 _ _ _ h hP hD hS (lv_sub hl [2] rfl)
    · have h := nd_neg h c19
      refine lv_aload_n hx hb dX13_statement_175 rfl (lv_at hl 2 rfl) ?_
      refine lv_iload hx hb dX13_statement_176 (lv_at hl 1 rfl) ?_
      refine lv_iload hx hb dX13_statement_178 (lv_at hl 0 rfl) ?_
      obtain ⟨s57, hq, h⟩ := nd_b1_e h
      have hPc := hP
      have hDc := hD
      have hKc := hK
      have hFc := nd_rs hD hS hA
      refine nd_cVv (As := [.int z16, .int z18]) (rest := []) (w' := dw_X13 a ac s57) ⟨hx, hb, hml, hown, hts⟩ (fun sz => dm_X13_directive l hlt dC dI a ac n (z16) (z18) s0 hq sz) (cwV 2 hts gi_dm_X13_statement_11 rfl rfl rfl (by decide +kernel) ⟨Nat.le_of_ble_eq_true rfl, Nat.le_of_ble_eq_true rfl⟩) hPc hDc hKc hS hA hN (va_recv hKc hPc (ci := 14) (q0 := 0) rfl rfl) rfl hl.1 rfl (Nat.le_of_ble_eq_true rfl) dX13_statement_180 (fun H locs hP1 hD1 hk1 hS => ?_)
      have hP := hP1
      have hD := hD1.weaken (fun k q _ h => hFc q.1 h)
      refine lv_goto (tgt := 326) hx hb dX13_statement_183 (by decide) ?_
      exact (db_X13_statement_326 C K)  s57 _ _ _ h hP hD hS (lv_sub hl [2] rfl)
  · have h := nd_neg h c14
    refine lv_aload_n hx hb dX13_statement_141 rfl (lv_at hl 0 rfl) ?_
    refine lv_iconst (v := 2) hx hb dX13_statement_142 (by decide) ?_
    obtain ⟨s60, hq, h⟩ := nd_b1_e h
    have hPc := hP
    have hDc := hD
    have hKc := hK
    have hFc := nd_rs hD hS hA
    refine nd_cVv (As := [.int 2]) (rest := []) (w' := dw_X13 a ac s60) ⟨hx, hb, hml, hown, hts⟩ (fun sz => dm_X13_blame l hlt dC dI a ac n (2) s0 hq sz) (cwV 1 hts gi_dm_X13_statement_12 rfl rfl rfl (by decide +kernel) ⟨Nat.le_of_ble_eq_true rfl, Nat.le_of_ble_eq_true rfl⟩) hPc hDc hKc hS hA hN (va_recv hKc hPc (ci := 14) (q0 := 0) rfl rfl) rfl hl.1 rfl (Nat.le_of_ble_eq_true rfl) dX13_statement_143 (fun H locs hP1 hD1 hk1 hS => ?_)
    have hP := hP1
    have hD := hD1.weaken (fun k q _ h => hFc q.1 h)
    exact K _ _ _ _ _ dX13_statement_146 (Option.some.inj h).symm hP hD hS
set_option maxHeartbeats 40000000 in
set_option maxRecDepth 100000 in
theorem db_X13_statement_102 {p : Program} {l : Launch} {e : Env} {s : State} {m : MethodId} {args : Array Value} {below : List Frame} {meth : Method} {c : Code} {Q : State → Prop} {A : Nat → Prop} {dC : Nat → ClassId} {dI : Nat → Nat → Nat} {a : Nat → Nat} {ac : Nat → ClassId} {n : Nat} {r : St} (C : nd_C p l s m args c A (dC, dI) cX13_statement 8 RX13 ow_dm_X13_statement (dk_X13 ac)) (K : nd_Kv p l e (headSpec ow_dm_X13_statement ({ frames := 11, cells := 0, slots := 0, locals := 260 })).room s m args below meth c Q A (dC, dI) cX13_statement (St) (dw_X13 a ac) r) : dj_X13_statement_102 p l e s m args below meth c Q A dC dI a ac (df_X13_statement_102 n) r := by
  obtain ⟨hlt, hx, hb, hml, hown, hts, hN, hA, hK⟩ := id C
  intro x4 y0 s0 H locs ls h hP hD hS hl
  unfold df_X13_statement_102 at h
  refine lv_istore (lv' := [(5, .int y0), (0, .ref (a 0)), (4, .int x4)]) hx hb dX13_statement_102 hl (by decide) rfl (fun ls hl => ?_)
  refine lv_iload hx hb dX13_statement_104 (lv_at hl 2 rfl) ?_
  refine lv_if_lt (tgt := 136) hx hb dX13_statement_106 (by decide) (fun c69 => ?_) (fun c69 => ?_)
  · have h := nd_pos h c69
    exact (db_X13_statement_136 C K) (x4) (y0) s0 _ _ _ h hP hD hS (lv_sub hl [1, 2, 0] rfl)
  · have h := nd_neg h c69
    refine lv_aload_n hx hb dX13_statement_109 rfl (lv_at hl 1 rfl) ?_
    refine va_get (D := (dC, dI)) (ci := 14) (v := .ref (a 2)) (C := RX13) (T := TX13) (N := 37) hx hb hts hi_dm_X13_statement_X13 hown hK hP 0 rfl rfl 1 (by decide) (hts (.fieldLink RX13 269 "TimeMachineModel$Assembler" "shapes" "[B") (List.mem_of_getElem? (i := 16) rfl)) (fun _ h9 => h9) rfl dX13_statement_110 ?_
    refine lv_iload hx hb dX13_statement_113 (lv_at hl 2 rfl) ?_
    obtain ⟨i70, h⟩ := nd_ck_e h
    refine va_bald (i := x4) hx hb hK hP 2 1 rfl rfl i70 dX13_statement_115 ?_
    refine lv_bipush (v := 9) hx hb dX13_statement_116 (by decide) ?_
    refine lv_icmp_eq (tgt := 136) hx hb dX13_statement_118 (by decide) (fun c71 => ?_) (fun c71 => ?_)
    · have h := nd_pos h c71
      exact (db_X13_statement_136 C K) (x4) (y0) s0 _ _ _ h hP hD hS (lv_sub hl [1, 2, 0] rfl)
    · have h := nd_neg h c71
      refine lv_aload_n hx hb dX13_statement_121 rfl (lv_at hl 1 rfl) ?_
      refine va_get (D := (dC, dI)) (ci := 14) (v := .ref (a 2)) (C := RX13) (T := TX13) (N := 37) hx hb hts hi_dm_X13_statement_X13 hown hK hP 0 rfl rfl 1 (by decide) (hts (.fieldLink RX13 269 "TimeMachineModel$Assembler" "shapes" "[B") (List.mem_of_getElem? (i := 16) rfl)) (fun _ h9 => h9) rfl dX13_statement_122 ?_
      refine lv_iload hx hb dX13_statement_125 (lv_at hl 2 rfl) ?_
      obtain ⟨i72, h⟩ := nd_ck_e h
      refine va_bald (i := x4) hx hb hK hP 2 1 rfl rfl i72 dX13_statement_127 ?_
      refine lv_bipush (v := 10) hx hb dX13_statement_128 (by decide) ?_
      refine lv_icmp_eq (tgt := 136) hx hb dX13_statement_130 (by decide) (fun c73 => ?_) (fun c73 => ?_)
      · have h := nd_pos h c73
        exact (db_X13_statement_136 C K) (x4) (y0) s0 _ _ _ h hP hD hS (lv_sub hl [1, 2, 0] rfl)
      · have h := nd_neg h c73
        refine lv_iconst (v := (-1)) hx hb dX13_statement_133 (by decide) ?_
        refine lv_istore (lv' := [(4, .int (-1)), (5, .int y0), (0, .ref (a 0))]) hx hb dX13_statement_134 hl (by decide) rfl (fun ls hl => ?_)
        exact (db_X13_statement_136 C K) ((-1)) (y0) s0 _ _ _ h hP hD hS (lv_sub hl [2, 0, 1] rfl)
set_option maxHeartbeats 40000000 in
set_option maxRecDepth 100000 in
theorem db_X13_statement_0 {p : Program} {l : Launch} {e : Env} {s : State} {m : MethodId} {args : Array Value} {below : List Frame} {meth : Method} {c : Code} {Q : State → Prop} {A : Nat → Prop} {dC : Nat → ClassId} {dI : Nat → Nat → Nat} {a : Nat → Nat} {ac : Nat → ClassId} {n : Nat} {r : St} (C : nd_C p l s m args c A (dC, dI) cX13_statement 8 RX13 ow_dm_X13_statement (dk_X13 ac)) (K : nd_Kv p l e (headSpec ow_dm_X13_statement ({ frames := 11, cells := 0, slots := 0, locals := 260 })).room s m args below meth c Q A (dC, dI) cX13_statement (St) (dw_X13 a ac) r) : dj_X13_statement_0 p l e s m args below meth c Q A dC dI a ac (df_X13_statement_0 n) r := by
  obtain ⟨hlt, hx, hb, hml, hown, hts, hN, hA, hK⟩ := id C
  intro v0 v1 s0 H locs ls h hP hD hS hl
  unfold df_X13_statement_0 at h
  refine lv_aload_n hx hb dX13_statement_0 rfl (lv_at hl 0 rfl) ?_
  refine lv_iload_n hx hb dX13_statement_1 rfl (lv_at hl 2 rfl) ?_
  refine va_put (D := (dC, dI)) (ci := 14) (v := .int v1) (ty := .int) (C := RX13) (T := TX13) (N := 37) hx hb hts hi_dm_X13_statement_X13 tyX13 tyX13_ok nmX13 hown hK hP hD hS 0 rfl rfl 24 (by decide) (hts (.fieldLink RX13 522 "TimeMachineModel$Assembler" "mode" "I") (List.mem_of_getElem? (i := 1) rfl)) (fun _ h9 => h9) rfl (by decide +kernel) rfl rfl (Nat.le_of_ble_eq_true rfl) dX13_statement_2 (fun H locs hP hD hS => ?_)
  obtain ⟨s1, es1, h⟩ := nd_let_e h
  have hP : va_P (dC, dI) vwCl (dw_X13 a ac s1) H := by rw [es1]; exact hP
  have hD : va_D A (dw_X13 a ac s1) := by rw [es1]; exact hD
  refine lv_aload_n hx hb dX13_statement_5 rfl (lv_at hl 0 rfl) ?_
  refine lv_iload_n hx hb dX13_statement_6 rfl (lv_at hl 1 rfl) ?_
  refine va_put (D := (dC, dI)) (ci := 14) (v := .int v0) (ty := .int) (C := RX13) (T := TX13) (N := 37) hx hb hts hi_dm_X13_statement_X13 tyX13 tyX13_ok nmX13 hown hK hP hD hS 0 rfl rfl 16 (by decide) (hts (.fieldLink RX13 374 "TimeMachineModel$Assembler" "at" "I") (List.mem_of_getElem? (i := 2) rfl)) (fun _ h9 => h9) rfl (by decide +kernel) rfl rfl (Nat.le_of_ble_eq_true rfl) dX13_statement_7 (fun H locs hP hD hS => ?_)
  obtain ⟨s2, es2, h⟩ := nd_let_e h
  have hP : va_P (dC, dI) vwCl (dw_X13 a ac s2) H := by rw [es2]; exact hP
  have hD : va_D A (dw_X13 a ac s2) := by rw [es2]; exact hD
  refine lv_aload_n hx hb dX13_statement_10 rfl (lv_at hl 0 rfl) ?_
  refine lv_iconst (v := 0) hx hb dX13_statement_11 (by decide) ?_
  refine va_put (D := (dC, dI)) (ci := 14) (v := .int 0) (ty := .int) (C := RX13) (T := TX13) (N := 37) hx hb hts hi_dm_X13_statement_X13 tyX13 tyX13_ok nmX13 hown hK hP hD hS 0 rfl rfl 27 (by decide) (hts (.fieldLink RX13 541 "TimeMachineModel$Assembler" "count" "I") (List.mem_of_getElem? (i := 3) rfl)) (fun _ h9 => h9) rfl (by decide +kernel) rfl rfl (Nat.le_of_ble_eq_true rfl) dX13_statement_12 (fun H locs hP hD hS => ?_)
  obtain ⟨s3, es3, h⟩ := nd_let_e h
  have hP : va_P (dC, dI) vwCl (dw_X13 a ac s3) H := by rw [es3]; exact hP
  have hD : va_D A (dw_X13 a ac s3) := by rw [es3]; exact hD
  refine lv_aload_n hx hb dX13_statement_15 rfl (lv_at hl 0 rfl) ?_
  obtain ⟨s5, hq, h⟩ := nd_b1_e h
  have hPc := hP
  have hDc := hD
  have hKc := hK
  have hFc := nd_rs hD hS hA
  refine nd_cVv (As := []) (rest := []) (w' := dw_X13 a ac s5) ⟨hx, hb, hml, hown, hts⟩ (fun sz => dm_X13_scan l hlt dC dI a ac n  s3 hq sz) (cwV 0 hts gi_dm_X13_statement_0 rfl rfl rfl (by decide +kernel) ⟨Nat.le_of_ble_eq_true rfl, Nat.le_of_ble_eq_true rfl⟩) hPc hDc hKc hS hA hN (va_recv hKc hPc (ci := 14) (q0 := 0) rfl rfl) rfl hl.1 rfl (Nat.le_of_ble_eq_true rfl) dX13_statement_16 (fun H locs hP1 hD1 hk1 hS => ?_)
  have hP := hP1
  have hD := hD1.weaken (fun k q _ h => hFc q.1 h)
  refine lv_aload_n hx hb dX13_statement_19 rfl (lv_at hl 0 rfl) ?_
  obtain ⟨q7, s8, hq, h⟩ := nd_b2_e h
  have hPc := hP
  have hDc := hD
  have hKc := hK
  have hFc := nd_rs hD hS hA
  refine nd_cVi (As := []) (rest := []) (q := q7) (w' := dw_X13 a ac s8) ⟨hx, hb, hml, hown, hts⟩ (fun sz => dm_X13_suffix l hlt dC dI a ac n  s5 hq sz) (cwV 0 hts gi_dm_X13_statement_1 rfl rfl rfl (by decide +kernel) ⟨Nat.le_of_ble_eq_true rfl, Nat.le_of_ble_eq_true rfl⟩) hPc hDc hKc hS hA hN (va_recv hKc hPc (ci := 14) (q0 := 0) rfl rfl) rfl hl.1 rfl (Nat.le_of_ble_eq_true rfl) dX13_statement_20 (fun H locs hP1 hD1 hk1 hS => ?_)
  have hP := hP1
  have hD := hD1.weaken (fun k q _ h => hFc q.1 h)
  refine lv_istore_n (lv' := [(3, .int q7), (0, .ref (a 0)), (1, .int v0), (2, .int v1)]) hx hb dX13_statement_23 rfl hl (by decide) rfl (fun ls hl => ?_)
  refine lv_aload_n hx hb dX13_statement_24 rfl (lv_at hl 1 rfl) ?_
  refine lv_aload_n hx hb dX13_statement_25 rfl (lv_at hl 1 rfl) ?_
  refine va_get (D := (dC, dI)) (ci := 14) (v := .int (sI s8 9)) (C := RX13) (T := TX13) (N := 37) hx hb hts hi_dm_X13_statement_X13 hown hK hP 0 rfl rfl 18 (by decide) (hts (.fieldLink RX13 368 "TimeMachineModel$Assembler" "from" "I") (List.mem_of_getElem? (i := 11) rfl)) (fun _ h9 => h9) rfl dX13_statement_26 ?_
  refine lv_aload_n hx hb dX13_statement_29 rfl (lv_at hl 1 rfl) ?_
  refine va_get (D := (dC, dI)) (ci := 14) (v := .int (sI s8 10)) (C := RX13) (T := TX13) (N := 37) hx hb hts hi_dm_X13_statement_X13 hown hK hP 0 rfl rfl 19 (by decide) (hts (.fieldLink RX13 371 "TimeMachineModel$Assembler" "to" "I") (List.mem_of_getElem? (i := 12) rfl)) (fun _ h9 => h9) rfl dX13_statement_30 ?_
  obtain ⟨q10, s11, hq, h⟩ := nd_b2_e h
  have hPc := hP
  have hDc := hD
  have hKc := hK
  have hFc := nd_rs hD hS hA
  refine nd_cVi (As := [.int (sI s8 9), .int (sI s8 10)]) (rest := []) (q := q10) (w' := dw_X13 a ac s11) ⟨hx, hb, hml, hown, hts⟩ (fun sz => dm_X13_named l hlt dC dI a ac n ((sI s8 9)) ((sI s8 10)) s8 hq sz) (cwV 2 hts gi_dm_X13_statement_2 rfl rfl rfl (by decide +kernel) ⟨Nat.le_of_ble_eq_true rfl, Nat.le_of_ble_eq_true rfl⟩) hPc hDc hKc hS hA hN (va_recv hKc hPc (ci := 14) (q0 := 0) rfl rfl) rfl hl.1 rfl (Nat.le_of_ble_eq_true rfl) dX13_statement_33 (fun H locs hP1 hD1 hk1 hS => ?_)
  have hP := hP1
  have hD := hD1.weaken (fun k q _ h => hFc q.1 h)
  refine lv_istore (lv' := [(4, .int q10), (3, .int q7), (0, .ref (a 0)), (1, .int v0), (2, .int v1)]) hx hb dX13_statement_36 hl (by decide) rfl (fun ls hl => ?_)
  refine lv_iconst (v := 0) hx hb dX13_statement_38 (by decide) ?_
  refine lv_istore (lv' := [(5, .int 0), (4, .int q10), (3, .int q7), (0, .ref (a 0)), (1, .int v0), (2, .int v1)]) hx hb dX13_statement_39 hl (by decide) rfl (fun ls hl => ?_)
  refine lv_iload hx hb dX13_statement_41 (lv_at hl 1 rfl) ?_
  refine lv_if_ge (tgt := 136) hx hb dX13_statement_43 (by decide) (fun c13 => ?_) (fun c13 => ?_)
  · have h := nd_pos h c13
    exact (db_X13_statement_136 C K) (q10) (0) s11 _ _ _ h hP hD hS (lv_sub hl [3, 1, 0] rfl)
  · have h := nd_neg h c13
    refine lv_iload_n hx hb dX13_statement_46 rfl (lv_at hl 2 rfl) ?_
    refine lv_if_le (tgt := 136) hx hb dX13_statement_47 (by decide) (fun c62 => ?_) (fun c62 => ?_)
    · have h := nd_pos h c62
      exact (db_X13_statement_136 C K) (q10) (0) s11 _ _ _ h hP hD hS (lv_sub hl [3, 1, 0] rfl)
    · have h := nd_neg h c62
      refine lv_aload_n hx hb dX13_statement_50 rfl (lv_at hl 3 rfl) ?_
      refine lv_aload_n hx hb dX13_statement_51 rfl (lv_at hl 3 rfl) ?_
      refine va_get (D := (dC, dI)) (ci := 14) (v := .int (sI s11 9)) (C := RX13) (T := TX13) (N := 37) hx hb hts hi_dm_X13_statement_X13 hown hK hP 0 rfl rfl 18 (by decide) (hts (.fieldLink RX13 368 "TimeMachineModel$Assembler" "from" "I") (List.mem_of_getElem? (i := 11) rfl)) (fun _ h9 => h9) rfl dX13_statement_52 ?_
      refine lv_aload_n hx hb dX13_statement_55 rfl (lv_at hl 3 rfl) ?_
      refine va_get (D := (dC, dI)) (ci := 14) (v := .int (sI s11 10)) (C := RX13) (T := TX13) (N := 37) hx hb hts hi_dm_X13_statement_X13 hown hK hP 0 rfl rfl 19 (by decide) (hts (.fieldLink RX13 371 "TimeMachineModel$Assembler" "to" "I") (List.mem_of_getElem? (i := 12) rfl)) (fun _ h9 => h9) rfl dX13_statement_56 ?_
      refine lv_iload_n hx hb dX13_statement_59 rfl (lv_at hl 2 rfl) ?_
      refine lv_isub hx hb dX13_statement_60 ?_
      obtain ⟨q63, s64, hq, h⟩ := nd_b2_e h
      have hPc := hP
      have hDc := hD
      have hKc := hK
      have hFc := nd_rs hD hS hA
      refine nd_cVi (As := [.int (sI s11 9), .int ((sI s11 10) - q7)]) (rest := []) (q := q63) (w' := dw_X13 a ac s64) ⟨hx, hb, hml, hown, hts⟩ (fun sz => dm_X13_named l hlt dC dI a ac n ((sI s11 9)) (((sI s11 10) - q7)) s11 hq sz) (cwV 2 hts gi_dm_X13_statement_2 rfl rfl rfl (by decide +kernel) ⟨Nat.le_of_ble_eq_true rfl, Nat.le_of_ble_eq_true rfl⟩) hPc hDc hKc hS hA hN (va_recv hKc hPc (ci := 14) (q0 := 0) rfl rfl) rfl hl.1 rfl (Nat.le_of_ble_eq_true rfl) dX13_statement_61 (fun H locs hP1 hD1 hk1 hS => ?_)
      have hP := hP1
      have hD := hD1.weaken (fun k q _ h => hFc q.1 h)
      refine lv_istore (lv' := [(4, .int q63), (5, .int 0), (3, .int q7), (0, .ref (a 0)), (1, .int v0), (2, .int v1)]) hx hb dX13_statement_64 hl (by decide) rfl (fun ls hl => ?_)
      refine lv_iload_n hx hb dX13_statement_66 rfl (lv_at hl 2 rfl) ?_
      refine lv_iconst (v := 5) hx hb dX13_statement_67 (by decide) ?_
      refine lv_icmp_ne (tgt := 77) hx hb dX13_statement_68 (by decide) (fun c66 => ?_) (fun c66 => ?_)
      · have h := nd_neg h c66
        refine lv_aload_n hx hb dX13_statement_77 rfl (lv_at hl 3 rfl) ?_
        refine va_get (D := (dC, dI)) (ci := 14) (v := .ref (a 4)) (C := RX13) (T := TX13) (N := 37) hx hb hts hi_dm_X13_statement_X13 hown hK hP 0 rfl rfl 3 (by decide) (hts (.fieldLink RX13 324 "TimeMachineModel$Assembler" "text" "[C") (List.mem_of_getElem? (i := 49) rfl)) (fun _ h9 => h9) rfl dX13_statement_78 ?_
        refine lv_aload_n hx hb dX13_statement_81 rfl (lv_at hl 3 rfl) ?_
        refine va_get (D := (dC, dI)) (ci := 14) (v := .int (sI s64 10)) (C := RX13) (T := TX13) (N := 37) hx hb hts hi_dm_X13_statement_X13 hown hK hP 0 rfl rfl 19 (by decide) (hts (.fieldLink RX13 371 "TimeMachineModel$Assembler" "to" "I") (List.mem_of_getElem? (i := 12) rfl)) (fun _ h9 => h9) rfl dX13_statement_82 ?_
        refine lv_iconst (v := 1) hx hb dX13_statement_85 (by decide) ?_
        refine lv_isub hx hb dX13_statement_86 ?_
        obtain ⟨i67, h⟩ := nd_ck_e h
        refine va_cald (i := ((sI s64 10) - 1)) hx hb hK hP 4 3 rfl rfl i67 dX13_statement_87 ?_
        refine lv_bipush (v := 113) hx hb dX13_statement_88 (by decide) ?_
        refine lv_icmp_ne (tgt := 99) hx hb dX13_statement_90 (by decide) (fun c68 => ?_) (fun c68 => ?_)
        · have h := nd_neg h c68
          refine lv_ldcw hx hb hown (hts (.constant RX13 653 (33554432)) (List.mem_of_getElem? (i := 50) rfl)) dX13_statement_99 ?_
          exact (db_X13_statement_102 C K) (q63) (33554432) s64 _ _ _ h hP hD hS (lv_sub hl [3, 0] rfl)
        · have h := nd_pos h c68
          refine lv_ldcw hx hb hown (hts (.constant RX13 652 (67108864)) (List.mem_of_getElem? (i := 51) rfl)) dX13_statement_93 ?_
          refine lv_goto (tgt := 102) hx hb dX13_statement_96 (by decide) ?_
          exact (db_X13_statement_102 C K) (q63) (67108864) s64 _ _ _ h hP hD hS (lv_sub hl [3, 0] rfl)
      · have h := nd_pos h c66
        refine lv_ldcw hx hb hown (hts (.constant RX13 651 (100663296)) (List.mem_of_getElem? (i := 52) rfl)) dX13_statement_71 ?_
        refine lv_goto (tgt := 102) hx hb dX13_statement_74 (by decide) ?_
        exact (db_X13_statement_102 C K) (q63) (100663296) s64 _ _ _ h hP hD hS (lv_sub hl [3, 0] rfl)
set_option maxHeartbeats 40000000 in
set_option maxRecDepth 100000 in
theorem dm_X13_statement (l : Launch) (hlt : l.stackTraces = false) (dC : Nat → ClassId) (dI : Nat → Nat → Nat) (a : Nat → Nat) (ac : Nat → ClassId) (n : Nat) (v0 : Int32) (v1 : Int32) (s0 : St) {r : St} (h : df_X13_statement n v0 v1 s0 = some r) (sz : Nat) : Met l yX13_statement ow_dm_X13_statement ({ frames := 11, cells := 0, slots := 0, locals := 260 }) (va_Pc [.ref (a 0), .int v0, .int v1] (fun U => U.heap.size = sz ∧ va_P (dC, dI) vwCl (dw_X13 a ac s0) U.heap ∧ va_K (dC, dI) vwCl (dk_X13 ac) U ∧ va_D (fun _ => True) (dw_X13 a ac s0) ∧ nv_E (va_A (dw_X13 a ac s0) sz) U)) (va_Qv (fun _ => True) (fun (_ : Unit) t => va_P (dC, dI) vwCl (dw_X13 a ac r) t.heap ∧ va_K (dC, dI) vwCl (dk_X13 ac) t ∧ va_D (va_A (dw_X13 a ac s0) sz) (dw_X13 a ac r)) (va_A (dw_X13 a ac s0) sz)) 0 0 (va_A (dw_X13 a ac s0) sz) := by
  refine Met.ofW (cc := cX13_statement) (maxL := 8) (ret := none) (by decide) rfl ?_
  intro p e s m args below meth c s₁ B hml hv
  obtain ⟨rfl, hsz, hP, hK, hD0, hN⟩ := hv
  have hx := B.exec
  have hb := B.bytes
  have hr := B.returns
  have hts := atoms_spec (ws := ow_dm_X13_statement) B.pre
  have hown : s.vm.findClass RX13 = some m.cls := findClass_of_methodNamed B.named
  have hlocks := B.notSynchronized
  subst hsz
  have hD := hD0.self (sz := s.heap.size)
  generalize hAe : va_A (dw_X13 a ac s0) s.heap.size = A at hD hN ⊢
  have hA : ∀ q : Nat, s.heap.size ≤ q → A q := fun q h => by rw [← hAe]; exact Or.inr h
  have hl := lv_entry ([.ref (a 0), .int v0, .int v1]) (n := 8) (Nat.le_of_ble_eq_true rfl)
  rw [lg_entry_eq]
  generalize (lg_sl ([.ref (a 0), .int v0, .int v1]) ++ List.replicate (8 - (lg_sl ([.ref (a 0), .int v0, .int v1])).length) Slot.unset).toArray = ls at hl ⊢
  have hl : lv_has ls 8 [(0, .ref (a 0)), (1, .int v0), (2, .int v1)] := hl
  exact db_X13_statement_0 (dC := dC) (dI := dI) (a := a) (ac := ac) (n := n) (r := r) ⟨hlt, hx, hb, hml, hown, hts, hN, hA, hK⟩ (fun pc τ H locs ls d er hP hD hS => by subst er; exact W.vret hx hb hr (fun t ht hW => ⟨⟨(), rfl, trivial, by rw [ht]; exact hP, va_K.moved hW.alike hK, hD⟩, hS.F ht⟩) hS.2.2 d) v0 v1 s0 _ _ _ h hP hD va_S.rf (lv_sub hl [0, 1, 2] rfl)
def ow_dm_X13_labelled : List Cond := .code yX13_labelled cX13_labelled 5 (some .boolean) :: ([.fieldLink RX13 410 "TimeMachineModel$Assembler" "fault" "I", .methodLink RX13 416 yX13_scan, .instanceMethod yX13_scan, .selects RX13 yX13_scan yX13_scan, .initialized RX13, .fieldLink RX13 368 "TimeMachineModel$Assembler" "from" "I", .fieldLink RX13 371 "TimeMachineModel$Assembler" "to" "I", .fieldLink RX13 365 "TimeMachineModel$Assembler" "token" "I", .fieldLink RX13 634 "TimeMachineModel$Assembler" "section" "I", .methodLink RX13 631 yX13_define, .instanceMethod yX13_define, .selects RX13 yX13_define yX13_define, .methodLink RX13 477 yX13_register, .instanceMethod yX13_register, .selects RX13 yX13_register yX13_register, .methodLink RX13 419 yX13_blame, .instanceMethod yX13_blame, .selects RX13 yX13_blame yX13_blame, .methodLink RX13 480 yX13_find, .instanceMethod yX13_find, .selects RX13 yX13_find yX13_find, .fieldLink RX13 374 "TimeMachineModel$Assembler" "at" "I"] ++ (u_ws RX13 TX13 37 ++ (ow_dm_X13_scan ++ (ow_dm_X13_define ++ (ow_dm_X13_register ++ (ow_dm_X13_blame ++ (ow_dm_X13_find ++ [])))))))
theorem gd_dm_X13_labelled : ∀ w ∈ ow_dm_X13_labelled, (w.onTables && w.keeps) = true ∨ ∃ ty, w = Cond.arrayClass ty := List.forall_mem_cons.mpr ⟨good_of_word rfl, List.forall_mem_append.mpr ⟨fun w h => good_of_word (List.all_eq_true.mp (by decide +kernel) w h), List.forall_mem_append.mpr ⟨gu_X13, List.forall_mem_append.mpr ⟨gd_dm_X13_scan, List.forall_mem_append.mpr ⟨gd_dm_X13_define, List.forall_mem_append.mpr ⟨gd_dm_X13_register, List.forall_mem_append.mpr ⟨gd_dm_X13_blame, List.forall_mem_append.mpr ⟨gd_dm_X13_find, fun _ h => nomatch h⟩⟩⟩⟩⟩⟩⟩⟩
theorem hi_dm_X13_labelled_X13 : ∀ w ∈ u_ws RX13 TX13 37, w ∈ ow_dm_X13_labelled := fun w h => List.mem_cons_of_mem _ (List.mem_append_right _ (List.mem_append_left _ h))
theorem gi_dm_X13_labelled_0 : GoodIn ow_dm_X13_labelled (wsV RX13 416 RX13 yX13_scan ow_dm_X13_scan) := goodIn_app (goodIn_of _ (by decide +kernel)) (fun w h => ⟨List.mem_cons_of_mem _ (List.mem_append_right _ (List.mem_append_right _ (List.mem_append_left _ h))), gd_dm_X13_scan w h⟩)
theorem gi_dm_X13_labelled_1 : GoodIn ow_dm_X13_labelled (wsV RX13 631 RX13 yX13_define ow_dm_X13_define) := goodIn_app (goodIn_of _ (by decide +kernel)) (fun w h => ⟨List.mem_cons_of_mem _ (List.mem_append_right _ (List.mem_append_right _ (List.mem_append_right _ (List.mem_append_left _ h)))), gd_dm_X13_define w h⟩)
theorem gi_dm_X13_labelled_2 : GoodIn ow_dm_X13_labelled (wsV RX13 477 RX13 yX13_register ow_dm_X13_register) := goodIn_app (goodIn_of _ (by decide +kernel)) (fun w h => ⟨List.mem_cons_of_mem _ (List.mem_append_right _ (List.mem_append_right _ (List.mem_append_right _ (List.mem_append_right _ (List.mem_append_left _ h))))), gd_dm_X13_register w h⟩)
theorem gi_dm_X13_labelled_3 : GoodIn ow_dm_X13_labelled (wsV RX13 419 RX13 yX13_blame ow_dm_X13_blame) := goodIn_app (goodIn_of _ (by decide +kernel)) (fun w h => ⟨List.mem_cons_of_mem _ (List.mem_append_right _ (List.mem_append_right _ (List.mem_append_right _ (List.mem_append_right _ (List.mem_append_right _ (List.mem_append_left _ h)))))), gd_dm_X13_blame w h⟩)
theorem gi_dm_X13_labelled_4 : GoodIn ow_dm_X13_labelled (wsV RX13 480 RX13 yX13_find ow_dm_X13_find) := goodIn_app (goodIn_of _ (by decide +kernel)) (fun w h => ⟨List.mem_cons_of_mem _ (List.mem_append_right _ (List.mem_append_right _ (List.mem_append_right _ (List.mem_append_right _ (List.mem_append_right _ (List.mem_append_right _ (List.mem_append_left _ h))))))), gd_dm_X13_find w h⟩)
def dj_X13_labelled_166 (p : Program) (l : Launch) (e : Env) (s : State) (m : MethodId) (args : Array Value) (below : List Frame) (meth : Method) (c : Code) (Q : State → Prop) (A : Nat → Prop) (dC : Nat → ClassId) (dI : Nat → Nat → Nat) (a : Nat → Nat) (ac : Nat → ClassId) (g : (St) → Option (Int32 × (St))) (r : Int32 × (St)) : Prop := ∀ (s0 : St) (H : Heap) (locs : List Loc) (ls : Array Slot), g s0 = some r → va_P (dC, dI) vwCl (dw_X13 a ac s0) H → va_D A (dw_X13 a ac s0) → va_S A s.heap H locs → lv_has ls 5 [(0, .ref (a 0))] → W p l e (headSpec ow_dm_X13_labelled ({ frames := 5, cells := 0, slots := 0, locals := 114 })).room s m args below meth c H locs 0 0 Q (F0 m 166 ls [])
def dj_X13_labelled_161 (p : Program) (l : Launch) (e : Env) (s : State) (m : MethodId) (args : Array Value) (below : List Frame) (meth : Method) (c : Code) (Q : State → Prop) (A : Nat → Prop) (dC : Nat → ClassId) (dI : Nat → Nat → Nat) (a : Nat → Nat) (ac : Nat → ClassId) (g : Int32 → Int32 → Int32 → Int32 → (St) → Option (Int32 × (St))) (r : Int32 × (St)) : Prop := ∀ (y1 : Int32) (y2 : Int32) (y3 : Int32) (y4 : Int32) (s0 : St) (H : Heap) (locs : List Loc) (ls : Array Slot), g y1 y2 y3 y4 s0 = some r → va_P (dC, dI) vwCl (dw_X13 a ac s0) H → va_D A (dw_X13 a ac s0) → va_S A s.heap H locs → lv_has ls 5 [(0, .ref (a 0))] → W p l e (headSpec ow_dm_X13_labelled ({ frames := 5, cells := 0, slots := 0, locals := 114 })).room s m args below meth c H locs 0 0 Q (F0 m 161 ls [.int y4, .int y3, .int y2, .int y1, .ref (a 0)])
def dj_X13_labelled_137 (p : Program) (l : Launch) (e : Env) (s : State) (m : MethodId) (args : Array Value) (below : List Frame) (meth : Method) (c : Code) (Q : State → Prop) (A : Nat → Prop) (dC : Nat → ClassId) (dI : Nat → Nat → Nat) (a : Nat → Nat) (ac : Nat → ClassId) (g : Int32 → Int32 → Int32 → (St) → Option (Int32 × (St))) (r : Int32 × (St)) : Prop := ∀ (x1 : Int32) (x2 : Int32) (x4 : Int32) (s0 : St) (H : Heap) (locs : List Loc) (ls : Array Slot), g x1 x2 x4 s0 = some r → va_P (dC, dI) vwCl (dw_X13 a ac s0) H → va_D A (dw_X13 a ac s0) → va_S A s.heap H locs → lv_has ls 5 [(0, .ref (a 0)), (1, .int x1), (2, .int x2), (4, .int x4)] → W p l e (headSpec ow_dm_X13_labelled ({ frames := 5, cells := 0, slots := 0, locals := 114 })).room s m args below meth c H locs 0 0 Q (F0 m 137 ls [])
def dj_X13_labelled_132 (p : Program) (l : Launch) (e : Env) (s : State) (m : MethodId) (args : Array Value) (below : List Frame) (meth : Method) (c : Code) (Q : State → Prop) (A : Nat → Prop) (dC : Nat → ClassId) (dI : Nat → Nat → Nat) (a : Nat → Nat) (ac : Nat → ClassId) (g : Int32 → Int32 → Int32 → (St) → Option (Int32 × (St))) (r : Int32 × (St)) : Prop := ∀ (x1 : Int32) (x2 : Int32) (x4 : Int32) (s0 : St) (H : Heap) (locs : List Loc) (ls : Array Slot), g x1 x2 x4 s0 = some r → va_P (dC, dI) vwCl (dw_X13 a ac s0) H → va_D A (dw_X13 a ac s0) → va_S A s.heap H locs → lv_has ls 5 [(0, .ref (a 0)), (1, .int x1), (2, .int x2), (4, .int x4)] → W p l e (headSpec ow_dm_X13_labelled ({ frames := 5, cells := 0, slots := 0, locals := 114 })).room s m args below meth c H locs 0 0 Q (F0 m 132 ls [])
def dj_X13_labelled_108 (p : Program) (l : Launch) (e : Env) (s : State) (m : MethodId) (args : Array Value) (below : List Frame) (meth : Method) (c : Code) (Q : State → Prop) (A : Nat → Prop) (dC : Nat → ClassId) (dI : Nat → Nat → Nat) (a : Nat → Nat) (ac : Nat → ClassId) (g : Int32 → (St) → Option (Int32 × (St))) (r : Int32 × (St)) : Prop := ∀ (y0 : Int32) (s0 : St) (H : Heap) (locs : List Loc) (ls : Array Slot), g y0 s0 = some r → va_P (dC, dI) vwCl (dw_X13 a ac s0) H → va_D A (dw_X13 a ac s0) → va_S A s.heap H locs → lv_has ls 5 [] → W p l e (headSpec ow_dm_X13_labelled ({ frames := 5, cells := 0, slots := 0, locals := 114 })).room s m args below meth c H locs 0 0 Q (F0 m 108 ls [.int y0])
def dj_X13_labelled_91 (p : Program) (l : Launch) (e : Env) (s : State) (m : MethodId) (args : Array Value) (below : List Frame) (meth : Method) (c : Code) (Q : State → Prop) (A : Nat → Prop) (dC : Nat → ClassId) (dI : Nat → Nat → Nat) (a : Nat → Nat) (ac : Nat → ClassId) (g : Int32 → (St) → Option (Int32 × (St))) (r : Int32 × (St)) : Prop := ∀ (x1 : Int32) (s0 : St) (H : Heap) (locs : List Loc) (ls : Array Slot), g x1 s0 = some r → va_P (dC, dI) vwCl (dw_X13 a ac s0) H → va_D A (dw_X13 a ac s0) → va_S A s.heap H locs → lv_has ls 5 [(0, .ref (a 0)), (1, .int x1)] → W p l e (headSpec ow_dm_X13_labelled ({ frames := 5, cells := 0, slots := 0, locals := 114 })).room s m args below meth c H locs 0 0 Q (F0 m 91 ls [])
def dj_X13_labelled_68 (p : Program) (l : Launch) (e : Env) (s : State) (m : MethodId) (args : Array Value) (below : List Frame) (meth : Method) (c : Code) (Q : State → Prop) (A : Nat → Prop) (dC : Nat → ClassId) (dI : Nat → Nat → Nat) (a : Nat → Nat) (ac : Nat → ClassId) (g : Int32 → Int32 → Int32 → (St) → Option (Int32 × (St))) (r : Int32 × (St)) : Prop := ∀ (x1 : Int32) (x2 : Int32) (x4 : Int32) (s0 : St) (H : Heap) (locs : List Loc) (ls : Array Slot), g x1 x2 x4 s0 = some r → va_P (dC, dI) vwCl (dw_X13 a ac s0) H → va_D A (dw_X13 a ac s0) → va_S A s.heap H locs → lv_has ls 5 [(0, .ref (a 0)), (1, .int x1), (2, .int x2), (4, .int x4)] → W p l e (headSpec ow_dm_X13_labelled ({ frames := 5, cells := 0, slots := 0, locals := 114 })).room s m args below meth c H locs 0 0 Q (F0 m 68 ls [])
def dj_X13_labelled_43 (p : Program) (l : Launch) (e : Env) (s : State) (m : MethodId) (args : Array Value) (below : List Frame) (meth : Method) (c : Code) (Q : State → Prop) (A : Nat → Prop) (dC : Nat → ClassId) (dI : Nat → Nat → Nat) (a : Nat → Nat) (ac : Nat → ClassId) (g : Int32 → Int32 → Int32 → Int32 → (St) → Option (Int32 × (St))) (r : Int32 × (St)) : Prop := ∀ (x1 : Int32) (x2 : Int32) (x3 : Int32) (y0 : Int32) (s0 : St) (H : Heap) (locs : List Loc) (ls : Array Slot), g x1 x2 x3 y0 s0 = some r → va_P (dC, dI) vwCl (dw_X13 a ac s0) H → va_D A (dw_X13 a ac s0) → va_S A s.heap H locs → lv_has ls 5 [(0, .ref (a 0)), (1, .int x1), (2, .int x2), (3, .int x3)] → W p l e (headSpec ow_dm_X13_labelled ({ frames := 5, cells := 0, slots := 0, locals := 114 })).room s m args below meth c H locs 0 0 Q (F0 m 43 ls [.int y0])
def dj_X13_labelled_42 (p : Program) (l : Launch) (e : Env) (s : State) (m : MethodId) (args : Array Value) (below : List Frame) (meth : Method) (c : Code) (Q : State → Prop) (A : Nat → Prop) (dC : Nat → ClassId) (dI : Nat → Nat → Nat) (a : Nat → Nat) (ac : Nat → ClassId) (g : Int32 → Int32 → Int32 → (St) → Option (Int32 × (St))) (r : Int32 × (St)) : Prop := ∀ (x1 : Int32) (x2 : Int32) (x3 : Int32) (s0 : St) (H : Heap) (locs : List Loc) (ls : Array Slot), g x1 x2 x3 s0 = some r → va_P (dC, dI) vwCl (dw_X13 a ac s0) H → va_D A (dw_X13 a ac s0) → va_S A s.heap H locs → lv_has ls 5 [(0, .ref (a 0)), (1, .int x1), (2, .int x2), (3, .int x3)] → W p l e (headSpec ow_dm_X13_labelled ({ frames := 5, cells := 0, slots := 0, locals := 114 })).room s m args below meth c H locs 0 0 Q (F0 m 42 ls [])
def dj_X13_labelled_0 (p : Program) (l : Launch) (e : Env) (s : State) (m : MethodId) (args : Array Value) (below : List Frame) (meth : Method) (c : Code) (Q : State → Prop) (A : Nat → Prop) (dC : Nat → ClassId) (dI : Nat → Nat → Nat) (a : Nat → Nat) (ac : Nat → ClassId) (g : (St) → Option (Int32 × (St))) (r : Int32 × (St)) : Prop := ∀ (s0 : St) (H : Heap) (locs : List Loc) (ls : Array Slot), g s0 = some r → va_P (dC, dI) vwCl (dw_X13 a ac s0) H → va_D A (dw_X13 a ac s0) → va_S A s.heap H locs → lv_has ls 5 [(0, .ref (a 0))] → W p l e (headSpec ow_dm_X13_labelled ({ frames := 5, cells := 0, slots := 0, locals := 114 })).room s m args below meth c H locs 0 0 Q (F0 m 0 ls [])
set_option maxHeartbeats 40000000 in
set_option maxRecDepth 100000 in
theorem db_X13_labelled_166 {p : Program} {l : Launch} {e : Env} {s : State} {m : MethodId} {args : Array Value} {below : List Frame} {meth : Method} {c : Code} {Q : State → Prop} {A : Nat → Prop} {dC : Nat → ClassId} {dI : Nat → Nat → Nat} {a : Nat → Nat} {ac : Nat → ClassId} {n : Nat} {r : Int32 × (St)} (C : nd_C p l s m args c A (dC, dI) cX13_labelled 5 RX13 ow_dm_X13_labelled (dk_X13 ac)) (K : nd_Ki p l e (headSpec ow_dm_X13_labelled ({ frames := 5, cells := 0, slots := 0, locals := 114 })).room s m args below meth c Q A (dC, dI) cX13_labelled .boolean (St) (dw_X13 a ac) r) {g0 : (St) → Option (Int32 × (St))} (J0 : dj_X13_labelled_0 p l e s m args below meth c Q A dC dI a ac g0 r) : dj_X13_labelled_166 p l e s m args below meth c Q A dC dI a ac (df_X13_labelled_166 n g0) r := by
  obtain ⟨hlt, hx, hb, hml, hown, hts, hN, hA, hK⟩ := id C
  intro s0 H locs ls h hP hD hS hl
  unfold df_X13_labelled_166 at h
  refine lv_goto (tgt := 0) hx hb dX13_labelled_166 (by decide) ?_
  exact (J0)  s0 _ _ _ h hP hD hS (lv_sub hl [0] rfl)
set_option maxHeartbeats 40000000 in
set_option maxRecDepth 100000 in
theorem db_X13_labelled_161 {p : Program} {l : Launch} {e : Env} {s : State} {m : MethodId} {args : Array Value} {below : List Frame} {meth : Method} {c : Code} {Q : State → Prop} {A : Nat → Prop} {dC : Nat → ClassId} {dI : Nat → Nat → Nat} {a : Nat → Nat} {ac : Nat → ClassId} {n : Nat} {r : Int32 × (St)} (C : nd_C p l s m args c A (dC, dI) cX13_labelled 5 RX13 ow_dm_X13_labelled (dk_X13 ac)) (K : nd_Ki p l e (headSpec ow_dm_X13_labelled ({ frames := 5, cells := 0, slots := 0, locals := 114 })).room s m args below meth c Q A (dC, dI) cX13_labelled .boolean (St) (dw_X13 a ac) r) {g0 : (St) → Option (Int32 × (St))} (J0 : dj_X13_labelled_0 p l e s m args below meth c Q A dC dI a ac g0 r) : dj_X13_labelled_161 p l e s m args below meth c Q A dC dI a ac (df_X13_labelled_161 n g0) r := by
  obtain ⟨hlt, hx, hb, hml, hown, hts, hN, hA, hK⟩ := id C
  intro y1 y2 y3 y4 s0 H locs ls h hP hD hS hl
  unfold df_X13_labelled_161 at h
  refine lv_iadd hx hb dX13_labelled_161 ?_
  refine lv_iconst (v := 0) hx hb dX13_labelled_162 (by decide) ?_
  obtain ⟨s19, hq, h⟩ := nd_b1_e h
  have hPc := hP
  have hDc := hD
  have hKc := hK
  have hFc := nd_rs hD hS hA
  refine nd_cVv (As := [.int y1, .int y2, .int (y3 + y4), .int 0]) (rest := []) (w' := dw_X13 a ac s19) ⟨hx, hb, hml, hown, hts⟩ (fun sz => dm_X13_define l hlt dC dI a ac n (y1) (y2) ((y3 + y4)) (0) s0 hq sz) (cwV 4 hts gi_dm_X13_labelled_1 rfl rfl rfl (by decide +kernel) ⟨Nat.le_of_ble_eq_true rfl, Nat.le_of_ble_eq_true rfl⟩) hPc hDc hKc hS hA hN (va_recv hKc hPc (ci := 14) (q0 := 0) rfl rfl) rfl hl.1 rfl (Nat.le_of_ble_eq_true rfl) dX13_labelled_163 (fun H locs hP1 hD1 hk1 hS => ?_)
  have hP := hP1
  have hD := hD1.weaken (fun k q _ h => hFc q.1 h)
  exact (db_X13_labelled_166 C K J0)  s19 _ _ _ h hP hD hS (lv_sub hl [0] rfl)
set_option maxHeartbeats 40000000 in
set_option maxRecDepth 100000 in
theorem db_X13_labelled_137 {p : Program} {l : Launch} {e : Env} {s : State} {m : MethodId} {args : Array Value} {below : List Frame} {meth : Method} {c : Code} {Q : State → Prop} {A : Nat → Prop} {dC : Nat → ClassId} {dI : Nat → Nat → Nat} {a : Nat → Nat} {ac : Nat → ClassId} {n : Nat} {r : Int32 × (St)} (C : nd_C p l s m args c A (dC, dI) cX13_labelled 5 RX13 ow_dm_X13_labelled (dk_X13 ac)) (K : nd_Ki p l e (headSpec ow_dm_X13_labelled ({ frames := 5, cells := 0, slots := 0, locals := 114 })).room s m args below meth c Q A (dC, dI) cX13_labelled .boolean (St) (dw_X13 a ac) r) {g0 : (St) → Option (Int32 × (St))} (J0 : dj_X13_labelled_0 p l e s m args below meth c Q A dC dI a ac g0 r) : dj_X13_labelled_137 p l e s m args below meth c Q A dC dI a ac (df_X13_labelled_137 n g0) r := by
  obtain ⟨hlt, hx, hb, hml, hown, hts, hN, hA, hK⟩ := id C
  intro x1 x2 x4 s0 H locs ls h hP hD hS hl
  unfold df_X13_labelled_137 at h
  refine lv_aload_n hx hb dX13_labelled_137 rfl (lv_at hl 0 rfl) ?_
  refine va_get (D := (dC, dI)) (ci := 14) (v := .int (sI s0 12)) (C := RX13) (T := TX13) (N := 37) hx hb hts hi_dm_X13_labelled_X13 hown hK hP 0 rfl rfl 21 (by decide) (hts (.fieldLink RX13 410 "TimeMachineModel$Assembler" "fault" "I") (List.mem_of_getElem? (i := 1) rfl)) (fun _ h9 => h9) rfl dX13_labelled_138 ?_
  refine lv_if_ne (tgt := 166) hx hb dX13_labelled_141 (by decide) (fun c16 => ?_) (fun c16 => ?_)
  · have h := nd_neg h c16
    exact (db_X13_labelled_166 C K J0)  s0 _ _ _ h hP hD hS (lv_sub hl [0] rfl)
  · have h := nd_pos h c16
    refine lv_aload_n hx hb dX13_labelled_144 rfl (lv_at hl 0 rfl) ?_
    refine lv_iload_n hx hb dX13_labelled_145 rfl (lv_at hl 1 rfl) ?_
    refine lv_iload_n hx hb dX13_labelled_146 rfl (lv_at hl 2 rfl) ?_
    refine lv_aload_n hx hb dX13_labelled_147 rfl (lv_at hl 0 rfl) ?_
    refine va_get (D := (dC, dI)) (ci := 14) (v := .int (sI s0 14)) (C := RX13) (T := TX13) (N := 37) hx hb hts hi_dm_X13_labelled_X13 hown hK hP 0 rfl rfl 23 (by decide) (hts (.fieldLink RX13 634 "TimeMachineModel$Assembler" "section" "I") (List.mem_of_getElem? (i := 9) rfl)) (fun _ h9 => h9) rfl dX13_labelled_148 ?_
    refine lv_iload hx hb dX13_labelled_151 (lv_at hl 3 rfl) ?_
    refine lv_if_eq (tgt := 160) hx hb dX13_labelled_153 (by decide) (fun c17 => ?_) (fun c17 => ?_)
    · have h := nd_pos h c17
      refine lv_iconst (v := 0) hx hb dX13_labelled_160 (by decide) ?_
      exact (db_X13_labelled_161 C K J0) (x1) (x2) ((sI s0 14)) (0) s0 _ _ _ h hP hD hS (lv_sub hl [0] rfl)
    · have h := nd_neg h c17
      refine lv_iconst (v := 3) hx hb dX13_labelled_156 (by decide) ?_
      refine lv_goto (tgt := 161) hx hb dX13_labelled_157 (by decide) ?_
      exact (db_X13_labelled_161 C K J0) (x1) (x2) ((sI s0 14)) (3) s0 _ _ _ h hP hD hS (lv_sub hl [0] rfl)
set_option maxHeartbeats 40000000 in
set_option maxRecDepth 100000 in
theorem db_X13_labelled_132 {p : Program} {l : Launch} {e : Env} {s : State} {m : MethodId} {args : Array Value} {below : List Frame} {meth : Method} {c : Code} {Q : State → Prop} {A : Nat → Prop} {dC : Nat → ClassId} {dI : Nat → Nat → Nat} {a : Nat → Nat} {ac : Nat → ClassId} {n : Nat} {r : Int32 × (St)} (C : nd_C p l s m args c A (dC, dI) cX13_labelled 5 RX13 ow_dm_X13_labelled (dk_X13 ac)) (K : nd_Ki p l e (headSpec ow_dm_X13_labelled ({ frames := 5, cells := 0, slots := 0, locals := 114 })).room s m args below meth c Q A (dC, dI) cX13_labelled .boolean (St) (dw_X13 a ac) r) {g0 : (St) → Option (Int32 × (St))} (J0 : dj_X13_labelled_0 p l e s m args below meth c Q A dC dI a ac g0 r) : dj_X13_labelled_132 p l e s m args below meth c Q A dC dI a ac (df_X13_labelled_132 n g0) r := by
  obtain ⟨hlt, hx, hb, hml, hown, hts, hN, hA, hK⟩ := id C
  intro x1 x2 x4 s0 H locs ls h hP hD hS hl
  unfold df_X13_labelled_132 at h
  refine lv_aload_n hx hb dX13_labelled_132 rfl (lv_at hl 0 rfl) ?_
  refine lv_iconst (v := 4) hx hb dX13_labelled_133 (by decide) ?_
  obtain ⟨s26, hq, h⟩ := nd_b1_e h
  have hPc := hP
  have hDc := hD
  have hKc := hK
  have hFc := nd_rs hD hS hA
  refine nd_cVv (As := [.int 4]) (rest := []) (w' := dw_X13 a ac s26) ⟨hx, hb, hml, hown, hts⟩ (fun sz => dm_X13_blame l hlt dC dI a ac n (4) s0 hq sz) (cwV 1 hts gi_dm_X13_labelled_3 rfl rfl rfl (by decide +kernel) ⟨Nat.le_of_ble_eq_true rfl, Nat.le_of_ble_eq_true rfl⟩) hPc hDc hKc hS hA hN (va_recv hKc hPc (ci := 14) (q0 := 0) rfl rfl) rfl hl.1 rfl (Nat.le_of_ble_eq_true rfl) dX13_labelled_134 (fun H locs hP1 hD1 hk1 hS => ?_)
  have hP := hP1
  have hD := hD1.weaken (fun k q _ h => hFc q.1 h)
  exact (db_X13_labelled_137 C K J0) (x1) (x2) (x4) s26 _ _ _ h hP hD hS (lv_sub hl [0, 1, 2, 3] rfl)
set_option maxHeartbeats 40000000 in
set_option maxRecDepth 100000 in
theorem db_X13_labelled_108 {p : Program} {l : Launch} {e : Env} {s : State} {m : MethodId} {args : Array Value} {below : List Frame} {meth : Method} {c : Code} {Q : State → Prop} {A : Nat → Prop} {dC : Nat → ClassId} {dI : Nat → Nat → Nat} {a : Nat → Nat} {ac : Nat → ClassId} {n : Nat} {r : Int32 × (St)} (C : nd_C p l s m args c A (dC, dI) cX13_labelled 5 RX13 ow_dm_X13_labelled (dk_X13 ac)) (K : nd_Ki p l e (headSpec ow_dm_X13_labelled ({ frames := 5, cells := 0, slots := 0, locals := 114 })).room s m args below meth c Q A (dC, dI) cX13_labelled .boolean (St) (dw_X13 a ac) r) : dj_X13_labelled_108 p l e s m args below meth c Q A dC dI a ac (df_X13_labelled_108 n) r := by
  obtain ⟨hlt, hx, hb, hml, hown, hts, hN, hA, hK⟩ := id C
  intro y0 s0 H locs ls h hP hD hS hl
  unfold df_X13_labelled_108 at h
  obtain ⟨n35, h⟩ := nd_z_e ⟨_, rfl⟩ h
  exact K _ _ _ _ _ _ dX13_labelled_108 n35 (Option.some.inj h).symm hP hD hS
set_option maxHeartbeats 40000000 in
set_option maxRecDepth 100000 in
theorem db_X13_labelled_91 {p : Program} {l : Launch} {e : Env} {s : State} {m : MethodId} {args : Array Value} {below : List Frame} {meth : Method} {c : Code} {Q : State → Prop} {A : Nat → Prop} {dC : Nat → ClassId} {dI : Nat → Nat → Nat} {a : Nat → Nat} {ac : Nat → ClassId} {n : Nat} {r : Int32 × (St)} (C : nd_C p l s m args c A (dC, dI) cX13_labelled 5 RX13 ow_dm_X13_labelled (dk_X13 ac)) (K : nd_Ki p l e (headSpec ow_dm_X13_labelled ({ frames := 5, cells := 0, slots := 0, locals := 114 })).room s m args below meth c Q A (dC, dI) cX13_labelled .boolean (St) (dw_X13 a ac) r) : dj_X13_labelled_91 p l e s m args below meth c Q A dC dI a ac (df_X13_labelled_91 n) r := by
  obtain ⟨hlt, hx, hb, hml, hown, hts, hN, hA, hK⟩ := id C
  intro x1 s0 H locs ls h hP hD hS hl
  unfold df_X13_labelled_91 at h
  refine lv_aload_n hx hb dX13_labelled_91 rfl (lv_at hl 0 rfl) ?_
  refine lv_iload_n hx hb dX13_labelled_92 rfl (lv_at hl 1 rfl) ?_
  refine va_put (D := (dC, dI)) (ci := 14) (v := .int x1) (ty := .int) (C := RX13) (T := TX13) (N := 37) hx hb hts hi_dm_X13_labelled_X13 tyX13 tyX13_ok nmX13 hown hK hP hD hS 0 rfl rfl 16 (by decide) (hts (.fieldLink RX13 374 "TimeMachineModel$Assembler" "at" "I") (List.mem_of_getElem? (i := 22) rfl)) (fun _ h9 => h9) rfl (by decide +kernel) rfl rfl (Nat.le_of_ble_eq_true rfl) dX13_labelled_93 (fun H locs hP hD hS => ?_)
  obtain ⟨s33, es33, h⟩ := nd_let_e h
  have hP : va_P (dC, dI) vwCl (dw_X13 a ac s33) H := by rw [es33]; exact hP
  have hD : va_D A (dw_X13 a ac s33) := by rw [es33]; exact hD
  refine lv_aload_n hx hb dX13_labelled_96 rfl (lv_at hl 0 rfl) ?_
  refine va_get (D := (dC, dI)) (ci := 14) (v := .int (sI s33 12)) (C := RX13) (T := TX13) (N := 37) hx hb hts hi_dm_X13_labelled_X13 hown hK hP 0 rfl rfl 21 (by decide) (hts (.fieldLink RX13 410 "TimeMachineModel$Assembler" "fault" "I") (List.mem_of_getElem? (i := 1) rfl)) (fun _ h9 => h9) rfl dX13_labelled_97 ?_
  refine lv_if_ne (tgt := 107) hx hb dX13_labelled_100 (by decide) (fun c34 => ?_) (fun c34 => ?_)
  · have h := nd_neg h c34
    refine lv_iconst (v := 0) hx hb dX13_labelled_107 (by decide) ?_
    exact (db_X13_labelled_108 C K) (0) s33 _ _ _ h hP hD hS (lv_sub hl [] rfl)
  · have h := nd_pos h c34
    refine lv_iconst (v := 1) hx hb dX13_labelled_103 (by decide) ?_
    refine lv_goto (tgt := 108) hx hb dX13_labelled_104 (by decide) ?_
    exact (db_X13_labelled_108 C K) (1) s33 _ _ _ h hP hD hS (lv_sub hl [] rfl)
set_option maxHeartbeats 40000000 in
set_option maxRecDepth 100000 in
theorem db_X13_labelled_68 {p : Program} {l : Launch} {e : Env} {s : State} {m : MethodId} {args : Array Value} {below : List Frame} {meth : Method} {c : Code} {Q : State → Prop} {A : Nat → Prop} {dC : Nat → ClassId} {dI : Nat → Nat → Nat} {a : Nat → Nat} {ac : Nat → ClassId} {n : Nat} {r : Int32 × (St)} (C : nd_C p l s m args c A (dC, dI) cX13_labelled 5 RX13 ow_dm_X13_labelled (dk_X13 ac)) (K : nd_Ki p l e (headSpec ow_dm_X13_labelled ({ frames := 5, cells := 0, slots := 0, locals := 114 })).room s m args below meth c Q A (dC, dI) cX13_labelled .boolean (St) (dw_X13 a ac) r) {g0 : (St) → Option (Int32 × (St))} (J0 : dj_X13_labelled_0 p l e s m args below meth c Q A dC dI a ac g0 r) : dj_X13_labelled_68 p l e s m args below meth c Q A dC dI a ac (df_X13_labelled_68 n g0) r := by
  obtain ⟨hlt, hx, hb, hml, hown, hts, hN, hA, hK⟩ := id C
  intro x1 x2 x4 s0 H locs ls h hP hD hS hl
  unfold df_X13_labelled_68 at h
  refine lv_aload_n hx hb dX13_labelled_68 rfl (lv_at hl 0 rfl) ?_
  obtain ⟨s12, hq, h⟩ := nd_b1_e h
  have hPc := hP
  have hDc := hD
  have hKc := hK
  have hFc := nd_rs hD hS hA
  refine nd_cVv (As := []) (rest := []) (w' := dw_X13 a ac s12) ⟨hx, hb, hml, hown, hts⟩ (fun sz => dm_X13_scan l hlt dC dI a ac n  s0 hq sz) (cwV 0 hts gi_dm_X13_labelled_0 rfl rfl rfl (by decide +kernel) ⟨Nat.le_of_ble_eq_true rfl, Nat.le_of_ble_eq_true rfl⟩) hPc hDc hKc hS hA hN (va_recv hKc hPc (ci := 14) (q0 := 0) rfl rfl) rfl hl.1 rfl (Nat.le_of_ble_eq_true rfl) dX13_labelled_69 (fun H locs hP1 hD1 hk1 hS => ?_)
  have hP := hP1
  have hD := hD1.weaken (fun k q _ h => hFc q.1 h)
  refine lv_aload_n hx hb dX13_labelled_72 rfl (lv_at hl 0 rfl) ?_
  refine va_get (D := (dC, dI)) (ci := 14) (v := .int (sI s12 8)) (C := RX13) (T := TX13) (N := 37) hx hb hts hi_dm_X13_labelled_X13 hown hK hP 0 rfl rfl 17 (by decide) (hts (.fieldLink RX13 365 "TimeMachineModel$Assembler" "token" "I") (List.mem_of_getElem? (i := 8) rfl)) (fun _ h9 => h9) rfl dX13_labelled_73 ?_
  refine lv_bipush (v := 58) hx hb dX13_labelled_76 (by decide) ?_
  refine lv_icmp_eq (tgt := 109) hx hb dX13_labelled_78 (by decide) (fun c14 => ?_) (fun c14 => ?_)
  · have h := nd_pos h c14
    refine lv_iload hx hb dX13_labelled_109 (lv_at hl 3 rfl) ?_
    refine lv_if_ne (tgt := 137) hx hb dX13_labelled_111 (by decide) (fun c15 => ?_) (fun c15 => ?_)
    · have h := nd_neg h c15
      exact (db_X13_labelled_137 C K J0) (x1) (x2) (x4) s12 _ _ _ h hP hD hS (lv_sub hl [0, 1, 2, 3] rfl)
    · have h := nd_pos h c15
      refine lv_aload_n hx hb dX13_labelled_114 rfl (lv_at hl 0 rfl) ?_
      refine lv_iload_n hx hb dX13_labelled_115 rfl (lv_at hl 1 rfl) ?_
      refine lv_iload_n hx hb dX13_labelled_116 rfl (lv_at hl 2 rfl) ?_
      obtain ⟨q21, s22, hq, h⟩ := nd_b2_e h
      have hPc := hP
      have hDc := hD
      have hKc := hK
      have hFc := nd_rs hD hS hA
      refine nd_cVi (As := [.int x1, .int x2]) (rest := []) (q := q21) (w' := dw_X13 a ac s22) ⟨hx, hb, hml, hown, hts⟩ (fun sz => dm_X13_register l hlt dC dI a ac n (x1) (x2) s12 hq sz) (cwV 2 hts gi_dm_X13_labelled_2 rfl rfl rfl (by decide +kernel) ⟨Nat.le_of_ble_eq_true rfl, Nat.le_of_ble_eq_true rfl⟩) hPc hDc hKc hS hA hN (va_recv hKc hPc (ci := 14) (q0 := 0) rfl rfl) rfl hl.1 rfl (Nat.le_of_ble_eq_true rfl) dX13_labelled_117 (fun H locs hP1 hD1 hk1 hS => ?_)
      have hP := hP1
      have hD := hD1.weaken (fun k q _ h => hFc q.1 h)
      refine lv_if_ge (tgt := 132) hx hb dX13_labelled_120 (by decide) (fun c24 => ?_) (fun c24 => ?_)
      · have h := nd_pos h c24
        exact (db_X13_labelled_132 C K J0) (x1) (x2) (x4) s22 _ _ _ h hP hD hS (lv_sub hl [0, 1, 2, 3] rfl)
      · have h := nd_neg h c24
        refine lv_aload_n hx hb dX13_labelled_123 rfl (lv_at hl 0 rfl) ?_
        refine lv_iload_n hx hb dX13_labelled_124 rfl (lv_at hl 1 rfl) ?_
        refine lv_iload_n hx hb dX13_labelled_125 rfl (lv_at hl 2 rfl) ?_
        obtain ⟨q28, s29, hq, h⟩ := nd_b2_e h
        have hPc := hP
        have hDc := hD
        have hKc := hK
        have hFc := nd_rs hD hS hA
        refine nd_cVi (As := [.int x1, .int x2]) (rest := []) (q := q28) (w' := dw_X13 a ac s29) ⟨hx, hb, hml, hown, hts⟩ (fun sz => dm_X13_find l hlt dC dI a ac n (x1) (x2) s22 hq sz) (cwV 2 hts gi_dm_X13_labelled_4 rfl rfl rfl (by decide +kernel) ⟨Nat.le_of_ble_eq_true rfl, Nat.le_of_ble_eq_true rfl⟩) hPc hDc hKc hS hA hN (va_recv hKc hPc (ci := 14) (q0 := 0) rfl rfl) rfl hl.1 rfl (Nat.le_of_ble_eq_true rfl) dX13_labelled_126 (fun H locs hP1 hD1 hk1 hS => ?_)
        have hP := hP1
        have hD := hD1.weaken (fun k q _ h => hFc q.1 h)
        refine lv_if_lt (tgt := 137) hx hb dX13_labelled_129 (by decide) (fun c31 => ?_) (fun c31 => ?_)
        · have h := nd_pos h c31
          exact (db_X13_labelled_137 C K J0) (x1) (x2) (x4) s29 _ _ _ h hP hD hS (lv_sub hl [0, 1, 2, 3] rfl)
        · have h := nd_neg h c31
          exact (db_X13_labelled_132 C K J0) (x1) (x2) (x4) s29 _ _ _ h hP hD hS (lv_sub hl [0, 1, 2, 3] rfl)
  · have h := nd_neg h c14
    refine lv_iload hx hb dX13_labelled_81 (lv_at hl 3 rfl) ?_
    refine lv_if_eq (tgt := 91) hx hb dX13_labelled_83 (by decide) (fun c32 => ?_) (fun c32 => ?_)
    · have h := nd_pos h c32
      exact (db_X13_labelled_91 C K) (x1) s12 _ _ _ h hP hD hS (lv_sub hl [0, 1] rfl)
    · have h := nd_neg h c32
      refine lv_aload_n hx hb dX13_labelled_86 rfl (lv_at hl 0 rfl) ?_
      refine lv_iconst (v := 1) hx hb dX13_labelled_87 (by decide) ?_
      obtain ⟨s37, hq, h⟩ := nd_b1_e h
      have hPc := hP
      have hDc := hD
      have hKc := hK
      have hFc := nd_rs hD hS hA
      refine nd_cVv (As := [.int 1]) (rest := []) (w' := dw_X13 a ac s37) ⟨hx, hb, hml, hown, hts⟩ (fun sz => dm_X13_blame l hlt dC dI a ac n (1) s12 hq sz) (cwV 1 hts gi_dm_X13_labelled_3 rfl rfl rfl (by decide +kernel) ⟨Nat.le_of_ble_eq_true rfl, Nat.le_of_ble_eq_true rfl⟩) hPc hDc hKc hS hA hN (va_recv hKc hPc (ci := 14) (q0 := 0) rfl rfl) rfl hl.1 rfl (Nat.le_of_ble_eq_true rfl) dX13_labelled_88 (fun H locs hP1 hD1 hk1 hS => ?_)
      have hP := hP1
      have hD := hD1.weaken (fun k q _ h => hFc q.1 h)
      exact (db_X13_labelled_91 C K) (x1) s37 _ _ _ h hP hD hS (lv_sub hl [0, 1] rfl)
set_option maxHeartbeats 40000000 in
set_option maxRecDepth 100000 in
theorem db_X13_labelled_43 {p : Program} {l : Launch} {e : Env} {s : State} {m : MethodId} {args : Array Value} {below : List Frame} {meth : Method} {c : Code} {Q : State → Prop} {A : Nat → Prop} {dC : Nat → ClassId} {dI : Nat → Nat → Nat} {a : Nat → Nat} {ac : Nat → ClassId} {n : Nat} {r : Int32 × (St)} (C : nd_C p l s m args c A (dC, dI) cX13_labelled 5 RX13 ow_dm_X13_labelled (dk_X13 ac)) (K : nd_Ki p l e (headSpec ow_dm_X13_labelled ({ frames := 5, cells := 0, slots := 0, locals := 114 })).room s m args below meth c Q A (dC, dI) cX13_labelled .boolean (St) (dw_X13 a ac) r) {g0 : (St) → Option (Int32 × (St))} (J0 : dj_X13_labelled_0 p l e s m args below meth c Q A dC dI a ac g0 r) : dj_X13_labelled_43 p l e s m args below meth c Q A dC dI a ac (df_X13_labelled_43 n g0) r := by
  obtain ⟨hlt, hx, hb, hml, hown, hts, hN, hA, hK⟩ := id C
  intro x1 x2 x3 y0 s0 H locs ls h hP hD hS hl
  unfold df_X13_labelled_43 at h
  refine lv_istore (lv' := [(4, .int y0), (0, .ref (a 0)), (1, .int x1), (2, .int x2), (3, .int x3)]) hx hb dX13_labelled_43 hl (by decide) rfl (fun ls hl => ?_)
  refine lv_iload_n hx hb dX13_labelled_45 rfl (lv_at hl 4 rfl) ?_
  refine lv_if_ne (tgt := 51) hx hb dX13_labelled_46 (by decide) (fun c9 => ?_) (fun c9 => ?_)
  · have h := nd_neg h c9
    refine lv_iload_n hx hb dX13_labelled_51 rfl (lv_at hl 4 rfl) ?_
    refine lv_iconst (v := 1) hx hb dX13_labelled_52 (by decide) ?_
    refine lv_icmp_eq (tgt := 68) hx hb dX13_labelled_53 (by decide) (fun c10 => ?_) (fun c10 => ?_)
    · have h := nd_pos h c10
      exact (db_X13_labelled_68 C K J0) (x1) (x2) (y0) s0 _ _ _ h hP hD hS (lv_sub hl [1, 2, 3, 0] rfl)
    · have h := nd_neg h c10
      refine lv_iload hx hb dX13_labelled_56 (lv_at hl 0 rfl) ?_
      refine lv_if_ne (tgt := 68) hx hb dX13_labelled_58 (by decide) (fun c39 => ?_) (fun c39 => ?_)
      · have h := nd_neg h c39
        exact (db_X13_labelled_68 C K J0) (x1) (x2) (y0) s0 _ _ _ h hP hD hS (lv_sub hl [1, 2, 3, 0] rfl)
      · have h := nd_pos h c39
        refine lv_aload_n hx hb dX13_labelled_61 rfl (lv_at hl 1 rfl) ?_
        refine lv_iconst (v := 1) hx hb dX13_labelled_62 (by decide) ?_
        obtain ⟨s41, hq, h⟩ := nd_b1_e h
        have hPc := hP
        have hDc := hD
        have hKc := hK
        have hFc := nd_rs hD hS hA
        refine nd_cVv (As := [.int 1]) (rest := []) (w' := dw_X13 a ac s41) ⟨hx, hb, hml, hown, hts⟩ (fun sz => dm_X13_blame l hlt dC dI a ac n (1) s0 hq sz) (cwV 1 hts gi_dm_X13_labelled_3 rfl rfl rfl (by decide +kernel) ⟨Nat.le_of_ble_eq_true rfl, Nat.le_of_ble_eq_true rfl⟩) hPc hDc hKc hS hA hN (va_recv hKc hPc (ci := 14) (q0 := 0) rfl rfl) rfl hl.1 rfl (Nat.le_of_ble_eq_true rfl) dX13_labelled_63 (fun H locs hP1 hD1 hk1 hS => ?_)
        have hP := hP1
        have hD := hD1.weaken (fun k q _ h => hFc q.1 h)
        refine lv_iconst (v := 0) hx hb dX13_labelled_66 (by decide) ?_
        exact K _ _ _ _ _ _ dX13_labelled_67 (by first | rfl | decide) (Option.some.inj h).symm hP hD hS
  · have h := nd_pos h c9
    refine lv_iconst (v := 0) hx hb dX13_labelled_49 (by decide) ?_
    exact K _ _ _ _ _ _ dX13_labelled_50 (by first | rfl | decide) (Option.some.inj h).symm hP hD hS
set_option maxHeartbeats 40000000 in
set_option maxRecDepth 100000 in
theorem db_X13_labelled_42 {p : Program} {l : Launch} {e : Env} {s : State} {m : MethodId} {args : Array Value} {below : List Frame} {meth : Method} {c : Code} {Q : State → Prop} {A : Nat → Prop} {dC : Nat → ClassId} {dI : Nat → Nat → Nat} {a : Nat → Nat} {ac : Nat → ClassId} {n : Nat} {r : Int32 × (St)} (C : nd_C p l s m args c A (dC, dI) cX13_labelled 5 RX13 ow_dm_X13_labelled (dk_X13 ac)) (K : nd_Ki p l e (headSpec ow_dm_X13_labelled ({ frames := 5, cells := 0, slots := 0, locals := 114 })).room s m args below meth c Q A (dC, dI) cX13_labelled .boolean (St) (dw_X13 a ac) r) {g0 : (St) → Option (Int32 × (St))} (J0 : dj_X13_labelled_0 p l e s m args below meth c Q A dC dI a ac g0 r) : dj_X13_labelled_42 p l e s m args below meth c Q A dC dI a ac (df_X13_labelled_42 n g0) r := by
  obtain ⟨hlt, hx, hb, hml, hown, hts, hN, hA, hK⟩ := id C
  intro x1 x2 x3 s0 H locs ls h hP hD hS hl
  unfold df_X13_labelled_42 at h
  refine lv_iconst (v := 0) hx hb dX13_labelled_42 (by decide) ?_
  exact (db_X13_labelled_43 C K J0) (x1) (x2) (x3) (0) s0 _ _ _ h hP hD hS (lv_sub hl [0, 1, 2, 3] rfl)
set_option maxHeartbeats 40000000 in
set_option maxRecDepth 100000 in
theorem dB_X13_labelled_0 {p : Program} {l : Launch} {e : Env} {s : State} {m : MethodId} {args : Array Value} {below : List Frame} {meth : Method} {c : Code} {Q : State → Prop} {A : Nat → Prop} {dC : Nat → ClassId} {dI : Nat → Nat → Nat} {a : Nat → Nat} {ac : Nat → ClassId} {n : Nat} {r : Int32 × (St)} (C : nd_C p l s m args c A (dC, dI) cX13_labelled 5 RX13 ow_dm_X13_labelled (dk_X13 ac)) (K : nd_Ki p l e (headSpec ow_dm_X13_labelled ({ frames := 5, cells := 0, slots := 0, locals := 114 })).room s m args below meth c Q A (dC, dI) cX13_labelled .boolean (St) (dw_X13 a ac) r) {g0 : (St) → Option (Int32 × (St))} (J0 : dj_X13_labelled_0 p l e s m args below meth c Q A dC dI a ac g0 r) : dj_X13_labelled_0 p l e s m args below meth c Q A dC dI a ac (dF_X13_labelled_0 n g0) r := by
  obtain ⟨hlt, hx, hb, hml, hown, hts, hN, hA, hK⟩ := id C
  intro s0 H locs ls h hP hD hS hl
  unfold dF_X13_labelled_0 at h
  refine lv_aload_n hx hb dX13_labelled_0 rfl (lv_at hl 0 rfl) ?_
  refine va_get (D := (dC, dI)) (ci := 14) (v := .int (sI s0 12)) (C := RX13) (T := TX13) (N := 37) hx hb hts hi_dm_X13_labelled_X13 hown hK hP 0 rfl rfl 21 (by decide) (hts (.fieldLink RX13 410 "TimeMachineModel$Assembler" "fault" "I") (List.mem_of_getElem? (i := 1) rfl)) (fun _ h9 => h9) rfl dX13_labelled_1 ?_
  refine lv_if_ne (tgt := 169) hx hb dX13_labelled_4 (by decide) (fun c1 => ?_) (fun c1 => ?_)
  · have h := nd_neg h c1
    refine lv_iconst (v := 0) hx hb dX13_labelled_169 (by decide) ?_
    exact K _ _ _ _ _ _ dX13_labelled_170 (by first | rfl | decide) (Option.some.inj h).symm hP hD hS
  · have h := nd_pos h c1
    refine lv_aload_n hx hb dX13_labelled_7 rfl (lv_at hl 0 rfl) ?_
    obtain ⟨s3, hq, h⟩ := nd_b1_e h
    have hPc := hP
    have hDc := hD
    have hKc := hK
    have hFc := nd_rs hD hS hA
    refine nd_cVv (As := []) (rest := []) (w' := dw_X13 a ac s3) ⟨hx, hb, hml, hown, hts⟩ (fun sz => dm_X13_scan l hlt dC dI a ac n  s0 hq sz) (cwV 0 hts gi_dm_X13_labelled_0 rfl rfl rfl (by decide +kernel) ⟨Nat.le_of_ble_eq_true rfl, Nat.le_of_ble_eq_true rfl⟩) hPc hDc hKc hS hA hN (va_recv hKc hPc (ci := 14) (q0 := 0) rfl rfl) rfl hl.1 rfl (Nat.le_of_ble_eq_true rfl) dX13_labelled_8 (fun H locs hP1 hD1 hk1 hS => ?_)
    have hP := hP1
    have hD := hD1.weaken (fun k q _ h => hFc q.1 h)
    refine lv_aload_n hx hb dX13_labelled_11 rfl (lv_at hl 0 rfl) ?_
    refine va_get (D := (dC, dI)) (ci := 14) (v := .int (sI s3 9)) (C := RX13) (T := TX13) (N := 37) hx hb hts hi_dm_X13_labelled_X13 hown hK hP 0 rfl rfl 18 (by decide) (hts (.fieldLink RX13 368 "TimeMachineModel$Assembler" "from" "I") (List.mem_of_getElem? (i := 6) rfl)) (fun _ h9 => h9) rfl dX13_labelled_12 ?_
    refine lv_topi (fun z5 ez5 => ?_)
    have h := nd_at h ez5
    refine lv_istore_n (lv' := [(1, .int z5), (0, .ref (a 0))]) hx hb dX13_labelled_15 rfl hl (by decide) rfl (fun ls hl => ?_)
    refine lv_aload_n hx hb dX13_labelled_16 rfl (lv_at hl 1 rfl) ?_
    refine va_get (D := (dC, dI)) (ci := 14) (v := .int (sI s3 10)) (C := RX13) (T := TX13) (N := 37) hx hb hts hi_dm_X13_labelled_X13 hown hK hP 0 rfl rfl 19 (by decide) (hts (.fieldLink RX13 371 "TimeMachineModel$Assembler" "to" "I") (List.mem_of_getElem? (i := 7) rfl)) (fun _ h9 => h9) rfl dX13_labelled_17 ?_
    refine lv_topi (fun z6 ez6 => ?_)
    have h := nd_at h ez6
    refine lv_istore_n (lv' := [(2, .int z6), (1, .int z5), (0, .ref (a 0))]) hx hb dX13_labelled_20 rfl hl (by decide) rfl (fun ls hl => ?_)
    refine lv_aload_n hx hb dX13_labelled_21 rfl (lv_at hl 2 rfl) ?_
    refine va_get (D := (dC, dI)) (ci := 14) (v := .int (sI s3 8)) (C := RX13) (T := TX13) (N := 37) hx hb hts hi_dm_X13_labelled_X13 hown hK hP 0 rfl rfl 17 (by decide) (hts (.fieldLink RX13 365 "TimeMachineModel$Assembler" "token" "I") (List.mem_of_getElem? (i := 8) rfl)) (fun _ h9 => h9) rfl dX13_labelled_22 ?_
    refine lv_topi (fun z7 ez7 => ?_)
    have h := nd_at h ez7
    refine lv_istore_n (lv' := [(3, .int z7), (2, .int z6), (1, .int z5), (0, .ref (a 0))]) hx hb dX13_labelled_25 rfl hl (by decide) rfl (fun ls hl => ?_)
    refine lv_iload_n hx hb dX13_labelled_26 rfl (lv_at hl 0 rfl) ?_
    refine lv_iconst (v := 2) hx hb dX13_labelled_27 (by decide) ?_
    refine lv_icmp_ne (tgt := 42) hx hb dX13_labelled_28 (by decide) (fun c8 => ?_) (fun c8 => ?_)
    · have h := nd_neg h c8
      exact (db_X13_labelled_42 C K J0) (z5) (z6) (z7) s3 _ _ _ h hP hD hS (lv_sub hl [3, 2, 1, 0] rfl)
    · have h := nd_pos h c8
      refine lv_iload_n hx hb dX13_labelled_31 rfl (lv_at hl 1 rfl) ?_
      refine lv_iload_n hx hb dX13_labelled_32 rfl (lv_at hl 2 rfl) ?_
      refine lv_isub hx hb dX13_labelled_33 ?_
      refine lv_iconst (v := 1) hx hb dX13_labelled_34 (by decide) ?_
      refine lv_icmp_ne (tgt := 42) hx hb dX13_labelled_35 (by decide) (fun c43 => ?_) (fun c43 => ?_)
      · have h := nd_neg h c43
        exact (db_X13_labelled_42 C K J0) (z5) (z6) (z7) s3 _ _ _ h hP hD hS (lv_sub hl [3, 2, 1, 0] rfl)
      · have h := nd_pos h c43
        refine lv_iconst (v := 1) hx hb dX13_labelled_38 (by decide) ?_
        refine lv_goto (tgt := 43) hx hb dX13_labelled_39 (by decide) ?_
        exact (db_X13_labelled_43 C K J0) (z5) (z6) (z7) (1) s3 _ _ _ h hP hD hS (lv_sub hl [3, 2, 1, 0] rfl)
set_option maxHeartbeats 40000000 in
set_option maxRecDepth 100000 in
theorem db_X13_labelled_0 {p : Program} {l : Launch} {e : Env} {s : State} {m : MethodId} {args : Array Value} {below : List Frame} {meth : Method} {c : Code} {Q : State → Prop} {A : Nat → Prop} {dC : Nat → ClassId} {dI : Nat → Nat → Nat} {a : Nat → Nat} {ac : Nat → ClassId} {n : Nat} {r : Int32 × (St)} (C : nd_C p l s m args c A (dC, dI) cX13_labelled 5 RX13 ow_dm_X13_labelled (dk_X13 ac)) (K : nd_Ki p l e (headSpec ow_dm_X13_labelled ({ frames := 5, cells := 0, slots := 0, locals := 114 })).room s m args below meth c Q A (dC, dI) cX13_labelled .boolean (St) (dw_X13 a ac) r) (k : Nat) : dj_X13_labelled_0 p l e s m args below meth c Q A dC dI a ac (df_X13_labelled_0 n k) r := by
  induction k with
  | zero => intro s0 H locs ls h; exact nomatch (show (none : Option (Int32 × (St))) = some r from h)
  | succ k ih => exact dB_X13_labelled_0 C K ih
set_option maxHeartbeats 40000000 in
set_option maxRecDepth 100000 in
theorem dm_X13_labelled (l : Launch) (hlt : l.stackTraces = false) (dC : Nat → ClassId) (dI : Nat → Nat → Nat) (a : Nat → Nat) (ac : Nat → ClassId) (n : Nat) (s0 : St) {r : Int32 × (St)} (h : df_X13_labelled n s0 = some r) (sz : Nat) : Met l yX13_labelled ow_dm_X13_labelled ({ frames := 5, cells := 0, slots := 0, locals := 114 }) (va_Pc [.ref (a 0)] (fun U => U.heap.size = sz ∧ va_P (dC, dI) vwCl (dw_X13 a ac s0) U.heap ∧ va_K (dC, dI) vwCl (dk_X13 ac) U ∧ va_D (fun _ => True) (dw_X13 a ac s0) ∧ nv_E (va_A (dw_X13 a ac s0) sz) U)) (va_Qi (fun x _ => x = r.1) (fun (_ : Unit) t => va_P (dC, dI) vwCl (dw_X13 a ac r.2) t.heap ∧ va_K (dC, dI) vwCl (dk_X13 ac) t ∧ va_D (va_A (dw_X13 a ac s0) sz) (dw_X13 a ac r.2)) (va_A (dw_X13 a ac s0) sz)) 0 0 (va_A (dw_X13 a ac s0) sz) := by
  refine Met.ofW (cc := cX13_labelled) (maxL := 5) (ret := (some .boolean)) (by decide) rfl ?_
  intro p e s m args below meth c s₁ B hml hv
  obtain ⟨rfl, hsz, hP, hK, hD0, hN⟩ := hv
  have hx := B.exec
  have hb := B.bytes
  have hr := B.returns
  have hts := atoms_spec (ws := ow_dm_X13_labelled) B.pre
  have hown : s.vm.findClass RX13 = some m.cls := findClass_of_methodNamed B.named
  have hlocks := B.notSynchronized
  subst hsz
  have hD := hD0.self (sz := s.heap.size)
  generalize hAe : va_A (dw_X13 a ac s0) s.heap.size = A at hD hN ⊢
  have hA : ∀ q : Nat, s.heap.size ≤ q → A q := fun q h => by rw [← hAe]; exact Or.inr h
  have hl := lv_entry ([.ref (a 0)]) (n := 5) (Nat.le_of_ble_eq_true rfl)
  rw [lg_entry_eq]
  generalize (lg_sl ([.ref (a 0)]) ++ List.replicate (5 - (lg_sl ([.ref (a 0)])).length) Slot.unset).toArray = ls at hl ⊢
  have hl : lv_has ls 5 [(0, .ref (a 0))] := hl
  exact db_X13_labelled_0 (dC := dC) (dI := dI) (a := a) (ac := ac) (n := n) (r := r) ⟨hlt, hx, hb, hml, hown, hts, hN, hA, hK⟩ (fun pc v τ H locs ls d z er hP hD hS => by subst er; exact W.zret (v := v) hx hb hr z (fun t ht hW => ⟨⟨v, (), rfl, rfl, by rw [ht]; exact hP, va_K.moved hW.alike hK, hD⟩, hS.F ht⟩) hS.2.2 d) n s0 _ _ _ h hP hD va_S.rf (lv_sub hl [0] rfl)
def ow_dm_X13_readAll : List Cond := .code yX13_readAll cX13_readAll 4 none :: ([.fieldLink RX13 374 "TimeMachineModel$Assembler" "at" "I", .fieldLink RX13 413 "TimeMachineModel$Assembler" "line" "I", .fieldLink RX13 634 "TimeMachineModel$Assembler" "section" "I", .fieldLink RX13 673 "TimeMachineModel$Assembler" "statements" "I", .fieldLink RX13 439 "TimeMachineModel$Assembler" "labels" "I", .fieldLink RX13 410 "TimeMachineModel$Assembler" "fault" "I", .fieldLink RX13 347 "TimeMachineModel$Assembler" "size" "I", .methodLink RX13 676 yX13_labelled, .instanceMethod yX13_labelled, .selects RX13 yX13_labelled yX13_labelled, .initialized RX13, .methodLink RX13 358 yX13_charAt, .instanceMethod yX13_charAt, .selects RX13 yX13_charAt yX13_charAt, .fieldLink RX13 454 "TimeMachineModel$Assembler" "current" "I", .fieldLink RX13 328 "TimeMachineModel$Assembler" "place" "[I", .fieldLink RX13 334 "TimeMachineModel$Assembler" "bytes" "[I", .methodLink RX13 679 yX13_statement, .instanceMethod yX13_statement, .selects RX13 yX13_statement yX13_statement, .fieldLink RX13 541 "TimeMachineModel$Assembler" "count" "I"] ++ (u_ws RX13 TX13 37 ++ (ow_dm_X13_labelled ++ (ow_dm_X13_charAt ++ (ow_dm_X13_statement ++ [])))))
theorem gd_dm_X13_readAll : ∀ w ∈ ow_dm_X13_readAll, (w.onTables && w.keeps) = true ∨ ∃ ty, w = Cond.arrayClass ty := List.forall_mem_cons.mpr ⟨good_of_word rfl, List.forall_mem_append.mpr ⟨fun w h => good_of_word (List.all_eq_true.mp (by decide +kernel) w h), List.forall_mem_append.mpr ⟨gu_X13, List.forall_mem_append.mpr ⟨gd_dm_X13_labelled, List.forall_mem_append.mpr ⟨gd_dm_X13_charAt, List.forall_mem_append.mpr ⟨gd_dm_X13_statement, fun _ h => nomatch h⟩⟩⟩⟩⟩⟩
theorem hi_dm_X13_readAll_X13 : ∀ w ∈ u_ws RX13 TX13 37, w ∈ ow_dm_X13_readAll := fun w h => List.mem_cons_of_mem _ (List.mem_append_right _ (List.mem_append_left _ h))
theorem gi_dm_X13_readAll_0 : GoodIn ow_dm_X13_readAll (wsV RX13 676 RX13 yX13_labelled ow_dm_X13_labelled) := goodIn_app (goodIn_of _ (by decide +kernel)) (fun w h => ⟨List.mem_cons_of_mem _ (List.mem_append_right _ (List.mem_append_right _ (List.mem_append_left _ h))), gd_dm_X13_labelled w h⟩)
theorem gi_dm_X13_readAll_1 : GoodIn ow_dm_X13_readAll (wsV RX13 358 RX13 yX13_charAt ow_dm_X13_charAt) := goodIn_app (goodIn_of _ (by decide +kernel)) (fun w h => ⟨List.mem_cons_of_mem _ (List.mem_append_right _ (List.mem_append_right _ (List.mem_append_right _ (List.mem_append_left _ h)))), gd_dm_X13_charAt w h⟩)
theorem gi_dm_X13_readAll_2 : GoodIn ow_dm_X13_readAll (wsV RX13 679 RX13 yX13_statement ow_dm_X13_statement) := goodIn_app (goodIn_of _ (by decide +kernel)) (fun w h => ⟨List.mem_cons_of_mem _ (List.mem_append_right _ (List.mem_append_right _ (List.mem_append_right _ (List.mem_append_right _ (List.mem_append_left _ h))))), gd_dm_X13_statement w h⟩)
def dj_X13_readAll_201 (p : Program) (l : Launch) (e : Env) (s : State) (m : MethodId) (args : Array Value) (below : List Frame) (meth : Method) (c : Code) (Q : State → Prop) (A : Nat → Prop) (dC : Nat → ClassId) (dI : Nat → Nat → Nat) (a : Nat → Nat) (ac : Nat → ClassId) (g : (St) → Option (St)) (r : St) : Prop := ∀ (s0 : St) (H : Heap) (locs : List Loc) (ls : Array Slot), g s0 = some r → va_P (dC, dI) vwCl (dw_X13 a ac s0) H → va_D A (dw_X13 a ac s0) → va_S A s.heap H locs → lv_has ls 4 [] → W p l e (headSpec ow_dm_X13_readAll ({ frames := 12, cells := 0, slots := 0, locals := 287 })).room s m args below meth c H locs 0 0 Q (F0 m 201 ls [])
def dj_X13_readAll_152 (p : Program) (l : Launch) (e : Env) (s : State) (m : MethodId) (args : Array Value) (below : List Frame) (meth : Method) (c : Code) (Q : State → Prop) (A : Nat → Prop) (dC : Nat → ClassId) (dI : Nat → Nat → Nat) (a : Nat → Nat) (ac : Nat → ClassId) (g : (St) → Option (St)) (r : St) : Prop := ∀ (s0 : St) (H : Heap) (locs : List Loc) (ls : Array Slot), g s0 = some r → va_P (dC, dI) vwCl (dw_X13 a ac s0) H → va_D A (dw_X13 a ac s0) → va_S A s.heap H locs → lv_has ls 4 [(0, .ref (a 0))] → W p l e (headSpec ow_dm_X13_readAll ({ frames := 12, cells := 0, slots := 0, locals := 287 })).room s m args below meth c H locs 0 0 Q (F0 m 152 ls [])
def dj_X13_readAll_118 (p : Program) (l : Launch) (e : Env) (s : State) (m : MethodId) (args : Array Value) (below : List Frame) (meth : Method) (c : Code) (Q : State → Prop) (A : Nat → Prop) (dC : Nat → ClassId) (dI : Nat → Nat → Nat) (a : Nat → Nat) (ac : Nat → ClassId) (g : Int32 → (St) → Option (St)) (r : St) : Prop := ∀ (y0 : Int32) (s0 : St) (H : Heap) (locs : List Loc) (ls : Array Slot), g y0 s0 = some r → va_P (dC, dI) vwCl (dw_X13 a ac s0) H → va_D A (dw_X13 a ac s0) → va_S A s.heap H locs → lv_has ls 4 [(0, .ref (a 0))] → W p l e (headSpec ow_dm_X13_readAll ({ frames := 12, cells := 0, slots := 0, locals := 287 })).room s m args below meth c H locs 0 0 Q (F0 m 118 ls [.int y0])
def dj_X13_readAll_25 (p : Program) (l : Launch) (e : Env) (s : State) (m : MethodId) (args : Array Value) (below : List Frame) (meth : Method) (c : Code) (Q : State → Prop) (A : Nat → Prop) (dC : Nat → ClassId) (dI : Nat → Nat → Nat) (a : Nat → Nat) (ac : Nat → ClassId) (g : (St) → Option (St)) (r : St) : Prop := ∀ (s0 : St) (H : Heap) (locs : List Loc) (ls : Array Slot), g s0 = some r → va_P (dC, dI) vwCl (dw_X13 a ac s0) H → va_D A (dw_X13 a ac s0) → va_S A s.heap H locs → lv_has ls 4 [(0, .ref (a 0))] → W p l e (headSpec ow_dm_X13_readAll ({ frames := 12, cells := 0, slots := 0, locals := 287 })).room s m args below meth c H locs 0 0 Q (F0 m 25 ls [])
def dj_X13_readAll_0 (p : Program) (l : Launch) (e : Env) (s : State) (m : MethodId) (args : Array Value) (below : List Frame) (meth : Method) (c : Code) (Q : State → Prop) (A : Nat → Prop) (dC : Nat → ClassId) (dI : Nat → Nat → Nat) (a : Nat → Nat) (ac : Nat → ClassId) (g : (St) → Option (St)) (r : St) : Prop := ∀ (s0 : St) (H : Heap) (locs : List Loc) (ls : Array Slot), g s0 = some r → va_P (dC, dI) vwCl (dw_X13 a ac s0) H → va_D A (dw_X13 a ac s0) → va_S A s.heap H locs → lv_has ls 4 [(0, .ref (a 0))] → W p l e (headSpec ow_dm_X13_readAll ({ frames := 12, cells := 0, slots := 0, locals := 287 })).room s m args below meth c H locs 0 0 Q (F0 m 0 ls [])
set_option maxHeartbeats 40000000 in
set_option maxRecDepth 100000 in
theorem db_X13_readAll_201 {p : Program} {l : Launch} {e : Env} {s : State} {m : MethodId} {args : Array Value} {below : List Frame} {meth : Method} {c : Code} {Q : State → Prop} {A : Nat → Prop} {dC : Nat → ClassId} {dI : Nat → Nat → Nat} {a : Nat → Nat} {ac : Nat → ClassId} {n : Nat} {r : St} (C : nd_C p l s m args c A (dC, dI) cX13_readAll 4 RX13 ow_dm_X13_readAll (dk_X13 ac)) (K : nd_Kv p l e (headSpec ow_dm_X13_readAll ({ frames := 12, cells := 0, slots := 0, locals := 287 })).room s m args below meth c Q A (dC, dI) cX13_readAll (St) (dw_X13 a ac) r) : dj_X13_readAll_201 p l e s m args below meth c Q A dC dI a ac (df_X13_readAll_201 n) r := by
  obtain ⟨hlt, hx, hb, hml, hown, hts, hN, hA, hK⟩ := id C
  intro s0 H locs ls h hP hD hS hl
  unfold df_X13_readAll_201 at h
  exact K _ _ _ _ _ dX13_readAll_201 (Option.some.inj h).symm hP hD hS
set_option maxHeartbeats 40000000 in
set_option maxRecDepth 100000 in
theorem dB_X13_readAll_152 {p : Program} {l : Launch} {e : Env} {s : State} {m : MethodId} {args : Array Value} {below : List Frame} {meth : Method} {c : Code} {Q : State → Prop} {A : Nat → Prop} {dC : Nat → ClassId} {dI : Nat → Nat → Nat} {a : Nat → Nat} {ac : Nat → ClassId} {n : Nat} {r : St} (C : nd_C p l s m args c A (dC, dI) cX13_readAll 4 RX13 ow_dm_X13_readAll (dk_X13 ac)) (K : nd_Kv p l e (headSpec ow_dm_X13_readAll ({ frames := 12, cells := 0, slots := 0, locals := 287 })).room s m args below meth c Q A (dC, dI) cX13_readAll (St) (dw_X13 a ac) r) {g25 : (St) → Option (St)} (J25 : dj_X13_readAll_25 p l e s m args below meth c Q A dC dI a ac g25 r) {g152 : (St) → Option (St)} (J152 : dj_X13_readAll_152 p l e s m args below meth c Q A dC dI a ac g152 r) : dj_X13_readAll_152 p l e s m args below meth c Q A dC dI a ac (dF_X13_readAll_152 n g25 g152) r := by
  obtain ⟨hlt, hx, hb, hml, hown, hts, hN, hA, hK⟩ := id C
  intro s0 H locs ls h hP hD hS hl
  unfold dF_X13_readAll_152 at h
  refine lv_aload_n hx hb dX13_readAll_152 rfl (lv_at hl 0 rfl) ?_
  refine lv_aload_n hx hb dX13_readAll_153 rfl (lv_at hl 0 rfl) ?_
  refine va_get (D := (dC, dI)) (ci := 14) (v := .int (sI s0 7)) (C := RX13) (T := TX13) (N := 37) hx hb hts hi_dm_X13_readAll_X13 hown hK hP 0 rfl rfl 16 (by decide) (hts (.fieldLink RX13 374 "TimeMachineModel$Assembler" "at" "I") (List.mem_of_getElem? (i := 1) rfl)) (fun _ h9 => h9) rfl dX13_readAll_154 ?_
  obtain ⟨q12, s13, hq, h⟩ := nd_b2_e h
  have hPc := hP
  have hDc := hD
  have hKc := hK
  have hFc := nd_rs hD hS hA
  refine nd_cVi (As := [.int (sI s0 7)]) (rest := []) (q := q12) (w' := dw_X13 a ac s13) ⟨hx, hb, hml, hown, hts⟩ (fun sz => dm_X13_charAt l hlt dC dI a ac n ((sI s0 7)) s0 hq sz) (cwV 1 hts gi_dm_X13_readAll_1 rfl rfl rfl (by decide +kernel) ⟨Nat.le_of_ble_eq_true rfl, Nat.le_of_ble_eq_true rfl⟩) hPc hDc hKc hS hA hN (va_recv hKc hPc (ci := 14) (q0 := 0) rfl rfl) rfl hl.1 rfl (Nat.le_of_ble_eq_true rfl) dX13_readAll_157 (fun H locs hP1 hD1 hk1 hS => ?_)
  have hP := hP1
  have hD := hD1.weaken (fun k q _ h => hFc q.1 h)
  refine lv_bipush (v := 10) hx hb dX13_readAll_160 (by decide) ?_
  refine lv_icmp_eq (tgt := 178) hx hb dX13_readAll_162 (by decide) (fun c15 => ?_) (fun c15 => ?_)
  · have h := nd_pos h c15
    refine lv_aload_n hx hb dX13_readAll_178 rfl (lv_at hl 0 rfl) ?_
    refine lv_dup hx hb dX13_readAll_179 rfl ?_
    refine va_get (D := (dC, dI)) (ci := 14) (v := .int (sI s13 7)) (C := RX13) (T := TX13) (N := 37) hx hb hts hi_dm_X13_readAll_X13 hown hK hP 0 rfl rfl 16 (by decide) (hts (.fieldLink RX13 374 "TimeMachineModel$Assembler" "at" "I") (List.mem_of_getElem? (i := 1) rfl)) (fun _ h9 => h9) rfl dX13_readAll_180 ?_
    refine lv_iconst (v := 1) hx hb dX13_readAll_183 (by decide) ?_
    refine lv_iadd hx hb dX13_readAll_184 ?_
    refine va_put (D := (dC, dI)) (ci := 14) (v := .int ((sI s13 7) + 1)) (ty := .int) (C := RX13) (T := TX13) (N := 37) hx hb hts hi_dm_X13_readAll_X13 tyX13 tyX13_ok nmX13 hown hK hP hD hS 0 rfl rfl 16 (by decide) (hts (.fieldLink RX13 374 "TimeMachineModel$Assembler" "at" "I") (List.mem_of_getElem? (i := 1) rfl)) (fun _ h9 => h9) rfl (by decide +kernel) rfl rfl (Nat.le_of_ble_eq_true rfl) dX13_readAll_185 (fun H locs hP hD hS => ?_)
    obtain ⟨s16, es16, h⟩ := nd_let_e h
    have hP : va_P (dC, dI) vwCl (dw_X13 a ac s16) H := by rw [es16]; exact hP
    have hD : va_D A (dw_X13 a ac s16) := by rw [es16]; exact hD
    refine lv_aload_n hx hb dX13_readAll_188 rfl (lv_at hl 0 rfl) ?_
    refine lv_dup hx hb dX13_readAll_189 rfl ?_
    refine va_get (D := (dC, dI)) (ci := 14) (v := .int (sI s16 13)) (C := RX13) (T := TX13) (N := 37) hx hb hts hi_dm_X13_readAll_X13 hown hK hP 0 rfl rfl 22 (by decide) (hts (.fieldLink RX13 413 "TimeMachineModel$Assembler" "line" "I") (List.mem_of_getElem? (i := 2) rfl)) (fun _ h9 => h9) rfl dX13_readAll_190 ?_
    refine lv_iconst (v := 1) hx hb dX13_readAll_193 (by decide) ?_
    refine lv_iadd hx hb dX13_readAll_194 ?_
    refine va_put (D := (dC, dI)) (ci := 14) (v := .int ((sI s16 13) + 1)) (ty := .int) (C := RX13) (T := TX13) (N := 37) hx hb hts hi_dm_X13_readAll_X13 tyX13 tyX13_ok nmX13 hown hK hP hD hS 0 rfl rfl 22 (by decide) (hts (.fieldLink RX13 413 "TimeMachineModel$Assembler" "line" "I") (List.mem_of_getElem? (i := 2) rfl)) (fun _ h9 => h9) rfl (by decide +kernel) rfl rfl (Nat.le_of_ble_eq_true rfl) dX13_readAll_195 (fun H locs hP hD hS => ?_)
    obtain ⟨s17, es17, h⟩ := nd_let_e h
    have hP : va_P (dC, dI) vwCl (dw_X13 a ac s17) H := by rw [es17]; exact hP
    have hD : va_D A (dw_X13 a ac s17) := by rw [es17]; exact hD
    refine lv_goto (tgt := 25) hx hb dX13_readAll_198 (by decide) ?_
    exact (J25)  s17 _ _ _ h hP hD hS (lv_sub hl [0] rfl)
  · have h := nd_neg h c15
    refine lv_aload_n hx hb dX13_readAll_165 rfl (lv_at hl 0 rfl) ?_
    refine lv_dup hx hb dX13_readAll_166 rfl ?_
    refine va_get (D := (dC, dI)) (ci := 14) (v := .int (sI s13 7)) (C := RX13) (T := TX13) (N := 37) hx hb hts hi_dm_X13_readAll_X13 hown hK hP 0 rfl rfl 16 (by decide) (hts (.fieldLink RX13 374 "TimeMachineModel$Assembler" "at" "I") (List.mem_of_getElem? (i := 1) rfl)) (fun _ h9 => h9) rfl dX13_readAll_167 ?_
    refine lv_iconst (v := 1) hx hb dX13_readAll_170 (by decide) ?_
    refine lv_iadd hx hb dX13_readAll_171 ?_
    refine va_put (D := (dC, dI)) (ci := 14) (v := .int ((sI s13 7) + 1)) (ty := .int) (C := RX13) (T := TX13) (N := 37) hx hb hts hi_dm_X13_readAll_X13 tyX13 tyX13_ok nmX13 hown hK hP hD hS 0 rfl rfl 16 (by decide) (hts (.fieldLink RX13 374 "TimeMachineModel$Assembler" "at" "I") (List.mem_of_getElem? (i := 1) rfl)) (fun _ h9 => h9) rfl (by decide +kernel) rfl rfl (Nat.le_of_ble_eq_true rfl) dX13_readAll_172 (fun H locs hP hD hS => ?_)
    obtain ⟨s18, es18, h⟩ := nd_let_e h
    have hP : va_P (dC, dI) vwCl (dw_X13 a ac s18) H := by rw [es18]; exact hP
    have hD : va_D A (dw_X13 a ac s18) := by rw [es18]; exact hD
    refine lv_goto (tgt := 152) hx hb dX13_readAll_175 (by decide) ?_
    exact (J152)  s18 _ _ _ h hP hD hS (lv_sub hl [0] rfl)
set_option maxHeartbeats 40000000 in
set_option maxRecDepth 100000 in
theorem db_X13_readAll_152 {p : Program} {l : Launch} {e : Env} {s : State} {m : MethodId} {args : Array Value} {below : List Frame} {meth : Method} {c : Code} {Q : State → Prop} {A : Nat → Prop} {dC : Nat → ClassId} {dI : Nat → Nat → Nat} {a : Nat → Nat} {ac : Nat → ClassId} {n : Nat} {r : St} (C : nd_C p l s m args c A (dC, dI) cX13_readAll 4 RX13 ow_dm_X13_readAll (dk_X13 ac)) (K : nd_Kv p l e (headSpec ow_dm_X13_readAll ({ frames := 12, cells := 0, slots := 0, locals := 287 })).room s m args below meth c Q A (dC, dI) cX13_readAll (St) (dw_X13 a ac) r) {g25 : (St) → Option (St)} (J25 : dj_X13_readAll_25 p l e s m args below meth c Q A dC dI a ac g25 r) (k : Nat) : dj_X13_readAll_152 p l e s m args below meth c Q A dC dI a ac (df_X13_readAll_152 n g25 k) r := by
  induction k with
  | zero => intro s0 H locs ls h; exact nomatch (show (none : Option (St)) = some r from h)
  | succ k ih => exact dB_X13_readAll_152 C K J25 ih
set_option maxHeartbeats 40000000 in
set_option maxRecDepth 100000 in
theorem db_X13_readAll_118 {p : Program} {l : Launch} {e : Env} {s : State} {m : MethodId} {args : Array Value} {below : List Frame} {meth : Method} {c : Code} {Q : State → Prop} {A : Nat → Prop} {dC : Nat → ClassId} {dI : Nat → Nat → Nat} {a : Nat → Nat} {ac : Nat → ClassId} {n : Nat} {r : St} (C : nd_C p l s m args c A (dC, dI) cX13_readAll 4 RX13 ow_dm_X13_readAll (dk_X13 ac)) (K : nd_Kv p l e (headSpec ow_dm_X13_readAll ({ frames := 12, cells := 0, slots := 0, locals := 287 })).room s m args below meth c Q A (dC, dI) cX13_readAll (St) (dw_X13 a ac) r) {g25 : (St) → Option (St)} (J25 : dj_X13_readAll_25 p l e s m args below meth c Q A dC dI a ac g25 r) : dj_X13_readAll_118 p l e s m args below meth c Q A dC dI a ac (df_X13_readAll_118 n g25) r := by
  obtain ⟨hlt, hx, hb, hml, hown, hts, hN, hA, hK⟩ := id C
  intro y0 s0 H locs ls h hP hD hS hl
  unfold df_X13_readAll_118 at h
  refine lv_istore_n (lv' := [(3, .int y0), (0, .ref (a 0))]) hx hb dX13_readAll_118 rfl hl (by decide) rfl (fun ls hl => ?_)
  refine lv_iload_n hx hb dX13_readAll_119 rfl (lv_at hl 0 rfl) ?_
  refine lv_if_lt (tgt := 152) hx hb dX13_readAll_120 (by decide) (fun c30 => ?_) (fun c30 => ?_)
  · have h := nd_pos h c30
    exact (db_X13_readAll_152 C K J25 n)  s0 _ _ _ h hP hD hS (lv_sub hl [1] rfl)
  · have h := nd_neg h c30
    refine lv_aload_n hx hb dX13_readAll_123 rfl (lv_at hl 1 rfl) ?_
    refine lv_dup hx hb dX13_readAll_124 rfl ?_
    refine va_get (D := (dC, dI)) (ci := 14) (v := .int (sI s0 2)) (C := RX13) (T := TX13) (N := 37) hx hb hts hi_dm_X13_readAll_X13 hown hK hP 0 rfl rfl 6 (by decide) (hts (.fieldLink RX13 673 "TimeMachineModel$Assembler" "statements" "I") (List.mem_of_getElem? (i := 4) rfl)) (fun _ h9 => h9) rfl dX13_readAll_125 ?_
    refine lv_iconst (v := 1) hx hb dX13_readAll_128 (by decide) ?_
    refine lv_iadd hx hb dX13_readAll_129 ?_
    refine va_put (D := (dC, dI)) (ci := 14) (v := .int ((sI s0 2) + 1)) (ty := .int) (C := RX13) (T := TX13) (N := 37) hx hb hts hi_dm_X13_readAll_X13 tyX13 tyX13_ok nmX13 hown hK hP hD hS 0 rfl rfl 6 (by decide) (hts (.fieldLink RX13 673 "TimeMachineModel$Assembler" "statements" "I") (List.mem_of_getElem? (i := 4) rfl)) (fun _ h9 => h9) rfl (by decide +kernel) rfl rfl (Nat.le_of_ble_eq_true rfl) dX13_readAll_130 (fun H locs hP hD hS => ?_)
    obtain ⟨s31, es31, h⟩ := nd_let_e h
    have hP : va_P (dC, dI) vwCl (dw_X13 a ac s31) H := by rw [es31]; exact hP
    have hD : va_D A (dw_X13 a ac s31) := by rw [es31]; exact hD
    refine lv_aload_n hx hb dX13_readAll_133 rfl (lv_at hl 1 rfl) ?_
    refine va_get (D := (dC, dI)) (ci := 14) (v := .ref (a 7)) (C := RX13) (T := TX13) (N := 37) hx hb hts hi_dm_X13_readAll_X13 hown hK hP 0 rfl rfl 9 (by decide) (hts (.fieldLink RX13 334 "TimeMachineModel$Assembler" "bytes" "[I") (List.mem_of_getElem? (i := 17) rfl)) (fun _ h9 => h9) rfl dX13_readAll_134 ?_
    refine lv_iload_n hx hb dX13_readAll_137 rfl (lv_at hl 0 rfl) ?_
    obtain ⟨i32, h⟩ := nd_ck_e h
    refine va_iald (i := y0) hx hb hK hP 7 6 rfl rfl i32 dX13_readAll_138 ?_
    refine lv_if_ne (tgt := 152) hx hb dX13_readAll_139 (by decide) (fun c33 => ?_) (fun c33 => ?_)
    · have h := nd_neg h c33
      exact (db_X13_readAll_152 C K J25 n)  s31 _ _ _ h hP hD hS (lv_sub hl [1] rfl)
    · have h := nd_pos h c33
      refine lv_aload_n hx hb dX13_readAll_142 rfl (lv_at hl 1 rfl) ?_
      refine va_get (D := (dC, dI)) (ci := 14) (v := .ref (a 7)) (C := RX13) (T := TX13) (N := 37) hx hb hts hi_dm_X13_readAll_X13 hown hK hP 0 rfl rfl 9 (by decide) (hts (.fieldLink RX13 334 "TimeMachineModel$Assembler" "bytes" "[I") (List.mem_of_getElem? (i := 17) rfl)) (fun _ h9 => h9) rfl dX13_readAll_143 ?_
      refine lv_iload_n hx hb dX13_readAll_146 rfl (lv_at hl 0 rfl) ?_
      refine lv_aload_n hx hb dX13_readAll_147 rfl (lv_at hl 1 rfl) ?_
      refine va_get (D := (dC, dI)) (ci := 14) (v := .int (sI s31 18)) (C := RX13) (T := TX13) (N := 37) hx hb hts hi_dm_X13_readAll_X13 hown hK hP 0 rfl rfl 27 (by decide) (hts (.fieldLink RX13 541 "TimeMachineModel$Assembler" "count" "I") (List.mem_of_getElem? (i := 21) rfl)) (fun _ h9 => h9) rfl dX13_readAll_148 ?_
      obtain ⟨i34, h⟩ := nd_ck_e h
      refine va_iast (i := y0) (x := (sI s31 18)) hx hb hK hP hD hS 7 6 rfl rfl i34 dX13_readAll_151 (fun H locs hP hD hS => ?_)
      obtain ⟨s35, es35, h⟩ := nd_let_e h
      have hP : va_P (dC, dI) vwCl (dw_X13 a ac s35) H := by rw [es35]; exact hP
      have hD : va_D A (dw_X13 a ac s35) := by rw [es35]; exact hD
      exact (db_X13_readAll_152 C K J25 n)  s35 _ _ _ h hP hD hS (lv_sub hl [1] rfl)
set_option maxHeartbeats 40000000 in
set_option maxRecDepth 100000 in
theorem dB_X13_readAll_25 {p : Program} {l : Launch} {e : Env} {s : State} {m : MethodId} {args : Array Value} {below : List Frame} {meth : Method} {c : Code} {Q : State → Prop} {A : Nat → Prop} {dC : Nat → ClassId} {dI : Nat → Nat → Nat} {a : Nat → Nat} {ac : Nat → ClassId} {n : Nat} {r : St} (C : nd_C p l s m args c A (dC, dI) cX13_readAll 4 RX13 ow_dm_X13_readAll (dk_X13 ac)) (K : nd_Kv p l e (headSpec ow_dm_X13_readAll ({ frames := 12, cells := 0, slots := 0, locals := 287 })).room s m args below meth c Q A (dC, dI) cX13_readAll (St) (dw_X13 a ac) r) {g25 : (St) → Option (St)} (J25 : dj_X13_readAll_25 p l e s m args below meth c Q A dC dI a ac g25 r) : dj_X13_readAll_25 p l e s m args below meth c Q A dC dI a ac (dF_X13_readAll_25 n g25) r := by
  obtain ⟨hlt, hx, hb, hml, hown, hts, hN, hA, hK⟩ := id C
  intro s0 H locs ls h hP hD hS hl
  unfold dF_X13_readAll_25 at h
  refine lv_aload_n hx hb dX13_readAll_25 rfl (lv_at hl 0 rfl) ?_
  refine va_get (D := (dC, dI)) (ci := 14) (v := .int (sI s0 12)) (C := RX13) (T := TX13) (N := 37) hx hb hts hi_dm_X13_readAll_X13 hown hK hP 0 rfl rfl 21 (by decide) (hts (.fieldLink RX13 410 "TimeMachineModel$Assembler" "fault" "I") (List.mem_of_getElem? (i := 6) rfl)) (fun _ h9 => h9) rfl dX13_readAll_26 ?_
  refine lv_if_ne (tgt := 201) hx hb dX13_readAll_29 (by decide) (fun c6 => ?_) (fun c6 => ?_)
  · have h := nd_neg h c6
    exact (db_X13_readAll_201 C K)  s0 _ _ _ h hP hD hS (lv_sub hl [] rfl)
  · have h := nd_pos h c6
    refine lv_aload_n hx hb dX13_readAll_32 rfl (lv_at hl 0 rfl) ?_
    refine va_get (D := (dC, dI)) (ci := 14) (v := .int (sI s0 7)) (C := RX13) (T := TX13) (N := 37) hx hb hts hi_dm_X13_readAll_X13 hown hK hP 0 rfl rfl 16 (by decide) (hts (.fieldLink RX13 374 "TimeMachineModel$Assembler" "at" "I") (List.mem_of_getElem? (i := 1) rfl)) (fun _ h9 => h9) rfl dX13_readAll_33 ?_
    refine lv_aload_n hx hb dX13_readAll_36 rfl (lv_at hl 0 rfl) ?_
    refine va_get (D := (dC, dI)) (ci := 14) (v := .int (sI s0 0)) (C := RX13) (T := TX13) (N := 37) hx hb hts hi_dm_X13_readAll_X13 hown hK hP 0 rfl rfl 4 (by decide) (hts (.fieldLink RX13 347 "TimeMachineModel$Assembler" "size" "I") (List.mem_of_getElem? (i := 7) rfl)) (fun _ h9 => h9) rfl dX13_readAll_37 ?_
    refine lv_icmp_ge (tgt := 201) hx hb dX13_readAll_40 (by decide) (fun c7 => ?_) (fun c7 => ?_)
    · have h := nd_pos h c7
      exact (db_X13_readAll_201 C K)  s0 _ _ _ h hP hD hS (lv_sub hl [] rfl)
    · have h := nd_neg h c7
      refine lv_aload_n hx hb dX13_readAll_43 rfl (lv_at hl 0 rfl) ?_
      obtain ⟨q8, s9, hq, h⟩ := nd_b2_e h
      have hPc := hP
      have hDc := hD
      have hKc := hK
      have hFc := nd_rs hD hS hA
      refine nd_cVi (As := []) (rest := []) (q := q8) (w' := dw_X13 a ac s9) ⟨hx, hb, hml, hown, hts⟩ (fun sz => dm_X13_labelled l hlt dC dI a ac n  s0 hq sz) (cwV 0 hts gi_dm_X13_readAll_0 rfl rfl rfl (by decide +kernel) ⟨Nat.le_of_ble_eq_true rfl, Nat.le_of_ble_eq_true rfl⟩) hPc hDc hKc hS hA hN (va_recv hKc hPc (ci := 14) (q0 := 0) rfl rfl) rfl hl.1 rfl (Nat.le_of_ble_eq_true rfl) dX13_readAll_44 (fun H locs hP1 hD1 hk1 hS => ?_)
      have hP := hP1
      have hD := hD1.weaken (fun k q _ h => hFc q.1 h)
      refine lv_if_eq (tgt := 152) hx hb dX13_readAll_47 (by decide) (fun c11 => ?_) (fun c11 => ?_)
      · have h := nd_pos h c11
        exact (db_X13_readAll_152 C K J25 n)  s9 _ _ _ h hP hD hS (lv_sub hl [0] rfl)
      · have h := nd_neg h c11
        refine lv_aload_n hx hb dX13_readAll_50 rfl (lv_at hl 0 rfl) ?_
        refine lv_aload_n hx hb dX13_readAll_51 rfl (lv_at hl 0 rfl) ?_
        refine va_get (D := (dC, dI)) (ci := 14) (v := .int (sI s9 2)) (C := RX13) (T := TX13) (N := 37) hx hb hts hi_dm_X13_readAll_X13 hown hK hP 0 rfl rfl 6 (by decide) (hts (.fieldLink RX13 673 "TimeMachineModel$Assembler" "statements" "I") (List.mem_of_getElem? (i := 4) rfl)) (fun _ h9 => h9) rfl dX13_readAll_52 ?_
        refine va_put (D := (dC, dI)) (ci := 14) (v := .int (sI s9 2)) (ty := .int) (C := RX13) (T := TX13) (N := 37) hx hb hts hi_dm_X13_readAll_X13 tyX13 tyX13_ok nmX13 hown hK hP hD hS 0 rfl rfl 25 (by decide) (hts (.fieldLink RX13 454 "TimeMachineModel$Assembler" "current" "I") (List.mem_of_getElem? (i := 15) rfl)) (fun _ h9 => h9) rfl (by decide +kernel) rfl rfl (Nat.le_of_ble_eq_true rfl) dX13_readAll_55 (fun H locs hP hD hS => ?_)
        obtain ⟨s19, es19, h⟩ := nd_let_e h
        have hP : va_P (dC, dI) vwCl (dw_X13 a ac s19) H := by rw [es19]; exact hP
        have hD : va_D A (dw_X13 a ac s19) := by rw [es19]; exact hD
        refine lv_aload_n hx hb dX13_readAll_58 rfl (lv_at hl 0 rfl) ?_
        refine va_get (D := (dC, dI)) (ci := 14) (v := .int (sI s19 7)) (C := RX13) (T := TX13) (N := 37) hx hb hts hi_dm_X13_readAll_X13 hown hK hP 0 rfl rfl 16 (by decide) (hts (.fieldLink RX13 374 "TimeMachineModel$Assembler" "at" "I") (List.mem_of_getElem? (i := 1) rfl)) (fun _ h9 => h9) rfl dX13_readAll_59 ?_
        refine lv_topi (fun z20 ez20 => ?_)
        have h := nd_at h ez20
        refine lv_istore_n (lv' := [(1, .int z20), (0, .ref (a 0))]) hx hb dX13_readAll_62 rfl hl (by decide) rfl (fun ls hl => ?_)
        refine lv_aload_n hx hb dX13_readAll_63 rfl (lv_at hl 1 rfl) ?_
        refine va_get (D := (dC, dI)) (ci := 14) (v := .ref (a 5)) (C := RX13) (T := TX13) (N := 37) hx hb hts hi_dm_X13_readAll_X13 hown hK hP 0 rfl rfl 7 (by decide) (hts (.fieldLink RX13 328 "TimeMachineModel$Assembler" "place" "[I") (List.mem_of_getElem? (i := 16) rfl)) (fun _ h9 => h9) rfl dX13_readAll_64 ?_
        refine lv_aload_n hx hb dX13_readAll_67 rfl (lv_at hl 1 rfl) ?_
        refine va_get (D := (dC, dI)) (ci := 14) (v := .int (sI s19 16)) (C := RX13) (T := TX13) (N := 37) hx hb hts hi_dm_X13_readAll_X13 hown hK hP 0 rfl rfl 25 (by decide) (hts (.fieldLink RX13 454 "TimeMachineModel$Assembler" "current" "I") (List.mem_of_getElem? (i := 15) rfl)) (fun _ h9 => h9) rfl dX13_readAll_68 ?_
        refine lv_iload_n hx hb dX13_readAll_71 rfl (lv_at hl 0 rfl) ?_
        refine lv_aload_n hx hb dX13_readAll_72 rfl (lv_at hl 1 rfl) ?_
        refine va_get (D := (dC, dI)) (ci := 14) (v := .int (sI s19 14)) (C := RX13) (T := TX13) (N := 37) hx hb hts hi_dm_X13_readAll_X13 hown hK hP 0 rfl rfl 23 (by decide) (hts (.fieldLink RX13 634 "TimeMachineModel$Assembler" "section" "I") (List.mem_of_getElem? (i := 3) rfl)) (fun _ h9 => h9) rfl dX13_readAll_73 ?_
        refine lv_bipush (v := 19) hx hb dX13_readAll_76 (by decide) ?_
        refine lv_ishl hx hb dX13_readAll_78 ?_
        refine lv_ior hx hb dX13_readAll_79 ?_
        obtain ⟨i21, h⟩ := nd_ck_e h
        refine va_iast (i := (sI s19 16)) (x := (z20 ||| (((sI s19 14) : Int32) <<< ((19 : Int32) &&& 31)))) hx hb hK hP hD hS 5 4 rfl rfl i21 dX13_readAll_80 (fun H locs hP hD hS => ?_)
        obtain ⟨s22, es22, h⟩ := nd_let_e h
        have hP : va_P (dC, dI) vwCl (dw_X13 a ac s22) H := by rw [es22]; exact hP
        have hD : va_D A (dw_X13 a ac s22) := by rw [es22]; exact hD
        refine lv_aload_n hx hb dX13_readAll_81 rfl (lv_at hl 1 rfl) ?_
        refine va_get (D := (dC, dI)) (ci := 14) (v := .ref (a 7)) (C := RX13) (T := TX13) (N := 37) hx hb hts hi_dm_X13_readAll_X13 hown hK hP 0 rfl rfl 9 (by decide) (hts (.fieldLink RX13 334 "TimeMachineModel$Assembler" "bytes" "[I") (List.mem_of_getElem? (i := 17) rfl)) (fun _ h9 => h9) rfl dX13_readAll_82 ?_
        refine lv_aload_n hx hb dX13_readAll_85 rfl (lv_at hl 1 rfl) ?_
        refine va_get (D := (dC, dI)) (ci := 14) (v := .int (sI s22 16)) (C := RX13) (T := TX13) (N := 37) hx hb hts hi_dm_X13_readAll_X13 hown hK hP 0 rfl rfl 25 (by decide) (hts (.fieldLink RX13 454 "TimeMachineModel$Assembler" "current" "I") (List.mem_of_getElem? (i := 15) rfl)) (fun _ h9 => h9) rfl dX13_readAll_86 ?_
        refine lv_iconst (v := 0) hx hb dX13_readAll_89 (by decide) ?_
        obtain ⟨i23, h⟩ := nd_ck_e h
        refine va_iast (i := (sI s22 16)) (x := 0) hx hb hK hP hD hS 7 6 rfl rfl i23 dX13_readAll_90 (fun H locs hP hD hS => ?_)
        obtain ⟨s24, es24, h⟩ := nd_let_e h
        have hP : va_P (dC, dI) vwCl (dw_X13 a ac s24) H := by rw [es24]; exact hP
        have hD : va_D A (dw_X13 a ac s24) := by rw [es24]; exact hD
        refine lv_aload_n hx hb dX13_readAll_91 rfl (lv_at hl 1 rfl) ?_
        refine va_get (D := (dC, dI)) (ci := 14) (v := .int (sI s24 14)) (C := RX13) (T := TX13) (N := 37) hx hb hts hi_dm_X13_readAll_X13 hown hK hP 0 rfl rfl 23 (by decide) (hts (.fieldLink RX13 634 "TimeMachineModel$Assembler" "section" "I") (List.mem_of_getElem? (i := 3) rfl)) (fun _ h9 => h9) rfl dX13_readAll_92 ?_
        refine lv_topi (fun z25 ez25 => ?_)
        have h := nd_at h ez25
        refine lv_istore_n (lv' := [(2, .int z25), (1, .int z20), (0, .ref (a 0))]) hx hb dX13_readAll_95 rfl hl (by decide) rfl (fun ls hl => ?_)
        refine lv_aload_n hx hb dX13_readAll_96 rfl (lv_at hl 2 rfl) ?_
        refine lv_iload_n hx hb dX13_readAll_97 rfl (lv_at hl 1 rfl) ?_
        refine lv_iconst (v := 0) hx hb dX13_readAll_98 (by decide) ?_
        obtain ⟨s27, hq, h⟩ := nd_b1_e h
        have hPc := hP
        have hDc := hD
        have hKc := hK
        have hFc := nd_rs hD hS hA
        refine nd_cVv (As := [.int z20, .int 0]) (rest := []) (w' := dw_X13 a ac s27) ⟨hx, hb, hml, hown, hts⟩ (fun sz => dm_X13_statement l hlt dC dI a ac n (z20) (0) s24 hq sz) (cwV 2 hts gi_dm_X13_readAll_2 rfl rfl rfl (by decide +kernel) ⟨Nat.le_of_ble_eq_true rfl, Nat.le_of_ble_eq_true rfl⟩) hPc hDc hKc hS hA hN (va_recv hKc hPc (ci := 14) (q0 := 0) rfl rfl) rfl hl.1 rfl (Nat.le_of_ble_eq_true rfl) dX13_readAll_99 (fun H locs hP1 hD1 hk1 hS => ?_)
        have hP := hP1
        have hD := hD1.weaken (fun k q _ h => hFc q.1 h)
        refine lv_iload_n hx hb dX13_readAll_102 rfl (lv_at hl 0 rfl) ?_
        refine lv_aload_n hx hb dX13_readAll_103 rfl (lv_at hl 2 rfl) ?_
        refine va_get (D := (dC, dI)) (ci := 14) (v := .int (sI s27 14)) (C := RX13) (T := TX13) (N := 37) hx hb hts hi_dm_X13_readAll_X13 hown hK hP 0 rfl rfl 23 (by decide) (hts (.fieldLink RX13 634 "TimeMachineModel$Assembler" "section" "I") (List.mem_of_getElem? (i := 3) rfl)) (fun _ h9 => h9) rfl dX13_readAll_104 ?_
        refine lv_icmp_ne (tgt := 117) hx hb dX13_readAll_107 (by decide) (fun c29 => ?_) (fun c29 => ?_)
        · have h := nd_neg h c29
          refine lv_iconst (v := (-1)) hx hb dX13_readAll_117 (by decide) ?_
          exact (db_X13_readAll_118 C K J25) ((-1)) s27 _ _ _ h hP hD hS (lv_sub hl [2] rfl)
        · have h := nd_pos h c29
          refine lv_aload_n hx hb dX13_readAll_110 rfl (lv_at hl 2 rfl) ?_
          refine va_get (D := (dC, dI)) (ci := 14) (v := .int (sI s27 16)) (C := RX13) (T := TX13) (N := 37) hx hb hts hi_dm_X13_readAll_X13 hown hK hP 0 rfl rfl 25 (by decide) (hts (.fieldLink RX13 454 "TimeMachineModel$Assembler" "current" "I") (List.mem_of_getElem? (i := 15) rfl)) (fun _ h9 => h9) rfl dX13_readAll_111 ?_
          refine lv_goto (tgt := 118) hx hb dX13_readAll_114 (by decide) ?_
          exact (db_X13_readAll_118 C K J25) ((sI s27 16)) s27 _ _ _ h hP hD hS (lv_sub hl [2] rfl)
set_option maxHeartbeats 40000000 in
set_option maxRecDepth 100000 in
theorem db_X13_readAll_25 {p : Program} {l : Launch} {e : Env} {s : State} {m : MethodId} {args : Array Value} {below : List Frame} {meth : Method} {c : Code} {Q : State → Prop} {A : Nat → Prop} {dC : Nat → ClassId} {dI : Nat → Nat → Nat} {a : Nat → Nat} {ac : Nat → ClassId} {n : Nat} {r : St} (C : nd_C p l s m args c A (dC, dI) cX13_readAll 4 RX13 ow_dm_X13_readAll (dk_X13 ac)) (K : nd_Kv p l e (headSpec ow_dm_X13_readAll ({ frames := 12, cells := 0, slots := 0, locals := 287 })).room s m args below meth c Q A (dC, dI) cX13_readAll (St) (dw_X13 a ac) r) (k : Nat) : dj_X13_readAll_25 p l e s m args below meth c Q A dC dI a ac (df_X13_readAll_25 n k) r := by
  induction k with
  | zero => intro s0 H locs ls h; exact nomatch (show (none : Option (St)) = some r from h)
  | succ k ih => exact dB_X13_readAll_25 C K ih
set_option maxHeartbeats 40000000 in
set_option maxRecDepth 100000 in
theorem db_X13_readAll_0 {p : Program} {l : Launch} {e : Env} {s : State} {m : MethodId} {args : Array Value} {below : List Frame} {meth : Method} {c : Code} {Q : State → Prop} {A : Nat → Prop} {dC : Nat → ClassId} {dI : Nat → Nat → Nat} {a : Nat → Nat} {ac : Nat → ClassId} {n : Nat} {r : St} (C : nd_C p l s m args c A (dC, dI) cX13_readAll 4 RX13 ow_dm_X13_readAll (dk_X13 ac)) (K : nd_Kv p l e (headSpec ow_dm_X13_readAll ({ frames := 12, cells := 0, slots := 0, locals := 287 })).room s m args below meth c Q A (dC, dI) cX13_readAll (St) (dw_X13 a ac) r) : dj_X13_readAll_0 p l e s m args below meth c Q A dC dI a ac (df_X13_readAll_0 n) r := by
  obtain ⟨hlt, hx, hb, hml, hown, hts, hN, hA, hK⟩ := id C
  intro s0 H locs ls h hP hD hS hl
  unfold df_X13_readAll_0 at h
  refine lv_aload_n hx hb dX13_readAll_0 rfl (lv_at hl 0 rfl) ?_
  refine lv_iconst (v := 0) hx hb dX13_readAll_1 (by decide) ?_
  refine va_put (D := (dC, dI)) (ci := 14) (v := .int 0) (ty := .int) (C := RX13) (T := TX13) (N := 37) hx hb hts hi_dm_X13_readAll_X13 tyX13 tyX13_ok nmX13 hown hK hP hD hS 0 rfl rfl 16 (by decide) (hts (.fieldLink RX13 374 "TimeMachineModel$Assembler" "at" "I") (List.mem_of_getElem? (i := 1) rfl)) (fun _ h9 => h9) rfl (by decide +kernel) rfl rfl (Nat.le_of_ble_eq_true rfl) dX13_readAll_2 (fun H locs hP hD hS => ?_)
  obtain ⟨s1, es1, h⟩ := nd_let_e h
  have hP : va_P (dC, dI) vwCl (dw_X13 a ac s1) H := by rw [es1]; exact hP
  have hD : va_D A (dw_X13 a ac s1) := by rw [es1]; exact hD
  refine lv_aload_n hx hb dX13_readAll_5 rfl (lv_at hl 0 rfl) ?_
  refine lv_iconst (v := 1) hx hb dX13_readAll_6 (by decide) ?_
  refine va_put (D := (dC, dI)) (ci := 14) (v := .int 1) (ty := .int) (C := RX13) (T := TX13) (N := 37) hx hb hts hi_dm_X13_readAll_X13 tyX13 tyX13_ok nmX13 hown hK hP hD hS 0 rfl rfl 22 (by decide) (hts (.fieldLink RX13 413 "TimeMachineModel$Assembler" "line" "I") (List.mem_of_getElem? (i := 2) rfl)) (fun _ h9 => h9) rfl (by decide +kernel) rfl rfl (Nat.le_of_ble_eq_true rfl) dX13_readAll_7 (fun H locs hP hD hS => ?_)
  obtain ⟨s2, es2, h⟩ := nd_let_e h
  have hP : va_P (dC, dI) vwCl (dw_X13 a ac s2) H := by rw [es2]; exact hP
  have hD : va_D A (dw_X13 a ac s2) := by rw [es2]; exact hD
  refine lv_aload_n hx hb dX13_readAll_10 rfl (lv_at hl 0 rfl) ?_
  refine lv_iconst (v := 0) hx hb dX13_readAll_11 (by decide) ?_
  refine va_put (D := (dC, dI)) (ci := 14) (v := .int 0) (ty := .int) (C := RX13) (T := TX13) (N := 37) hx hb hts hi_dm_X13_readAll_X13 tyX13 tyX13_ok nmX13 hown hK hP hD hS 0 rfl rfl 23 (by decide) (hts (.fieldLink RX13 634 "TimeMachineModel$Assembler" "section" "I") (List.mem_of_getElem? (i := 3) rfl)) (fun _ h9 => h9) rfl (by decide +kernel) rfl rfl (Nat.le_of_ble_eq_true rfl) dX13_readAll_12 (fun H locs hP hD hS => ?_)
  obtain ⟨s3, es3, h⟩ := nd_let_e h
  have hP : va_P (dC, dI) vwCl (dw_X13 a ac s3) H := by rw [es3]; exact hP
  have hD : va_D A (dw_X13 a ac s3) := by rw [es3]; exact hD
  refine lv_aload_n hx hb dX13_readAll_15 rfl (lv_at hl 0 rfl) ?_
  refine lv_iconst (v := 0) hx hb dX13_readAll_16 (by decide) ?_
  refine va_put (D := (dC, dI)) (ci := 14) (v := .int 0) (ty := .int) (C := RX13) (T := TX13) (N := 37) hx hb hts hi_dm_X13_readAll_X13 tyX13 tyX13_ok nmX13 hown hK hP hD hS 0 rfl rfl 6 (by decide) (hts (.fieldLink RX13 673 "TimeMachineModel$Assembler" "statements" "I") (List.mem_of_getElem? (i := 4) rfl)) (fun _ h9 => h9) rfl (by decide +kernel) rfl rfl (Nat.le_of_ble_eq_true rfl) dX13_readAll_17 (fun H locs hP hD hS => ?_)
  obtain ⟨s4, es4, h⟩ := nd_let_e h
  have hP : va_P (dC, dI) vwCl (dw_X13 a ac s4) H := by rw [es4]; exact hP
  have hD : va_D A (dw_X13 a ac s4) := by rw [es4]; exact hD
  refine lv_aload_n hx hb dX13_readAll_20 rfl (lv_at hl 0 rfl) ?_
  refine lv_iconst (v := 0) hx hb dX13_readAll_21 (by decide) ?_
  refine va_put (D := (dC, dI)) (ci := 14) (v := .int 0) (ty := .int) (C := RX13) (T := TX13) (N := 37) hx hb hts hi_dm_X13_readAll_X13 tyX13 tyX13_ok nmX13 hown hK hP hD hS 0 rfl rfl 10 (by decide) (hts (.fieldLink RX13 439 "TimeMachineModel$Assembler" "labels" "I") (List.mem_of_getElem? (i := 5) rfl)) (fun _ h9 => h9) rfl (by decide +kernel) rfl rfl (Nat.le_of_ble_eq_true rfl) dX13_readAll_22 (fun H locs hP hD hS => ?_)
  obtain ⟨s5, es5, h⟩ := nd_let_e h
  have hP : va_P (dC, dI) vwCl (dw_X13 a ac s5) H := by rw [es5]; exact hP
  have hD : va_D A (dw_X13 a ac s5) := by rw [es5]; exact hD
  exact (db_X13_readAll_25 C K n)  s5 _ _ _ h hP hD hS (lv_sub hl [0] rfl)
set_option maxHeartbeats 40000000 in
set_option maxRecDepth 100000 in
theorem dm_X13_readAll (l : Launch) (hlt : l.stackTraces = false) (dC : Nat → ClassId) (dI : Nat → Nat → Nat) (a : Nat → Nat) (ac : Nat → ClassId) (n : Nat) (s0 : St) {r : St} (h : df_X13_readAll n s0 = some r) (sz : Nat) : Met l yX13_readAll ow_dm_X13_readAll ({ frames := 12, cells := 0, slots := 0, locals := 287 }) (va_Pc [.ref (a 0)] (fun U => U.heap.size = sz ∧ va_P (dC, dI) vwCl (dw_X13 a ac s0) U.heap ∧ va_K (dC, dI) vwCl (dk_X13 ac) U ∧ va_D (fun _ => True) (dw_X13 a ac s0) ∧ nv_E (va_A (dw_X13 a ac s0) sz) U)) (va_Qv (fun _ => True) (fun (_ : Unit) t => va_P (dC, dI) vwCl (dw_X13 a ac r) t.heap ∧ va_K (dC, dI) vwCl (dk_X13 ac) t ∧ va_D (va_A (dw_X13 a ac s0) sz) (dw_X13 a ac r)) (va_A (dw_X13 a ac s0) sz)) 0 0 (va_A (dw_X13 a ac s0) sz) := by
  refine Met.ofW (cc := cX13_readAll) (maxL := 4) (ret := none) (by decide) rfl ?_
  intro p e s m args below meth c s₁ B hml hv
  obtain ⟨rfl, hsz, hP, hK, hD0, hN⟩ := hv
  have hx := B.exec
  have hb := B.bytes
  have hr := B.returns
  have hts := atoms_spec (ws := ow_dm_X13_readAll) B.pre
  have hown : s.vm.findClass RX13 = some m.cls := findClass_of_methodNamed B.named
  have hlocks := B.notSynchronized
  subst hsz
  have hD := hD0.self (sz := s.heap.size)
  generalize hAe : va_A (dw_X13 a ac s0) s.heap.size = A at hD hN ⊢
  have hA : ∀ q : Nat, s.heap.size ≤ q → A q := fun q h => by rw [← hAe]; exact Or.inr h
  have hl := lv_entry ([.ref (a 0)]) (n := 4) (Nat.le_of_ble_eq_true rfl)
  rw [lg_entry_eq]
  generalize (lg_sl ([.ref (a 0)]) ++ List.replicate (4 - (lg_sl ([.ref (a 0)])).length) Slot.unset).toArray = ls at hl ⊢
  have hl : lv_has ls 4 [(0, .ref (a 0))] := hl
  exact db_X13_readAll_0 (dC := dC) (dI := dI) (a := a) (ac := ac) (n := n) (r := r) ⟨hlt, hx, hb, hml, hown, hts, hN, hA, hK⟩ (fun pc τ H locs ls d er hP hD hS => by subst er; exact W.vret hx hb hr (fun t ht hW => ⟨⟨(), rfl, trivial, by rw [ht]; exact hP, va_K.moved hW.alike hK, hD⟩, hS.F ht⟩) hS.2.2 d) s0 _ _ _ h hP hD va_S.rf (lv_sub hl [0] rfl)
def ow_dm_X13_sizeAt : List Cond := .code yX13_sizeAt cX13_sizeAt 3 (some .int) :: ([.fieldLink RX13 334 "TimeMachineModel$Assembler" "bytes" "[I", .fieldLink RX13 328 "TimeMachineModel$Assembler" "place" "[I"] ++ (u_ws RX13 TX13 37 ++ []))
theorem gd_dm_X13_sizeAt : ∀ w ∈ ow_dm_X13_sizeAt, (w.onTables && w.keeps) = true ∨ ∃ ty, w = Cond.arrayClass ty := List.forall_mem_cons.mpr ⟨good_of_word rfl, List.forall_mem_append.mpr ⟨fun w h => good_of_word (List.all_eq_true.mp (by decide +kernel) w h), List.forall_mem_append.mpr ⟨gu_X13, fun _ h => nomatch h⟩⟩⟩
theorem hi_dm_X13_sizeAt_X13 : ∀ w ∈ u_ws RX13 TX13 37, w ∈ ow_dm_X13_sizeAt := fun w h => List.mem_cons_of_mem _ (List.mem_append_right _ (List.mem_append_left _ h))
def dj_X13_sizeAt_59 (p : Program) (l : Launch) (e : Env) (s : State) (m : MethodId) (args : Array Value) (below : List Frame) (meth : Method) (c : Code) (Q : State → Prop) (A : Nat → Prop) (dC : Nat → ClassId) (dI : Nat → Nat → Nat) (a : Nat → Nat) (ac : Nat → ClassId) (g : Int32 → (St) → Option (Int32 × (St))) (r : Int32 × (St)) : Prop := ∀ (y0 : Int32) (s0 : St) (H : Heap) (locs : List Loc) (ls : Array Slot), g y0 s0 = some r → va_P (dC, dI) vwCl (dw_X13 a ac s0) H → va_D A (dw_X13 a ac s0) → va_S A s.heap H locs → lv_has ls 3 [] → W p l e (headSpec ow_dm_X13_sizeAt ({ frames := 0, cells := 0, slots := 0, locals := 0 })).room s m args below meth c H locs 0 0 Q (F0 m 59 ls [.int y0])
def dj_X13_sizeAt_0 (p : Program) (l : Launch) (e : Env) (s : State) (m : MethodId) (args : Array Value) (below : List Frame) (meth : Method) (c : Code) (Q : State → Prop) (A : Nat → Prop) (dC : Nat → ClassId) (dI : Nat → Nat → Nat) (a : Nat → Nat) (ac : Nat → ClassId) (g : Int32 → Int32 → (St) → Option (Int32 × (St))) (r : Int32 × (St)) : Prop := ∀ (v0 : Int32) (v1 : Int32) (s0 : St) (H : Heap) (locs : List Loc) (ls : Array Slot), g v0 v1 s0 = some r → va_P (dC, dI) vwCl (dw_X13 a ac s0) H → va_D A (dw_X13 a ac s0) → va_S A s.heap H locs → lv_has ls 3 [(0, .ref (a 0)), (1, .int v0), (2, .int v1)] → W p l e (headSpec ow_dm_X13_sizeAt ({ frames := 0, cells := 0, slots := 0, locals := 0 })).room s m args below meth c H locs 0 0 Q (F0 m 0 ls [])
set_option maxHeartbeats 40000000 in
set_option maxRecDepth 100000 in
theorem db_X13_sizeAt_59 {p : Program} {l : Launch} {e : Env} {s : State} {m : MethodId} {args : Array Value} {below : List Frame} {meth : Method} {c : Code} {Q : State → Prop} {A : Nat → Prop} {dC : Nat → ClassId} {dI : Nat → Nat → Nat} {a : Nat → Nat} {ac : Nat → ClassId} {n : Nat} {r : Int32 × (St)} (C : nd_C p l s m args c A (dC, dI) cX13_sizeAt 3 RX13 ow_dm_X13_sizeAt (dk_X13 ac)) (K : nd_Ki p l e (headSpec ow_dm_X13_sizeAt ({ frames := 0, cells := 0, slots := 0, locals := 0 })).room s m args below meth c Q A (dC, dI) cX13_sizeAt .int (St) (dw_X13 a ac) r) : dj_X13_sizeAt_59 p l e s m args below meth c Q A dC dI a ac (df_X13_sizeAt_59 n) r := by
  obtain ⟨hlt, hx, hb, hml, hown, hts, hN, hA, hK⟩ := id C
  intro y0 s0 H locs ls h hP hD hS hl
  unfold df_X13_sizeAt_59 at h
  exact K _ _ _ _ _ _ dX13_sizeAt_59 rfl (Option.some.inj h).symm hP hD hS
set_option maxHeartbeats 40000000 in
set_option maxRecDepth 100000 in
theorem db_X13_sizeAt_0 {p : Program} {l : Launch} {e : Env} {s : State} {m : MethodId} {args : Array Value} {below : List Frame} {meth : Method} {c : Code} {Q : State → Prop} {A : Nat → Prop} {dC : Nat → ClassId} {dI : Nat → Nat → Nat} {a : Nat → Nat} {ac : Nat → ClassId} {n : Nat} {r : Int32 × (St)} (C : nd_C p l s m args c A (dC, dI) cX13_sizeAt 3 RX13 ow_dm_X13_sizeAt (dk_X13 ac)) (K : nd_Ki p l e (headSpec ow_dm_X13_sizeAt ({ frames := 0, cells := 0, slots := 0, locals := 0 })).room s m args below meth c Q A (dC, dI) cX13_sizeAt .int (St) (dw_X13 a ac) r) : dj_X13_sizeAt_0 p l e s m args below meth c Q A dC dI a ac (df_X13_sizeAt_0 n) r := by
  obtain ⟨hlt, hx, hb, hml, hown, hts, hN, hA, hK⟩ := id C
  intro v0 v1 s0 H locs ls h hP hD hS hl
  unfold df_X13_sizeAt_0 at h
  refine lv_aload_n hx hb dX13_sizeAt_0 rfl (lv_at hl 0 rfl) ?_
  refine va_get (D := (dC, dI)) (ci := 14) (v := .ref (a 7)) (C := RX13) (T := TX13) (N := 37) hx hb hts hi_dm_X13_sizeAt_X13 hown hK hP 0 rfl rfl 9 (by decide) (hts (.fieldLink RX13 334 "TimeMachineModel$Assembler" "bytes" "[I") (List.mem_of_getElem? (i := 1) rfl)) (fun _ h9 => h9) rfl dX13_sizeAt_1 ?_
  refine lv_iload_n hx hb dX13_sizeAt_4 rfl (lv_at hl 1 rfl) ?_
  obtain ⟨i1, h⟩ := nd_ck_e h
  refine va_iald (i := v0) hx hb hK hP 7 6 rfl rfl i1 dX13_sizeAt_5 ?_
  refine lv_if_ge (tgt := 25) hx hb dX13_sizeAt_6 (by decide) (fun c2 => ?_) (fun c2 => ?_)
  · have h := nd_pos h c2
    refine lv_aload_n hx hb dX13_sizeAt_25 rfl (lv_at hl 0 rfl) ?_
    refine va_get (D := (dC, dI)) (ci := 14) (v := .ref (a 5)) (C := RX13) (T := TX13) (N := 37) hx hb hts hi_dm_X13_sizeAt_X13 hown hK hP 0 rfl rfl 7 (by decide) (hts (.fieldLink RX13 328 "TimeMachineModel$Assembler" "place" "[I") (List.mem_of_getElem? (i := 2) rfl)) (fun _ h9 => h9) rfl dX13_sizeAt_26 ?_
    refine lv_iload_n hx hb dX13_sizeAt_29 rfl (lv_at hl 1 rfl) ?_
    obtain ⟨i3, h⟩ := nd_ck_e h
    refine va_iald (i := v0) hx hb hK hP 5 4 rfl rfl i3 dX13_sizeAt_30 ?_
    refine lv_bipush (v := 20) hx hb dX13_sizeAt_31 (by decide) ?_
    refine lv_ishr hx hb dX13_sizeAt_33 ?_
    refine lv_if_le (tgt := 53) hx hb dX13_sizeAt_34 (by decide) (fun c4 => ?_) (fun c4 => ?_)
    · have h := nd_pos h c4
      refine lv_aload_n hx hb dX13_sizeAt_53 rfl (lv_at hl 0 rfl) ?_
      refine va_get (D := (dC, dI)) (ci := 14) (v := .ref (a 7)) (C := RX13) (T := TX13) (N := 37) hx hb hts hi_dm_X13_sizeAt_X13 hown hK hP 0 rfl rfl 9 (by decide) (hts (.fieldLink RX13 334 "TimeMachineModel$Assembler" "bytes" "[I") (List.mem_of_getElem? (i := 1) rfl)) (fun _ h9 => h9) rfl dX13_sizeAt_54 ?_
      refine lv_iload_n hx hb dX13_sizeAt_57 rfl (lv_at hl 1 rfl) ?_
      obtain ⟨i5, h⟩ := nd_ck_e h
      refine va_iald (i := v0) hx hb hK hP 7 6 rfl rfl i5 dX13_sizeAt_58 ?_
      exact (db_X13_sizeAt_59 C K) ((sR s0 5 (Int32.toNatClampNeg v0))) s0 _ _ _ h hP hD hS (lv_sub hl [] rfl)
    · have h := nd_neg h c4
      refine lv_iconst (v := 2) hx hb dX13_sizeAt_37 (by decide) ?_
      refine lv_aload_n hx hb dX13_sizeAt_38 rfl (lv_at hl 0 rfl) ?_
      refine va_get (D := (dC, dI)) (ci := 14) (v := .ref (a 5)) (C := RX13) (T := TX13) (N := 37) hx hb hts hi_dm_X13_sizeAt_X13 hown hK hP 0 rfl rfl 7 (by decide) (hts (.fieldLink RX13 328 "TimeMachineModel$Assembler" "place" "[I") (List.mem_of_getElem? (i := 2) rfl)) (fun _ h9 => h9) rfl dX13_sizeAt_39 ?_
      refine lv_iload_n hx hb dX13_sizeAt_42 rfl (lv_at hl 1 rfl) ?_
      obtain ⟨i6, h⟩ := nd_ck_e h
      refine va_iald (i := v0) hx hb hK hP 5 4 rfl rfl i6 dX13_sizeAt_43 ?_
      refine lv_bipush (v := 17) hx hb dX13_sizeAt_44 (by decide) ?_
      refine lv_ishr hx hb dX13_sizeAt_46 ?_
      refine lv_iconst (v := 3) hx hb dX13_sizeAt_47 (by decide) ?_
      refine lv_iand hx hb dX13_sizeAt_48 ?_
      refine lv_ishl hx hb dX13_sizeAt_49 ?_
      refine lv_goto (tgt := 59) hx hb dX13_sizeAt_50 (by decide) ?_
      exact (db_X13_sizeAt_59 C K) (((2 : Int32) <<< ((((((sR s0 3 (Int32.toNatClampNeg v0)) : Int32) >>> ((17 : Int32) &&& 31)) &&& 3) : Int32) &&& 31))) s0 _ _ _ h hP hD hS (lv_sub hl [] rfl)
  · have h := nd_neg h c2
    refine lv_iload_n hx hb dX13_sizeAt_9 rfl (lv_at hl 2 rfl) ?_
    refine lv_ineg hx hb dX13_sizeAt_10 ?_
    refine lv_iconst (v := 1) hx hb dX13_sizeAt_11 (by decide) ?_
    refine lv_iconst (v := (-1)) hx hb dX13_sizeAt_12 (by decide) ?_
    refine lv_aload_n hx hb dX13_sizeAt_13 rfl (lv_at hl 0 rfl) ?_
    refine va_get (D := (dC, dI)) (ci := 14) (v := .ref (a 7)) (C := RX13) (T := TX13) (N := 37) hx hb hts hi_dm_X13_sizeAt_X13 hown hK hP 0 rfl rfl 9 (by decide) (hts (.fieldLink RX13 334 "TimeMachineModel$Assembler" "bytes" "[I") (List.mem_of_getElem? (i := 1) rfl)) (fun _ h9 => h9) rfl dX13_sizeAt_14 ?_
    refine lv_iload_n hx hb dX13_sizeAt_17 rfl (lv_at hl 1 rfl) ?_
    obtain ⟨i7, h⟩ := nd_ck_e h
    refine va_iald (i := v0) hx hb hK hP 7 6 rfl rfl i7 dX13_sizeAt_18 ?_
    refine lv_isub hx hb dX13_sizeAt_19 ?_
    refine lv_ishl hx hb dX13_sizeAt_20 ?_
    refine lv_iconst (v := 1) hx hb dX13_sizeAt_21 (by decide) ?_
    refine lv_isub hx hb dX13_sizeAt_22 ?_
    refine lv_iand hx hb dX13_sizeAt_23 ?_
    exact K _ _ _ _ _ _ dX13_sizeAt_24 rfl (Option.some.inj h).symm hP hD hS
set_option maxHeartbeats 40000000 in
set_option maxRecDepth 100000 in
theorem dm_X13_sizeAt (l : Launch) (hlt : l.stackTraces = false) (dC : Nat → ClassId) (dI : Nat → Nat → Nat) (a : Nat → Nat) (ac : Nat → ClassId) (n : Nat) (v0 : Int32) (v1 : Int32) (s0 : St) {r : Int32 × (St)} (h : df_X13_sizeAt n v0 v1 s0 = some r) (sz : Nat) : Met l yX13_sizeAt ow_dm_X13_sizeAt ({ frames := 0, cells := 0, slots := 0, locals := 0 }) (va_Pc [.ref (a 0), .int v0, .int v1] (fun U => U.heap.size = sz ∧ va_P (dC, dI) vwCl (dw_X13 a ac s0) U.heap ∧ va_K (dC, dI) vwCl (dk_X13 ac) U ∧ va_D (fun _ => True) (dw_X13 a ac s0) ∧ nv_E (va_A (dw_X13 a ac s0) sz) U)) (va_Qi (fun x _ => x = r.1) (fun (_ : Unit) t => va_P (dC, dI) vwCl (dw_X13 a ac r.2) t.heap ∧ va_K (dC, dI) vwCl (dk_X13 ac) t ∧ va_D (va_A (dw_X13 a ac s0) sz) (dw_X13 a ac r.2)) (va_A (dw_X13 a ac s0) sz)) 0 0 (va_A (dw_X13 a ac s0) sz) := by
  refine Met.ofW (cc := cX13_sizeAt) (maxL := 3) (ret := (some .int)) (by decide) rfl ?_
  intro p e s m args below meth c s₁ B hml hv
  obtain ⟨rfl, hsz, hP, hK, hD0, hN⟩ := hv
  have hx := B.exec
  have hb := B.bytes
  have hr := B.returns
  have hts := atoms_spec (ws := ow_dm_X13_sizeAt) B.pre
  have hown : s.vm.findClass RX13 = some m.cls := findClass_of_methodNamed B.named
  have hlocks := B.notSynchronized
  subst hsz
  have hD := hD0.self (sz := s.heap.size)
  generalize hAe : va_A (dw_X13 a ac s0) s.heap.size = A at hD hN ⊢
  have hA : ∀ q : Nat, s.heap.size ≤ q → A q := fun q h => by rw [← hAe]; exact Or.inr h
  have hl := lv_entry ([.ref (a 0), .int v0, .int v1]) (n := 3) (Nat.le_of_ble_eq_true rfl)
  rw [lg_entry_eq]
  generalize (lg_sl ([.ref (a 0), .int v0, .int v1]) ++ List.replicate (3 - (lg_sl ([.ref (a 0), .int v0, .int v1])).length) Slot.unset).toArray = ls at hl ⊢
  have hl : lv_has ls 3 [(0, .ref (a 0)), (1, .int v0), (2, .int v1)] := hl
  exact db_X13_sizeAt_0 (dC := dC) (dI := dI) (a := a) (ac := ac) (n := n) (r := r) ⟨hlt, hx, hb, hml, hown, hts, hN, hA, hK⟩ (fun pc v τ H locs ls d z er hP hD hS => by subst er; exact W.zret (v := v) hx hb hr z (fun t ht hW => ⟨⟨v, (), rfl, rfl, by rw [ht]; exact hP, va_K.moved hW.alike hK, hD⟩, hS.F ht⟩) hS.2.2 d) v0 v1 s0 _ _ _ h hP hD va_S.rf (lv_sub hl [0, 1, 2] rfl)
