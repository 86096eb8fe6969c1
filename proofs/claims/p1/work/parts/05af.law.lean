set_option maxHeartbeats 40000000 in
set_option maxRecDepth 100000 in
theorem law_c21 {p : Program} {l : Launch} {e : Env} {s : State} {m : MethodId} {below : List Frame} {meth : Method} {c : Code} {Q : State → Prop} {A : Nat → Prop} {b : Nat} (hlt : l.stackTraces = false) (hx : p.tables.exec = Jvm.exec) (hb : c.code = code) (hml : c.maxLocals = 8) (hown : s.vm.findClass RL = some m.cls) (hts : ∀ w ∈ lw_tbl, w.before #[Value.ref b] s = true) (hN : nv_E A s) (hA : ∀ q : Nat, s.heap.size ≤ q → A q) (hDe : nv_Dc s) (dC : Nat → ClassId) (dI : Nat → Nat → Nat) (q1 : Nat) (q2 : Nat) (q4 : Nat) (q6 : Nat) (q8 : Nat) (q22 : Nat) (q23 : Nat) (q25 : Nat) (q31 : Nat) (q32 : Nat) (q33 : Nat) (q34 : Nat) (q35 : Nat) (q36 : Nat) (q37 : Nat) (q39 : Nat) (q41 : Nat) (q43 : Nat) (q77 : Nat) (q78 : Nat) (q80 : Nat) (q82 : Nat) (q84 : Nat) (q86 : Nat) (q88 : Nat) (q90 : Nat) (q91 : Nat) (q93 : Nat) (q94 : Nat) (q105 : Nat) (q106 : Nat) (q124 : Nat) (q131 : Nat) (q132 : Nat) (q133 : Nat) (q134 : Nat) (q135 : Nat) (q136 : Nat) (q137 : Nat) (q138 : Nat) (q139 : Nat) (q140 : Nat) (q143 : Nat) {xs : Nat → Int32} (hX : va_X b 6 xs s s.heap) (hbl : b < s.heap.size) (hbA : ¬ A b) (x0 : Int32) (es0 : xs (Int32.toNatClampNeg 0) = x0) (x1 : Int32) (es1 : xs (Int32.toNatClampNeg 1) = x1) (x2 : Int32) (es2 : xs (Int32.toNatClampNeg 2) = x2) (x3 : Int32) (es3 : xs (Int32.toNatClampNeg 3) = x3) (x4 : Int32) (es4 : xs (Int32.toNatClampNeg 4) = x4) (x5 : Int32) (es5 : xs (Int32.toNatClampNeg 5) = x5) {H : Heap} {locs : List Loc} {ls : Array Slot} (hK : va_K (dC, dI) vwCl [] s) (hP : va_P (dC, dI) vwCl [(q1, .inr (13, [.ref q2, .int 0, .int 0, .ref q4, .ref q6, .ref q8, .ref q22, .ref q37, .ref q39, .ref q41, .int 0, .ref q43])), (q22, .inr (12, [.ref q23, .ref q25, .ref q31, .ref q32, .ref q33, .ref q34, .int 0, .ref q35, .ref q36, .int 0, .int 0, .int 0, .int 0, .int 0, .int 0, .int 0])), (q77, .inr (20, [.int 0, .ref q78, .int 0, .int 0, .ref q80, .ref q82, .ref q84, .ref q86, .ref q88, .ref q90, .ref q91, .ref q93, .ref q94, .ref q105, .ref q106, .ref q124, .ref q131, .int 0, .int 0, .int 0, .int 0, .int 0, .int 0, .int 0, .int 0, .int 0, .ref q132, .ref q133, .ref q134, .ref q135, .ref q136, .ref q137, .ref q138, .ref q139, .ref q140, .int 0]))] H) (hD : va_D A [(q1, .inr (13, [.ref q2, .int 0, .int 0, .ref q4, .ref q6, .ref q8, .ref q22, .ref q37, .ref q39, .ref q41, .int 0, .ref q43])), (q22, .inr (12, [.ref q23, .ref q25, .ref q31, .ref q32, .ref q33, .ref q34, .int 0, .ref q35, .ref q36, .int 0, .int 0, .int 0, .int 0, .int 0, .int 0, .int 0])), (q77, .inr (20, [.int 0, .ref q78, .int 0, .int 0, .ref q80, .ref q82, .ref q84, .ref q86, .ref q88, .ref q90, .ref q91, .ref q93, .ref q94, .ref q105, .ref q106, .ref q124, .ref q131, .int 0, .int 0, .int 0, .int 0, .int 0, .int 0, .int 0, .int 0, .int 0, .ref q132, .ref q133, .ref q134, .ref q135, .ref q136, .ref q137, .ref q138, .ref q139, .ref q140, .int 0]))]) (hS : va_S A s.heap H locs) (hl : lv_has ls 8 [(4, .int 0), (3, .ref q143), (2, .ref q77), (1, .ref q1), (0, .ref b)]) (kkE : ∀ (H : Heap) (locs : List Loc) (ls : Array Slot), va_S A s.heap H locs → lv_has ls 8 [(4, .int 6), (0, .ref b)] → W p l e room_1 s m #[Value.ref b] below meth c H locs 600002 7302232 Q (F0 m 23 ls [])) : W p l e room_1 s m #[Value.ref b] below meth c H locs 455 2511899 Q (F0 m 1145 ls []) := by
  refine lv_aload_n hx hb dL_law_1145 rfl (lv_at hl 3 rfl) ?_
  refine lv_aload_n hx hb dL_law_1146 rfl (lv_at hl 4 rfl) ?_
  refine lv_iload hx hb dL_law_1147 (lv_at hl 0 rfl) ?_
  refine lv_iconst (v := 1) hx hb dL_law_1149 (by decide) ?_
  refine lv_iadd hx hb dL_law_1150 ?_
  refine lv_topi (fun z501 ez501 => ?_)
  obtain rfl : z501 = 1 := ez501.trans (by decide)
  refine va_sld (i := 1) hx hb hX hbl hbA hS (vp_in_iff.mpr ⟨by decide, by decide⟩) dL_law_1151 ?_
  rw [es1]
  refine lv_aload_n hx hb dL_law_1152 rfl (lv_at hl 4 rfl) ?_
  refine lv_iload hx hb dL_law_1153 (lv_at hl 0 rfl) ?_
  refine lv_iconst (v := 2) hx hb dL_law_1155 (by decide) ?_
  refine lv_iadd hx hb dL_law_1156 ?_
  refine lv_topi (fun z502 ez502 => ?_)
  obtain rfl : z502 = 2 := ez502.trans (by decide)
  refine va_sld (i := 2) hx hb hX hbl hbA hS (vp_in_iff.mpr ⟨by decide, by decide⟩) dL_law_1157 ?_
  rw [es2]
  have hPc := hP.sub (ws' := [(q1, .inr (13, [.ref q2, .int 0, .int 0, .ref q4, .ref q6, .ref q8, .ref q22, .ref q37, .ref q39, .ref q41, .int 0, .ref q43])), (q22, .inr (12, [.ref q23, .ref q25, .ref q31, .ref q32, .ref q33, .ref q34, .int 0, .ref q35, .ref q36, .int 0, .int 0, .int 0, .int 0, .int 0, .int 0, .int 0]))]) [0, 1] rfl
  have hDc := hD.sub (ws' := [(q1, .inr (13, [.ref q2, .int 0, .int 0, .ref q4, .ref q6, .ref q8, .ref q22, .ref q37, .ref q39, .ref q41, .int 0, .ref q43])), (q22, .inr (12, [.ref q23, .ref q25, .ref q31, .ref q32, .ref q33, .ref q34, .int 0, .ref q35, .ref q36, .int 0, .int 0, .int 0, .int 0, .int 0, .int 0, .int 0]))]) [0, 1] (by decide) rfl
  have hKc := hK.sub (tys' := []) [] rfl
  have hFc := va_free (wc := [(q1, .inr (13, [.ref q2, .int 0, .int 0, .ref q4, .ref q6, .ref q8, .ref q22, .ref q37, .ref q39, .ref q41, .int 0, .ref q43])), (q22, .inr (12, [.ref q23, .ref q25, .ref q31, .ref q32, .ref q33, .ref q34, .int 0, .ref q35, .ref q36, .int 0, .int 0, .int 0, .int 0, .int 0, .int 0, .int 0]))]) hD hS hA [0, 1] rfl
  refine va_calli (va_runV (As := [.int x1, .int x2]) (rest := []) ⟨hx, hb, hml, hown, hts⟩ (k_X12_process l hlt dC dI q1 q22 x1 x2 q2 q4 q6 q8 q37 q39 q41 q43 q23 q25 q31 q32 q33 q34 q35 q36  H.size) (cwV 2 hts gl_47 rfl rfl rfl (by decide +kernel) ⟨Nat.le_of_ble_eq_true rfl, Nat.le_of_ble_eq_true rfl⟩) ⟨fun a U g mk q => by obtain ⟨q0, q1, qP, qK, qD, qN⟩ := q; exact ⟨q0, q1, qP, va_K.moved (u := U) (U := U.calling g mk a) (Vm.Alike.refl U.vm) qK, qD, nv_same rfl rfl qN⟩, va_recv hKc hPc (ci := 13) (q0 := 0) rfl rfl, fun U hU hW => ⟨rfl, by rw [hU], by rw [hU]; exact hPc, va_K.moved hW.alike hKc, hDc.weaken (fun _ _ _ _ => trivial), nv_call hS hFc hU hW hN⟩⟩ rfl rfl hl.1 rfl (lv_room (Nat.le_of_ble_eq_true rfl)) dL_law_1158 ⟨by decide +kernel, by decide +kernel⟩) hS (fun q _ h => hFc q h) hFc (fun r503 u t H1 locs ht hvm hw hB hz1 hk1 hS => ?_)
  rcases hw with ⟨c_1_0, h9⟩ | ⟨c_1_0, c_1_1, c_1_2, h9⟩ | ⟨c_1_0, c_1_1, c_1_2, c_1_3, h9⟩ | ⟨c_1_0, c_1_1, c_1_2, c_1_3, h9⟩ | ⟨c_1_0, c_1_1, h9⟩ | h9
  · subst h9
    have hK1 := hK.sub (tys' := []) [] rfl
    obtain ⟨hP, hD⟩ := va_join (wr := [(q77, .inr (20, [.int 0, .ref q78, .int 0, .int 0, .ref q80, .ref q82, .ref q84, .ref q86, .ref q88, .ref q90, .ref q91, .ref q93, .ref q94, .ref q105, .ref q106, .ref q124, .ref q131, .int 0, .int 0, .int 0, .int 0, .int 0, .int 0, .int 0, .int 0, .int 0, .ref q132, .ref q133, .ref q134, .ref q135, .ref q136, .ref q137, .ref q138, .ref q139, .ref q140, .int 0]))]) (w1 := []) hP hD [0, 1] [2] rfl rfl (by decide) (by decide) hk1 hFc nv_P0 nv_D0
    have hK := (hK.sub (tys' := []) [] rfl).app hK1
    generalize H1 = H at hP hS ⊢
    have hP : va_P (dC, dI) vwCl [(q77, .inr (20, [.int 0, .ref q78, .int 0, .int 0, .ref q80, .ref q82, .ref q84, .ref q86, .ref q88, .ref q90, .ref q91, .ref q93, .ref q94, .ref q105, .ref q106, .ref q124, .ref q131, .int 0, .int 0, .int 0, .int 0, .int 0, .int 0, .int 0, .int 0, .int 0, .ref q132, .ref q133, .ref q134, .ref q135, .ref q136, .ref q137, .ref q138, .ref q139, .ref q140, .int 0]))] H := hP
    have hD : va_D A [(q77, .inr (20, [.int 0, .ref q78, .int 0, .int 0, .ref q80, .ref q82, .ref q84, .ref q86, .ref q88, .ref q90, .ref q91, .ref q93, .ref q94, .ref q105, .ref q106, .ref q124, .ref q131, .int 0, .int 0, .int 0, .int 0, .int 0, .int 0, .int 0, .int 0, .int 0, .ref q132, .ref q133, .ref q134, .ref q135, .ref q136, .ref q137, .ref q138, .ref q139, .ref q140, .int 0]))] := hD
    have hK : va_K (dC, dI) vwCl [] s := hK
    refine W.widen (k := 455) (n := 2511899) (by decide +kernel) (by decide +kernel) ?_
    refine lv_aload_n hx hb dL_law_1161 rfl (lv_at hl 2 rfl) ?_
    refine lv_aload_n hx hb dL_law_1162 rfl (lv_at hl 4 rfl) ?_
    refine lv_iload hx hb dL_law_1163 (lv_at hl 0 rfl) ?_
    refine lv_iconst (v := 1) hx hb dL_law_1165 (by decide) ?_
    refine lv_iadd hx hb dL_law_1166 ?_
    refine lv_topi (fun z504 ez504 => ?_)
    obtain rfl : z504 = 1 := ez504.trans (by decide)
    refine va_sld (i := 1) hx hb hX hbl hbA hS (vp_in_iff.mpr ⟨by decide, by decide⟩) dL_law_1167 ?_
    rw [es1]
    refine lv_aload_n hx hb dL_law_1168 rfl (lv_at hl 4 rfl) ?_
    refine lv_iload hx hb dL_law_1169 (lv_at hl 0 rfl) ?_
    refine lv_iconst (v := 2) hx hb dL_law_1171 (by decide) ?_
    refine lv_iadd hx hb dL_law_1172 ?_
    refine lv_topi (fun z505 ez505 => ?_)
    obtain rfl : z505 = 2 := ez505.trans (by decide)
    refine va_sld (i := 2) hx hb hX hbl hbA hS (vp_in_iff.mpr ⟨by decide, by decide⟩) dL_law_1173 ?_
    rw [es2]
    have hPc := hP.sub (ws' := [(q77, .inr (20, [.int 0, .ref q78, .int 0, .int 0, .ref q80, .ref q82, .ref q84, .ref q86, .ref q88, .ref q90, .ref q91, .ref q93, .ref q94, .ref q105, .ref q106, .ref q124, .ref q131, .int 0, .int 0, .int 0, .int 0, .int 0, .int 0, .int 0, .int 0, .int 0, .ref q132, .ref q133, .ref q134, .ref q135, .ref q136, .ref q137, .ref q138, .ref q139, .ref q140, .int 0]))]) [0] rfl
    have hDc := hD.sub (ws' := [(q77, .inr (20, [.int 0, .ref q78, .int 0, .int 0, .ref q80, .ref q82, .ref q84, .ref q86, .ref q88, .ref q90, .ref q91, .ref q93, .ref q94, .ref q105, .ref q106, .ref q124, .ref q131, .int 0, .int 0, .int 0, .int 0, .int 0, .int 0, .int 0, .int 0, .int 0, .ref q132, .ref q133, .ref q134, .ref q135, .ref q136, .ref q137, .ref q138, .ref q139, .ref q140, .int 0]))]) [0] (by decide) rfl
    have hKc := hK.sub (tys' := []) [] rfl
    have hFc := va_free (wc := [(q77, .inr (20, [.int 0, .ref q78, .int 0, .int 0, .ref q80, .ref q82, .ref q84, .ref q86, .ref q88, .ref q90, .ref q91, .ref q93, .ref q94, .ref q105, .ref q106, .ref q124, .ref q131, .int 0, .int 0, .int 0, .int 0, .int 0, .int 0, .int 0, .int 0, .int 0, .ref q132, .ref q133, .ref q134, .ref q135, .ref q136, .ref q137, .ref q138, .ref q139, .ref q140, .int 0]))]) hD hS hA [0] rfl
    refine va_calli (va_runV (As := [.int x1, .int x2]) (rest := [.int (-1)]) ⟨hx, hb, hml, hown, hts⟩ (k_X19_process l hlt dC dI q77 x1 x2 q78 q80 q82 q84 q86 q88 q90 q91 q93 q94 q105 q106 q124 q131 q132 q133 q134 q135 q136 q137 q138 q139 q140  H.size) (cwV 2 hts gl_48 rfl rfl rfl (by decide +kernel) ⟨Nat.le_of_ble_eq_true rfl, Nat.le_of_ble_eq_true rfl⟩) ⟨fun a U g mk q => by obtain ⟨q0, q1, qP, qK, qD, qN⟩ := q; exact ⟨q0, q1, qP, va_K.moved (u := U) (U := U.calling g mk a) (Vm.Alike.refl U.vm) qK, qD, nv_same rfl rfl qN⟩, va_recv hKc hPc (ci := 20) (q0 := 0) rfl rfl, fun U hU hW => ⟨rfl, by rw [hU], by rw [hU]; exact hPc, va_K.moved hW.alike hKc, hDc.weaken (fun _ _ _ _ => trivial), nv_call hS hFc hU hW hN⟩⟩ rfl rfl hl.1 rfl (lv_room (Nat.le_of_ble_eq_true rfl)) dL_law_1174 ⟨by decide +kernel, by decide +kernel⟩) hS (fun q _ h => hFc q h) hFc (fun r506 u t H1 locs ht hvm hw hB hz1 hk1 hS => ?_)
    rcases hw with ⟨c_2_0, h9⟩ | ⟨c_2_0, c_2_1, h9⟩ | ⟨c_2_0, c_2_1, c_2_2, h9⟩ | ⟨c_2_0, c_2_1, c_2_2, h9⟩ | h9
    · exact (cz_8 x2 c_1_0 c_2_0).elim
    · subst h9
      have hK1 := hK.sub (tys' := []) [] rfl
      obtain ⟨hP, hD⟩ := va_join (wr := []) (w1 := []) hP hD [0] [] rfl rfl (by decide) (by decide) hk1 hFc nv_P0 nv_D0
      have hK := (hK.sub (tys' := []) [] rfl).app hK1
      generalize H1 = H at hP hS ⊢
      have hP : va_P (dC, dI) vwCl [] H := hP
      have hD : va_D A [] := hD
      have hK : va_K (dC, dI) vwCl [] s := hK
      refine W.widen (k := 455) (n := 2511899) (by decide +kernel) (by decide +kernel) ?_
      refine lv_icmp_eq (tgt := 1493) hx hb dL_law_1177 (by decide) (fun _ => ?_) (fun h9 => absurd (by decide) h9)
      refine lv_iinc (v := 6) (lv' := [(4, .int 6), (3, .ref q143), (2, .ref q77), (1, .ref q1), (0, .ref b)]) hx hb dL_law_1493 hl (k := 0) rfl (by decide) (by decide) rfl (fun ls hl => ?_)
      refine lv_goto (tgt := 23) hx hb dL_law_1496 (by decide) ?_
      refine W.widen (k := 600002) (n := 7302232) (by decide +kernel) (by decide +kernel) ?_
      exact kkE _ _ _ hS (lv_sub hl [0, 4] rfl)
    · exact absurd c_1_0 c_2_1
    · exact absurd c_1_0 c_2_1
    · exact h9.elim
  · subst h9
    have hK1 := hK.sub (tys' := []) [] rfl
    obtain ⟨hP, hD⟩ := va_join (wr := [(q77, .inr (20, [.int 0, .ref q78, .int 0, .int 0, .ref q80, .ref q82, .ref q84, .ref q86, .ref q88, .ref q90, .ref q91, .ref q93, .ref q94, .ref q105, .ref q106, .ref q124, .ref q131, .int 0, .int 0, .int 0, .int 0, .int 0, .int 0, .int 0, .int 0, .int 0, .ref q132, .ref q133, .ref q134, .ref q135, .ref q136, .ref q137, .ref q138, .ref q139, .ref q140, .int 0]))]) (w1 := []) hP hD [0, 1] [2] rfl rfl (by decide) (by decide) hk1 hFc nv_P0 nv_D0
    have hK := (hK.sub (tys' := []) [] rfl).app hK1
    generalize H1 = H at hP hS ⊢
    have hP : va_P (dC, dI) vwCl [(q77, .inr (20, [.int 0, .ref q78, .int 0, .int 0, .ref q80, .ref q82, .ref q84, .ref q86, .ref q88, .ref q90, .ref q91, .ref q93, .ref q94, .ref q105, .ref q106, .ref q124, .ref q131, .int 0, .int 0, .int 0, .int 0, .int 0, .int 0, .int 0, .int 0, .int 0, .ref q132, .ref q133, .ref q134, .ref q135, .ref q136, .ref q137, .ref q138, .ref q139, .ref q140, .int 0]))] H := hP
    have hD : va_D A [(q77, .inr (20, [.int 0, .ref q78, .int 0, .int 0, .ref q80, .ref q82, .ref q84, .ref q86, .ref q88, .ref q90, .ref q91, .ref q93, .ref q94, .ref q105, .ref q106, .ref q124, .ref q131, .int 0, .int 0, .int 0, .int 0, .int 0, .int 0, .int 0, .int 0, .int 0, .ref q132, .ref q133, .ref q134, .ref q135, .ref q136, .ref q137, .ref q138, .ref q139, .ref q140, .int 0]))] := hD
    have hK : va_K (dC, dI) vwCl [] s := hK
    refine W.widen (k := 455) (n := 2511899) (by decide +kernel) (by decide +kernel) ?_
    refine lv_aload_n hx hb dL_law_1161 rfl (lv_at hl 2 rfl) ?_
    refine lv_aload_n hx hb dL_law_1162 rfl (lv_at hl 4 rfl) ?_
    refine lv_iload hx hb dL_law_1163 (lv_at hl 0 rfl) ?_
    refine lv_iconst (v := 1) hx hb dL_law_1165 (by decide) ?_
    refine lv_iadd hx hb dL_law_1166 ?_
    refine lv_topi (fun z507 ez507 => ?_)
    obtain rfl : z507 = 1 := ez507.trans (by decide)
    refine va_sld (i := 1) hx hb hX hbl hbA hS (vp_in_iff.mpr ⟨by decide, by decide⟩) dL_law_1167 ?_
    rw [es1]
    refine lv_aload_n hx hb dL_law_1168 rfl (lv_at hl 4 rfl) ?_
    refine lv_iload hx hb dL_law_1169 (lv_at hl 0 rfl) ?_
    refine lv_iconst (v := 2) hx hb dL_law_1171 (by decide) ?_
    refine lv_iadd hx hb dL_law_1172 ?_
    refine lv_topi (fun z508 ez508 => ?_)
    obtain rfl : z508 = 2 := ez508.trans (by decide)
    refine va_sld (i := 2) hx hb hX hbl hbA hS (vp_in_iff.mpr ⟨by decide, by decide⟩) dL_law_1173 ?_
    rw [es2]
    have hPc := hP.sub (ws' := [(q77, .inr (20, [.int 0, .ref q78, .int 0, .int 0, .ref q80, .ref q82, .ref q84, .ref q86, .ref q88, .ref q90, .ref q91, .ref q93, .ref q94, .ref q105, .ref q106, .ref q124, .ref q131, .int 0, .int 0, .int 0, .int 0, .int 0, .int 0, .int 0, .int 0, .int 0, .ref q132, .ref q133, .ref q134, .ref q135, .ref q136, .ref q137, .ref q138, .ref q139, .ref q140, .int 0]))]) [0] rfl
    have hDc := hD.sub (ws' := [(q77, .inr (20, [.int 0, .ref q78, .int 0, .int 0, .ref q80, .ref q82, .ref q84, .ref q86, .ref q88, .ref q90, .ref q91, .ref q93, .ref q94, .ref q105, .ref q106, .ref q124, .ref q131, .int 0, .int 0, .int 0, .int 0, .int 0, .int 0, .int 0, .int 0, .int 0, .ref q132, .ref q133, .ref q134, .ref q135, .ref q136, .ref q137, .ref q138, .ref q139, .ref q140, .int 0]))]) [0] (by decide) rfl
    have hKc := hK.sub (tys' := []) [] rfl
    have hFc := va_free (wc := [(q77, .inr (20, [.int 0, .ref q78, .int 0, .int 0, .ref q80, .ref q82, .ref q84, .ref q86, .ref q88, .ref q90, .ref q91, .ref q93, .ref q94, .ref q105, .ref q106, .ref q124, .ref q131, .int 0, .int 0, .int 0, .int 0, .int 0, .int 0, .int 0, .int 0, .int 0, .ref q132, .ref q133, .ref q134, .ref q135, .ref q136, .ref q137, .ref q138, .ref q139, .ref q140, .int 0]))]) hD hS hA [0] rfl
    refine va_calli (va_runV (As := [.int x1, .int x2]) (rest := [.int (-1)]) ⟨hx, hb, hml, hown, hts⟩ (k_X19_process l hlt dC dI q77 x1 x2 q78 q80 q82 q84 q86 q88 q90 q91 q93 q94 q105 q106 q124 q131 q132 q133 q134 q135 q136 q137 q138 q139 q140  H.size) (cwV 2 hts gl_48 rfl rfl rfl (by decide +kernel) ⟨Nat.le_of_ble_eq_true rfl, Nat.le_of_ble_eq_true rfl⟩) ⟨fun a U g mk q => by obtain ⟨q0, q1, qP, qK, qD, qN⟩ := q; exact ⟨q0, q1, qP, va_K.moved (u := U) (U := U.calling g mk a) (Vm.Alike.refl U.vm) qK, qD, nv_same rfl rfl qN⟩, va_recv hKc hPc (ci := 20) (q0 := 0) rfl rfl, fun U hU hW => ⟨rfl, by rw [hU], by rw [hU]; exact hPc, va_K.moved hW.alike hKc, hDc.weaken (fun _ _ _ _ => trivial), nv_call hS hFc hU hW hN⟩⟩ rfl rfl hl.1 rfl (lv_room (Nat.le_of_ble_eq_true rfl)) dL_law_1174 ⟨by decide +kernel, by decide +kernel⟩) hS (fun q _ h => hFc q h) hFc (fun r509 u t H1 locs ht hvm hw hB hz1 hk1 hS => ?_)
    rcases hw with ⟨c_3_0, h9⟩ | ⟨c_3_0, c_3_1, h9⟩ | ⟨c_3_0, c_3_1, c_3_2, h9⟩ | ⟨c_3_0, c_3_1, c_3_2, h9⟩ | h9
    · subst h9
      have hK1 := hK.sub (tys' := []) [] rfl
      obtain ⟨hP, hD⟩ := va_join (wr := []) (w1 := []) hP hD [0] [] rfl rfl (by decide) (by decide) hk1 hFc nv_P0 nv_D0
      have hK := (hK.sub (tys' := []) [] rfl).app hK1
      generalize H1 = H at hP hS ⊢
      have hP : va_P (dC, dI) vwCl [] H := hP
      have hD : va_D A [] := hD
      have hK : va_K (dC, dI) vwCl [] s := hK
      refine W.widen (k := 455) (n := 2511899) (by decide +kernel) (by decide +kernel) ?_
      refine lv_icmp_eq (tgt := 1493) hx hb dL_law_1177 (by decide) (fun _ => ?_) (fun h9 => absurd (by decide) h9)
      refine lv_iinc (v := 6) (lv' := [(4, .int 6), (3, .ref q143), (2, .ref q77), (1, .ref q1), (0, .ref b)]) hx hb dL_law_1493 hl (k := 0) rfl (by decide) (by decide) rfl (fun ls hl => ?_)
      refine lv_goto (tgt := 23) hx hb dL_law_1496 (by decide) ?_
      refine W.widen (k := 600002) (n := 7302232) (by decide +kernel) (by decide +kernel) ?_
      exact kkE _ _ _ hS (lv_sub hl [0, 4] rfl)
    · exact absurd c_1_2 c_3_0
    · exact absurd c_1_2 c_3_0
    · exact absurd c_1_2 c_3_0
    · exact h9.elim
  · subst h9
    have hK1 := hK.sub (tys' := []) [] rfl
    obtain ⟨hP, hD⟩ := va_join (wr := [(q77, .inr (20, [.int 0, .ref q78, .int 0, .int 0, .ref q80, .ref q82, .ref q84, .ref q86, .ref q88, .ref q90, .ref q91, .ref q93, .ref q94, .ref q105, .ref q106, .ref q124, .ref q131, .int 0, .int 0, .int 0, .int 0, .int 0, .int 0, .int 0, .int 0, .int 0, .ref q132, .ref q133, .ref q134, .ref q135, .ref q136, .ref q137, .ref q138, .ref q139, .ref q140, .int 0]))]) (w1 := []) hP hD [0, 1] [2] rfl rfl (by decide) (by decide) hk1 hFc nv_P0 nv_D0
    have hK := (hK.sub (tys' := []) [] rfl).app hK1
    generalize H1 = H at hP hS ⊢
    have hP : va_P (dC, dI) vwCl [(q77, .inr (20, [.int 0, .ref q78, .int 0, .int 0, .ref q80, .ref q82, .ref q84, .ref q86, .ref q88, .ref q90, .ref q91, .ref q93, .ref q94, .ref q105, .ref q106, .ref q124, .ref q131, .int 0, .int 0, .int 0, .int 0, .int 0, .int 0, .int 0, .int 0, .int 0, .ref q132, .ref q133, .ref q134, .ref q135, .ref q136, .ref q137, .ref q138, .ref q139, .ref q140, .int 0]))] H := hP
    have hD : va_D A [(q77, .inr (20, [.int 0, .ref q78, .int 0, .int 0, .ref q80, .ref q82, .ref q84, .ref q86, .ref q88, .ref q90, .ref q91, .ref q93, .ref q94, .ref q105, .ref q106, .ref q124, .ref q131, .int 0, .int 0, .int 0, .int 0, .int 0, .int 0, .int 0, .int 0, .int 0, .ref q132, .ref q133, .ref q134, .ref q135, .ref q136, .ref q137, .ref q138, .ref q139, .ref q140, .int 0]))] := hD
    have hK : va_K (dC, dI) vwCl [] s := hK
    refine W.widen (k := 455) (n := 2511899) (by decide +kernel) (by decide +kernel) ?_
    refine lv_aload_n hx hb dL_law_1161 rfl (lv_at hl 2 rfl) ?_
    refine lv_aload_n hx hb dL_law_1162 rfl (lv_at hl 4 rfl) ?_
    refine lv_iload hx hb dL_law_1163 (lv_at hl 0 rfl) ?_
    refine lv_iconst (v := 1) hx hb dL_law_1165 (by decide) ?_
    refine lv_iadd hx hb dL_law_1166 ?_
    refine lv_topi (fun z510 ez510 => ?_)
    obtain rfl : z510 = 1 := ez510.trans (by decide)
    refine va_sld (i := 1) hx hb hX hbl hbA hS (vp_in_iff.mpr ⟨by decide, by decide⟩) dL_law_1167 ?_
    rw [es1]
    refine lv_aload_n hx hb dL_law_1168 rfl (lv_at hl 4 rfl) ?_
    refine lv_iload hx hb dL_law_1169 (lv_at hl 0 rfl) ?_
    refine lv_iconst (v := 2) hx hb dL_law_1171 (by decide) ?_
    refine lv_iadd hx hb dL_law_1172 ?_
    refine lv_topi (fun z511 ez511 => ?_)
    obtain rfl : z511 = 2 := ez511.trans (by decide)
    refine va_sld (i := 2) hx hb hX hbl hbA hS (vp_in_iff.mpr ⟨by decide, by decide⟩) dL_law_1173 ?_
    rw [es2]
    have hPc := hP.sub (ws' := [(q77, .inr (20, [.int 0, .ref q78, .int 0, .int 0, .ref q80, .ref q82, .ref q84, .ref q86, .ref q88, .ref q90, .ref q91, .ref q93, .ref q94, .ref q105, .ref q106, .ref q124, .ref q131, .int 0, .int 0, .int 0, .int 0, .int 0, .int 0, .int 0, .int 0, .int 0, .ref q132, .ref q133, .ref q134, .ref q135, .ref q136, .ref q137, .ref q138, .ref q139, .ref q140, .int 0]))]) [0] rfl
    have hDc := hD.sub (ws' := [(q77, .inr (20, [.int 0, .ref q78, .int 0, .int 0, .ref q80, .ref q82, .ref q84, .ref q86, .ref q88, .ref q90, .ref q91, .ref q93, .ref q94, .ref q105, .ref q106, .ref q124, .ref q131, .int 0, .int 0, .int 0, .int 0, .int 0, .int 0, .int 0, .int 0, .int 0, .ref q132, .ref q133, .ref q134, .ref q135, .ref q136, .ref q137, .ref q138, .ref q139, .ref q140, .int 0]))]) [0] (by decide) rfl
    have hKc := hK.sub (tys' := []) [] rfl
    have hFc := va_free (wc := [(q77, .inr (20, [.int 0, .ref q78, .int 0, .int 0, .ref q80, .ref q82, .ref q84, .ref q86, .ref q88, .ref q90, .ref q91, .ref q93, .ref q94, .ref q105, .ref q106, .ref q124, .ref q131, .int 0, .int 0, .int 0, .int 0, .int 0, .int 0, .int 0, .int 0, .int 0, .ref q132, .ref q133, .ref q134, .ref q135, .ref q136, .ref q137, .ref q138, .ref q139, .ref q140, .int 0]))]) hD hS hA [0] rfl
    refine va_calli (va_runV (As := [.int x1, .int x2]) (rest := [.int 0]) ⟨hx, hb, hml, hown, hts⟩ (k_X19_process l hlt dC dI q77 x1 x2 q78 q80 q82 q84 q86 q88 q90 q91 q93 q94 q105 q106 q124 q131 q132 q133 q134 q135 q136 q137 q138 q139 q140  H.size) (cwV 2 hts gl_48 rfl rfl rfl (by decide +kernel) ⟨Nat.le_of_ble_eq_true rfl, Nat.le_of_ble_eq_true rfl⟩) ⟨fun a U g mk q => by obtain ⟨q0, q1, qP, qK, qD, qN⟩ := q; exact ⟨q0, q1, qP, va_K.moved (u := U) (U := U.calling g mk a) (Vm.Alike.refl U.vm) qK, qD, nv_same rfl rfl qN⟩, va_recv hKc hPc (ci := 20) (q0 := 0) rfl rfl, fun U hU hW => ⟨rfl, by rw [hU], by rw [hU]; exact hPc, va_K.moved hW.alike hKc, hDc.weaken (fun _ _ _ _ => trivial), nv_call hS hFc hU hW hN⟩⟩ rfl rfl hl.1 rfl (lv_room (Nat.le_of_ble_eq_true rfl)) dL_law_1174 ⟨by decide +kernel, by decide +kernel⟩) hS (fun q _ h => hFc q h) hFc (fun r512 u t H1 locs ht hvm hw hB hz1 hk1 hS => ?_)
    rcases hw with ⟨c_4_0, h9⟩ | ⟨c_4_0, c_4_1, h9⟩ | ⟨c_4_0, c_4_1, c_4_2, h9⟩ | ⟨c_4_0, c_4_1, c_4_2, h9⟩ | h9
    · exact absurd c_4_0 c_1_2
    · exact absurd c_4_1 c_1_0
    · exact (cz_9 x2 c_1_0 c_1_1 c_1_2 c_1_3 c_4_2).elim
    · subst h9
      have hK1 := hK.sub (tys' := []) [] rfl
      obtain ⟨hP, hD⟩ := va_join (wr := []) (w1 := []) hP hD [0] [] rfl rfl (by decide) (by decide) hk1 hFc nv_P0 nv_D0
      have hK := (hK.sub (tys' := []) [] rfl).app hK1
      generalize H1 = H at hP hS ⊢
      have hP : va_P (dC, dI) vwCl [] H := hP
      have hD : va_D A [] := hD
      have hK : va_K (dC, dI) vwCl [] s := hK
      refine W.widen (k := 455) (n := 2511899) (by decide +kernel) (by decide +kernel) ?_
      refine lv_icmp_eq (tgt := 1493) hx hb dL_law_1177 (by decide) (fun _ => ?_) (fun h9 => absurd (by decide) h9)
      refine lv_iinc (v := 6) (lv' := [(4, .int 6), (3, .ref q143), (2, .ref q77), (1, .ref q1), (0, .ref b)]) hx hb dL_law_1493 hl (k := 0) rfl (by decide) (by decide) rfl (fun ls hl => ?_)
      refine lv_goto (tgt := 23) hx hb dL_law_1496 (by decide) ?_
      refine W.widen (k := 600002) (n := 7302232) (by decide +kernel) (by decide +kernel) ?_
      exact kkE _ _ _ hS (lv_sub hl [0, 4] rfl)
    · exact h9.elim
  · subst h9
    have hK1 := hK.sub (tys' := []) [] rfl
    obtain ⟨hP, hD⟩ := va_join (wr := [(q77, .inr (20, [.int 0, .ref q78, .int 0, .int 0, .ref q80, .ref q82, .ref q84, .ref q86, .ref q88, .ref q90, .ref q91, .ref q93, .ref q94, .ref q105, .ref q106, .ref q124, .ref q131, .int 0, .int 0, .int 0, .int 0, .int 0, .int 0, .int 0, .int 0, .int 0, .ref q132, .ref q133, .ref q134, .ref q135, .ref q136, .ref q137, .ref q138, .ref q139, .ref q140, .int 0]))]) (w1 := []) hP hD [0, 1] [2] rfl rfl (by decide) (by decide) hk1 hFc nv_P0 nv_D0
    have hK := (hK.sub (tys' := []) [] rfl).app hK1
    generalize H1 = H at hP hS ⊢
    have hP : va_P (dC, dI) vwCl [(q77, .inr (20, [.int 0, .ref q78, .int 0, .int 0, .ref q80, .ref q82, .ref q84, .ref q86, .ref q88, .ref q90, .ref q91, .ref q93, .ref q94, .ref q105, .ref q106, .ref q124, .ref q131, .int 0, .int 0, .int 0, .int 0, .int 0, .int 0, .int 0, .int 0, .int 0, .ref q132, .ref q133, .ref q134, .ref q135, .ref q136, .ref q137, .ref q138, .ref q139, .ref q140, .int 0]))] H := hP
    have hD : va_D A [(q77, .inr (20, [.int 0, .ref q78, .int 0, .int 0, .ref q80, .ref q82, .ref q84, .ref q86, .ref q88, .ref q90, .ref q91, .ref q93, .ref q94, .ref q105, .ref q106, .ref q124, .ref q131, .int 0, .int 0, .int 0, .int 0, .int 0, .int 0, .int 0, .int 0, .int 0, .ref q132, .ref q133, .ref q134, .ref q135, .ref q136, .ref q137, .ref q138, .ref q139, .ref q140, .int 0]))] := hD
    have hK : va_K (dC, dI) vwCl [] s := hK
    refine W.widen (k := 455) (n := 2511899) (by decide +kernel) (by decide +kernel) ?_
    refine lv_aload_n hx hb dL_law_1161 rfl (lv_at hl 2 rfl) ?_
    refine lv_aload_n hx hb dL_law_1162 rfl (lv_at hl 4 rfl) ?_
    refine lv_iload hx hb dL_law_1163 (lv_at hl 0 rfl) ?_
    refine lv_iconst (v := 1) hx hb dL_law_1165 (by decide) ?_
    refine lv_iadd hx hb dL_law_1166 ?_
    refine lv_topi (fun z513 ez513 => ?_)
    obtain rfl : z513 = 1 := ez513.trans (by decide)
    refine va_sld (i := 1) hx hb hX hbl hbA hS (vp_in_iff.mpr ⟨by decide, by decide⟩) dL_law_1167 ?_
    rw [es1]
    refine lv_aload_n hx hb dL_law_1168 rfl (lv_at hl 4 rfl) ?_
    refine lv_iload hx hb dL_law_1169 (lv_at hl 0 rfl) ?_
    refine lv_iconst (v := 2) hx hb dL_law_1171 (by decide) ?_
    refine lv_iadd hx hb dL_law_1172 ?_
    refine lv_topi (fun z514 ez514 => ?_)
    obtain rfl : z514 = 2 := ez514.trans (by decide)
    refine va_sld (i := 2) hx hb hX hbl hbA hS (vp_in_iff.mpr ⟨by decide, by decide⟩) dL_law_1173 ?_
    rw [es2]
    have hPc := hP.sub (ws' := [(q77, .inr (20, [.int 0, .ref q78, .int 0, .int 0, .ref q80, .ref q82, .ref q84, .ref q86, .ref q88, .ref q90, .ref q91, .ref q93, .ref q94, .ref q105, .ref q106, .ref q124, .ref q131, .int 0, .int 0, .int 0, .int 0, .int 0, .int 0, .int 0, .int 0, .int 0, .ref q132, .ref q133, .ref q134, .ref q135, .ref q136, .ref q137, .ref q138, .ref q139, .ref q140, .int 0]))]) [0] rfl
    have hDc := hD.sub (ws' := [(q77, .inr (20, [.int 0, .ref q78, .int 0, .int 0, .ref q80, .ref q82, .ref q84, .ref q86, .ref q88, .ref q90, .ref q91, .ref q93, .ref q94, .ref q105, .ref q106, .ref q124, .ref q131, .int 0, .int 0, .int 0, .int 0, .int 0, .int 0, .int 0, .int 0, .int 0, .ref q132, .ref q133, .ref q134, .ref q135, .ref q136, .ref q137, .ref q138, .ref q139, .ref q140, .int 0]))]) [0] (by decide) rfl
    have hKc := hK.sub (tys' := []) [] rfl
    have hFc := va_free (wc := [(q77, .inr (20, [.int 0, .ref q78, .int 0, .int 0, .ref q80, .ref q82, .ref q84, .ref q86, .ref q88, .ref q90, .ref q91, .ref q93, .ref q94, .ref q105, .ref q106, .ref q124, .ref q131, .int 0, .int 0, .int 0, .int 0, .int 0, .int 0, .int 0, .int 0, .int 0, .ref q132, .ref q133, .ref q134, .ref q135, .ref q136, .ref q137, .ref q138, .ref q139, .ref q140, .int 0]))]) hD hS hA [0] rfl
    refine va_calli (va_runV (As := [.int x1, .int x2]) (rest := [.int (-1)]) ⟨hx, hb, hml, hown, hts⟩ (k_X19_process l hlt dC dI q77 x1 x2 q78 q80 q82 q84 q86 q88 q90 q91 q93 q94 q105 q106 q124 q131 q132 q133 q134 q135 q136 q137 q138 q139 q140  H.size) (cwV 2 hts gl_48 rfl rfl rfl (by decide +kernel) ⟨Nat.le_of_ble_eq_true rfl, Nat.le_of_ble_eq_true rfl⟩) ⟨fun a U g mk q => by obtain ⟨q0, q1, qP, qK, qD, qN⟩ := q; exact ⟨q0, q1, qP, va_K.moved (u := U) (U := U.calling g mk a) (Vm.Alike.refl U.vm) qK, qD, nv_same rfl rfl qN⟩, va_recv hKc hPc (ci := 20) (q0 := 0) rfl rfl, fun U hU hW => ⟨rfl, by rw [hU], by rw [hU]; exact hPc, va_K.moved hW.alike hKc, hDc.weaken (fun _ _ _ _ => trivial), nv_call hS hFc hU hW hN⟩⟩ rfl rfl hl.1 rfl (lv_room (Nat.le_of_ble_eq_true rfl)) dL_law_1174 ⟨by decide +kernel, by decide +kernel⟩) hS (fun q _ h => hFc q h) hFc (fun r515 u t H1 locs ht hvm hw hB hz1 hk1 hS => ?_)
    rcases hw with ⟨c_5_0, h9⟩ | ⟨c_5_0, c_5_1, h9⟩ | ⟨c_5_0, c_5_1, c_5_2, h9⟩ | ⟨c_5_0, c_5_1, c_5_2, h9⟩ | h9
    · exact absurd c_5_0 c_1_2
    · exact absurd c_5_1 c_1_0
    · subst h9
      have hK1 := hK.sub (tys' := []) [] rfl
      obtain ⟨hP, hD⟩ := va_join (wr := []) (w1 := []) hP hD [0] [] rfl rfl (by decide) (by decide) hk1 hFc nv_P0 nv_D0
      have hK := (hK.sub (tys' := []) [] rfl).app hK1
      generalize H1 = H at hP hS ⊢
      have hP : va_P (dC, dI) vwCl [] H := hP
      have hD : va_D A [] := hD
      have hK : va_K (dC, dI) vwCl [] s := hK
      refine W.widen (k := 455) (n := 2511899) (by decide +kernel) (by decide +kernel) ?_
      refine lv_icmp_eq (tgt := 1493) hx hb dL_law_1177 (by decide) (fun _ => ?_) (fun h9 => absurd (by decide) h9)
      refine lv_iinc (v := 6) (lv' := [(4, .int 6), (3, .ref q143), (2, .ref q77), (1, .ref q1), (0, .ref b)]) hx hb dL_law_1493 hl (k := 0) rfl (by decide) (by decide) rfl (fun ls hl => ?_)
      refine lv_goto (tgt := 23) hx hb dL_law_1496 (by decide) ?_
      refine W.widen (k := 600002) (n := 7302232) (by decide +kernel) (by decide +kernel) ?_
      exact kkE _ _ _ hS (lv_sub hl [0, 4] rfl)
    · exact (cz_10 x2 c_1_0 c_1_1 c_1_2 c_1_3 c_5_2).elim
    · exact h9.elim
  · subst h9
    have hK1 := hK.sub (tys' := []) [] rfl
    obtain ⟨hP, hD⟩ := va_join (wr := [(q77, .inr (20, [.int 0, .ref q78, .int 0, .int 0, .ref q80, .ref q82, .ref q84, .ref q86, .ref q88, .ref q90, .ref q91, .ref q93, .ref q94, .ref q105, .ref q106, .ref q124, .ref q131, .int 0, .int 0, .int 0, .int 0, .int 0, .int 0, .int 0, .int 0, .int 0, .ref q132, .ref q133, .ref q134, .ref q135, .ref q136, .ref q137, .ref q138, .ref q139, .ref q140, .int 0]))]) (w1 := []) hP hD [0, 1] [2] rfl rfl (by decide) (by decide) hk1 hFc nv_P0 nv_D0
    have hK := (hK.sub (tys' := []) [] rfl).app hK1
    generalize H1 = H at hP hS ⊢
    have hP : va_P (dC, dI) vwCl [(q77, .inr (20, [.int 0, .ref q78, .int 0, .int 0, .ref q80, .ref q82, .ref q84, .ref q86, .ref q88, .ref q90, .ref q91, .ref q93, .ref q94, .ref q105, .ref q106, .ref q124, .ref q131, .int 0, .int 0, .int 0, .int 0, .int 0, .int 0, .int 0, .int 0, .int 0, .ref q132, .ref q133, .ref q134, .ref q135, .ref q136, .ref q137, .ref q138, .ref q139, .ref q140, .int 0]))] H := hP
    have hD : va_D A [(q77, .inr (20, [.int 0, .ref q78, .int 0, .int 0, .ref q80, .ref q82, .ref q84, .ref q86, .ref q88, .ref q90, .ref q91, .ref q93, .ref q94, .ref q105, .ref q106, .ref q124, .ref q131, .int 0, .int 0, .int 0, .int 0, .int 0, .int 0, .int 0, .int 0, .int 0, .ref q132, .ref q133, .ref q134, .ref q135, .ref q136, .ref q137, .ref q138, .ref q139, .ref q140, .int 0]))] := hD
    have hK : va_K (dC, dI) vwCl [] s := hK
    refine W.widen (k := 455) (n := 2511899) (by decide +kernel) (by decide +kernel) ?_
    refine lv_aload_n hx hb dL_law_1161 rfl (lv_at hl 2 rfl) ?_
    refine lv_aload_n hx hb dL_law_1162 rfl (lv_at hl 4 rfl) ?_
    refine lv_iload hx hb dL_law_1163 (lv_at hl 0 rfl) ?_
    refine lv_iconst (v := 1) hx hb dL_law_1165 (by decide) ?_
    refine lv_iadd hx hb dL_law_1166 ?_
    refine lv_topi (fun z516 ez516 => ?_)
    obtain rfl : z516 = 1 := ez516.trans (by decide)
    refine va_sld (i := 1) hx hb hX hbl hbA hS (vp_in_iff.mpr ⟨by decide, by decide⟩) dL_law_1167 ?_
    rw [es1]
    refine lv_aload_n hx hb dL_law_1168 rfl (lv_at hl 4 rfl) ?_
    refine lv_iload hx hb dL_law_1169 (lv_at hl 0 rfl) ?_
    refine lv_iconst (v := 2) hx hb dL_law_1171 (by decide) ?_
    refine lv_iadd hx hb dL_law_1172 ?_
    refine lv_topi (fun z517 ez517 => ?_)
    obtain rfl : z517 = 2 := ez517.trans (by decide)
    refine va_sld (i := 2) hx hb hX hbl hbA hS (vp_in_iff.mpr ⟨by decide, by decide⟩) dL_law_1173 ?_
    rw [es2]
    have hPc := hP.sub (ws' := [(q77, .inr (20, [.int 0, .ref q78, .int 0, .int 0, .ref q80, .ref q82, .ref q84, .ref q86, .ref q88, .ref q90, .ref q91, .ref q93, .ref q94, .ref q105, .ref q106, .ref q124, .ref q131, .int 0, .int 0, .int 0, .int 0, .int 0, .int 0, .int 0, .int 0, .int 0, .ref q132, .ref q133, .ref q134, .ref q135, .ref q136, .ref q137, .ref q138, .ref q139, .ref q140, .int 0]))]) [0] rfl
    have hDc := hD.sub (ws' := [(q77, .inr (20, [.int 0, .ref q78, .int 0, .int 0, .ref q80, .ref q82, .ref q84, .ref q86, .ref q88, .ref q90, .ref q91, .ref q93, .ref q94, .ref q105, .ref q106, .ref q124, .ref q131, .int 0, .int 0, .int 0, .int 0, .int 0, .int 0, .int 0, .int 0, .int 0, .ref q132, .ref q133, .ref q134, .ref q135, .ref q136, .ref q137, .ref q138, .ref q139, .ref q140, .int 0]))]) [0] (by decide) rfl
    have hKc := hK.sub (tys' := []) [] rfl
    have hFc := va_free (wc := [(q77, .inr (20, [.int 0, .ref q78, .int 0, .int 0, .ref q80, .ref q82, .ref q84, .ref q86, .ref q88, .ref q90, .ref q91, .ref q93, .ref q94, .ref q105, .ref q106, .ref q124, .ref q131, .int 0, .int 0, .int 0, .int 0, .int 0, .int 0, .int 0, .int 0, .int 0, .ref q132, .ref q133, .ref q134, .ref q135, .ref q136, .ref q137, .ref q138, .ref q139, .ref q140, .int 0]))]) hD hS hA [0] rfl
    refine va_calli (va_runV (As := [.int x1, .int x2]) (rest := [.int (-1)]) ⟨hx, hb, hml, hown, hts⟩ (k_X19_process l hlt dC dI q77 x1 x2 q78 q80 q82 q84 q86 q88 q90 q91 q93 q94 q105 q106 q124 q131 q132 q133 q134 q135 q136 q137 q138 q139 q140  H.size) (cwV 2 hts gl_48 rfl rfl rfl (by decide +kernel) ⟨Nat.le_of_ble_eq_true rfl, Nat.le_of_ble_eq_true rfl⟩) ⟨fun a U g mk q => by obtain ⟨q0, q1, qP, qK, qD, qN⟩ := q; exact ⟨q0, q1, qP, va_K.moved (u := U) (U := U.calling g mk a) (Vm.Alike.refl U.vm) qK, qD, nv_same rfl rfl qN⟩, va_recv hKc hPc (ci := 20) (q0 := 0) rfl rfl, fun U hU hW => ⟨rfl, by rw [hU], by rw [hU]; exact hPc, va_K.moved hW.alike hKc, hDc.weaken (fun _ _ _ _ => trivial), nv_call hS hFc hU hW hN⟩⟩ rfl rfl hl.1 rfl (lv_room (Nat.le_of_ble_eq_true rfl)) dL_law_1174 ⟨by decide +kernel, by decide +kernel⟩) hS (fun q _ h => hFc q h) hFc (fun r518 u t H1 locs ht hvm hw hB hz1 hk1 hS => ?_)
    rcases hw with ⟨c_6_0, h9⟩ | ⟨c_6_0, c_6_1, h9⟩ | ⟨c_6_0, c_6_1, c_6_2, h9⟩ | ⟨c_6_0, c_6_1, c_6_2, h9⟩ | h9
    · exact (cz_11 x2 c_1_0 c_1_1 c_6_0).elim
    · exact absurd c_6_1 c_1_0
    · subst h9
      have hK1 := hK.sub (tys' := []) [] rfl
      obtain ⟨hP, hD⟩ := va_join (wr := []) (w1 := []) hP hD [0] [] rfl rfl (by decide) (by decide) hk1 hFc nv_P0 nv_D0
      have hK := (hK.sub (tys' := []) [] rfl).app hK1
      generalize H1 = H at hP hS ⊢
      have hP : va_P (dC, dI) vwCl [] H := hP
      have hD : va_D A [] := hD
      have hK : va_K (dC, dI) vwCl [] s := hK
      refine W.widen (k := 455) (n := 2511899) (by decide +kernel) (by decide +kernel) ?_
      refine lv_icmp_eq (tgt := 1493) hx hb dL_law_1177 (by decide) (fun _ => ?_) (fun h9 => absurd (by decide) h9)
      refine lv_iinc (v := 6) (lv' := [(4, .int 6), (3, .ref q143), (2, .ref q77), (1, .ref q1), (0, .ref b)]) hx hb dL_law_1493 hl (k := 0) rfl (by decide) (by decide) rfl (fun ls hl => ?_)
      refine lv_goto (tgt := 23) hx hb dL_law_1496 (by decide) ?_
      refine W.widen (k := 600002) (n := 7302232) (by decide +kernel) (by decide +kernel) ?_
      exact kkE _ _ _ hS (lv_sub hl [0, 4] rfl)
    · exact (cz_12 x2 c_1_0 c_1_1 c_6_0 c_6_2).elim
    · exact h9.elim
  · exact h9.elim
set_option maxHeartbeats 40000000 in
set_option maxRecDepth 100000 in
theorem law_c22 {p : Program} {l : Launch} {e : Env} {s : State} {m : MethodId} {below : List Frame} {meth : Method} {c : Code} {Q : State → Prop} {A : Nat → Prop} {b : Nat} (hlt : l.stackTraces = false) (hx : p.tables.exec = Jvm.exec) (hb : c.code = code) (hml : c.maxLocals = 8) (hown : s.vm.findClass RL = some m.cls) (hts : ∀ w ∈ lw_tbl, w.before #[Value.ref b] s = true) (hN : nv_E A s) (hA : ∀ q : Nat, s.heap.size ≤ q → A q) (hDe : nv_Dc s) (dC : Nat → ClassId) (dI : Nat → Nat → Nat) (q1 : Nat) (q2 : Nat) (q4 : Nat) (q6 : Nat) (q8 : Nat) (q22 : Nat) (q23 : Nat) (q25 : Nat) (q31 : Nat) (q32 : Nat) (q33 : Nat) (q34 : Nat) (q35 : Nat) (q36 : Nat) (q37 : Nat) (q39 : Nat) (q41 : Nat) (q43 : Nat) (q77 : Nat) (q78 : Nat) (q80 : Nat) (q82 : Nat) (q84 : Nat) (q86 : Nat) (q88 : Nat) (q90 : Nat) (q91 : Nat) (q93 : Nat) (q94 : Nat) (q105 : Nat) (q106 : Nat) (q124 : Nat) (q131 : Nat) (q132 : Nat) (q133 : Nat) (q134 : Nat) (q135 : Nat) (q136 : Nat) (q137 : Nat) (q138 : Nat) (q139 : Nat) (q140 : Nat) (q143 : Nat) {xs : Nat → Int32} (hX : va_X b 6 xs s s.heap) (hbl : b < s.heap.size) (hbA : ¬ A b) (x0 : Int32) (es0 : xs (Int32.toNatClampNeg 0) = x0) (x1 : Int32) (es1 : xs (Int32.toNatClampNeg 1) = x1) (x2 : Int32) (es2 : xs (Int32.toNatClampNeg 2) = x2) (x3 : Int32) (es3 : xs (Int32.toNatClampNeg 3) = x3) (x4 : Int32) (es4 : xs (Int32.toNatClampNeg 4) = x4) (x5 : Int32) (es5 : xs (Int32.toNatClampNeg 5) = x5) {H : Heap} {locs : List Loc} {ls : Array Slot} (hK : va_K (dC, dI) vwCl [] s) (hP : va_P (dC, dI) vwCl [(q1, .inr (13, [.ref q2, .int 0, .int 0, .ref q4, .ref q6, .ref q8, .ref q22, .ref q37, .ref q39, .ref q41, .int 0, .ref q43])), (q22, .inr (12, [.ref q23, .ref q25, .ref q31, .ref q32, .ref q33, .ref q34, .int 0, .ref q35, .ref q36, .int 0, .int 0, .int 0, .int 0, .int 0, .int 0, .int 0])), (q77, .inr (20, [.int 0, .ref q78, .int 0, .int 0, .ref q80, .ref q82, .ref q84, .ref q86, .ref q88, .ref q90, .ref q91, .ref q93, .ref q94, .ref q105, .ref q106, .ref q124, .ref q131, .int 0, .int 0, .int 0, .int 0, .int 0, .int 0, .int 0, .int 0, .int 0, .ref q132, .ref q133, .ref q134, .ref q135, .ref q136, .ref q137, .ref q138, .ref q139, .ref q140, .int 0]))] H) (hD : va_D A [(q1, .inr (13, [.ref q2, .int 0, .int 0, .ref q4, .ref q6, .ref q8, .ref q22, .ref q37, .ref q39, .ref q41, .int 0, .ref q43])), (q22, .inr (12, [.ref q23, .ref q25, .ref q31, .ref q32, .ref q33, .ref q34, .int 0, .ref q35, .ref q36, .int 0, .int 0, .int 0, .int 0, .int 0, .int 0, .int 0])), (q77, .inr (20, [.int 0, .ref q78, .int 0, .int 0, .ref q80, .ref q82, .ref q84, .ref q86, .ref q88, .ref q90, .ref q91, .ref q93, .ref q94, .ref q105, .ref q106, .ref q124, .ref q131, .int 0, .int 0, .int 0, .int 0, .int 0, .int 0, .int 0, .int 0, .int 0, .ref q132, .ref q133, .ref q134, .ref q135, .ref q136, .ref q137, .ref q138, .ref q139, .ref q140, .int 0]))]) (hS : va_S A s.heap H locs) (hl : lv_has ls 8 [(4, .int 0), (3, .ref q143), (2, .ref q77), (1, .ref q1), (0, .ref b)]) (kkE : ∀ (H : Heap) (locs : List Loc) (ls : Array Slot), va_S A s.heap H locs → lv_has ls 8 [(4, .int 6), (0, .ref b)] → W p l e room_1 s m #[Value.ref b] below meth c H locs 600002 7302232 Q (F0 m 23 ls [])) : W p l e room_1 s m #[Value.ref b] below meth c H locs 455 2511899 Q (F0 m 1182 ls []) := by
  refine lv_aload_n hx hb dL_law_1182 rfl (lv_at hl 3 rfl) ?_
  refine lv_aload_n hx hb dL_law_1183 rfl (lv_at hl 4 rfl) ?_
  refine lv_iload hx hb dL_law_1184 (lv_at hl 0 rfl) ?_
  refine lv_iconst (v := 1) hx hb dL_law_1186 (by decide) ?_
  refine lv_iadd hx hb dL_law_1187 ?_
  refine lv_topi (fun z501 ez501 => ?_)
  obtain rfl : z501 = 1 := ez501.trans (by decide)
  refine va_sld (i := 1) hx hb hX hbl hbA hS (vp_in_iff.mpr ⟨by decide, by decide⟩) dL_law_1188 ?_
  rw [es1]
  refine lv_aload_n hx hb dL_law_1189 rfl (lv_at hl 4 rfl) ?_
  refine lv_iload hx hb dL_law_1190 (lv_at hl 0 rfl) ?_
  refine lv_iconst (v := 2) hx hb dL_law_1192 (by decide) ?_
  refine lv_iadd hx hb dL_law_1193 ?_
  refine lv_topi (fun z502 ez502 => ?_)
  obtain rfl : z502 = 2 := ez502.trans (by decide)
  refine va_sld (i := 2) hx hb hX hbl hbA hS (vp_in_iff.mpr ⟨by decide, by decide⟩) dL_law_1194 ?_
  rw [es2]
  have hPc := hP.sub (ws' := [(q1, .inr (13, [.ref q2, .int 0, .int 0, .ref q4, .ref q6, .ref q8, .ref q22, .ref q37, .ref q39, .ref q41, .int 0, .ref q43])), (q22, .inr (12, [.ref q23, .ref q25, .ref q31, .ref q32, .ref q33, .ref q34, .int 0, .ref q35, .ref q36, .int 0, .int 0, .int 0, .int 0, .int 0, .int 0, .int 0]))]) [0, 1] rfl
  have hDc := hD.sub (ws' := [(q1, .inr (13, [.ref q2, .int 0, .int 0, .ref q4, .ref q6, .ref q8, .ref q22, .ref q37, .ref q39, .ref q41, .int 0, .ref q43])), (q22, .inr (12, [.ref q23, .ref q25, .ref q31, .ref q32, .ref q33, .ref q34, .int 0, .ref q35, .ref q36, .int 0, .int 0, .int 0, .int 0, .int 0, .int 0, .int 0]))]) [0, 1] (by decide) rfl
  have hKc := hK.sub (tys' := []) [] rfl
  have hFc := va_free (wc := [(q1, .inr (13, [.ref q2, .int 0, .int 0, .ref q4, .ref q6, .ref q8, .ref q22, .ref q37, .ref q39, .ref q41, .int 0, .ref q43])), (q22, .inr (12, [.ref q23, .ref q25, .ref q31, .ref q32, .ref q33, .ref q34, .int 0, .ref q35, .ref q36, .int 0, .int 0, .int 0, .int 0, .int 0, .int 0, .int 0]))]) hD hS hA [0, 1] rfl
  refine va_calli (va_runV (As := [.int x1, .int x2]) (rest := []) ⟨hx, hb, hml, hown, hts⟩ (k_X12_peek l hlt dC dI q1 q22 x1 x2 q2 q4 q6 q8 q37 q39 q41 q43 q23 q25 q31 q32 q33 q34 q35 q36  H.size) (cwV 2 hts gl_49 rfl rfl rfl (by decide +kernel) ⟨Nat.le_of_ble_eq_true rfl, Nat.le_of_ble_eq_true rfl⟩) ⟨fun a U g mk q => by obtain ⟨q0, q1, qP, qK, qD, qN⟩ := q; exact ⟨q0, q1, qP, va_K.moved (u := U) (U := U.calling g mk a) (Vm.Alike.refl U.vm) qK, qD, nv_same rfl rfl qN⟩, va_recv hKc hPc (ci := 13) (q0 := 0) rfl rfl, fun U hU hW => ⟨rfl, by rw [hU], by rw [hU]; exact hPc, va_K.moved hW.alike hKc, hDc.weaken (fun _ _ _ _ => trivial), nv_call hS hFc hU hW hN⟩⟩ rfl rfl hl.1 rfl (lv_room (Nat.le_of_ble_eq_true rfl)) dL_law_1195 ⟨by decide +kernel, by decide +kernel⟩) hS (fun q _ h => hFc q h) hFc (fun r503 u t H1 locs ht hvm hw hB hz1 hk1 hS => ?_)
  obtain ⟨hP1, hK1, hD1⟩ := hB
  rw [ht] at hP1
  have hK1 := va_K.moved hvm.symm hK1
  obtain rfl : r503 = (-1) := hw
  obtain ⟨hP, hD⟩ := va_join (wr := [(q77, .inr (20, [.int 0, .ref q78, .int 0, .int 0, .ref q80, .ref q82, .ref q84, .ref q86, .ref q88, .ref q90, .ref q91, .ref q93, .ref q94, .ref q105, .ref q106, .ref q124, .ref q131, .int 0, .int 0, .int 0, .int 0, .int 0, .int 0, .int 0, .int 0, .int 0, .ref q132, .ref q133, .ref q134, .ref q135, .ref q136, .ref q137, .ref q138, .ref q139, .ref q140, .int 0]))]) (w1 := [(q1, .inr (13, [.ref q2, .int 0, .int 0, .ref q4, .ref q6, .ref q8, .ref q22, .ref q37, .ref q39, .ref q41, .int 0, .ref q43])), (q22, .inr (12, [.ref q23, .ref q25, .ref q31, .ref q32, .ref q33, .ref q34, .int 0, .ref q35, .ref q36, .int 0, .int 0, .int 0, .int 0, .int 0, .int 0, .int 0]))]) hP hD [0, 1] [2] rfl rfl (by decide) (by decide) hk1 hFc hP1 hD1
  have hK := (hK.sub (tys' := []) [] rfl).app hK1
  generalize H1 = H at hP hS ⊢
  have hP : va_P (dC, dI) vwCl [(q77, .inr (20, [.int 0, .ref q78, .int 0, .int 0, .ref q80, .ref q82, .ref q84, .ref q86, .ref q88, .ref q90, .ref q91, .ref q93, .ref q94, .ref q105, .ref q106, .ref q124, .ref q131, .int 0, .int 0, .int 0, .int 0, .int 0, .int 0, .int 0, .int 0, .int 0, .ref q132, .ref q133, .ref q134, .ref q135, .ref q136, .ref q137, .ref q138, .ref q139, .ref q140, .int 0])), (q1, .inr (13, [.ref q2, .int 0, .int 0, .ref q4, .ref q6, .ref q8, .ref q22, .ref q37, .ref q39, .ref q41, .int 0, .ref q43])), (q22, .inr (12, [.ref q23, .ref q25, .ref q31, .ref q32, .ref q33, .ref q34, .int 0, .ref q35, .ref q36, .int 0, .int 0, .int 0, .int 0, .int 0, .int 0, .int 0]))] H := hP
  have hD : va_D A [(q77, .inr (20, [.int 0, .ref q78, .int 0, .int 0, .ref q80, .ref q82, .ref q84, .ref q86, .ref q88, .ref q90, .ref q91, .ref q93, .ref q94, .ref q105, .ref q106, .ref q124, .ref q131, .int 0, .int 0, .int 0, .int 0, .int 0, .int 0, .int 0, .int 0, .int 0, .ref q132, .ref q133, .ref q134, .ref q135, .ref q136, .ref q137, .ref q138, .ref q139, .ref q140, .int 0])), (q1, .inr (13, [.ref q2, .int 0, .int 0, .ref q4, .ref q6, .ref q8, .ref q22, .ref q37, .ref q39, .ref q41, .int 0, .ref q43])), (q22, .inr (12, [.ref q23, .ref q25, .ref q31, .ref q32, .ref q33, .ref q34, .int 0, .ref q35, .ref q36, .int 0, .int 0, .int 0, .int 0, .int 0, .int 0, .int 0]))] := hD
  have hK : va_K (dC, dI) vwCl [] s := hK
  refine W.widen (k := 455) (n := 2511899) (by decide +kernel) (by decide +kernel) ?_
  refine lv_aload_n hx hb dL_law_1198 rfl (lv_at hl 2 rfl) ?_
  refine lv_aload_n hx hb dL_law_1199 rfl (lv_at hl 4 rfl) ?_
  refine lv_iload hx hb dL_law_1200 (lv_at hl 0 rfl) ?_
  refine lv_iconst (v := 1) hx hb dL_law_1202 (by decide) ?_
  refine lv_iadd hx hb dL_law_1203 ?_
  refine lv_topi (fun z504 ez504 => ?_)
  obtain rfl : z504 = 1 := ez504.trans (by decide)
  refine va_sld (i := 1) hx hb hX hbl hbA hS (vp_in_iff.mpr ⟨by decide, by decide⟩) dL_law_1204 ?_
  rw [es1]
  refine lv_aload_n hx hb dL_law_1205 rfl (lv_at hl 4 rfl) ?_
  refine lv_iload hx hb dL_law_1206 (lv_at hl 0 rfl) ?_
  refine lv_iconst (v := 2) hx hb dL_law_1208 (by decide) ?_
  refine lv_iadd hx hb dL_law_1209 ?_
  refine lv_topi (fun z505 ez505 => ?_)
  obtain rfl : z505 = 2 := ez505.trans (by decide)
  refine va_sld (i := 2) hx hb hX hbl hbA hS (vp_in_iff.mpr ⟨by decide, by decide⟩) dL_law_1210 ?_
  rw [es2]
  have hPc := hP.sub (ws' := [(q77, .inr (20, [.int 0, .ref q78, .int 0, .int 0, .ref q80, .ref q82, .ref q84, .ref q86, .ref q88, .ref q90, .ref q91, .ref q93, .ref q94, .ref q105, .ref q106, .ref q124, .ref q131, .int 0, .int 0, .int 0, .int 0, .int 0, .int 0, .int 0, .int 0, .int 0, .ref q132, .ref q133, .ref q134, .ref q135, .ref q136, .ref q137, .ref q138, .ref q139, .ref q140, .int 0]))]) [0] rfl
  have hDc := hD.sub (ws' := [(q77, .inr (20, [.int 0, .ref q78, .int 0, .int 0, .ref q80, .ref q82, .ref q84, .ref q86, .ref q88, .ref q90, .ref q91, .ref q93, .ref q94, .ref q105, .ref q106, .ref q124, .ref q131, .int 0, .int 0, .int 0, .int 0, .int 0, .int 0, .int 0, .int 0, .int 0, .ref q132, .ref q133, .ref q134, .ref q135, .ref q136, .ref q137, .ref q138, .ref q139, .ref q140, .int 0]))]) [0] (by decide) rfl
  have hKc := hK.sub (tys' := []) [] rfl
  have hFc := va_free (wc := [(q77, .inr (20, [.int 0, .ref q78, .int 0, .int 0, .ref q80, .ref q82, .ref q84, .ref q86, .ref q88, .ref q90, .ref q91, .ref q93, .ref q94, .ref q105, .ref q106, .ref q124, .ref q131, .int 0, .int 0, .int 0, .int 0, .int 0, .int 0, .int 0, .int 0, .int 0, .ref q132, .ref q133, .ref q134, .ref q135, .ref q136, .ref q137, .ref q138, .ref q139, .ref q140, .int 0]))]) hD hS hA [0] rfl
  refine va_calli (va_runV (As := [.int x1, .int x2]) (rest := [.int (-1)]) ⟨hx, hb, hml, hown, hts⟩ (k_X19_peek l hlt dC dI q77 x1 x2 q78 q80 q82 q84 q86 q88 q90 q91 q93 q94 q105 q106 q124 q131 q132 q133 q134 q135 q136 q137 q138 q139 q140  H.size) (cwV 2 hts gl_50 rfl rfl rfl (by decide +kernel) ⟨Nat.le_of_ble_eq_true rfl, Nat.le_of_ble_eq_true rfl⟩) ⟨fun a U g mk q => by obtain ⟨q0, q1, qP, qK, qD, qN⟩ := q; exact ⟨q0, q1, qP, va_K.moved (u := U) (U := U.calling g mk a) (Vm.Alike.refl U.vm) qK, qD, nv_same rfl rfl qN⟩, va_recv hKc hPc (ci := 20) (q0 := 0) rfl rfl, fun U hU hW => ⟨rfl, by rw [hU], by rw [hU]; exact hPc, va_K.moved hW.alike hKc, hDc.weaken (fun _ _ _ _ => trivial), nv_call hS hFc hU hW hN⟩⟩ rfl rfl hl.1 rfl (lv_room (Nat.le_of_ble_eq_true rfl)) dL_law_1211 ⟨by decide +kernel, by decide +kernel⟩) hS (fun q _ h => hFc q h) hFc (fun r506 u t H1 locs ht hvm hw hB hz1 hk1 hS => ?_)
  obtain ⟨hP1, hK1, hD1⟩ := hB
  rw [ht] at hP1
  have hK1 := va_K.moved hvm.symm hK1
  obtain rfl : r506 = (-1) := hw
  obtain ⟨hP, hD⟩ := va_join (wr := [(q1, .inr (13, [.ref q2, .int 0, .int 0, .ref q4, .ref q6, .ref q8, .ref q22, .ref q37, .ref q39, .ref q41, .int 0, .ref q43])), (q22, .inr (12, [.ref q23, .ref q25, .ref q31, .ref q32, .ref q33, .ref q34, .int 0, .ref q35, .ref q36, .int 0, .int 0, .int 0, .int 0, .int 0, .int 0, .int 0]))]) (w1 := [(q77, .inr (20, [.int 0, .ref q78, .int 0, .int 0, .ref q80, .ref q82, .ref q84, .ref q86, .ref q88, .ref q90, .ref q91, .ref q93, .ref q94, .ref q105, .ref q106, .ref q124, .ref q131, .int 0, .int 0, .int 0, .int 0, .int 0, .int 0, .int 0, .int 0, .int 0, .ref q132, .ref q133, .ref q134, .ref q135, .ref q136, .ref q137, .ref q138, .ref q139, .ref q140, .int 0]))]) hP hD [0] [1, 2] rfl rfl (by decide) (by decide) hk1 hFc hP1 hD1
  have hK := (hK.sub (tys' := []) [] rfl).app hK1
  generalize H1 = H at hP hS ⊢
  have hP : va_P (dC, dI) vwCl [(q1, .inr (13, [.ref q2, .int 0, .int 0, .ref q4, .ref q6, .ref q8, .ref q22, .ref q37, .ref q39, .ref q41, .int 0, .ref q43])), (q22, .inr (12, [.ref q23, .ref q25, .ref q31, .ref q32, .ref q33, .ref q34, .int 0, .ref q35, .ref q36, .int 0, .int 0, .int 0, .int 0, .int 0, .int 0, .int 0])), (q77, .inr (20, [.int 0, .ref q78, .int 0, .int 0, .ref q80, .ref q82, .ref q84, .ref q86, .ref q88, .ref q90, .ref q91, .ref q93, .ref q94, .ref q105, .ref q106, .ref q124, .ref q131, .int 0, .int 0, .int 0, .int 0, .int 0, .int 0, .int 0, .int 0, .int 0, .ref q132, .ref q133, .ref q134, .ref q135, .ref q136, .ref q137, .ref q138, .ref q139, .ref q140, .int 0]))] H := hP
  have hD : va_D A [(q1, .inr (13, [.ref q2, .int 0, .int 0, .ref q4, .ref q6, .ref q8, .ref q22, .ref q37, .ref q39, .ref q41, .int 0, .ref q43])), (q22, .inr (12, [.ref q23, .ref q25, .ref q31, .ref q32, .ref q33, .ref q34, .int 0, .ref q35, .ref q36, .int 0, .int 0, .int 0, .int 0, .int 0, .int 0, .int 0])), (q77, .inr (20, [.int 0, .ref q78, .int 0, .int 0, .ref q80, .ref q82, .ref q84, .ref q86, .ref q88, .ref q90, .ref q91, .ref q93, .ref q94, .ref q105, .ref q106, .ref q124, .ref q131, .int 0, .int 0, .int 0, .int 0, .int 0, .int 0, .int 0, .int 0, .int 0, .ref q132, .ref q133, .ref q134, .ref q135, .ref q136, .ref q137, .ref q138, .ref q139, .ref q140, .int 0]))] := hD
  have hK : va_K (dC, dI) vwCl [] s := hK
  refine W.widen (k := 455) (n := 2511899) (by decide +kernel) (by decide +kernel) ?_
  refine lv_icmp_eq (tgt := 1493) hx hb dL_law_1214 (by decide) (fun _ => ?_) (fun h9 => absurd (by decide) h9)
  refine lv_iinc (v := 6) (lv' := [(4, .int 6), (3, .ref q143), (2, .ref q77), (1, .ref q1), (0, .ref b)]) hx hb dL_law_1493 hl (k := 0) rfl (by decide) (by decide) rfl (fun ls hl => ?_)
  refine lv_goto (tgt := 23) hx hb dL_law_1496 (by decide) ?_
  refine W.widen (k := 600002) (n := 7302232) (by decide +kernel) (by decide +kernel) ?_
  exact kkE _ _ _ hS (lv_sub hl [0, 4] rfl)
set_option maxHeartbeats 40000000 in
set_option maxRecDepth 100000 in
theorem law_c23 {p : Program} {l : Launch} {e : Env} {s : State} {m : MethodId} {below : List Frame} {meth : Method} {c : Code} {Q : State → Prop} {A : Nat → Prop} {b : Nat} (hlt : l.stackTraces = false) (hx : p.tables.exec = Jvm.exec) (hb : c.code = code) (hml : c.maxLocals = 8) (hown : s.vm.findClass RL = some m.cls) (hts : ∀ w ∈ lw_tbl, w.before #[Value.ref b] s = true) (hN : nv_E A s) (hA : ∀ q : Nat, s.heap.size ≤ q → A q) (hDe : nv_Dc s) (dC : Nat → ClassId) (dI : Nat → Nat → Nat) (q1 : Nat) (q2 : Nat) (q4 : Nat) (q6 : Nat) (q8 : Nat) (q22 : Nat) (q23 : Nat) (q25 : Nat) (q31 : Nat) (q32 : Nat) (q33 : Nat) (q34 : Nat) (q35 : Nat) (q36 : Nat) (q37 : Nat) (q39 : Nat) (q41 : Nat) (q43 : Nat) (q77 : Nat) (q78 : Nat) (q80 : Nat) (q82 : Nat) (q84 : Nat) (q86 : Nat) (q88 : Nat) (q90 : Nat) (q91 : Nat) (q93 : Nat) (q94 : Nat) (q105 : Nat) (q106 : Nat) (q124 : Nat) (q131 : Nat) (q132 : Nat) (q133 : Nat) (q134 : Nat) (q135 : Nat) (q136 : Nat) (q137 : Nat) (q138 : Nat) (q139 : Nat) (q140 : Nat) (q143 : Nat) {xs : Nat → Int32} (hX : va_X b 6 xs s s.heap) (hbl : b < s.heap.size) (hbA : ¬ A b) (x0 : Int32) (es0 : xs (Int32.toNatClampNeg 0) = x0) (x1 : Int32) (es1 : xs (Int32.toNatClampNeg 1) = x1) (x2 : Int32) (es2 : xs (Int32.toNatClampNeg 2) = x2) (x3 : Int32) (es3 : xs (Int32.toNatClampNeg 3) = x3) (x4 : Int32) (es4 : xs (Int32.toNatClampNeg 4) = x4) (x5 : Int32) (es5 : xs (Int32.toNatClampNeg 5) = x5) {H : Heap} {locs : List Loc} {ls : Array Slot} (hK : va_K (dC, dI) vwCl [] s) (hP : va_P (dC, dI) vwCl [(q1, .inr (13, [.ref q2, .int 0, .int 0, .ref q4, .ref q6, .ref q8, .ref q22, .ref q37, .ref q39, .ref q41, .int 0, .ref q43])), (q22, .inr (12, [.ref q23, .ref q25, .ref q31, .ref q32, .ref q33, .ref q34, .int 0, .ref q35, .ref q36, .int 0, .int 0, .int 0, .int 0, .int 0, .int 0, .int 0])), (q77, .inr (20, [.int 0, .ref q78, .int 0, .int 0, .ref q80, .ref q82, .ref q84, .ref q86, .ref q88, .ref q90, .ref q91, .ref q93, .ref q94, .ref q105, .ref q106, .ref q124, .ref q131, .int 0, .int 0, .int 0, .int 0, .int 0, .int 0, .int 0, .int 0, .int 0, .ref q132, .ref q133, .ref q134, .ref q135, .ref q136, .ref q137, .ref q138, .ref q139, .ref q140, .int 0]))] H) (hD : va_D A [(q1, .inr (13, [.ref q2, .int 0, .int 0, .ref q4, .ref q6, .ref q8, .ref q22, .ref q37, .ref q39, .ref q41, .int 0, .ref q43])), (q22, .inr (12, [.ref q23, .ref q25, .ref q31, .ref q32, .ref q33, .ref q34, .int 0, .ref q35, .ref q36, .int 0, .int 0, .int 0, .int 0, .int 0, .int 0, .int 0])), (q77, .inr (20, [.int 0, .ref q78, .int 0, .int 0, .ref q80, .ref q82, .ref q84, .ref q86, .ref q88, .ref q90, .ref q91, .ref q93, .ref q94, .ref q105, .ref q106, .ref q124, .ref q131, .int 0, .int 0, .int 0, .int 0, .int 0, .int 0, .int 0, .int 0, .int 0, .ref q132, .ref q133, .ref q134, .ref q135, .ref q136, .ref q137, .ref q138, .ref q139, .ref q140, .int 0]))]) (hS : va_S A s.heap H locs) (hl : lv_has ls 8 [(4, .int 0), (3, .ref q143), (2, .ref q77), (1, .ref q1), (0, .ref b)]) (kkE : ∀ (H : Heap) (locs : List Loc) (ls : Array Slot), va_S A s.heap H locs → lv_has ls 8 [(4, .int 6), (0, .ref b)] → W p l e room_1 s m #[Value.ref b] below meth c H locs 600002 7302232 Q (F0 m 23 ls [])) : W p l e room_1 s m #[Value.ref b] below meth c H locs 455 2511899 Q (F0 m 1219 ls []) := by
  refine lv_aload_n hx hb dL_law_1219 rfl (lv_at hl 3 rfl) ?_
  refine lv_aload_n hx hb dL_law_1220 rfl (lv_at hl 4 rfl) ?_
  refine lv_iload hx hb dL_law_1221 (lv_at hl 0 rfl) ?_
  refine lv_iconst (v := 1) hx hb dL_law_1223 (by decide) ?_
  refine lv_iadd hx hb dL_law_1224 ?_
  refine lv_topi (fun z501 ez501 => ?_)
  obtain rfl : z501 = 1 := ez501.trans (by decide)
  refine va_sld (i := 1) hx hb hX hbl hbA hS (vp_in_iff.mpr ⟨by decide, by decide⟩) dL_law_1225 ?_
  rw [es1]
  refine lv_aload_n hx hb dL_law_1226 rfl (lv_at hl 4 rfl) ?_
  refine lv_iload hx hb dL_law_1227 (lv_at hl 0 rfl) ?_
  refine lv_iconst (v := 2) hx hb dL_law_1229 (by decide) ?_
  refine lv_iadd hx hb dL_law_1230 ?_
  refine lv_topi (fun z502 ez502 => ?_)
  obtain rfl : z502 = 2 := ez502.trans (by decide)
  refine va_sld (i := 2) hx hb hX hbl hbA hS (vp_in_iff.mpr ⟨by decide, by decide⟩) dL_law_1231 ?_
  rw [es2]
  refine lv_aload_n hx hb dL_law_1232 rfl (lv_at hl 4 rfl) ?_
  refine lv_iload hx hb dL_law_1233 (lv_at hl 0 rfl) ?_
  refine lv_iconst (v := 3) hx hb dL_law_1235 (by decide) ?_
  refine lv_iadd hx hb dL_law_1236 ?_
  refine lv_topi (fun z503 ez503 => ?_)
  obtain rfl : z503 = 3 := ez503.trans (by decide)
  refine va_sld (i := 3) hx hb hX hbl hbA hS (vp_in_iff.mpr ⟨by decide, by decide⟩) dL_law_1237 ?_
  rw [es3]
  have hPc := hP.sub (ws' := [(q1, .inr (13, [.ref q2, .int 0, .int 0, .ref q4, .ref q6, .ref q8, .ref q22, .ref q37, .ref q39, .ref q41, .int 0, .ref q43])), (q22, .inr (12, [.ref q23, .ref q25, .ref q31, .ref q32, .ref q33, .ref q34, .int 0, .ref q35, .ref q36, .int 0, .int 0, .int 0, .int 0, .int 0, .int 0, .int 0]))]) [0, 1] rfl
  have hDc := hD.sub (ws' := [(q1, .inr (13, [.ref q2, .int 0, .int 0, .ref q4, .ref q6, .ref q8, .ref q22, .ref q37, .ref q39, .ref q41, .int 0, .ref q43])), (q22, .inr (12, [.ref q23, .ref q25, .ref q31, .ref q32, .ref q33, .ref q34, .int 0, .ref q35, .ref q36, .int 0, .int 0, .int 0, .int 0, .int 0, .int 0, .int 0]))]) [0, 1] (by decide) rfl
  have hKc := hK.sub (tys' := []) [] rfl
  have hFc := va_free (wc := [(q1, .inr (13, [.ref q2, .int 0, .int 0, .ref q4, .ref q6, .ref q8, .ref q22, .ref q37, .ref q39, .ref q41, .int 0, .ref q43])), (q22, .inr (12, [.ref q23, .ref q25, .ref q31, .ref q32, .ref q33, .ref q34, .int 0, .ref q35, .ref q36, .int 0, .int 0, .int 0, .int 0, .int 0, .int 0, .int 0]))]) hD hS hA [0, 1] rfl
  refine va_calli (va_runV (As := [.int x1, .int x2, .int x3]) (rest := []) ⟨hx, hb, hml, hown, hts⟩ (k_X12_text l hlt dC dI q1 q22 x1 x2 x3 q2 q4 q6 q8 q37 q39 q41 q43 q23 q25 q31 q32 q33 q34 q35 q36  H.size) (cwV 3 hts gl_51 rfl rfl rfl (by decide +kernel) ⟨Nat.le_of_ble_eq_true rfl, Nat.le_of_ble_eq_true rfl⟩) ⟨fun a U g mk q => by obtain ⟨q0, q1, qP, qK, qD, qN⟩ := q; exact ⟨q0, q1, qP, va_K.moved (u := U) (U := U.calling g mk a) (Vm.Alike.refl U.vm) qK, qD, nv_same rfl rfl qN⟩, va_recv hKc hPc (ci := 13) (q0 := 0) rfl rfl, fun U hU hW => ⟨rfl, by rw [hU], by rw [hU]; exact hPc, va_K.moved hW.alike hKc, hDc.weaken (fun _ _ _ _ => trivial), nv_call hS hFc hU hW hN⟩⟩ rfl rfl hl.1 rfl (lv_room (Nat.le_of_ble_eq_true rfl)) dL_law_1238 ⟨by decide +kernel, by decide +kernel⟩) hS (fun q _ h => hFc q h) hFc (fun r504 u t H1 locs ht hvm hw hB hz1 hk1 hS => ?_)
  obtain ⟨hP1, hK1, hD1⟩ := hB
  rw [ht] at hP1
  have hK1 := va_K.moved hvm.symm hK1
  obtain rfl : r504 = (-1) := hw
  obtain ⟨hP, hD⟩ := va_join (wr := [(q77, .inr (20, [.int 0, .ref q78, .int 0, .int 0, .ref q80, .ref q82, .ref q84, .ref q86, .ref q88, .ref q90, .ref q91, .ref q93, .ref q94, .ref q105, .ref q106, .ref q124, .ref q131, .int 0, .int 0, .int 0, .int 0, .int 0, .int 0, .int 0, .int 0, .int 0, .ref q132, .ref q133, .ref q134, .ref q135, .ref q136, .ref q137, .ref q138, .ref q139, .ref q140, .int 0]))]) (w1 := [(q1, .inr (13, [.ref q2, .int 0, .int 0, .ref q4, .ref q6, .ref q8, .ref q22, .ref q37, .ref q39, .ref q41, .int 0, .ref q43])), (q22, .inr (12, [.ref q23, .ref q25, .ref q31, .ref q32, .ref q33, .ref q34, .int 0, .ref q35, .ref q36, .int 0, .int 0, .int 0, .int 0, .int 0, .int 0, .int 0]))]) hP hD [0, 1] [2] rfl rfl (by decide) (by decide) hk1 hFc hP1 hD1
  have hK := (hK.sub (tys' := []) [] rfl).app hK1
  generalize H1 = H at hP hS ⊢
  have hP : va_P (dC, dI) vwCl [(q77, .inr (20, [.int 0, .ref q78, .int 0, .int 0, .ref q80, .ref q82, .ref q84, .ref q86, .ref q88, .ref q90, .ref q91, .ref q93, .ref q94, .ref q105, .ref q106, .ref q124, .ref q131, .int 0, .int 0, .int 0, .int 0, .int 0, .int 0, .int 0, .int 0, .int 0, .ref q132, .ref q133, .ref q134, .ref q135, .ref q136, .ref q137, .ref q138, .ref q139, .ref q140, .int 0])), (q1, .inr (13, [.ref q2, .int 0, .int 0, .ref q4, .ref q6, .ref q8, .ref q22, .ref q37, .ref q39, .ref q41, .int 0, .ref q43])), (q22, .inr (12, [.ref q23, .ref q25, .ref q31, .ref q32, .ref q33, .ref q34, .int 0, .ref q35, .ref q36, .int 0, .int 0, .int 0, .int 0, .int 0, .int 0, .int 0]))] H := hP
  have hD : va_D A [(q77, .inr (20, [.int 0, .ref q78, .int 0, .int 0, .ref q80, .ref q82, .ref q84, .ref q86, .ref q88, .ref q90, .ref q91, .ref q93, .ref q94, .ref q105, .ref q106, .ref q124, .ref q131, .int 0, .int 0, .int 0, .int 0, .int 0, .int 0, .int 0, .int 0, .int 0, .ref q132, .ref q133, .ref q134, .ref q135, .ref q136, .ref q137, .ref q138, .ref q139, .ref q140, .int 0])), (q1, .inr (13, [.ref q2, .int 0, .int 0, .ref q4, .ref q6, .ref q8, .ref q22, .ref q37, .ref q39, .ref q41, .int 0, .ref q43])), (q22, .inr (12, [.ref q23, .ref q25, .ref q31, .ref q32, .ref q33, .ref q34, .int 0, .ref q35, .ref q36, .int 0, .int 0, .int 0, .int 0, .int 0, .int 0, .int 0]))] := hD
  have hK : va_K (dC, dI) vwCl [] s := hK
  refine W.widen (k := 455) (n := 2511899) (by decide +kernel) (by decide +kernel) ?_
  refine lv_aload_n hx hb dL_law_1241 rfl (lv_at hl 2 rfl) ?_
  refine lv_aload_n hx hb dL_law_1242 rfl (lv_at hl 4 rfl) ?_
  refine lv_iload hx hb dL_law_1243 (lv_at hl 0 rfl) ?_
  refine lv_iconst (v := 1) hx hb dL_law_1245 (by decide) ?_
  refine lv_iadd hx hb dL_law_1246 ?_
  refine lv_topi (fun z505 ez505 => ?_)
  obtain rfl : z505 = 1 := ez505.trans (by decide)
  refine va_sld (i := 1) hx hb hX hbl hbA hS (vp_in_iff.mpr ⟨by decide, by decide⟩) dL_law_1247 ?_
  rw [es1]
  refine lv_aload_n hx hb dL_law_1248 rfl (lv_at hl 4 rfl) ?_
  refine lv_iload hx hb dL_law_1249 (lv_at hl 0 rfl) ?_
  refine lv_iconst (v := 2) hx hb dL_law_1251 (by decide) ?_
  refine lv_iadd hx hb dL_law_1252 ?_
  refine lv_topi (fun z506 ez506 => ?_)
  obtain rfl : z506 = 2 := ez506.trans (by decide)
  refine va_sld (i := 2) hx hb hX hbl hbA hS (vp_in_iff.mpr ⟨by decide, by decide⟩) dL_law_1253 ?_
  rw [es2]
  refine lv_aload_n hx hb dL_law_1254 rfl (lv_at hl 4 rfl) ?_
  refine lv_iload hx hb dL_law_1255 (lv_at hl 0 rfl) ?_
  refine lv_iconst (v := 3) hx hb dL_law_1257 (by decide) ?_
  refine lv_iadd hx hb dL_law_1258 ?_
  refine lv_topi (fun z507 ez507 => ?_)
  obtain rfl : z507 = 3 := ez507.trans (by decide)
  refine va_sld (i := 3) hx hb hX hbl hbA hS (vp_in_iff.mpr ⟨by decide, by decide⟩) dL_law_1259 ?_
  rw [es3]
  have hPc := hP.sub (ws' := [(q77, .inr (20, [.int 0, .ref q78, .int 0, .int 0, .ref q80, .ref q82, .ref q84, .ref q86, .ref q88, .ref q90, .ref q91, .ref q93, .ref q94, .ref q105, .ref q106, .ref q124, .ref q131, .int 0, .int 0, .int 0, .int 0, .int 0, .int 0, .int 0, .int 0, .int 0, .ref q132, .ref q133, .ref q134, .ref q135, .ref q136, .ref q137, .ref q138, .ref q139, .ref q140, .int 0]))]) [0] rfl
  have hDc := hD.sub (ws' := [(q77, .inr (20, [.int 0, .ref q78, .int 0, .int 0, .ref q80, .ref q82, .ref q84, .ref q86, .ref q88, .ref q90, .ref q91, .ref q93, .ref q94, .ref q105, .ref q106, .ref q124, .ref q131, .int 0, .int 0, .int 0, .int 0, .int 0, .int 0, .int 0, .int 0, .int 0, .ref q132, .ref q133, .ref q134, .ref q135, .ref q136, .ref q137, .ref q138, .ref q139, .ref q140, .int 0]))]) [0] (by decide) rfl
  have hKc := hK.sub (tys' := []) [] rfl
  have hFc := va_free (wc := [(q77, .inr (20, [.int 0, .ref q78, .int 0, .int 0, .ref q80, .ref q82, .ref q84, .ref q86, .ref q88, .ref q90, .ref q91, .ref q93, .ref q94, .ref q105, .ref q106, .ref q124, .ref q131, .int 0, .int 0, .int 0, .int 0, .int 0, .int 0, .int 0, .int 0, .int 0, .ref q132, .ref q133, .ref q134, .ref q135, .ref q136, .ref q137, .ref q138, .ref q139, .ref q140, .int 0]))]) hD hS hA [0] rfl
  refine va_calli (va_runV (As := [.int x1, .int x2, .int x3]) (rest := [.int (-1)]) ⟨hx, hb, hml, hown, hts⟩ (k_X19_text l hlt dC dI q77 x1 x2 x3 q78 q80 q82 q84 q86 q88 q90 q91 q93 q94 q105 q106 q124 q131 q132 q133 q134 q135 q136 q137 q138 q139 q140  H.size) (cwV 3 hts gl_52 rfl rfl rfl (by decide +kernel) ⟨Nat.le_of_ble_eq_true rfl, Nat.le_of_ble_eq_true rfl⟩) ⟨fun a U g mk q => by obtain ⟨q0, q1, qP, qK, qD, qN⟩ := q; exact ⟨q0, q1, qP, va_K.moved (u := U) (U := U.calling g mk a) (Vm.Alike.refl U.vm) qK, qD, nv_same rfl rfl qN⟩, va_recv hKc hPc (ci := 20) (q0 := 0) rfl rfl, fun U hU hW => ⟨rfl, by rw [hU], by rw [hU]; exact hPc, va_K.moved hW.alike hKc, hDc.weaken (fun _ _ _ _ => trivial), nv_call hS hFc hU hW hN⟩⟩ rfl rfl hl.1 rfl (lv_room (Nat.le_of_ble_eq_true rfl)) dL_law_1260 ⟨by decide +kernel, by decide +kernel⟩) hS (fun q _ h => hFc q h) hFc (fun r508 u t H1 locs ht hvm hw hB hz1 hk1 hS => ?_)
  obtain ⟨hP1, hK1, hD1⟩ := hB
  rw [ht] at hP1
  have hK1 := va_K.moved hvm.symm hK1
  obtain rfl : r508 = (-1) := hw
  obtain ⟨hP, hD⟩ := va_join (wr := [(q1, .inr (13, [.ref q2, .int 0, .int 0, .ref q4, .ref q6, .ref q8, .ref q22, .ref q37, .ref q39, .ref q41, .int 0, .ref q43])), (q22, .inr (12, [.ref q23, .ref q25, .ref q31, .ref q32, .ref q33, .ref q34, .int 0, .ref q35, .ref q36, .int 0, .int 0, .int 0, .int 0, .int 0, .int 0, .int 0]))]) (w1 := [(q77, .inr (20, [.int 0, .ref q78, .int 0, .int 0, .ref q80, .ref q82, .ref q84, .ref q86, .ref q88, .ref q90, .ref q91, .ref q93, .ref q94, .ref q105, .ref q106, .ref q124, .ref q131, .int 0, .int 0, .int 0, .int 0, .int 0, .int 0, .int 0, .int 0, .int 0, .ref q132, .ref q133, .ref q134, .ref q135, .ref q136, .ref q137, .ref q138, .ref q139, .ref q140, .int 0]))]) hP hD [0] [1, 2] rfl rfl (by decide) (by decide) hk1 hFc hP1 hD1
  have hK := (hK.sub (tys' := []) [] rfl).app hK1
  generalize H1 = H at hP hS ⊢
  have hP : va_P (dC, dI) vwCl [(q1, .inr (13, [.ref q2, .int 0, .int 0, .ref q4, .ref q6, .ref q8, .ref q22, .ref q37, .ref q39, .ref q41, .int 0, .ref q43])), (q22, .inr (12, [.ref q23, .ref q25, .ref q31, .ref q32, .ref q33, .ref q34, .int 0, .ref q35, .ref q36, .int 0, .int 0, .int 0, .int 0, .int 0, .int 0, .int 0])), (q77, .inr (20, [.int 0, .ref q78, .int 0, .int 0, .ref q80, .ref q82, .ref q84, .ref q86, .ref q88, .ref q90, .ref q91, .ref q93, .ref q94, .ref q105, .ref q106, .ref q124, .ref q131, .int 0, .int 0, .int 0, .int 0, .int 0, .int 0, .int 0, .int 0, .int 0, .ref q132, .ref q133, .ref q134, .ref q135, .ref q136, .ref q137, .ref q138, .ref q139, .ref q140, .int 0]))] H := hP
  have hD : va_D A [(q1, .inr (13, [.ref q2, .int 0, .int 0, .ref q4, .ref q6, .ref q8, .ref q22, .ref q37, .ref q39, .ref q41, .int 0, .ref q43])), (q22, .inr (12, [.ref q23, .ref q25, .ref q31, .ref q32, .ref q33, .ref q34, .int 0, .ref q35, .ref q36, .int 0, .int 0, .int 0, .int 0, .int 0, .int 0, .int 0])), (q77, .inr (20, [.int 0, .ref q78, .int 0, .int 0, .ref q80, .ref q82, .ref q84, .ref q86, .ref q88, .ref q90, .ref q91, .ref q93, .ref q94, .ref q105, .ref q106, .ref q124, .ref q131, .int 0, .int 0, .int 0, .int 0, .int 0, .int 0, .int 0, .int 0, .int 0, .ref q132, .ref q133, .ref q134, .ref q135, .ref q136, .ref q137, .ref q138, .ref q139, .ref q140, .int 0]))] := hD
  have hK : va_K (dC, dI) vwCl [] s := hK
  refine W.widen (k := 455) (n := 2511899) (by decide +kernel) (by decide +kernel) ?_
  refine lv_icmp_eq (tgt := 1493) hx hb dL_law_1263 (by decide) (fun _ => ?_) (fun h9 => absurd (by decide) h9)
  refine lv_iinc (v := 6) (lv' := [(4, .int 6), (3, .ref q143), (2, .ref q77), (1, .ref q1), (0, .ref b)]) hx hb dL_law_1493 hl (k := 0) rfl (by decide) (by decide) rfl (fun ls hl => ?_)
  refine lv_goto (tgt := 23) hx hb dL_law_1496 (by decide) ?_
  refine W.widen (k := 600002) (n := 7302232) (by decide +kernel) (by decide +kernel) ?_
  exact kkE _ _ _ hS (lv_sub hl [0, 4] rfl)
set_option maxHeartbeats 40000000 in
set_option maxRecDepth 100000 in
theorem law_c24 {p : Program} {l : Launch} {e : Env} {s : State} {m : MethodId} {below : List Frame} {meth : Method} {c : Code} {Q : State → Prop} {A : Nat → Prop} {b : Nat} (hlt : l.stackTraces = false) (hx : p.tables.exec = Jvm.exec) (hb : c.code = code) (hml : c.maxLocals = 8) (hown : s.vm.findClass RL = some m.cls) (hts : ∀ w ∈ lw_tbl, w.before #[Value.ref b] s = true) (hN : nv_E A s) (hA : ∀ q : Nat, s.heap.size ≤ q → A q) (hDe : nv_Dc s) (dC : Nat → ClassId) (dI : Nat → Nat → Nat) (q1 : Nat) (q2 : Nat) (q4 : Nat) (q6 : Nat) (q8 : Nat) (q22 : Nat) (q23 : Nat) (q25 : Nat) (q31 : Nat) (q32 : Nat) (q33 : Nat) (q34 : Nat) (q35 : Nat) (q36 : Nat) (q37 : Nat) (q39 : Nat) (q41 : Nat) (q43 : Nat) (q77 : Nat) (q78 : Nat) (q80 : Nat) (q82 : Nat) (q84 : Nat) (q86 : Nat) (q88 : Nat) (q90 : Nat) (q91 : Nat) (q93 : Nat) (q94 : Nat) (q105 : Nat) (q106 : Nat) (q124 : Nat) (q131 : Nat) (q132 : Nat) (q133 : Nat) (q134 : Nat) (q135 : Nat) (q136 : Nat) (q137 : Nat) (q138 : Nat) (q139 : Nat) (q140 : Nat) (q143 : Nat) {xs : Nat → Int32} (hX : va_X b 6 xs s s.heap) (hbl : b < s.heap.size) (hbA : ¬ A b) (x0 : Int32) (es0 : xs (Int32.toNatClampNeg 0) = x0) (x1 : Int32) (es1 : xs (Int32.toNatClampNeg 1) = x1) (x2 : Int32) (es2 : xs (Int32.toNatClampNeg 2) = x2) (x3 : Int32) (es3 : xs (Int32.toNatClampNeg 3) = x3) (x4 : Int32) (es4 : xs (Int32.toNatClampNeg 4) = x4) (x5 : Int32) (es5 : xs (Int32.toNatClampNeg 5) = x5) {H : Heap} {locs : List Loc} {ls : Array Slot} (hK : va_K (dC, dI) vwCl [] s) (hP : va_P (dC, dI) vwCl [(q1, .inr (13, [.ref q2, .int 0, .int 0, .ref q4, .ref q6, .ref q8, .ref q22, .ref q37, .ref q39, .ref q41, .int 0, .ref q43])), (q22, .inr (12, [.ref q23, .ref q25, .ref q31, .ref q32, .ref q33, .ref q34, .int 0, .ref q35, .ref q36, .int 0, .int 0, .int 0, .int 0, .int 0, .int 0, .int 0])), (q77, .inr (20, [.int 0, .ref q78, .int 0, .int 0, .ref q80, .ref q82, .ref q84, .ref q86, .ref q88, .ref q90, .ref q91, .ref q93, .ref q94, .ref q105, .ref q106, .ref q124, .ref q131, .int 0, .int 0, .int 0, .int 0, .int 0, .int 0, .int 0, .int 0, .int 0, .ref q132, .ref q133, .ref q134, .ref q135, .ref q136, .ref q137, .ref q138, .ref q139, .ref q140, .int 0]))] H) (hD : va_D A [(q1, .inr (13, [.ref q2, .int 0, .int 0, .ref q4, .ref q6, .ref q8, .ref q22, .ref q37, .ref q39, .ref q41, .int 0, .ref q43])), (q22, .inr (12, [.ref q23, .ref q25, .ref q31, .ref q32, .ref q33, .ref q34, .int 0, .ref q35, .ref q36, .int 0, .int 0, .int 0, .int 0, .int 0, .int 0, .int 0])), (q77, .inr (20, [.int 0, .ref q78, .int 0, .int 0, .ref q80, .ref q82, .ref q84, .ref q86, .ref q88, .ref q90, .ref q91, .ref q93, .ref q94, .ref q105, .ref q106, .ref q124, .ref q131, .int 0, .int 0, .int 0, .int 0, .int 0, .int 0, .int 0, .int 0, .int 0, .ref q132, .ref q133, .ref q134, .ref q135, .ref q136, .ref q137, .ref q138, .ref q139, .ref q140, .int 0]))]) (hS : va_S A s.heap H locs) (hl : lv_has ls 8 [(4, .int 0), (3, .ref q143), (2, .ref q77), (1, .ref q1), (0, .ref b)]) (kkE : ∀ (H : Heap) (locs : List Loc) (ls : Array Slot), va_S A s.heap H locs → lv_has ls 8 [(4, .int 6), (0, .ref b)] → W p l e room_1 s m #[Value.ref b] below meth c H locs 600002 7302232 Q (F0 m 23 ls [])) : W p l e room_1 s m #[Value.ref b] below meth c H locs 455 2511899 Q (F0 m 1268 ls []) := by
  refine lv_aload_n hx hb dL_law_1268 rfl (lv_at hl 3 rfl) ?_
  refine lv_aload_n hx hb dL_law_1269 rfl (lv_at hl 4 rfl) ?_
  refine lv_iload hx hb dL_law_1270 (lv_at hl 0 rfl) ?_
  refine lv_iconst (v := 1) hx hb dL_law_1272 (by decide) ?_
  refine lv_iadd hx hb dL_law_1273 ?_
  refine lv_topi (fun z501 ez501 => ?_)
  obtain rfl : z501 = 1 := ez501.trans (by decide)
  refine va_sld (i := 1) hx hb hX hbl hbA hS (vp_in_iff.mpr ⟨by decide, by decide⟩) dL_law_1274 ?_
  rw [es1]
  refine lv_aload_n hx hb dL_law_1275 rfl (lv_at hl 4 rfl) ?_
  refine lv_iload hx hb dL_law_1276 (lv_at hl 0 rfl) ?_
  refine lv_iconst (v := 2) hx hb dL_law_1278 (by decide) ?_
  refine lv_iadd hx hb dL_law_1279 ?_
  refine lv_topi (fun z502 ez502 => ?_)
  obtain rfl : z502 = 2 := ez502.trans (by decide)
  refine va_sld (i := 2) hx hb hX hbl hbA hS (vp_in_iff.mpr ⟨by decide, by decide⟩) dL_law_1280 ?_
  rw [es2]
  refine lv_aload_n hx hb dL_law_1281 rfl (lv_at hl 4 rfl) ?_
  refine lv_iload hx hb dL_law_1282 (lv_at hl 0 rfl) ?_
  refine lv_iconst (v := 3) hx hb dL_law_1284 (by decide) ?_
  refine lv_iadd hx hb dL_law_1285 ?_
  refine lv_topi (fun z503 ez503 => ?_)
  obtain rfl : z503 = 3 := ez503.trans (by decide)
  refine va_sld (i := 3) hx hb hX hbl hbA hS (vp_in_iff.mpr ⟨by decide, by decide⟩) dL_law_1286 ?_
  rw [es3]
  have hPc := hP.sub (ws' := [(q1, .inr (13, [.ref q2, .int 0, .int 0, .ref q4, .ref q6, .ref q8, .ref q22, .ref q37, .ref q39, .ref q41, .int 0, .ref q43])), (q22, .inr (12, [.ref q23, .ref q25, .ref q31, .ref q32, .ref q33, .ref q34, .int 0, .ref q35, .ref q36, .int 0, .int 0, .int 0, .int 0, .int 0, .int 0, .int 0]))]) [0, 1] rfl
  have hDc := hD.sub (ws' := [(q1, .inr (13, [.ref q2, .int 0, .int 0, .ref q4, .ref q6, .ref q8, .ref q22, .ref q37, .ref q39, .ref q41, .int 0, .ref q43])), (q22, .inr (12, [.ref q23, .ref q25, .ref q31, .ref q32, .ref q33, .ref q34, .int 0, .ref q35, .ref q36, .int 0, .int 0, .int 0, .int 0, .int 0, .int 0, .int 0]))]) [0, 1] (by decide) rfl
  have hKc := hK.sub (tys' := []) [] rfl
  have hFc := va_free (wc := [(q1, .inr (13, [.ref q2, .int 0, .int 0, .ref q4, .ref q6, .ref q8, .ref q22, .ref q37, .ref q39, .ref q41, .int 0, .ref q43])), (q22, .inr (12, [.ref q23, .ref q25, .ref q31, .ref q32, .ref q33, .ref q34, .int 0, .ref q35, .ref q36, .int 0, .int 0, .int 0, .int 0, .int 0, .int 0, .int 0]))]) hD hS hA [0, 1] rfl
  refine va_calli (va_runV (As := [.int x1, .int x2, .int x3]) (rest := []) ⟨hx, hb, hml, hown, hts⟩ (k_X12_descriptor l hlt dC dI q1 q22 x1 x2 x3 q2 q4 q6 q8 q37 q39 q41 q43 q23 q25 q31 q32 q33 q34 q35 q36  H.size) (cwV 3 hts gl_53 rfl rfl rfl (by decide +kernel) ⟨Nat.le_of_ble_eq_true rfl, Nat.le_of_ble_eq_true rfl⟩) ⟨fun a U g mk q => by obtain ⟨q0, q1, qP, qK, qD, qN⟩ := q; exact ⟨q0, q1, qP, va_K.moved (u := U) (U := U.calling g mk a) (Vm.Alike.refl U.vm) qK, qD, nv_same rfl rfl qN⟩, va_recv hKc hPc (ci := 13) (q0 := 0) rfl rfl, fun U hU hW => ⟨rfl, by rw [hU], by rw [hU]; exact hPc, va_K.moved hW.alike hKc, hDc.weaken (fun _ _ _ _ => trivial), nv_call hS hFc hU hW hN⟩⟩ rfl rfl hl.1 rfl (lv_room (Nat.le_of_ble_eq_true rfl)) dL_law_1287 ⟨by decide +kernel, by decide +kernel⟩) hS (fun q _ h => hFc q h) hFc (fun r504 u t H1 locs ht hvm hw hB hz1 hk1 hS => ?_)
  rcases hw with ⟨c_1_0, h9⟩ | ⟨c_1_0, c_1_1, h9⟩ | ⟨c_1_0, c_1_1, c_1_2, h9⟩ | ⟨c_1_0, c_1_1, c_1_2, c_1_3, c_1_4, h9⟩ | ⟨c_1_0, c_1_1, c_1_2, c_1_3, c_1_4, h9⟩ | ⟨c_1_0, c_1_1, c_1_2, c_1_3, h9⟩ | h9
  · subst h9
    have hK1 := hK.sub (tys' := []) [] rfl
    obtain ⟨hP, hD⟩ := va_join (wr := [(q77, .inr (20, [.int 0, .ref q78, .int 0, .int 0, .ref q80, .ref q82, .ref q84, .ref q86, .ref q88, .ref q90, .ref q91, .ref q93, .ref q94, .ref q105, .ref q106, .ref q124, .ref q131, .int 0, .int 0, .int 0, .int 0, .int 0, .int 0, .int 0, .int 0, .int 0, .ref q132, .ref q133, .ref q134, .ref q135, .ref q136, .ref q137, .ref q138, .ref q139, .ref q140, .int 0]))]) (w1 := []) hP hD [0, 1] [2] rfl rfl (by decide) (by decide) hk1 hFc nv_P0 nv_D0
    have hK := (hK.sub (tys' := []) [] rfl).app hK1
    generalize H1 = H at hP hS ⊢
    have hP : va_P (dC, dI) vwCl [(q77, .inr (20, [.int 0, .ref q78, .int 0, .int 0, .ref q80, .ref q82, .ref q84, .ref q86, .ref q88, .ref q90, .ref q91, .ref q93, .ref q94, .ref q105, .ref q106, .ref q124, .ref q131, .int 0, .int 0, .int 0, .int 0, .int 0, .int 0, .int 0, .int 0, .int 0, .ref q132, .ref q133, .ref q134, .ref q135, .ref q136, .ref q137, .ref q138, .ref q139, .ref q140, .int 0]))] H := hP
    have hD : va_D A [(q77, .inr (20, [.int 0, .ref q78, .int 0, .int 0, .ref q80, .ref q82, .ref q84, .ref q86, .ref q88, .ref q90, .ref q91, .ref q93, .ref q94, .ref q105, .ref q106, .ref q124, .ref q131, .int 0, .int 0, .int 0, .int 0, .int 0, .int 0, .int 0, .int 0, .int 0, .ref q132, .ref q133, .ref q134, .ref q135, .ref q136, .ref q137, .ref q138, .ref q139, .ref q140, .int 0]))] := hD
    have hK : va_K (dC, dI) vwCl [] s := hK
    refine W.widen (k := 455) (n := 2511899) (by decide +kernel) (by decide +kernel) ?_
    refine lv_aload_n hx hb dL_law_1290 rfl (lv_at hl 2 rfl) ?_
    refine lv_aload_n hx hb dL_law_1291 rfl (lv_at hl 4 rfl) ?_
    refine lv_iload hx hb dL_law_1292 (lv_at hl 0 rfl) ?_
    refine lv_iconst (v := 1) hx hb dL_law_1294 (by decide) ?_
    refine lv_iadd hx hb dL_law_1295 ?_
    refine lv_topi (fun z505 ez505 => ?_)
    obtain rfl : z505 = 1 := ez505.trans (by decide)
    refine va_sld (i := 1) hx hb hX hbl hbA hS (vp_in_iff.mpr ⟨by decide, by decide⟩) dL_law_1296 ?_
    rw [es1]
    refine lv_aload_n hx hb dL_law_1297 rfl (lv_at hl 4 rfl) ?_
    refine lv_iload hx hb dL_law_1298 (lv_at hl 0 rfl) ?_
    refine lv_iconst (v := 2) hx hb dL_law_1300 (by decide) ?_
    refine lv_iadd hx hb dL_law_1301 ?_
    refine lv_topi (fun z506 ez506 => ?_)
    obtain rfl : z506 = 2 := ez506.trans (by decide)
    refine va_sld (i := 2) hx hb hX hbl hbA hS (vp_in_iff.mpr ⟨by decide, by decide⟩) dL_law_1302 ?_
    rw [es2]
    refine lv_aload_n hx hb dL_law_1303 rfl (lv_at hl 4 rfl) ?_
    refine lv_iload hx hb dL_law_1304 (lv_at hl 0 rfl) ?_
    refine lv_iconst (v := 3) hx hb dL_law_1306 (by decide) ?_
    refine lv_iadd hx hb dL_law_1307 ?_
    refine lv_topi (fun z507 ez507 => ?_)
    obtain rfl : z507 = 3 := ez507.trans (by decide)
    refine va_sld (i := 3) hx hb hX hbl hbA hS (vp_in_iff.mpr ⟨by decide, by decide⟩) dL_law_1308 ?_
    rw [es3]
    have hPc := hP.sub (ws' := [(q77, .inr (20, [.int 0, .ref q78, .int 0, .int 0, .ref q80, .ref q82, .ref q84, .ref q86, .ref q88, .ref q90, .ref q91, .ref q93, .ref q94, .ref q105, .ref q106, .ref q124, .ref q131, .int 0, .int 0, .int 0, .int 0, .int 0, .int 0, .int 0, .int 0, .int 0, .ref q132, .ref q133, .ref q134, .ref q135, .ref q136, .ref q137, .ref q138, .ref q139, .ref q140, .int 0]))]) [0] rfl
    have hDc := hD.sub (ws' := [(q77, .inr (20, [.int 0, .ref q78, .int 0, .int 0, .ref q80, .ref q82, .ref q84, .ref q86, .ref q88, .ref q90, .ref q91, .ref q93, .ref q94, .ref q105, .ref q106, .ref q124, .ref q131, .int 0, .int 0, .int 0, .int 0, .int 0, .int 0, .int 0, .int 0, .int 0, .ref q132, .ref q133, .ref q134, .ref q135, .ref q136, .ref q137, .ref q138, .ref q139, .ref q140, .int 0]))]) [0] (by decide) rfl
    have hKc := hK.sub (tys' := []) [] rfl
    have hFc := va_free (wc := [(q77, .inr (20, [.int 0, .ref q78, .int 0, .int 0, .ref q80, .ref q82, .ref q84, .ref q86, .ref q88, .ref q90, .ref q91, .ref q93, .ref q94, .ref q105, .ref q106, .ref q124, .ref q131, .int 0, .int 0, .int 0, .int 0, .int 0, .int 0, .int 0, .int 0, .int 0, .ref q132, .ref q133, .ref q134, .ref q135, .ref q136, .ref q137, .ref q138, .ref q139, .ref q140, .int 0]))]) hD hS hA [0] rfl
    refine va_calli (va_runV (As := [.int x1, .int x2, .int x3]) (rest := [.int (-1)]) ⟨hx, hb, hml, hown, hts⟩ (k_X19_descriptor l hlt dC dI q77 x1 x2 x3 q78 q80 q82 q84 q86 q88 q90 q91 q93 q94 q105 q106 q124 q131 q132 q133 q134 q135 q136 q137 q138 q139 q140  H.size) (cwV 3 hts gl_54 rfl rfl rfl (by decide +kernel) ⟨Nat.le_of_ble_eq_true rfl, Nat.le_of_ble_eq_true rfl⟩) ⟨fun a U g mk q => by obtain ⟨q0, q1, qP, qK, qD, qN⟩ := q; exact ⟨q0, q1, qP, va_K.moved (u := U) (U := U.calling g mk a) (Vm.Alike.refl U.vm) qK, qD, nv_same rfl rfl qN⟩, va_recv hKc hPc (ci := 20) (q0 := 0) rfl rfl, fun U hU hW => ⟨rfl, by rw [hU], by rw [hU]; exact hPc, va_K.moved hW.alike hKc, hDc.weaken (fun _ _ _ _ => trivial), nv_call hS hFc hU hW hN⟩⟩ rfl rfl hl.1 rfl (lv_room (Nat.le_of_ble_eq_true rfl)) dL_law_1309 ⟨by decide +kernel, by decide +kernel⟩) hS (fun q _ h => hFc q h) hFc (fun r508 u t H1 locs ht hvm hw hB hz1 hk1 hS => ?_)
    rcases hw with ⟨c_2_0, h9⟩ | ⟨c_2_0, c_2_1, h9⟩ | ⟨c_2_0, c_2_1, c_2_2, h9⟩ | ⟨c_2_0, c_2_1, c_2_2, h9⟩ | h9
    · subst h9
      have hK1 := hK.sub (tys' := []) [] rfl
      obtain ⟨hP, hD⟩ := va_join (wr := []) (w1 := []) hP hD [0] [] rfl rfl (by decide) (by decide) hk1 hFc nv_P0 nv_D0
      have hK := (hK.sub (tys' := []) [] rfl).app hK1
      generalize H1 = H at hP hS ⊢
      have hP : va_P (dC, dI) vwCl [] H := hP
      have hD : va_D A [] := hD
      have hK : va_K (dC, dI) vwCl [] s := hK
      refine W.widen (k := 455) (n := 2511899) (by decide +kernel) (by decide +kernel) ?_
      refine lv_icmp_eq (tgt := 1493) hx hb dL_law_1312 (by decide) (fun _ => ?_) (fun h9 => absurd (by decide) h9)
      refine lv_iinc (v := 6) (lv' := [(4, .int 6), (3, .ref q143), (2, .ref q77), (1, .ref q1), (0, .ref b)]) hx hb dL_law_1493 hl (k := 0) rfl (by decide) (by decide) rfl (fun ls hl => ?_)
      refine lv_goto (tgt := 23) hx hb dL_law_1496 (by decide) ?_
      refine W.widen (k := 600002) (n := 7302232) (by decide +kernel) (by decide +kernel) ?_
      exact kkE _ _ _ hS (lv_sub hl [0, 4] rfl)
    · subst h9
      have hK1 := hK.sub (tys' := []) [] rfl
      obtain ⟨hP, hD⟩ := va_join (wr := []) (w1 := []) hP hD [0] [] rfl rfl (by decide) (by decide) hk1 hFc nv_P0 nv_D0
      have hK := (hK.sub (tys' := []) [] rfl).app hK1
      generalize H1 = H at hP hS ⊢
      have hP : va_P (dC, dI) vwCl [] H := hP
      have hD : va_D A [] := hD
      have hK : va_K (dC, dI) vwCl [] s := hK
      refine W.widen (k := 455) (n := 2511899) (by decide +kernel) (by decide +kernel) ?_
      refine lv_icmp_eq (tgt := 1493) hx hb dL_law_1312 (by decide) (fun _ => ?_) (fun h9 => absurd (by decide) h9)
      refine lv_iinc (v := 6) (lv' := [(4, .int 6), (3, .ref q143), (2, .ref q77), (1, .ref q1), (0, .ref b)]) hx hb dL_law_1493 hl (k := 0) rfl (by decide) (by decide) rfl (fun ls hl => ?_)
      refine lv_goto (tgt := 23) hx hb dL_law_1496 (by decide) ?_
      refine W.widen (k := 600002) (n := 7302232) (by decide +kernel) (by decide +kernel) ?_
      exact kkE _ _ _ hS (lv_sub hl [0, 4] rfl)
    · exact absurd c_1_0 c_2_1
    · exact absurd c_1_0 c_2_1
    · exact h9.elim
  · subst h9
    have hK1 := hK.sub (tys' := []) [] rfl
    obtain ⟨hP, hD⟩ := va_join (wr := [(q77, .inr (20, [.int 0, .ref q78, .int 0, .int 0, .ref q80, .ref q82, .ref q84, .ref q86, .ref q88, .ref q90, .ref q91, .ref q93, .ref q94, .ref q105, .ref q106, .ref q124, .ref q131, .int 0, .int 0, .int 0, .int 0, .int 0, .int 0, .int 0, .int 0, .int 0, .ref q132, .ref q133, .ref q134, .ref q135, .ref q136, .ref q137, .ref q138, .ref q139, .ref q140, .int 0]))]) (w1 := []) hP hD [0, 1] [2] rfl rfl (by decide) (by decide) hk1 hFc nv_P0 nv_D0
    have hK := (hK.sub (tys' := []) [] rfl).app hK1
    generalize H1 = H at hP hS ⊢
    have hP : va_P (dC, dI) vwCl [(q77, .inr (20, [.int 0, .ref q78, .int 0, .int 0, .ref q80, .ref q82, .ref q84, .ref q86, .ref q88, .ref q90, .ref q91, .ref q93, .ref q94, .ref q105, .ref q106, .ref q124, .ref q131, .int 0, .int 0, .int 0, .int 0, .int 0, .int 0, .int 0, .int 0, .int 0, .ref q132, .ref q133, .ref q134, .ref q135, .ref q136, .ref q137, .ref q138, .ref q139, .ref q140, .int 0]))] H := hP
    have hD : va_D A [(q77, .inr (20, [.int 0, .ref q78, .int 0, .int 0, .ref q80, .ref q82, .ref q84, .ref q86, .ref q88, .ref q90, .ref q91, .ref q93, .ref q94, .ref q105, .ref q106, .ref q124, .ref q131, .int 0, .int 0, .int 0, .int 0, .int 0, .int 0, .int 0, .int 0, .int 0, .ref q132, .ref q133, .ref q134, .ref q135, .ref q136, .ref q137, .ref q138, .ref q139, .ref q140, .int 0]))] := hD
    have hK : va_K (dC, dI) vwCl [] s := hK
    refine W.widen (k := 455) (n := 2511899) (by decide +kernel) (by decide +kernel) ?_
    refine lv_aload_n hx hb dL_law_1290 rfl (lv_at hl 2 rfl) ?_
    refine lv_aload_n hx hb dL_law_1291 rfl (lv_at hl 4 rfl) ?_
    refine lv_iload hx hb dL_law_1292 (lv_at hl 0 rfl) ?_
    refine lv_iconst (v := 1) hx hb dL_law_1294 (by decide) ?_
    refine lv_iadd hx hb dL_law_1295 ?_
    refine lv_topi (fun z509 ez509 => ?_)
    obtain rfl : z509 = 1 := ez509.trans (by decide)
    refine va_sld (i := 1) hx hb hX hbl hbA hS (vp_in_iff.mpr ⟨by decide, by decide⟩) dL_law_1296 ?_
    rw [es1]
    refine lv_aload_n hx hb dL_law_1297 rfl (lv_at hl 4 rfl) ?_
    refine lv_iload hx hb dL_law_1298 (lv_at hl 0 rfl) ?_
    refine lv_iconst (v := 2) hx hb dL_law_1300 (by decide) ?_
    refine lv_iadd hx hb dL_law_1301 ?_
    refine lv_topi (fun z510 ez510 => ?_)
    obtain rfl : z510 = 2 := ez510.trans (by decide)
    refine va_sld (i := 2) hx hb hX hbl hbA hS (vp_in_iff.mpr ⟨by decide, by decide⟩) dL_law_1302 ?_
    rw [es2]
    refine lv_aload_n hx hb dL_law_1303 rfl (lv_at hl 4 rfl) ?_
    refine lv_iload hx hb dL_law_1304 (lv_at hl 0 rfl) ?_
    refine lv_iconst (v := 3) hx hb dL_law_1306 (by decide) ?_
    refine lv_iadd hx hb dL_law_1307 ?_
    refine lv_topi (fun z511 ez511 => ?_)
    obtain rfl : z511 = 3 := ez511.trans (by decide)
    refine va_sld (i := 3) hx hb hX hbl hbA hS (vp_in_iff.mpr ⟨by decide, by decide⟩) dL_law_1308 ?_
    rw [es3]
    have hPc := hP.sub (ws' := [(q77, .inr (20, [.int 0, .ref q78, .int 0, .int 0, .ref q80, .ref q82, .ref q84, .ref q86, .ref q88, .ref q90, .ref q91, .ref q93, .ref q94, .ref q105, .ref q106, .ref q124, .ref q131, .int 0, .int 0, .int 0, .int 0, .int 0, .int 0, .int 0, .int 0, .int 0, .ref q132, .ref q133, .ref q134, .ref q135, .ref q136, .ref q137, .ref q138, .ref q139, .ref q140, .int 0]))]) [0] rfl
    have hDc := hD.sub (ws' := [(q77, .inr (20, [.int 0, .ref q78, .int 0, .int 0, .ref q80, .ref q82, .ref q84, .ref q86, .ref q88, .ref q90, .ref q91, .ref q93, .ref q94, .ref q105, .ref q106, .ref q124, .ref q131, .int 0, .int 0, .int 0, .int 0, .int 0, .int 0, .int 0, .int 0, .int 0, .ref q132, .ref q133, .ref q134, .ref q135, .ref q136, .ref q137, .ref q138, .ref q139, .ref q140, .int 0]))]) [0] (by decide) rfl
    have hKc := hK.sub (tys' := []) [] rfl
    have hFc := va_free (wc := [(q77, .inr (20, [.int 0, .ref q78, .int 0, .int 0, .ref q80, .ref q82, .ref q84, .ref q86, .ref q88, .ref q90, .ref q91, .ref q93, .ref q94, .ref q105, .ref q106, .ref q124, .ref q131, .int 0, .int 0, .int 0, .int 0, .int 0, .int 0, .int 0, .int 0, .int 0, .ref q132, .ref q133, .ref q134, .ref q135, .ref q136, .ref q137, .ref q138, .ref q139, .ref q140, .int 0]))]) hD hS hA [0] rfl
    refine va_calli (va_runV (As := [.int x1, .int x2, .int x3]) (rest := [.int (-1)]) ⟨hx, hb, hml, hown, hts⟩ (k_X19_descriptor l hlt dC dI q77 x1 x2 x3 q78 q80 q82 q84 q86 q88 q90 q91 q93 q94 q105 q106 q124 q131 q132 q133 q134 q135 q136 q137 q138 q139 q140  H.size) (cwV 3 hts gl_54 rfl rfl rfl (by decide +kernel) ⟨Nat.le_of_ble_eq_true rfl, Nat.le_of_ble_eq_true rfl⟩) ⟨fun a U g mk q => by obtain ⟨q0, q1, qP, qK, qD, qN⟩ := q; exact ⟨q0, q1, qP, va_K.moved (u := U) (U := U.calling g mk a) (Vm.Alike.refl U.vm) qK, qD, nv_same rfl rfl qN⟩, va_recv hKc hPc (ci := 20) (q0 := 0) rfl rfl, fun U hU hW => ⟨rfl, by rw [hU], by rw [hU]; exact hPc, va_K.moved hW.alike hKc, hDc.weaken (fun _ _ _ _ => trivial), nv_call hS hFc hU hW hN⟩⟩ rfl rfl hl.1 rfl (lv_room (Nat.le_of_ble_eq_true rfl)) dL_law_1309 ⟨by decide +kernel, by decide +kernel⟩) hS (fun q _ h => hFc q h) hFc (fun r512 u t H1 locs ht hvm hw hB hz1 hk1 hS => ?_)
    rcases hw with ⟨c_3_0, h9⟩ | ⟨c_3_0, c_3_1, h9⟩ | ⟨c_3_0, c_3_1, c_3_2, h9⟩ | ⟨c_3_0, c_3_1, c_3_2, h9⟩ | h9
    · subst h9
      have hK1 := hK.sub (tys' := []) [] rfl
      obtain ⟨hP, hD⟩ := va_join (wr := []) (w1 := []) hP hD [0] [] rfl rfl (by decide) (by decide) hk1 hFc nv_P0 nv_D0
      have hK := (hK.sub (tys' := []) [] rfl).app hK1
      generalize H1 = H at hP hS ⊢
      have hP : va_P (dC, dI) vwCl [] H := hP
      have hD : va_D A [] := hD
      have hK : va_K (dC, dI) vwCl [] s := hK
      refine W.widen (k := 455) (n := 2511899) (by decide +kernel) (by decide +kernel) ?_
      refine lv_icmp_eq (tgt := 1493) hx hb dL_law_1312 (by decide) (fun _ => ?_) (fun h9 => absurd (by decide) h9)
      refine lv_iinc (v := 6) (lv' := [(4, .int 6), (3, .ref q143), (2, .ref q77), (1, .ref q1), (0, .ref b)]) hx hb dL_law_1493 hl (k := 0) rfl (by decide) (by decide) rfl (fun ls hl => ?_)
      refine lv_goto (tgt := 23) hx hb dL_law_1496 (by decide) ?_
      refine W.widen (k := 600002) (n := 7302232) (by decide +kernel) (by decide +kernel) ?_
      exact kkE _ _ _ hS (lv_sub hl [0, 4] rfl)
    · exact absurd c_3_1 c_1_0
    · subst h9
      have hK1 := hK.sub (tys' := []) [] rfl
      obtain ⟨hP, hD⟩ := va_join (wr := []) (w1 := []) hP hD [0] [] rfl rfl (by decide) (by decide) hk1 hFc nv_P0 nv_D0
      have hK := (hK.sub (tys' := []) [] rfl).app hK1
      generalize H1 = H at hP hS ⊢
      have hP : va_P (dC, dI) vwCl [] H := hP
      have hD : va_D A [] := hD
      have hK : va_K (dC, dI) vwCl [] s := hK
      refine W.widen (k := 455) (n := 2511899) (by decide +kernel) (by decide +kernel) ?_
      refine lv_icmp_eq (tgt := 1493) hx hb dL_law_1312 (by decide) (fun _ => ?_) (fun h9 => absurd (by decide) h9)
      refine lv_iinc (v := 6) (lv' := [(4, .int 6), (3, .ref q143), (2, .ref q77), (1, .ref q1), (0, .ref b)]) hx hb dL_law_1493 hl (k := 0) rfl (by decide) (by decide) rfl (fun ls hl => ?_)
      refine lv_goto (tgt := 23) hx hb dL_law_1496 (by decide) ?_
      refine W.widen (k := 600002) (n := 7302232) (by decide +kernel) (by decide +kernel) ?_
      exact kkE _ _ _ hS (lv_sub hl [0, 4] rfl)
    · exact (cz_13 x2 c_1_0 c_1_1 c_3_2).elim
    · exact h9.elim
  · subst h9
    have hK1 := hK.sub (tys' := []) [] rfl
    obtain ⟨hP, hD⟩ := va_join (wr := [(q77, .inr (20, [.int 0, .ref q78, .int 0, .int 0, .ref q80, .ref q82, .ref q84, .ref q86, .ref q88, .ref q90, .ref q91, .ref q93, .ref q94, .ref q105, .ref q106, .ref q124, .ref q131, .int 0, .int 0, .int 0, .int 0, .int 0, .int 0, .int 0, .int 0, .int 0, .ref q132, .ref q133, .ref q134, .ref q135, .ref q136, .ref q137, .ref q138, .ref q139, .ref q140, .int 0]))]) (w1 := []) hP hD [0, 1] [2] rfl rfl (by decide) (by decide) hk1 hFc nv_P0 nv_D0
    have hK := (hK.sub (tys' := []) [] rfl).app hK1
    generalize H1 = H at hP hS ⊢
    have hP : va_P (dC, dI) vwCl [(q77, .inr (20, [.int 0, .ref q78, .int 0, .int 0, .ref q80, .ref q82, .ref q84, .ref q86, .ref q88, .ref q90, .ref q91, .ref q93, .ref q94, .ref q105, .ref q106, .ref q124, .ref q131, .int 0, .int 0, .int 0, .int 0, .int 0, .int 0, .int 0, .int 0, .int 0, .ref q132, .ref q133, .ref q134, .ref q135, .ref q136, .ref q137, .ref q138, .ref q139, .ref q140, .int 0]))] H := hP
    have hD : va_D A [(q77, .inr (20, [.int 0, .ref q78, .int 0, .int 0, .ref q80, .ref q82, .ref q84, .ref q86, .ref q88, .ref q90, .ref q91, .ref q93, .ref q94, .ref q105, .ref q106, .ref q124, .ref q131, .int 0, .int 0, .int 0, .int 0, .int 0, .int 0, .int 0, .int 0, .int 0, .ref q132, .ref q133, .ref q134, .ref q135, .ref q136, .ref q137, .ref q138, .ref q139, .ref q140, .int 0]))] := hD
    have hK : va_K (dC, dI) vwCl [] s := hK
    refine W.widen (k := 455) (n := 2511899) (by decide +kernel) (by decide +kernel) ?_
    refine lv_aload_n hx hb dL_law_1290 rfl (lv_at hl 2 rfl) ?_
    refine lv_aload_n hx hb dL_law_1291 rfl (lv_at hl 4 rfl) ?_
    refine lv_iload hx hb dL_law_1292 (lv_at hl 0 rfl) ?_
    refine lv_iconst (v := 1) hx hb dL_law_1294 (by decide) ?_
    refine lv_iadd hx hb dL_law_1295 ?_
    refine lv_topi (fun z513 ez513 => ?_)
    obtain rfl : z513 = 1 := ez513.trans (by decide)
    refine va_sld (i := 1) hx hb hX hbl hbA hS (vp_in_iff.mpr ⟨by decide, by decide⟩) dL_law_1296 ?_
    rw [es1]
    refine lv_aload_n hx hb dL_law_1297 rfl (lv_at hl 4 rfl) ?_
    refine lv_iload hx hb dL_law_1298 (lv_at hl 0 rfl) ?_
    refine lv_iconst (v := 2) hx hb dL_law_1300 (by decide) ?_
    refine lv_iadd hx hb dL_law_1301 ?_
    refine lv_topi (fun z514 ez514 => ?_)
    obtain rfl : z514 = 2 := ez514.trans (by decide)
    refine va_sld (i := 2) hx hb hX hbl hbA hS (vp_in_iff.mpr ⟨by decide, by decide⟩) dL_law_1302 ?_
    rw [es2]
    refine lv_aload_n hx hb dL_law_1303 rfl (lv_at hl 4 rfl) ?_
    refine lv_iload hx hb dL_law_1304 (lv_at hl 0 rfl) ?_
    refine lv_iconst (v := 3) hx hb dL_law_1306 (by decide) ?_
    refine lv_iadd hx hb dL_law_1307 ?_
    refine lv_topi (fun z515 ez515 => ?_)
    obtain rfl : z515 = 3 := ez515.trans (by decide)
    refine va_sld (i := 3) hx hb hX hbl hbA hS (vp_in_iff.mpr ⟨by decide, by decide⟩) dL_law_1308 ?_
    rw [es3]
    have hPc := hP.sub (ws' := [(q77, .inr (20, [.int 0, .ref q78, .int 0, .int 0, .ref q80, .ref q82, .ref q84, .ref q86, .ref q88, .ref q90, .ref q91, .ref q93, .ref q94, .ref q105, .ref q106, .ref q124, .ref q131, .int 0, .int 0, .int 0, .int 0, .int 0, .int 0, .int 0, .int 0, .int 0, .ref q132, .ref q133, .ref q134, .ref q135, .ref q136, .ref q137, .ref q138, .ref q139, .ref q140, .int 0]))]) [0] rfl
    have hDc := hD.sub (ws' := [(q77, .inr (20, [.int 0, .ref q78, .int 0, .int 0, .ref q80, .ref q82, .ref q84, .ref q86, .ref q88, .ref q90, .ref q91, .ref q93, .ref q94, .ref q105, .ref q106, .ref q124, .ref q131, .int 0, .int 0, .int 0, .int 0, .int 0, .int 0, .int 0, .int 0, .int 0, .ref q132, .ref q133, .ref q134, .ref q135, .ref q136, .ref q137, .ref q138, .ref q139, .ref q140, .int 0]))]) [0] (by decide) rfl
    have hKc := hK.sub (tys' := []) [] rfl
    have hFc := va_free (wc := [(q77, .inr (20, [.int 0, .ref q78, .int 0, .int 0, .ref q80, .ref q82, .ref q84, .ref q86, .ref q88, .ref q90, .ref q91, .ref q93, .ref q94, .ref q105, .ref q106, .ref q124, .ref q131, .int 0, .int 0, .int 0, .int 0, .int 0, .int 0, .int 0, .int 0, .int 0, .ref q132, .ref q133, .ref q134, .ref q135, .ref q136, .ref q137, .ref q138, .ref q139, .ref q140, .int 0]))]) hD hS hA [0] rfl
    refine va_calli (va_runV (As := [.int x1, .int x2, .int x3]) (rest := [.int (-1)]) ⟨hx, hb, hml, hown, hts⟩ (k_X19_descriptor l hlt dC dI q77 x1 x2 x3 q78 q80 q82 q84 q86 q88 q90 q91 q93 q94 q105 q106 q124 q131 q132 q133 q134 q135 q136 q137 q138 q139 q140  H.size) (cwV 3 hts gl_54 rfl rfl rfl (by decide +kernel) ⟨Nat.le_of_ble_eq_true rfl, Nat.le_of_ble_eq_true rfl⟩) ⟨fun a U g mk q => by obtain ⟨q0, q1, qP, qK, qD, qN⟩ := q; exact ⟨q0, q1, qP, va_K.moved (u := U) (U := U.calling g mk a) (Vm.Alike.refl U.vm) qK, qD, nv_same rfl rfl qN⟩, va_recv hKc hPc (ci := 20) (q0 := 0) rfl rfl, fun U hU hW => ⟨rfl, by rw [hU], by rw [hU]; exact hPc, va_K.moved hW.alike hKc, hDc.weaken (fun _ _ _ _ => trivial), nv_call hS hFc hU hW hN⟩⟩ rfl rfl hl.1 rfl (lv_room (Nat.le_of_ble_eq_true rfl)) dL_law_1309 ⟨by decide +kernel, by decide +kernel⟩) hS (fun q _ h => hFc q h) hFc (fun r516 u t H1 locs ht hvm hw hB hz1 hk1 hS => ?_)
    rcases hw with ⟨c_4_0, h9⟩ | ⟨c_4_0, c_4_1, h9⟩ | ⟨c_4_0, c_4_1, c_4_2, h9⟩ | ⟨c_4_0, c_4_1, c_4_2, h9⟩ | h9
    · subst h9
      have hK1 := hK.sub (tys' := []) [] rfl
      obtain ⟨hP, hD⟩ := va_join (wr := []) (w1 := []) hP hD [0] [] rfl rfl (by decide) (by decide) hk1 hFc nv_P0 nv_D0
      have hK := (hK.sub (tys' := []) [] rfl).app hK1
      generalize H1 = H at hP hS ⊢
      have hP : va_P (dC, dI) vwCl [] H := hP
      have hD : va_D A [] := hD
      have hK : va_K (dC, dI) vwCl [] s := hK
      refine W.widen (k := 455) (n := 2511899) (by decide +kernel) (by decide +kernel) ?_
      refine lv_icmp_eq (tgt := 1493) hx hb dL_law_1312 (by decide) (fun _ => ?_) (fun h9 => absurd (by decide) h9)
      refine lv_iinc (v := 6) (lv' := [(4, .int 6), (3, .ref q143), (2, .ref q77), (1, .ref q1), (0, .ref b)]) hx hb dL_law_1493 hl (k := 0) rfl (by decide) (by decide) rfl (fun ls hl => ?_)
      refine lv_goto (tgt := 23) hx hb dL_law_1496 (by decide) ?_
      refine W.widen (k := 600002) (n := 7302232) (by decide +kernel) (by decide +kernel) ?_
      exact kkE _ _ _ hS (lv_sub hl [0, 4] rfl)
    · exact absurd c_4_1 c_1_0
    · exact (cz_14 x2 c_1_0 c_1_1 c_4_2).elim
    · exact (cz_15 x3 c_1_2 c_4_0).elim
    · exact h9.elim
  · subst h9
    have hK1 := hK.sub (tys' := []) [] rfl
    obtain ⟨hP, hD⟩ := va_join (wr := [(q77, .inr (20, [.int 0, .ref q78, .int 0, .int 0, .ref q80, .ref q82, .ref q84, .ref q86, .ref q88, .ref q90, .ref q91, .ref q93, .ref q94, .ref q105, .ref q106, .ref q124, .ref q131, .int 0, .int 0, .int 0, .int 0, .int 0, .int 0, .int 0, .int 0, .int 0, .ref q132, .ref q133, .ref q134, .ref q135, .ref q136, .ref q137, .ref q138, .ref q139, .ref q140, .int 0]))]) (w1 := []) hP hD [0, 1] [2] rfl rfl (by decide) (by decide) hk1 hFc nv_P0 nv_D0
    have hK := (hK.sub (tys' := []) [] rfl).app hK1
    generalize H1 = H at hP hS ⊢
    have hP : va_P (dC, dI) vwCl [(q77, .inr (20, [.int 0, .ref q78, .int 0, .int 0, .ref q80, .ref q82, .ref q84, .ref q86, .ref q88, .ref q90, .ref q91, .ref q93, .ref q94, .ref q105, .ref q106, .ref q124, .ref q131, .int 0, .int 0, .int 0, .int 0, .int 0, .int 0, .int 0, .int 0, .int 0, .ref q132, .ref q133, .ref q134, .ref q135, .ref q136, .ref q137, .ref q138, .ref q139, .ref q140, .int 0]))] H := hP
    have hD : va_D A [(q77, .inr (20, [.int 0, .ref q78, .int 0, .int 0, .ref q80, .ref q82, .ref q84, .ref q86, .ref q88, .ref q90, .ref q91, .ref q93, .ref q94, .ref q105, .ref q106, .ref q124, .ref q131, .int 0, .int 0, .int 0, .int 0, .int 0, .int 0, .int 0, .int 0, .int 0, .ref q132, .ref q133, .ref q134, .ref q135, .ref q136, .ref q137, .ref q138, .ref q139, .ref q140, .int 0]))] := hD
    have hK : va_K (dC, dI) vwCl [] s := hK
    refine W.widen (k := 455) (n := 2511899) (by decide +kernel) (by decide +kernel) ?_
    refine lv_aload_n hx hb dL_law_1290 rfl (lv_at hl 2 rfl) ?_
    refine lv_aload_n hx hb dL_law_1291 rfl (lv_at hl 4 rfl) ?_
    refine lv_iload hx hb dL_law_1292 (lv_at hl 0 rfl) ?_
    refine lv_iconst (v := 1) hx hb dL_law_1294 (by decide) ?_
    refine lv_iadd hx hb dL_law_1295 ?_
    refine lv_topi (fun z517 ez517 => ?_)
    obtain rfl : z517 = 1 := ez517.trans (by decide)
    refine va_sld (i := 1) hx hb hX hbl hbA hS (vp_in_iff.mpr ⟨by decide, by decide⟩) dL_law_1296 ?_
    rw [es1]
    refine lv_aload_n hx hb dL_law_1297 rfl (lv_at hl 4 rfl) ?_
    refine lv_iload hx hb dL_law_1298 (lv_at hl 0 rfl) ?_
    refine lv_iconst (v := 2) hx hb dL_law_1300 (by decide) ?_
    refine lv_iadd hx hb dL_law_1301 ?_
    refine lv_topi (fun z518 ez518 => ?_)
    obtain rfl : z518 = 2 := ez518.trans (by decide)
    refine va_sld (i := 2) hx hb hX hbl hbA hS (vp_in_iff.mpr ⟨by decide, by decide⟩) dL_law_1302 ?_
    rw [es2]
    refine lv_aload_n hx hb dL_law_1303 rfl (lv_at hl 4 rfl) ?_
    refine lv_iload hx hb dL_law_1304 (lv_at hl 0 rfl) ?_
    refine lv_iconst (v := 3) hx hb dL_law_1306 (by decide) ?_
    refine lv_iadd hx hb dL_law_1307 ?_
    refine lv_topi (fun z519 ez519 => ?_)
    obtain rfl : z519 = 3 := ez519.trans (by decide)
    refine va_sld (i := 3) hx hb hX hbl hbA hS (vp_in_iff.mpr ⟨by decide, by decide⟩) dL_law_1308 ?_
    rw [es3]
    have hPc := hP.sub (ws' := [(q77, .inr (20, [.int 0, .ref q78, .int 0, .int 0, .ref q80, .ref q82, .ref q84, .ref q86, .ref q88, .ref q90, .ref q91, .ref q93, .ref q94, .ref q105, .ref q106, .ref q124, .ref q131, .int 0, .int 0, .int 0, .int 0, .int 0, .int 0, .int 0, .int 0, .int 0, .ref q132, .ref q133, .ref q134, .ref q135, .ref q136, .ref q137, .ref q138, .ref q139, .ref q140, .int 0]))]) [0] rfl
    have hDc := hD.sub (ws' := [(q77, .inr (20, [.int 0, .ref q78, .int 0, .int 0, .ref q80, .ref q82, .ref q84, .ref q86, .ref q88, .ref q90, .ref q91, .ref q93, .ref q94, .ref q105, .ref q106, .ref q124, .ref q131, .int 0, .int 0, .int 0, .int 0, .int 0, .int 0, .int 0, .int 0, .int 0, .ref q132, .ref q133, .ref q134, .ref q135, .ref q136, .ref q137, .ref q138, .ref q139, .ref q140, .int 0]))]) [0] (by decide) rfl
    have hKc := hK.sub (tys' := []) [] rfl
    have hFc := va_free (wc := [(q77, .inr (20, [.int 0, .ref q78, .int 0, .int 0, .ref q80, .ref q82, .ref q84, .ref q86, .ref q88, .ref q90, .ref q91, .ref q93, .ref q94, .ref q105, .ref q106, .ref q124, .ref q131, .int 0, .int 0, .int 0, .int 0, .int 0, .int 0, .int 0, .int 0, .int 0, .ref q132, .ref q133, .ref q134, .ref q135, .ref q136, .ref q137, .ref q138, .ref q139, .ref q140, .int 0]))]) hD hS hA [0] rfl
    refine va_calli (va_runV (As := [.int x1, .int x2, .int x3]) (rest := [.int (-1)]) ⟨hx, hb, hml, hown, hts⟩ (k_X19_descriptor l hlt dC dI q77 x1 x2 x3 q78 q80 q82 q84 q86 q88 q90 q91 q93 q94 q105 q106 q124 q131 q132 q133 q134 q135 q136 q137 q138 q139 q140  H.size) (cwV 3 hts gl_54 rfl rfl rfl (by decide +kernel) ⟨Nat.le_of_ble_eq_true rfl, Nat.le_of_ble_eq_true rfl⟩) ⟨fun a U g mk q => by obtain ⟨q0, q1, qP, qK, qD, qN⟩ := q; exact ⟨q0, q1, qP, va_K.moved (u := U) (U := U.calling g mk a) (Vm.Alike.refl U.vm) qK, qD, nv_same rfl rfl qN⟩, va_recv hKc hPc (ci := 20) (q0 := 0) rfl rfl, fun U hU hW => ⟨rfl, by rw [hU], by rw [hU]; exact hPc, va_K.moved hW.alike hKc, hDc.weaken (fun _ _ _ _ => trivial), nv_call hS hFc hU hW hN⟩⟩ rfl rfl hl.1 rfl (lv_room (Nat.le_of_ble_eq_true rfl)) dL_law_1309 ⟨by decide +kernel, by decide +kernel⟩) hS (fun q _ h => hFc q h) hFc (fun r520 u t H1 locs ht hvm hw hB hz1 hk1 hS => ?_)
    rcases hw with ⟨c_5_0, h9⟩ | ⟨c_5_0, c_5_1, h9⟩ | ⟨c_5_0, c_5_1, c_5_2, h9⟩ | ⟨c_5_0, c_5_1, c_5_2, h9⟩ | h9
    · subst h9
      have hK1 := hK.sub (tys' := []) [] rfl
      obtain ⟨hP, hD⟩ := va_join (wr := []) (w1 := []) hP hD [0] [] rfl rfl (by decide) (by decide) hk1 hFc nv_P0 nv_D0
      have hK := (hK.sub (tys' := []) [] rfl).app hK1
      generalize H1 = H at hP hS ⊢
      have hP : va_P (dC, dI) vwCl [] H := hP
      have hD : va_D A [] := hD
      have hK : va_K (dC, dI) vwCl [] s := hK
      refine W.widen (k := 455) (n := 2511899) (by decide +kernel) (by decide +kernel) ?_
      refine lv_icmp_eq (tgt := 1493) hx hb dL_law_1312 (by decide) (fun _ => ?_) (fun h9 => absurd (by decide) h9)
      refine lv_iinc (v := 6) (lv' := [(4, .int 6), (3, .ref q143), (2, .ref q77), (1, .ref q1), (0, .ref b)]) hx hb dL_law_1493 hl (k := 0) rfl (by decide) (by decide) rfl (fun ls hl => ?_)
      refine lv_goto (tgt := 23) hx hb dL_law_1496 (by decide) ?_
      refine W.widen (k := 600002) (n := 7302232) (by decide +kernel) (by decide +kernel) ?_
      exact kkE _ _ _ hS (lv_sub hl [0, 4] rfl)
    · exact absurd c_5_0 c_1_4
    · exact absurd c_5_0 c_1_4
    · exact absurd c_5_0 c_1_4
    · exact h9.elim
  · subst h9
    have hK1 := hK.sub (tys' := []) [] rfl
    obtain ⟨hP, hD⟩ := va_join (wr := [(q77, .inr (20, [.int 0, .ref q78, .int 0, .int 0, .ref q80, .ref q82, .ref q84, .ref q86, .ref q88, .ref q90, .ref q91, .ref q93, .ref q94, .ref q105, .ref q106, .ref q124, .ref q131, .int 0, .int 0, .int 0, .int 0, .int 0, .int 0, .int 0, .int 0, .int 0, .ref q132, .ref q133, .ref q134, .ref q135, .ref q136, .ref q137, .ref q138, .ref q139, .ref q140, .int 0]))]) (w1 := []) hP hD [0, 1] [2] rfl rfl (by decide) (by decide) hk1 hFc nv_P0 nv_D0
    have hK := (hK.sub (tys' := []) [] rfl).app hK1
    generalize H1 = H at hP hS ⊢
    have hP : va_P (dC, dI) vwCl [(q77, .inr (20, [.int 0, .ref q78, .int 0, .int 0, .ref q80, .ref q82, .ref q84, .ref q86, .ref q88, .ref q90, .ref q91, .ref q93, .ref q94, .ref q105, .ref q106, .ref q124, .ref q131, .int 0, .int 0, .int 0, .int 0, .int 0, .int 0, .int 0, .int 0, .int 0, .ref q132, .ref q133, .ref q134, .ref q135, .ref q136, .ref q137, .ref q138, .ref q139, .ref q140, .int 0]))] H := hP
    have hD : va_D A [(q77, .inr (20, [.int 0, .ref q78, .int 0, .int 0, .ref q80, .ref q82, .ref q84, .ref q86, .ref q88, .ref q90, .ref q91, .ref q93, .ref q94, .ref q105, .ref q106, .ref q124, .ref q131, .int 0, .int 0, .int 0, .int 0, .int 0, .int 0, .int 0, .int 0, .int 0, .ref q132, .ref q133, .ref q134, .ref q135, .ref q136, .ref q137, .ref q138, .ref q139, .ref q140, .int 0]))] := hD
    have hK : va_K (dC, dI) vwCl [] s := hK
    refine W.widen (k := 455) (n := 2511899) (by decide +kernel) (by decide +kernel) ?_
    refine lv_aload_n hx hb dL_law_1290 rfl (lv_at hl 2 rfl) ?_
    refine lv_aload_n hx hb dL_law_1291 rfl (lv_at hl 4 rfl) ?_
    refine lv_iload hx hb dL_law_1292 (lv_at hl 0 rfl) ?_
    refine lv_iconst (v := 1) hx hb dL_law_1294 (by decide) ?_
    refine lv_iadd hx hb dL_law_1295 ?_
    refine lv_topi (fun z521 ez521 => ?_)
    obtain rfl : z521 = 1 := ez521.trans (by decide)
    refine va_sld (i := 1) hx hb hX hbl hbA hS (vp_in_iff.mpr ⟨by decide, by decide⟩) dL_law_1296 ?_
    rw [es1]
    refine lv_aload_n hx hb dL_law_1297 rfl (lv_at hl 4 rfl) ?_
    refine lv_iload hx hb dL_law_1298 (lv_at hl 0 rfl) ?_
    refine lv_iconst (v := 2) hx hb dL_law_1300 (by decide) ?_
    refine lv_iadd hx hb dL_law_1301 ?_
    refine lv_topi (fun z522 ez522 => ?_)
    obtain rfl : z522 = 2 := ez522.trans (by decide)
    refine va_sld (i := 2) hx hb hX hbl hbA hS (vp_in_iff.mpr ⟨by decide, by decide⟩) dL_law_1302 ?_
    rw [es2]
    refine lv_aload_n hx hb dL_law_1303 rfl (lv_at hl 4 rfl) ?_
    refine lv_iload hx hb dL_law_1304 (lv_at hl 0 rfl) ?_
    refine lv_iconst (v := 3) hx hb dL_law_1306 (by decide) ?_
    refine lv_iadd hx hb dL_law_1307 ?_
    refine lv_topi (fun z523 ez523 => ?_)
    obtain rfl : z523 = 3 := ez523.trans (by decide)
    refine va_sld (i := 3) hx hb hX hbl hbA hS (vp_in_iff.mpr ⟨by decide, by decide⟩) dL_law_1308 ?_
    rw [es3]
    have hPc := hP.sub (ws' := [(q77, .inr (20, [.int 0, .ref q78, .int 0, .int 0, .ref q80, .ref q82, .ref q84, .ref q86, .ref q88, .ref q90, .ref q91, .ref q93, .ref q94, .ref q105, .ref q106, .ref q124, .ref q131, .int 0, .int 0, .int 0, .int 0, .int 0, .int 0, .int 0, .int 0, .int 0, .ref q132, .ref q133, .ref q134, .ref q135, .ref q136, .ref q137, .ref q138, .ref q139, .ref q140, .int 0]))]) [0] rfl
    have hDc := hD.sub (ws' := [(q77, .inr (20, [.int 0, .ref q78, .int 0, .int 0, .ref q80, .ref q82, .ref q84, .ref q86, .ref q88, .ref q90, .ref q91, .ref q93, .ref q94, .ref q105, .ref q106, .ref q124, .ref q131, .int 0, .int 0, .int 0, .int 0, .int 0, .int 0, .int 0, .int 0, .int 0, .ref q132, .ref q133, .ref q134, .ref q135, .ref q136, .ref q137, .ref q138, .ref q139, .ref q140, .int 0]))]) [0] (by decide) rfl
    have hKc := hK.sub (tys' := []) [] rfl
    have hFc := va_free (wc := [(q77, .inr (20, [.int 0, .ref q78, .int 0, .int 0, .ref q80, .ref q82, .ref q84, .ref q86, .ref q88, .ref q90, .ref q91, .ref q93, .ref q94, .ref q105, .ref q106, .ref q124, .ref q131, .int 0, .int 0, .int 0, .int 0, .int 0, .int 0, .int 0, .int 0, .int 0, .ref q132, .ref q133, .ref q134, .ref q135, .ref q136, .ref q137, .ref q138, .ref q139, .ref q140, .int 0]))]) hD hS hA [0] rfl
    refine va_calli (va_runV (As := [.int x1, .int x2, .int x3]) (rest := [.int 0]) ⟨hx, hb, hml, hown, hts⟩ (k_X19_descriptor l hlt dC dI q77 x1 x2 x3 q78 q80 q82 q84 q86 q88 q90 q91 q93 q94 q105 q106 q124 q131 q132 q133 q134 q135 q136 q137 q138 q139 q140  H.size) (cwV 3 hts gl_54 rfl rfl rfl (by decide +kernel) ⟨Nat.le_of_ble_eq_true rfl, Nat.le_of_ble_eq_true rfl⟩) ⟨fun a U g mk q => by obtain ⟨q0, q1, qP, qK, qD, qN⟩ := q; exact ⟨q0, q1, qP, va_K.moved (u := U) (U := U.calling g mk a) (Vm.Alike.refl U.vm) qK, qD, nv_same rfl rfl qN⟩, va_recv hKc hPc (ci := 20) (q0 := 0) rfl rfl, fun U hU hW => ⟨rfl, by rw [hU], by rw [hU]; exact hPc, va_K.moved hW.alike hKc, hDc.weaken (fun _ _ _ _ => trivial), nv_call hS hFc hU hW hN⟩⟩ rfl rfl hl.1 rfl (lv_room (Nat.le_of_ble_eq_true rfl)) dL_law_1309 ⟨by decide +kernel, by decide +kernel⟩) hS (fun q _ h => hFc q h) hFc (fun r524 u t H1 locs ht hvm hw hB hz1 hk1 hS => ?_)
    rcases hw with ⟨c_6_0, h9⟩ | ⟨c_6_0, c_6_1, h9⟩ | ⟨c_6_0, c_6_1, c_6_2, h9⟩ | ⟨c_6_0, c_6_1, c_6_2, h9⟩ | h9
    · exact absurd c_1_4 c_6_0
    · exact absurd c_6_1 c_1_0
    · exact (cz_14 x2 c_1_0 c_1_1 c_6_2).elim
    · subst h9
      have hK1 := hK.sub (tys' := []) [] rfl
      obtain ⟨hP, hD⟩ := va_join (wr := []) (w1 := []) hP hD [0] [] rfl rfl (by decide) (by decide) hk1 hFc nv_P0 nv_D0
      have hK := (hK.sub (tys' := []) [] rfl).app hK1
      generalize H1 = H at hP hS ⊢
      have hP : va_P (dC, dI) vwCl [] H := hP
      have hD : va_D A [] := hD
      have hK : va_K (dC, dI) vwCl [] s := hK
      refine W.widen (k := 455) (n := 2511899) (by decide +kernel) (by decide +kernel) ?_
      refine lv_icmp_eq (tgt := 1493) hx hb dL_law_1312 (by decide) (fun _ => ?_) (fun h9 => absurd (by decide) h9)
      refine lv_iinc (v := 6) (lv' := [(4, .int 6), (3, .ref q143), (2, .ref q77), (1, .ref q1), (0, .ref b)]) hx hb dL_law_1493 hl (k := 0) rfl (by decide) (by decide) rfl (fun ls hl => ?_)
      refine lv_goto (tgt := 23) hx hb dL_law_1496 (by decide) ?_
      refine W.widen (k := 600002) (n := 7302232) (by decide +kernel) (by decide +kernel) ?_
      exact kkE _ _ _ hS (lv_sub hl [0, 4] rfl)
    · exact h9.elim
  · subst h9
    have hK1 := hK.sub (tys' := []) [] rfl
    obtain ⟨hP, hD⟩ := va_join (wr := [(q77, .inr (20, [.int 0, .ref q78, .int 0, .int 0, .ref q80, .ref q82, .ref q84, .ref q86, .ref q88, .ref q90, .ref q91, .ref q93, .ref q94, .ref q105, .ref q106, .ref q124, .ref q131, .int 0, .int 0, .int 0, .int 0, .int 0, .int 0, .int 0, .int 0, .int 0, .ref q132, .ref q133, .ref q134, .ref q135, .ref q136, .ref q137, .ref q138, .ref q139, .ref q140, .int 0]))]) (w1 := []) hP hD [0, 1] [2] rfl rfl (by decide) (by decide) hk1 hFc nv_P0 nv_D0
    have hK := (hK.sub (tys' := []) [] rfl).app hK1
    generalize H1 = H at hP hS ⊢
    have hP : va_P (dC, dI) vwCl [(q77, .inr (20, [.int 0, .ref q78, .int 0, .int 0, .ref q80, .ref q82, .ref q84, .ref q86, .ref q88, .ref q90, .ref q91, .ref q93, .ref q94, .ref q105, .ref q106, .ref q124, .ref q131, .int 0, .int 0, .int 0, .int 0, .int 0, .int 0, .int 0, .int 0, .int 0, .ref q132, .ref q133, .ref q134, .ref q135, .ref q136, .ref q137, .ref q138, .ref q139, .ref q140, .int 0]))] H := hP
    have hD : va_D A [(q77, .inr (20, [.int 0, .ref q78, .int 0, .int 0, .ref q80, .ref q82, .ref q84, .ref q86, .ref q88, .ref q90, .ref q91, .ref q93, .ref q94, .ref q105, .ref q106, .ref q124, .ref q131, .int 0, .int 0, .int 0, .int 0, .int 0, .int 0, .int 0, .int 0, .int 0, .ref q132, .ref q133, .ref q134, .ref q135, .ref q136, .ref q137, .ref q138, .ref q139, .ref q140, .int 0]))] := hD
    have hK : va_K (dC, dI) vwCl [] s := hK
    refine W.widen (k := 455) (n := 2511899) (by decide +kernel) (by decide +kernel) ?_
    refine lv_aload_n hx hb dL_law_1290 rfl (lv_at hl 2 rfl) ?_
    refine lv_aload_n hx hb dL_law_1291 rfl (lv_at hl 4 rfl) ?_
    refine lv_iload hx hb dL_law_1292 (lv_at hl 0 rfl) ?_
    refine lv_iconst (v := 1) hx hb dL_law_1294 (by decide) ?_
    refine lv_iadd hx hb dL_law_1295 ?_
    refine lv_topi (fun z525 ez525 => ?_)
    obtain rfl : z525 = 1 := ez525.trans (by decide)
    refine va_sld (i := 1) hx hb hX hbl hbA hS (vp_in_iff.mpr ⟨by decide, by decide⟩) dL_law_1296 ?_
    rw [es1]
    refine lv_aload_n hx hb dL_law_1297 rfl (lv_at hl 4 rfl) ?_
    refine lv_iload hx hb dL_law_1298 (lv_at hl 0 rfl) ?_
    refine lv_iconst (v := 2) hx hb dL_law_1300 (by decide) ?_
    refine lv_iadd hx hb dL_law_1301 ?_
    refine lv_topi (fun z526 ez526 => ?_)
    obtain rfl : z526 = 2 := ez526.trans (by decide)
    refine va_sld (i := 2) hx hb hX hbl hbA hS (vp_in_iff.mpr ⟨by decide, by decide⟩) dL_law_1302 ?_
    rw [es2]
    refine lv_aload_n hx hb dL_law_1303 rfl (lv_at hl 4 rfl) ?_
    refine lv_iload hx hb dL_law_1304 (lv_at hl 0 rfl) ?_
    refine lv_iconst (v := 3) hx hb dL_law_1306 (by decide) ?_
    refine lv_iadd hx hb dL_law_1307 ?_
    refine lv_topi (fun z527 ez527 => ?_)
    obtain rfl : z527 = 3 := ez527.trans (by decide)
    refine va_sld (i := 3) hx hb hX hbl hbA hS (vp_in_iff.mpr ⟨by decide, by decide⟩) dL_law_1308 ?_
    rw [es3]
    have hPc := hP.sub (ws' := [(q77, .inr (20, [.int 0, .ref q78, .int 0, .int 0, .ref q80, .ref q82, .ref q84, .ref q86, .ref q88, .ref q90, .ref q91, .ref q93, .ref q94, .ref q105, .ref q106, .ref q124, .ref q131, .int 0, .int 0, .int 0, .int 0, .int 0, .int 0, .int 0, .int 0, .int 0, .ref q132, .ref q133, .ref q134, .ref q135, .ref q136, .ref q137, .ref q138, .ref q139, .ref q140, .int 0]))]) [0] rfl
    have hDc := hD.sub (ws' := [(q77, .inr (20, [.int 0, .ref q78, .int 0, .int 0, .ref q80, .ref q82, .ref q84, .ref q86, .ref q88, .ref q90, .ref q91, .ref q93, .ref q94, .ref q105, .ref q106, .ref q124, .ref q131, .int 0, .int 0, .int 0, .int 0, .int 0, .int 0, .int 0, .int 0, .int 0, .ref q132, .ref q133, .ref q134, .ref q135, .ref q136, .ref q137, .ref q138, .ref q139, .ref q140, .int 0]))]) [0] (by decide) rfl
    have hKc := hK.sub (tys' := []) [] rfl
    have hFc := va_free (wc := [(q77, .inr (20, [.int 0, .ref q78, .int 0, .int 0, .ref q80, .ref q82, .ref q84, .ref q86, .ref q88, .ref q90, .ref q91, .ref q93, .ref q94, .ref q105, .ref q106, .ref q124, .ref q131, .int 0, .int 0, .int 0, .int 0, .int 0, .int 0, .int 0, .int 0, .int 0, .ref q132, .ref q133, .ref q134, .ref q135, .ref q136, .ref q137, .ref q138, .ref q139, .ref q140, .int 0]))]) hD hS hA [0] rfl
    refine va_calli (va_runV (As := [.int x1, .int x2, .int x3]) (rest := [.int (-1)]) ⟨hx, hb, hml, hown, hts⟩ (k_X19_descriptor l hlt dC dI q77 x1 x2 x3 q78 q80 q82 q84 q86 q88 q90 q91 q93 q94 q105 q106 q124 q131 q132 q133 q134 q135 q136 q137 q138 q139 q140  H.size) (cwV 3 hts gl_54 rfl rfl rfl (by decide +kernel) ⟨Nat.le_of_ble_eq_true rfl, Nat.le_of_ble_eq_true rfl⟩) ⟨fun a U g mk q => by obtain ⟨q0, q1, qP, qK, qD, qN⟩ := q; exact ⟨q0, q1, qP, va_K.moved (u := U) (U := U.calling g mk a) (Vm.Alike.refl U.vm) qK, qD, nv_same rfl rfl qN⟩, va_recv hKc hPc (ci := 20) (q0 := 0) rfl rfl, fun U hU hW => ⟨rfl, by rw [hU], by rw [hU]; exact hPc, va_K.moved hW.alike hKc, hDc.weaken (fun _ _ _ _ => trivial), nv_call hS hFc hU hW hN⟩⟩ rfl rfl hl.1 rfl (lv_room (Nat.le_of_ble_eq_true rfl)) dL_law_1309 ⟨by decide +kernel, by decide +kernel⟩) hS (fun q _ h => hFc q h) hFc (fun r528 u t H1 locs ht hvm hw hB hz1 hk1 hS => ?_)
    rcases hw with ⟨c_7_0, h9⟩ | ⟨c_7_0, c_7_1, h9⟩ | ⟨c_7_0, c_7_1, c_7_2, h9⟩ | ⟨c_7_0, c_7_1, c_7_2, h9⟩ | h9
    · subst h9
      have hK1 := hK.sub (tys' := []) [] rfl
      obtain ⟨hP, hD⟩ := va_join (wr := []) (w1 := []) hP hD [0] [] rfl rfl (by decide) (by decide) hk1 hFc nv_P0 nv_D0
      have hK := (hK.sub (tys' := []) [] rfl).app hK1
      generalize H1 = H at hP hS ⊢
      have hP : va_P (dC, dI) vwCl [] H := hP
      have hD : va_D A [] := hD
      have hK : va_K (dC, dI) vwCl [] s := hK
      refine W.widen (k := 455) (n := 2511899) (by decide +kernel) (by decide +kernel) ?_
      refine lv_icmp_eq (tgt := 1493) hx hb dL_law_1312 (by decide) (fun _ => ?_) (fun h9 => absurd (by decide) h9)
      refine lv_iinc (v := 6) (lv' := [(4, .int 6), (3, .ref q143), (2, .ref q77), (1, .ref q1), (0, .ref b)]) hx hb dL_law_1493 hl (k := 0) rfl (by decide) (by decide) rfl (fun ls hl => ?_)
      refine lv_goto (tgt := 23) hx hb dL_law_1496 (by decide) ?_
      refine W.widen (k := 600002) (n := 7302232) (by decide +kernel) (by decide +kernel) ?_
      exact kkE _ _ _ hS (lv_sub hl [0, 4] rfl)
    · exact absurd c_7_1 c_1_0
    · exact (cz_14 x2 c_1_0 c_1_1 c_7_2).elim
    · exact (cz_16 x3 c_1_2 c_1_3 c_7_0).elim
    · exact h9.elim
  · exact h9.elim
set_option maxHeartbeats 40000000 in
set_option maxRecDepth 100000 in
theorem law_c25 {p : Program} {l : Launch} {e : Env} {s : State} {m : MethodId} {below : List Frame} {meth : Method} {c : Code} {Q : State → Prop} {A : Nat → Prop} {b : Nat} (hlt : l.stackTraces = false) (hx : p.tables.exec = Jvm.exec) (hb : c.code = code) (hml : c.maxLocals = 8) (hown : s.vm.findClass RL = some m.cls) (hts : ∀ w ∈ lw_tbl, w.before #[Value.ref b] s = true) (hN : nv_E A s) (hA : ∀ q : Nat, s.heap.size ≤ q → A q) (hDe : nv_Dc s) (dC : Nat → ClassId) (dI : Nat → Nat → Nat) (q1 : Nat) (q2 : Nat) (q4 : Nat) (q6 : Nat) (q8 : Nat) (q22 : Nat) (q23 : Nat) (q25 : Nat) (q31 : Nat) (q32 : Nat) (q33 : Nat) (q34 : Nat) (q35 : Nat) (q36 : Nat) (q37 : Nat) (q39 : Nat) (q41 : Nat) (q43 : Nat) (q77 : Nat) (q78 : Nat) (q80 : Nat) (q82 : Nat) (q84 : Nat) (q86 : Nat) (q88 : Nat) (q90 : Nat) (q91 : Nat) (q93 : Nat) (q94 : Nat) (q105 : Nat) (q106 : Nat) (q124 : Nat) (q131 : Nat) (q132 : Nat) (q133 : Nat) (q134 : Nat) (q135 : Nat) (q136 : Nat) (q137 : Nat) (q138 : Nat) (q139 : Nat) (q140 : Nat) (q143 : Nat) {xs : Nat → Int32} (hX : va_X b 6 xs s s.heap) (hbl : b < s.heap.size) (hbA : ¬ A b) (x0 : Int32) (es0 : xs (Int32.toNatClampNeg 0) = x0) (x1 : Int32) (es1 : xs (Int32.toNatClampNeg 1) = x1) (x2 : Int32) (es2 : xs (Int32.toNatClampNeg 2) = x2) (x3 : Int32) (es3 : xs (Int32.toNatClampNeg 3) = x3) (x4 : Int32) (es4 : xs (Int32.toNatClampNeg 4) = x4) (x5 : Int32) (es5 : xs (Int32.toNatClampNeg 5) = x5) {H : Heap} {locs : List Loc} {ls : Array Slot} (hK : va_K (dC, dI) vwCl [] s) (hP : va_P (dC, dI) vwCl [(q1, .inr (13, [.ref q2, .int 0, .int 0, .ref q4, .ref q6, .ref q8, .ref q22, .ref q37, .ref q39, .ref q41, .int 0, .ref q43])), (q22, .inr (12, [.ref q23, .ref q25, .ref q31, .ref q32, .ref q33, .ref q34, .int 0, .ref q35, .ref q36, .int 0, .int 0, .int 0, .int 0, .int 0, .int 0, .int 0])), (q77, .inr (20, [.int 0, .ref q78, .int 0, .int 0, .ref q80, .ref q82, .ref q84, .ref q86, .ref q88, .ref q90, .ref q91, .ref q93, .ref q94, .ref q105, .ref q106, .ref q124, .ref q131, .int 0, .int 0, .int 0, .int 0, .int 0, .int 0, .int 0, .int 0, .int 0, .ref q132, .ref q133, .ref q134, .ref q135, .ref q136, .ref q137, .ref q138, .ref q139, .ref q140, .int 0]))] H) (hD : va_D A [(q1, .inr (13, [.ref q2, .int 0, .int 0, .ref q4, .ref q6, .ref q8, .ref q22, .ref q37, .ref q39, .ref q41, .int 0, .ref q43])), (q22, .inr (12, [.ref q23, .ref q25, .ref q31, .ref q32, .ref q33, .ref q34, .int 0, .ref q35, .ref q36, .int 0, .int 0, .int 0, .int 0, .int 0, .int 0, .int 0])), (q77, .inr (20, [.int 0, .ref q78, .int 0, .int 0, .ref q80, .ref q82, .ref q84, .ref q86, .ref q88, .ref q90, .ref q91, .ref q93, .ref q94, .ref q105, .ref q106, .ref q124, .ref q131, .int 0, .int 0, .int 0, .int 0, .int 0, .int 0, .int 0, .int 0, .int 0, .ref q132, .ref q133, .ref q134, .ref q135, .ref q136, .ref q137, .ref q138, .ref q139, .ref q140, .int 0]))]) (hS : va_S A s.heap H locs) (hl : lv_has ls 8 [(4, .int 0), (3, .ref q143), (2, .ref q77), (1, .ref q1), (0, .ref b)]) (kkE : ∀ (H : Heap) (locs : List Loc) (ls : Array Slot), va_S A s.heap H locs → lv_has ls 8 [(4, .int 6), (0, .ref b)] → W p l e room_1 s m #[Value.ref b] below meth c H locs 600002 7302232 Q (F0 m 23 ls [])) : W p l e room_1 s m #[Value.ref b] below meth c H locs 455 2511899 Q (F0 m 1317 ls []) := by
  refine lv_aload_n hx hb dL_law_1317 rfl (lv_at hl 3 rfl) ?_
  refine lv_aload_n hx hb dL_law_1318 rfl (lv_at hl 4 rfl) ?_
  refine lv_iload hx hb dL_law_1319 (lv_at hl 0 rfl) ?_
  refine lv_iconst (v := 1) hx hb dL_law_1321 (by decide) ?_
  refine lv_iadd hx hb dL_law_1322 ?_
  refine lv_topi (fun z501 ez501 => ?_)
  obtain rfl : z501 = 1 := ez501.trans (by decide)
  refine va_sld (i := 1) hx hb hX hbl hbA hS (vp_in_iff.mpr ⟨by decide, by decide⟩) dL_law_1323 ?_
  rw [es1]
  refine lv_aload_n hx hb dL_law_1324 rfl (lv_at hl 4 rfl) ?_
  refine lv_iload hx hb dL_law_1325 (lv_at hl 0 rfl) ?_
  refine lv_iconst (v := 2) hx hb dL_law_1327 (by decide) ?_
  refine lv_iadd hx hb dL_law_1328 ?_
  refine lv_topi (fun z502 ez502 => ?_)
  obtain rfl : z502 = 2 := ez502.trans (by decide)
  refine va_sld (i := 2) hx hb hX hbl hbA hS (vp_in_iff.mpr ⟨by decide, by decide⟩) dL_law_1329 ?_
  rw [es2]
  refine lv_aload_n hx hb dL_law_1330 rfl (lv_at hl 4 rfl) ?_
  refine lv_iload hx hb dL_law_1331 (lv_at hl 0 rfl) ?_
  refine lv_iconst (v := 3) hx hb dL_law_1333 (by decide) ?_
  refine lv_iadd hx hb dL_law_1334 ?_
  refine lv_topi (fun z503 ez503 => ?_)
  obtain rfl : z503 = 3 := ez503.trans (by decide)
  refine va_sld (i := 3) hx hb hX hbl hbA hS (vp_in_iff.mpr ⟨by decide, by decide⟩) dL_law_1335 ?_
  rw [es3]
  have hPc := hP.sub (ws' := [(q1, .inr (13, [.ref q2, .int 0, .int 0, .ref q4, .ref q6, .ref q8, .ref q22, .ref q37, .ref q39, .ref q41, .int 0, .ref q43])), (q22, .inr (12, [.ref q23, .ref q25, .ref q31, .ref q32, .ref q33, .ref q34, .int 0, .ref q35, .ref q36, .int 0, .int 0, .int 0, .int 0, .int 0, .int 0, .int 0]))]) [0, 1] rfl
  have hDc := hD.sub (ws' := [(q1, .inr (13, [.ref q2, .int 0, .int 0, .ref q4, .ref q6, .ref q8, .ref q22, .ref q37, .ref q39, .ref q41, .int 0, .ref q43])), (q22, .inr (12, [.ref q23, .ref q25, .ref q31, .ref q32, .ref q33, .ref q34, .int 0, .ref q35, .ref q36, .int 0, .int 0, .int 0, .int 0, .int 0, .int 0, .int 0]))]) [0, 1] (by decide) rfl
  have hKc := hK.sub (tys' := []) [] rfl
  have hFc := va_free (wc := [(q1, .inr (13, [.ref q2, .int 0, .int 0, .ref q4, .ref q6, .ref q8, .ref q22, .ref q37, .ref q39, .ref q41, .int 0, .ref q43])), (q22, .inr (12, [.ref q23, .ref q25, .ref q31, .ref q32, .ref q33, .ref q34, .int 0, .ref q35, .ref q36, .int 0, .int 0, .int 0, .int 0, .int 0, .int 0, .int 0]))]) hD hS hA [0, 1] rfl
  refine va_calli (va_runV (As := [.int x1, .int x2, .int x3]) (rest := []) ⟨hx, hb, hml, hown, hts⟩ (k_X12_held l hlt dC dI q1 q22 x1 x2 x3 q2 q4 q6 q8 q37 q39 q41 q43 q23 q25 q31 q32 q33 q34 q35 q36  H.size) (cwV 3 hts gl_55 rfl rfl rfl (by decide +kernel) ⟨Nat.le_of_ble_eq_true rfl, Nat.le_of_ble_eq_true rfl⟩) ⟨fun a U g mk q => by obtain ⟨q0, q1, qP, qK, qD, qN⟩ := q; exact ⟨q0, q1, qP, va_K.moved (u := U) (U := U.calling g mk a) (Vm.Alike.refl U.vm) qK, qD, nv_same rfl rfl qN⟩, va_recv hKc hPc (ci := 13) (q0 := 0) rfl rfl, fun U hU hW => ⟨rfl, by rw [hU], by rw [hU]; exact hPc, va_K.moved hW.alike hKc, hDc.weaken (fun _ _ _ _ => trivial), nv_call hS hFc hU hW hN⟩⟩ rfl rfl hl.1 rfl (lv_room (Nat.le_of_ble_eq_true rfl)) dL_law_1336 ⟨by decide +kernel, by decide +kernel⟩) hS (fun q _ h => hFc q h) hFc (fun r504 u t H1 locs ht hvm hw hB hz1 hk1 hS => ?_)
  obtain ⟨hP1, hK1, hD1⟩ := hB
  rw [ht] at hP1
  have hK1 := va_K.moved hvm.symm hK1
  obtain rfl : r504 = (-1) := hw
  obtain ⟨hP, hD⟩ := va_join (wr := [(q77, .inr (20, [.int 0, .ref q78, .int 0, .int 0, .ref q80, .ref q82, .ref q84, .ref q86, .ref q88, .ref q90, .ref q91, .ref q93, .ref q94, .ref q105, .ref q106, .ref q124, .ref q131, .int 0, .int 0, .int 0, .int 0, .int 0, .int 0, .int 0, .int 0, .int 0, .ref q132, .ref q133, .ref q134, .ref q135, .ref q136, .ref q137, .ref q138, .ref q139, .ref q140, .int 0]))]) (w1 := [(q1, .inr (13, [.ref q2, .int 0, .int 0, .ref q4, .ref q6, .ref q8, .ref q22, .ref q37, .ref q39, .ref q41, .int 0, .ref q43])), (q22, .inr (12, [.ref q23, .ref q25, .ref q31, .ref q32, .ref q33, .ref q34, .int 0, .ref q35, .ref q36, .int 0, .int 0, .int 0, .int 0, .int 0, .int 0, .int 0]))]) hP hD [0, 1] [2] rfl rfl (by decide) (by decide) hk1 hFc hP1 hD1
  have hK := (hK.sub (tys' := []) [] rfl).app hK1
  generalize H1 = H at hP hS ⊢
  have hP : va_P (dC, dI) vwCl [(q77, .inr (20, [.int 0, .ref q78, .int 0, .int 0, .ref q80, .ref q82, .ref q84, .ref q86, .ref q88, .ref q90, .ref q91, .ref q93, .ref q94, .ref q105, .ref q106, .ref q124, .ref q131, .int 0, .int 0, .int 0, .int 0, .int 0, .int 0, .int 0, .int 0, .int 0, .ref q132, .ref q133, .ref q134, .ref q135, .ref q136, .ref q137, .ref q138, .ref q139, .ref q140, .int 0])), (q1, .inr (13, [.ref q2, .int 0, .int 0, .ref q4, .ref q6, .ref q8, .ref q22, .ref q37, .ref q39, .ref q41, .int 0, .ref q43])), (q22, .inr (12, [.ref q23, .ref q25, .ref q31, .ref q32, .ref q33, .ref q34, .int 0, .ref q35, .ref q36, .int 0, .int 0, .int 0, .int 0, .int 0, .int 0, .int 0]))] H := hP
  have hD : va_D A [(q77, .inr (20, [.int 0, .ref q78, .int 0, .int 0, .ref q80, .ref q82, .ref q84, .ref q86, .ref q88, .ref q90, .ref q91, .ref q93, .ref q94, .ref q105, .ref q106, .ref q124, .ref q131, .int 0, .int 0, .int 0, .int 0, .int 0, .int 0, .int 0, .int 0, .int 0, .ref q132, .ref q133, .ref q134, .ref q135, .ref q136, .ref q137, .ref q138, .ref q139, .ref q140, .int 0])), (q1, .inr (13, [.ref q2, .int 0, .int 0, .ref q4, .ref q6, .ref q8, .ref q22, .ref q37, .ref q39, .ref q41, .int 0, .ref q43])), (q22, .inr (12, [.ref q23, .ref q25, .ref q31, .ref q32, .ref q33, .ref q34, .int 0, .ref q35, .ref q36, .int 0, .int 0, .int 0, .int 0, .int 0, .int 0, .int 0]))] := hD
  have hK : va_K (dC, dI) vwCl [] s := hK
  refine W.widen (k := 455) (n := 2511899) (by decide +kernel) (by decide +kernel) ?_
  refine lv_aload_n hx hb dL_law_1339 rfl (lv_at hl 2 rfl) ?_
  refine lv_aload_n hx hb dL_law_1340 rfl (lv_at hl 4 rfl) ?_
  refine lv_iload hx hb dL_law_1341 (lv_at hl 0 rfl) ?_
  refine lv_iconst (v := 1) hx hb dL_law_1343 (by decide) ?_
  refine lv_iadd hx hb dL_law_1344 ?_
  refine lv_topi (fun z505 ez505 => ?_)
  obtain rfl : z505 = 1 := ez505.trans (by decide)
  refine va_sld (i := 1) hx hb hX hbl hbA hS (vp_in_iff.mpr ⟨by decide, by decide⟩) dL_law_1345 ?_
  rw [es1]
  refine lv_aload_n hx hb dL_law_1346 rfl (lv_at hl 4 rfl) ?_
  refine lv_iload hx hb dL_law_1347 (lv_at hl 0 rfl) ?_
  refine lv_iconst (v := 2) hx hb dL_law_1349 (by decide) ?_
  refine lv_iadd hx hb dL_law_1350 ?_
  refine lv_topi (fun z506 ez506 => ?_)
  obtain rfl : z506 = 2 := ez506.trans (by decide)
  refine va_sld (i := 2) hx hb hX hbl hbA hS (vp_in_iff.mpr ⟨by decide, by decide⟩) dL_law_1351 ?_
  rw [es2]
  refine lv_aload_n hx hb dL_law_1352 rfl (lv_at hl 4 rfl) ?_
  refine lv_iload hx hb dL_law_1353 (lv_at hl 0 rfl) ?_
  refine lv_iconst (v := 3) hx hb dL_law_1355 (by decide) ?_
  refine lv_iadd hx hb dL_law_1356 ?_
  refine lv_topi (fun z507 ez507 => ?_)
  obtain rfl : z507 = 3 := ez507.trans (by decide)
  refine va_sld (i := 3) hx hb hX hbl hbA hS (vp_in_iff.mpr ⟨by decide, by decide⟩) dL_law_1357 ?_
  rw [es3]
  have hPc := hP.sub (ws' := [(q77, .inr (20, [.int 0, .ref q78, .int 0, .int 0, .ref q80, .ref q82, .ref q84, .ref q86, .ref q88, .ref q90, .ref q91, .ref q93, .ref q94, .ref q105, .ref q106, .ref q124, .ref q131, .int 0, .int 0, .int 0, .int 0, .int 0, .int 0, .int 0, .int 0, .int 0, .ref q132, .ref q133, .ref q134, .ref q135, .ref q136, .ref q137, .ref q138, .ref q139, .ref q140, .int 0]))]) [0] rfl
  have hDc := hD.sub (ws' := [(q77, .inr (20, [.int 0, .ref q78, .int 0, .int 0, .ref q80, .ref q82, .ref q84, .ref q86, .ref q88, .ref q90, .ref q91, .ref q93, .ref q94, .ref q105, .ref q106, .ref q124, .ref q131, .int 0, .int 0, .int 0, .int 0, .int 0, .int 0, .int 0, .int 0, .int 0, .ref q132, .ref q133, .ref q134, .ref q135, .ref q136, .ref q137, .ref q138, .ref q139, .ref q140, .int 0]))]) [0] (by decide) rfl
  have hKc := hK.sub (tys' := []) [] rfl
  have hFc := va_free (wc := [(q77, .inr (20, [.int 0, .ref q78, .int 0, .int 0, .ref q80, .ref q82, .ref q84, .ref q86, .ref q88, .ref q90, .ref q91, .ref q93, .ref q94, .ref q105, .ref q106, .ref q124, .ref q131, .int 0, .int 0, .int 0, .int 0, .int 0, .int 0, .int 0, .int 0, .int 0, .ref q132, .ref q133, .ref q134, .ref q135, .ref q136, .ref q137, .ref q138, .ref q139, .ref q140, .int 0]))]) hD hS hA [0] rfl
  refine va_calli (va_runV (As := [.int x1, .int x2, .int x3]) (rest := [.int (-1)]) ⟨hx, hb, hml, hown, hts⟩ (k_X19_held l hlt dC dI q77 x1 x2 x3 q78 q80 q82 q84 q86 q88 q90 q91 q93 q94 q105 q106 q124 q131 q132 q133 q134 q135 q136 q137 q138 q139 q140  H.size) (cwV 3 hts gl_56 rfl rfl rfl (by decide +kernel) ⟨Nat.le_of_ble_eq_true rfl, Nat.le_of_ble_eq_true rfl⟩) ⟨fun a U g mk q => by obtain ⟨q0, q1, qP, qK, qD, qN⟩ := q; exact ⟨q0, q1, qP, va_K.moved (u := U) (U := U.calling g mk a) (Vm.Alike.refl U.vm) qK, qD, nv_same rfl rfl qN⟩, va_recv hKc hPc (ci := 20) (q0 := 0) rfl rfl, fun U hU hW => ⟨rfl, by rw [hU], by rw [hU]; exact hPc, va_K.moved hW.alike hKc, hDc.weaken (fun _ _ _ _ => trivial), nv_call hS hFc hU hW hN⟩⟩ rfl rfl hl.1 rfl (lv_room (Nat.le_of_ble_eq_true rfl)) dL_law_1358 ⟨by decide +kernel, by decide +kernel⟩) hS (fun q _ h => hFc q h) hFc (fun r508 u t H1 locs ht hvm hw hB hz1 hk1 hS => ?_)
  obtain ⟨hP1, hK1, hD1⟩ := hB
  rw [ht] at hP1
  have hK1 := va_K.moved hvm.symm hK1
  obtain rfl : r508 = (-1) := hw
  obtain ⟨hP, hD⟩ := va_join (wr := [(q1, .inr (13, [.ref q2, .int 0, .int 0, .ref q4, .ref q6, .ref q8, .ref q22, .ref q37, .ref q39, .ref q41, .int 0, .ref q43])), (q22, .inr (12, [.ref q23, .ref q25, .ref q31, .ref q32, .ref q33, .ref q34, .int 0, .ref q35, .ref q36, .int 0, .int 0, .int 0, .int 0, .int 0, .int 0, .int 0]))]) (w1 := [(q77, .inr (20, [.int 0, .ref q78, .int 0, .int 0, .ref q80, .ref q82, .ref q84, .ref q86, .ref q88, .ref q90, .ref q91, .ref q93, .ref q94, .ref q105, .ref q106, .ref q124, .ref q131, .int 0, .int 0, .int 0, .int 0, .int 0, .int 0, .int 0, .int 0, .int 0, .ref q132, .ref q133, .ref q134, .ref q135, .ref q136, .ref q137, .ref q138, .ref q139, .ref q140, .int 0]))]) hP hD [0] [1, 2] rfl rfl (by decide) (by decide) hk1 hFc hP1 hD1
  have hK := (hK.sub (tys' := []) [] rfl).app hK1
  generalize H1 = H at hP hS ⊢
  have hP : va_P (dC, dI) vwCl [(q1, .inr (13, [.ref q2, .int 0, .int 0, .ref q4, .ref q6, .ref q8, .ref q22, .ref q37, .ref q39, .ref q41, .int 0, .ref q43])), (q22, .inr (12, [.ref q23, .ref q25, .ref q31, .ref q32, .ref q33, .ref q34, .int 0, .ref q35, .ref q36, .int 0, .int 0, .int 0, .int 0, .int 0, .int 0, .int 0])), (q77, .inr (20, [.int 0, .ref q78, .int 0, .int 0, .ref q80, .ref q82, .ref q84, .ref q86, .ref q88, .ref q90, .ref q91, .ref q93, .ref q94, .ref q105, .ref q106, .ref q124, .ref q131, .int 0, .int 0, .int 0, .int 0, .int 0, .int 0, .int 0, .int 0, .int 0, .ref q132, .ref q133, .ref q134, .ref q135, .ref q136, .ref q137, .ref q138, .ref q139, .ref q140, .int 0]))] H := hP
  have hD : va_D A [(q1, .inr (13, [.ref q2, .int 0, .int 0, .ref q4, .ref q6, .ref q8, .ref q22, .ref q37, .ref q39, .ref q41, .int 0, .ref q43])), (q22, .inr (12, [.ref q23, .ref q25, .ref q31, .ref q32, .ref q33, .ref q34, .int 0, .ref q35, .ref q36, .int 0, .int 0, .int 0, .int 0, .int 0, .int 0, .int 0])), (q77, .inr (20, [.int 0, .ref q78, .int 0, .int 0, .ref q80, .ref q82, .ref q84, .ref q86, .ref q88, .ref q90, .ref q91, .ref q93, .ref q94, .ref q105, .ref q106, .ref q124, .ref q131, .int 0, .int 0, .int 0, .int 0, .int 0, .int 0, .int 0, .int 0, .int 0, .ref q132, .ref q133, .ref q134, .ref q135, .ref q136, .ref q137, .ref q138, .ref q139, .ref q140, .int 0]))] := hD
  have hK : va_K (dC, dI) vwCl [] s := hK
  refine W.widen (k := 455) (n := 2511899) (by decide +kernel) (by decide +kernel) ?_
  refine lv_icmp_eq (tgt := 1493) hx hb dL_law_1361 (by decide) (fun _ => ?_) (fun h9 => absurd (by decide) h9)
  refine lv_iinc (v := 6) (lv' := [(4, .int 6), (3, .ref q143), (2, .ref q77), (1, .ref q1), (0, .ref b)]) hx hb dL_law_1493 hl (k := 0) rfl (by decide) (by decide) rfl (fun ls hl => ?_)
  refine lv_goto (tgt := 23) hx hb dL_law_1496 (by decide) ?_
  refine W.widen (k := 600002) (n := 7302232) (by decide +kernel) (by decide +kernel) ?_
  exact kkE _ _ _ hS (lv_sub hl [0, 4] rfl)
set_option maxHeartbeats 40000000 in
set_option maxRecDepth 100000 in
theorem law_c26 {p : Program} {l : Launch} {e : Env} {s : State} {m : MethodId} {below : List Frame} {meth : Method} {c : Code} {Q : State → Prop} {A : Nat → Prop} {b : Nat} (hlt : l.stackTraces = false) (hx : p.tables.exec = Jvm.exec) (hb : c.code = code) (hml : c.maxLocals = 8) (hown : s.vm.findClass RL = some m.cls) (hts : ∀ w ∈ lw_tbl, w.before #[Value.ref b] s = true) (hN : nv_E A s) (hA : ∀ q : Nat, s.heap.size ≤ q → A q) (hDe : nv_Dc s) (dC : Nat → ClassId) (dI : Nat → Nat → Nat) (q1 : Nat) (q2 : Nat) (q4 : Nat) (q6 : Nat) (q8 : Nat) (q22 : Nat) (q23 : Nat) (q25 : Nat) (q31 : Nat) (q32 : Nat) (q33 : Nat) (q34 : Nat) (q35 : Nat) (q36 : Nat) (q37 : Nat) (q39 : Nat) (q41 : Nat) (q43 : Nat) (q77 : Nat) (q78 : Nat) (q80 : Nat) (q82 : Nat) (q84 : Nat) (q86 : Nat) (q88 : Nat) (q90 : Nat) (q91 : Nat) (q93 : Nat) (q94 : Nat) (q105 : Nat) (q106 : Nat) (q124 : Nat) (q131 : Nat) (q132 : Nat) (q133 : Nat) (q134 : Nat) (q135 : Nat) (q136 : Nat) (q137 : Nat) (q138 : Nat) (q139 : Nat) (q140 : Nat) (q143 : Nat) {xs : Nat → Int32} (hX : va_X b 6 xs s s.heap) (hbl : b < s.heap.size) (hbA : ¬ A b) (x0 : Int32) (es0 : xs (Int32.toNatClampNeg 0) = x0) (x1 : Int32) (es1 : xs (Int32.toNatClampNeg 1) = x1) (x2 : Int32) (es2 : xs (Int32.toNatClampNeg 2) = x2) (x3 : Int32) (es3 : xs (Int32.toNatClampNeg 3) = x3) (x4 : Int32) (es4 : xs (Int32.toNatClampNeg 4) = x4) (x5 : Int32) (es5 : xs (Int32.toNatClampNeg 5) = x5) {H : Heap} {locs : List Loc} {ls : Array Slot} (hK : va_K (dC, dI) vwCl [] s) (hP : va_P (dC, dI) vwCl [(q1, .inr (13, [.ref q2, .int 0, .int 0, .ref q4, .ref q6, .ref q8, .ref q22, .ref q37, .ref q39, .ref q41, .int 0, .ref q43])), (q22, .inr (12, [.ref q23, .ref q25, .ref q31, .ref q32, .ref q33, .ref q34, .int 0, .ref q35, .ref q36, .int 0, .int 0, .int 0, .int 0, .int 0, .int 0, .int 0])), (q77, .inr (20, [.int 0, .ref q78, .int 0, .int 0, .ref q80, .ref q82, .ref q84, .ref q86, .ref q88, .ref q90, .ref q91, .ref q93, .ref q94, .ref q105, .ref q106, .ref q124, .ref q131, .int 0, .int 0, .int 0, .int 0, .int 0, .int 0, .int 0, .int 0, .int 0, .ref q132, .ref q133, .ref q134, .ref q135, .ref q136, .ref q137, .ref q138, .ref q139, .ref q140, .int 0]))] H) (hD : va_D A [(q1, .inr (13, [.ref q2, .int 0, .int 0, .ref q4, .ref q6, .ref q8, .ref q22, .ref q37, .ref q39, .ref q41, .int 0, .ref q43])), (q22, .inr (12, [.ref q23, .ref q25, .ref q31, .ref q32, .ref q33, .ref q34, .int 0, .ref q35, .ref q36, .int 0, .int 0, .int 0, .int 0, .int 0, .int 0, .int 0])), (q77, .inr (20, [.int 0, .ref q78, .int 0, .int 0, .ref q80, .ref q82, .ref q84, .ref q86, .ref q88, .ref q90, .ref q91, .ref q93, .ref q94, .ref q105, .ref q106, .ref q124, .ref q131, .int 0, .int 0, .int 0, .int 0, .int 0, .int 0, .int 0, .int 0, .int 0, .ref q132, .ref q133, .ref q134, .ref q135, .ref q136, .ref q137, .ref q138, .ref q139, .ref q140, .int 0]))]) (hS : va_S A s.heap H locs) (hl : lv_has ls 8 [(4, .int 0), (3, .ref q143), (2, .ref q77), (1, .ref q1), (0, .ref b)]) (kkE : ∀ (H : Heap) (locs : List Loc) (ls : Array Slot), va_S A s.heap H locs → lv_has ls 8 [(4, .int 6), (0, .ref b)] → W p l e room_1 s m #[Value.ref b] below meth c H locs 600002 7302232 Q (F0 m 23 ls [])) : W p l e room_1 s m #[Value.ref b] below meth c H locs 455 2511899 Q (F0 m 1366 ls []) := by
  refine lv_aload_n hx hb dL_law_1366 rfl (lv_at hl 3 rfl) ?_
  refine lv_aload_n hx hb dL_law_1367 rfl (lv_at hl 4 rfl) ?_
  refine lv_iload hx hb dL_law_1368 (lv_at hl 0 rfl) ?_
  refine lv_iconst (v := 1) hx hb dL_law_1370 (by decide) ?_
  refine lv_iadd hx hb dL_law_1371 ?_
  refine lv_topi (fun z501 ez501 => ?_)
  obtain rfl : z501 = 1 := ez501.trans (by decide)
  refine va_sld (i := 1) hx hb hX hbl hbA hS (vp_in_iff.mpr ⟨by decide, by decide⟩) dL_law_1372 ?_
  rw [es1]
  have hPc := hP.sub (ws' := [(q1, .inr (13, [.ref q2, .int 0, .int 0, .ref q4, .ref q6, .ref q8, .ref q22, .ref q37, .ref q39, .ref q41, .int 0, .ref q43])), (q22, .inr (12, [.ref q23, .ref q25, .ref q31, .ref q32, .ref q33, .ref q34, .int 0, .ref q35, .ref q36, .int 0, .int 0, .int 0, .int 0, .int 0, .int 0, .int 0]))]) [0, 1] rfl
  have hDc := hD.sub (ws' := [(q1, .inr (13, [.ref q2, .int 0, .int 0, .ref q4, .ref q6, .ref q8, .ref q22, .ref q37, .ref q39, .ref q41, .int 0, .ref q43])), (q22, .inr (12, [.ref q23, .ref q25, .ref q31, .ref q32, .ref q33, .ref q34, .int 0, .ref q35, .ref q36, .int 0, .int 0, .int 0, .int 0, .int 0, .int 0, .int 0]))]) [0, 1] (by decide) rfl
  have hKc := hK.sub (tys' := []) [] rfl
  have hFc := va_free (wc := [(q1, .inr (13, [.ref q2, .int 0, .int 0, .ref q4, .ref q6, .ref q8, .ref q22, .ref q37, .ref q39, .ref q41, .int 0, .ref q43])), (q22, .inr (12, [.ref q23, .ref q25, .ref q31, .ref q32, .ref q33, .ref q34, .int 0, .ref q35, .ref q36, .int 0, .int 0, .int 0, .int 0, .int 0, .int 0, .int 0]))]) hD hS hA [0, 1] rfl
  refine va_calli (va_runV (As := [.int x1]) (rest := []) ⟨hx, hb, hml, hown, hts⟩ (k_X12_shown l hlt dC dI q1 q22 x1 q2 q4 q6 q8 q37 q39 q41 q43 q23 q25 q31 q32 q33 q34 q35 q36  H.size) (cwV 1 hts gl_57 rfl rfl rfl (by decide +kernel) ⟨Nat.le_of_ble_eq_true rfl, Nat.le_of_ble_eq_true rfl⟩) ⟨fun a U g mk q => by obtain ⟨q0, q1, qP, qK, qD, qN⟩ := q; exact ⟨q0, q1, qP, va_K.moved (u := U) (U := U.calling g mk a) (Vm.Alike.refl U.vm) qK, qD, nv_same rfl rfl qN⟩, va_recv hKc hPc (ci := 13) (q0 := 0) rfl rfl, fun U hU hW => ⟨rfl, by rw [hU], by rw [hU]; exact hPc, va_K.moved hW.alike hKc, hDc.weaken (fun _ _ _ _ => trivial), nv_call hS hFc hU hW hN⟩⟩ rfl rfl hl.1 rfl (lv_room (Nat.le_of_ble_eq_true rfl)) dL_law_1373 ⟨by decide +kernel, by decide +kernel⟩) hS (fun q _ h => hFc q h) hFc (fun r502 u t H1 locs ht hvm hw hB hz1 hk1 hS => ?_)
  obtain ⟨hP1, hK1, hD1⟩ := hB
  rw [ht] at hP1
  have hK1 := va_K.moved hvm.symm hK1
  obtain rfl : r502 = (-1) := hw
  obtain ⟨hP, hD⟩ := va_join (wr := [(q77, .inr (20, [.int 0, .ref q78, .int 0, .int 0, .ref q80, .ref q82, .ref q84, .ref q86, .ref q88, .ref q90, .ref q91, .ref q93, .ref q94, .ref q105, .ref q106, .ref q124, .ref q131, .int 0, .int 0, .int 0, .int 0, .int 0, .int 0, .int 0, .int 0, .int 0, .ref q132, .ref q133, .ref q134, .ref q135, .ref q136, .ref q137, .ref q138, .ref q139, .ref q140, .int 0]))]) (w1 := [(q1, .inr (13, [.ref q2, .int 0, .int 0, .ref q4, .ref q6, .ref q8, .ref q22, .ref q37, .ref q39, .ref q41, .int 0, .ref q43])), (q22, .inr (12, [.ref q23, .ref q25, .ref q31, .ref q32, .ref q33, .ref q34, .int 0, .ref q35, .ref q36, .int 0, .int 0, .int 0, .int 0, .int 0, .int 0, .int 0]))]) hP hD [0, 1] [2] rfl rfl (by decide) (by decide) hk1 hFc hP1 hD1
  have hK := (hK.sub (tys' := []) [] rfl).app hK1
  generalize H1 = H at hP hS ⊢
  have hP : va_P (dC, dI) vwCl [(q77, .inr (20, [.int 0, .ref q78, .int 0, .int 0, .ref q80, .ref q82, .ref q84, .ref q86, .ref q88, .ref q90, .ref q91, .ref q93, .ref q94, .ref q105, .ref q106, .ref q124, .ref q131, .int 0, .int 0, .int 0, .int 0, .int 0, .int 0, .int 0, .int 0, .int 0, .ref q132, .ref q133, .ref q134, .ref q135, .ref q136, .ref q137, .ref q138, .ref q139, .ref q140, .int 0])), (q1, .inr (13, [.ref q2, .int 0, .int 0, .ref q4, .ref q6, .ref q8, .ref q22, .ref q37, .ref q39, .ref q41, .int 0, .ref q43])), (q22, .inr (12, [.ref q23, .ref q25, .ref q31, .ref q32, .ref q33, .ref q34, .int 0, .ref q35, .ref q36, .int 0, .int 0, .int 0, .int 0, .int 0, .int 0, .int 0]))] H := hP
  have hD : va_D A [(q77, .inr (20, [.int 0, .ref q78, .int 0, .int 0, .ref q80, .ref q82, .ref q84, .ref q86, .ref q88, .ref q90, .ref q91, .ref q93, .ref q94, .ref q105, .ref q106, .ref q124, .ref q131, .int 0, .int 0, .int 0, .int 0, .int 0, .int 0, .int 0, .int 0, .int 0, .ref q132, .ref q133, .ref q134, .ref q135, .ref q136, .ref q137, .ref q138, .ref q139, .ref q140, .int 0])), (q1, .inr (13, [.ref q2, .int 0, .int 0, .ref q4, .ref q6, .ref q8, .ref q22, .ref q37, .ref q39, .ref q41, .int 0, .ref q43])), (q22, .inr (12, [.ref q23, .ref q25, .ref q31, .ref q32, .ref q33, .ref q34, .int 0, .ref q35, .ref q36, .int 0, .int 0, .int 0, .int 0, .int 0, .int 0, .int 0]))] := hD
  have hK : va_K (dC, dI) vwCl [] s := hK
  refine W.widen (k := 455) (n := 2511899) (by decide +kernel) (by decide +kernel) ?_
  refine lv_aload_n hx hb dL_law_1376 rfl (lv_at hl 2 rfl) ?_
  refine lv_aload_n hx hb dL_law_1377 rfl (lv_at hl 4 rfl) ?_
  refine lv_iload hx hb dL_law_1378 (lv_at hl 0 rfl) ?_
  refine lv_iconst (v := 1) hx hb dL_law_1380 (by decide) ?_
  refine lv_iadd hx hb dL_law_1381 ?_
  refine lv_topi (fun z503 ez503 => ?_)
  obtain rfl : z503 = 1 := ez503.trans (by decide)
  refine va_sld (i := 1) hx hb hX hbl hbA hS (vp_in_iff.mpr ⟨by decide, by decide⟩) dL_law_1382 ?_
  rw [es1]
  have hPc := hP.sub (ws' := [(q77, .inr (20, [.int 0, .ref q78, .int 0, .int 0, .ref q80, .ref q82, .ref q84, .ref q86, .ref q88, .ref q90, .ref q91, .ref q93, .ref q94, .ref q105, .ref q106, .ref q124, .ref q131, .int 0, .int 0, .int 0, .int 0, .int 0, .int 0, .int 0, .int 0, .int 0, .ref q132, .ref q133, .ref q134, .ref q135, .ref q136, .ref q137, .ref q138, .ref q139, .ref q140, .int 0]))]) [0] rfl
  have hDc := hD.sub (ws' := [(q77, .inr (20, [.int 0, .ref q78, .int 0, .int 0, .ref q80, .ref q82, .ref q84, .ref q86, .ref q88, .ref q90, .ref q91, .ref q93, .ref q94, .ref q105, .ref q106, .ref q124, .ref q131, .int 0, .int 0, .int 0, .int 0, .int 0, .int 0, .int 0, .int 0, .int 0, .ref q132, .ref q133, .ref q134, .ref q135, .ref q136, .ref q137, .ref q138, .ref q139, .ref q140, .int 0]))]) [0] (by decide) rfl
  have hKc := hK.sub (tys' := []) [] rfl
  have hFc := va_free (wc := [(q77, .inr (20, [.int 0, .ref q78, .int 0, .int 0, .ref q80, .ref q82, .ref q84, .ref q86, .ref q88, .ref q90, .ref q91, .ref q93, .ref q94, .ref q105, .ref q106, .ref q124, .ref q131, .int 0, .int 0, .int 0, .int 0, .int 0, .int 0, .int 0, .int 0, .int 0, .ref q132, .ref q133, .ref q134, .ref q135, .ref q136, .ref q137, .ref q138, .ref q139, .ref q140, .int 0]))]) hD hS hA [0] rfl
  refine va_calli (va_runV (As := [.int x1]) (rest := [.int (-1)]) ⟨hx, hb, hml, hown, hts⟩ (k_X19_shown l hlt dC dI q77 x1 q78 q80 q82 q84 q86 q88 q90 q91 q93 q94 q105 q106 q124 q131 q132 q133 q134 q135 q136 q137 q138 q139 q140  H.size) (cwV 1 hts gl_58 rfl rfl rfl (by decide +kernel) ⟨Nat.le_of_ble_eq_true rfl, Nat.le_of_ble_eq_true rfl⟩) ⟨fun a U g mk q => by obtain ⟨q0, q1, qP, qK, qD, qN⟩ := q; exact ⟨q0, q1, qP, va_K.moved (u := U) (U := U.calling g mk a) (Vm.Alike.refl U.vm) qK, qD, nv_same rfl rfl qN⟩, va_recv hKc hPc (ci := 20) (q0 := 0) rfl rfl, fun U hU hW => ⟨rfl, by rw [hU], by rw [hU]; exact hPc, va_K.moved hW.alike hKc, hDc.weaken (fun _ _ _ _ => trivial), nv_call hS hFc hU hW hN⟩⟩ rfl rfl hl.1 rfl (lv_room (Nat.le_of_ble_eq_true rfl)) dL_law_1383 ⟨by decide +kernel, by decide +kernel⟩) hS (fun q _ h => hFc q h) hFc (fun r504 u t H1 locs ht hvm hw hB hz1 hk1 hS => ?_)
  obtain ⟨hP1, hK1, hD1⟩ := hB
  rw [ht] at hP1
  have hK1 := va_K.moved hvm.symm hK1
  obtain rfl : r504 = (-1) := hw
  obtain ⟨hP, hD⟩ := va_join (wr := [(q1, .inr (13, [.ref q2, .int 0, .int 0, .ref q4, .ref q6, .ref q8, .ref q22, .ref q37, .ref q39, .ref q41, .int 0, .ref q43])), (q22, .inr (12, [.ref q23, .ref q25, .ref q31, .ref q32, .ref q33, .ref q34, .int 0, .ref q35, .ref q36, .int 0, .int 0, .int 0, .int 0, .int 0, .int 0, .int 0]))]) (w1 := [(q77, .inr (20, [.int 0, .ref q78, .int 0, .int 0, .ref q80, .ref q82, .ref q84, .ref q86, .ref q88, .ref q90, .ref q91, .ref q93, .ref q94, .ref q105, .ref q106, .ref q124, .ref q131, .int 0, .int 0, .int 0, .int 0, .int 0, .int 0, .int 0, .int 0, .int 0, .ref q132, .ref q133, .ref q134, .ref q135, .ref q136, .ref q137, .ref q138, .ref q139, .ref q140, .int 0]))]) hP hD [0] [1, 2] rfl rfl (by decide) (by decide) hk1 hFc hP1 hD1
  have hK := (hK.sub (tys' := []) [] rfl).app hK1
  generalize H1 = H at hP hS ⊢
  have hP : va_P (dC, dI) vwCl [(q1, .inr (13, [.ref q2, .int 0, .int 0, .ref q4, .ref q6, .ref q8, .ref q22, .ref q37, .ref q39, .ref q41, .int 0, .ref q43])), (q22, .inr (12, [.ref q23, .ref q25, .ref q31, .ref q32, .ref q33, .ref q34, .int 0, .ref q35, .ref q36, .int 0, .int 0, .int 0, .int 0, .int 0, .int 0, .int 0])), (q77, .inr (20, [.int 0, .ref q78, .int 0, .int 0, .ref q80, .ref q82, .ref q84, .ref q86, .ref q88, .ref q90, .ref q91, .ref q93, .ref q94, .ref q105, .ref q106, .ref q124, .ref q131, .int 0, .int 0, .int 0, .int 0, .int 0, .int 0, .int 0, .int 0, .int 0, .ref q132, .ref q133, .ref q134, .ref q135, .ref q136, .ref q137, .ref q138, .ref q139, .ref q140, .int 0]))] H := hP
  have hD : va_D A [(q1, .inr (13, [.ref q2, .int 0, .int 0, .ref q4, .ref q6, .ref q8, .ref q22, .ref q37, .ref q39, .ref q41, .int 0, .ref q43])), (q22, .inr (12, [.ref q23, .ref q25, .ref q31, .ref q32, .ref q33, .ref q34, .int 0, .ref q35, .ref q36, .int 0, .int 0, .int 0, .int 0, .int 0, .int 0, .int 0])), (q77, .inr (20, [.int 0, .ref q78, .int 0, .int 0, .ref q80, .ref q82, .ref q84, .ref q86, .ref q88, .ref q90, .ref q91, .ref q93, .ref q94, .ref q105, .ref q106, .ref q124, .ref q131, .int 0, .int 0, .int 0, .int 0, .int 0, .int 0, .int 0, .int 0, .int 0, .ref q132, .ref q133, .ref q134, .ref q135, .ref q136, .ref q137, .ref q138, .ref q139, .ref q140, .int 0]))] := hD
  have hK : va_K (dC, dI) vwCl [] s := hK
  refine W.widen (k := 455) (n := 2511899) (by decide +kernel) (by decide +kernel) ?_
  refine lv_icmp_eq (tgt := 1493) hx hb dL_law_1386 (by decide) (fun _ => ?_) (fun h9 => absurd (by decide) h9)
  refine lv_iinc (v := 6) (lv' := [(4, .int 6), (3, .ref q143), (2, .ref q77), (1, .ref q1), (0, .ref b)]) hx hb dL_law_1493 hl (k := 0) rfl (by decide) (by decide) rfl (fun ls hl => ?_)
  refine lv_goto (tgt := 23) hx hb dL_law_1496 (by decide) ?_
  refine W.widen (k := 600002) (n := 7302232) (by decide +kernel) (by decide +kernel) ?_
  exact kkE _ _ _ hS (lv_sub hl [0, 4] rfl)
