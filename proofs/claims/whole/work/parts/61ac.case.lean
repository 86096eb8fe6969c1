set_option maxHeartbeats 40000000 in
set_option maxRecDepth 100000 in
theorem law_c20 {p : Program} {l : Launch} {e : Env} {s : State} {m : MethodId} {below : List Frame} {meth : Method} {c : Code} {Q : State → Prop} {A : Nat → Prop} {dC : Nat → ClassId} {dI : Nat → Nat → Nat} {bs L n : Nat} {xs : Nat → Int32} {ao : Nat} {co : ClassId} {a a2 : Nat → Nat} {ac acB ac2 : Nat → ClassId} (hC : lw_C p l s m c A dC dI bs L xs co ac acB ac2) (hn : 70000 < n) (i : Int32) (hi : ∀ j : Int32, 0 ≤ j → j ≤ 5 → vp_in (i + j) L) {C1 S1 : Nat} (hC1 : C1 ≤ 601024) (hS1 : S1 ≤ 7293034) (K : lw_K p l e s m below meth c Q A dC dI bs n ao co a a2 ac acB ac2 i C1 S1) {v : Nat} {σ : S12} {β : Sb} {τ : S19} {x : Lb} {o : Nat → Int64} {c1 s1 : Nat} {H : Heap} {locs : List Loc} {ls : Array Slot} (hJ : JJ n σ (τ, x)) (hB : BW β) (b1 : c1 + 3 ≤ C1) (b2 : s1 + tp σ + 100 ≤ S1) (hP : va_P (dC, dI) vwCl (dw_LW ao co a a2 ac acB ac2 v σ β (τ, x) o) H) (hD : va_D A (dw_LW ao co a a2 ac acB ac2 v σ β (τ, x) o)) (hS : va_S A s.heap H locs) (hl : lv_has ls 8 [(4, .int i), (3, .ref ao), (2, .ref (a2 0)), (1, .ref (a 0)), (0, .ref bs)]) : W p l e room_1 s m #[Value.ref bs] below meth c H locs c1 s1 Q (F0 m 1108 ls []) := by
  obtain ⟨hlt, hx, hb, hml, hown, hts, hN, hA, hDe, hK, hX, hbl, hbA⟩ := id hC
  refine lv_aload_n hx hb dL_law_1108 rfl (lv_at hl 3 rfl) ?_
  refine lv_aload_n hx hb dL_law_1109 rfl (lv_at hl 4 rfl) ?_
  refine lv_iload hx hb dL_law_1110 (lv_at hl 0 rfl) ?_
  refine lv_iconst (v := 1) hx hb dL_law_1112 (by decide) ?_
  refine lv_iadd hx hb dL_law_1113 ?_
  refine va_sld (i := i + 1) hx hb hX hbl hbA hS (hi 1 (by decide) (by decide)) dL_law_1114 ?_
  refine lv_aload_n hx hb dL_law_1115 rfl (lv_at hl 4 rfl) ?_
  refine lv_iload hx hb dL_law_1116 (lv_at hl 0 rfl) ?_
  refine lv_iconst (v := 2) hx hb dL_law_1118 (by decide) ?_
  refine lv_iadd hx hb dL_law_1119 ?_
  refine va_sld (i := i + 2) hx hb hX hbl hbA hS (hi 2 (by decide) (by decide)) dL_law_1120 ?_
  have hz : ∀ q : Nat, H.size ≤ q → A q := fun q h => hA q (Nat.le_trans hS.1 h)
  obtain ⟨y, σ1, τ1, e1, e2, hJ1⟩ := jj_register n (a 15) (a 3) hn (xs (Int32.toNatClampNeg (i + 1))) (xs (Int32.toNatClampNeg (i + 2))) hJ
  have ht : tp σ1 ≤ tp σ + 20 := tq_register hn e1 hJ
  refine ld_Vi (As := [.int (xs (Int32.toNatClampNeg (i + 1))), .int (xs (Int32.toNatClampNeg (i + 2)))]) (rest := []) (q := y) (w' := fun (_ : Unit) => dw_X12 a ac σ1) ⟨hx, hb, hml, hown, hts⟩ (fun sz => dm_X12_register l hlt dC dI a ac n (xs (Int32.toNatClampNeg (i + 1))) (xs (Int32.toNatClampNeg (i + 2))) σ e1 sz) (cwV 2 hts gl_X12_register rfl rfl rfl (by decide +kernel) ⟨Nat.le_of_ble_eq_true rfl, Nat.le_of_ble_eq_true rfl⟩) (lp_12 hP) (ldd_12 hD) (lk_12 hK) hS hA hN.1 (va_recv (lk_12 hK) (lp_12 hP) (ci := 13) (q0 := 0) rfl rfl) rfl hl.1 rfl (Nat.le_of_ble_eq_true rfl) dL_law_1121 ⟨by show c1 + 0 ≤ 601024; omega, by show s1 + 0 ≤ 7293034; omega⟩ (fun _ H1 locs hP1 hD1 hk1 hS => ?_)
  obtain ⟨hP, hD⟩ := lw_12 hP hD hz hk1 hP1 hD1
  refine lv_aload_n hx hb dL_law_1124 rfl (lv_at hl 2 rfl) ?_
  refine lv_aload_n hx hb dL_law_1125 rfl (lv_at hl 4 rfl) ?_
  refine lv_iload hx hb dL_law_1126 (lv_at hl 0 rfl) ?_
  refine lv_iconst (v := 1) hx hb dL_law_1128 (by decide) ?_
  refine lv_iadd hx hb dL_law_1129 ?_
  refine va_sld (i := i + 1) hx hb hX hbl hbA hS (hi 1 (by decide) (by decide)) dL_law_1130 ?_
  refine lv_aload_n hx hb dL_law_1131 rfl (lv_at hl 4 rfl) ?_
  refine lv_iload hx hb dL_law_1132 (lv_at hl 0 rfl) ?_
  refine lv_iconst (v := 2) hx hb dL_law_1134 (by decide) ?_
  refine lv_iadd hx hb dL_law_1135 ?_
  refine va_sld (i := i + 2) hx hb hX hbl hbA hS (hi 2 (by decide) (by decide)) dL_law_1136 ?_
  have hz1 : ∀ q : Nat, H1.size ≤ q → A q := fun q h => hA q (Nat.le_trans hS.1 h)
  refine ld_Vi (As := [.int (xs (Int32.toNatClampNeg (i + 1))), .int (xs (Int32.toNatClampNeg (i + 2)))]) (rest := [.int y]) (q := y) (w' := fun (_ : Unit) => dw_X19 a2 ac2 τ1) ⟨hx, hb, hml, hown, hts⟩ (fun sz => dm_X19_register l hlt dC dI a2 ac2 n (xs (Int32.toNatClampNeg (i + 1))) (xs (Int32.toNatClampNeg (i + 2))) τ e2 sz) (cwV 2 hts gl_X19_register rfl rfl rfl (by decide +kernel) ⟨Nat.le_of_ble_eq_true rfl, Nat.le_of_ble_eq_true rfl⟩) (lp_19 hP) (ldd_19 hD) (lk_19 hK) hS hA hN.1 (va_recv (lk_19 hK) (lp_19 hP) (ci := 20) (q0 := 0) rfl rfl) rfl hl.1 rfl (Nat.le_of_ble_eq_true rfl) dL_law_1137 ⟨by show c1 + 0 + 0 ≤ 601024; omega, by show s1 + 0 + 0 ≤ 7293034; omega⟩ (fun _ H2 locs hP1 hD1 hk1 hS => ?_)
  obtain ⟨hP, hD⟩ := lw_19 hP hD hz1 hk1 hP1 hD1
  refine lv_icmp_eq (tgt := 1493) hx hb dL_law_1140 (by decide) (fun _ => ?_) (fun h9 => absurd rfl h9)
  exact K v σ1 β (τ1, x) o _ _ _ _ _ hJ1 hB (by omega) (by omega) hP hD hS hl

set_option maxHeartbeats 40000000 in
set_option maxRecDepth 100000 in
theorem law_c21 {p : Program} {l : Launch} {e : Env} {s : State} {m : MethodId} {below : List Frame} {meth : Method} {c : Code} {Q : State → Prop} {A : Nat → Prop} {dC : Nat → ClassId} {dI : Nat → Nat → Nat} {bs L n : Nat} {xs : Nat → Int32} {ao : Nat} {co : ClassId} {a a2 : Nat → Nat} {ac acB ac2 : Nat → ClassId} (hC : lw_C p l s m c A dC dI bs L xs co ac acB ac2) (hn : 70000 < n) (i : Int32) (hi : ∀ j : Int32, 0 ≤ j → j ≤ 5 → vp_in (i + j) L) {C1 S1 : Nat} (hC1 : C1 ≤ 601024) (hS1 : S1 ≤ 7293034) (K : lw_K p l e s m below meth c Q A dC dI bs n ao co a a2 ac acB ac2 i C1 S1) {v : Nat} {σ : S12} {β : Sb} {τ : S19} {x : Lb} {o : Nat → Int64} {c1 s1 : Nat} {H : Heap} {locs : List Loc} {ls : Array Slot} (hJ : JJ n σ (τ, x)) (hB : BW β) (b1 : c1 + 3 ≤ C1) (b2 : s1 + tp σ + 100 ≤ S1) (hP : va_P (dC, dI) vwCl (dw_LW ao co a a2 ac acB ac2 v σ β (τ, x) o) H) (hD : va_D A (dw_LW ao co a a2 ac acB ac2 v σ β (τ, x) o)) (hS : va_S A s.heap H locs) (hl : lv_has ls 8 [(4, .int i), (3, .ref ao), (2, .ref (a2 0)), (1, .ref (a 0)), (0, .ref bs)]) : W p l e room_1 s m #[Value.ref bs] below meth c H locs c1 s1 Q (F0 m 1145 ls []) := by
  obtain ⟨hlt, hx, hb, hml, hown, hts, hN, hA, hDe, hK, hX, hbl, hbA⟩ := id hC
  refine lv_aload_n hx hb dL_law_1145 rfl (lv_at hl 3 rfl) ?_
  refine lv_aload_n hx hb dL_law_1146 rfl (lv_at hl 4 rfl) ?_
  refine lv_iload hx hb dL_law_1147 (lv_at hl 0 rfl) ?_
  refine lv_iconst (v := 1) hx hb dL_law_1149 (by decide) ?_
  refine lv_iadd hx hb dL_law_1150 ?_
  refine va_sld (i := i + 1) hx hb hX hbl hbA hS (hi 1 (by decide) (by decide)) dL_law_1151 ?_
  refine lv_aload_n hx hb dL_law_1152 rfl (lv_at hl 4 rfl) ?_
  refine lv_iload hx hb dL_law_1153 (lv_at hl 0 rfl) ?_
  refine lv_iconst (v := 2) hx hb dL_law_1155 (by decide) ?_
  refine lv_iadd hx hb dL_law_1156 ?_
  refine va_sld (i := i + 2) hx hb hX hbl hbA hS (hi 2 (by decide) (by decide)) dL_law_1157 ?_
  have hz : ∀ q : Nat, H.size ≤ q → A q := fun q h => hA q (Nat.le_trans hS.1 h)
  obtain ⟨y, σ1, τ1, e1, e2, hJ1⟩ := jj_process n (a 15) (a 3) hn (xs (Int32.toNatClampNeg (i + 1))) (xs (Int32.toNatClampNeg (i + 2))) hJ
  have ht : tp σ1 ≤ tp σ + 20 := tq_process hn e1 hJ
  refine ld_Vi (As := [.int (xs (Int32.toNatClampNeg (i + 1))), .int (xs (Int32.toNatClampNeg (i + 2)))]) (rest := []) (q := y) (w' := fun (_ : Unit) => dw_X12 a ac σ1) ⟨hx, hb, hml, hown, hts⟩ (fun sz => dm_X12_process l hlt dC dI a ac n (xs (Int32.toNatClampNeg (i + 1))) (xs (Int32.toNatClampNeg (i + 2))) σ e1 sz) (cwV 2 hts gl_X12_process rfl rfl rfl (by decide +kernel) ⟨Nat.le_of_ble_eq_true rfl, Nat.le_of_ble_eq_true rfl⟩) (lp_12 hP) (ldd_12 hD) (lk_12 hK) hS hA hN.1 (va_recv (lk_12 hK) (lp_12 hP) (ci := 13) (q0 := 0) rfl rfl) rfl hl.1 rfl (Nat.le_of_ble_eq_true rfl) dL_law_1158 ⟨by show c1 + 0 ≤ 601024; omega, by show s1 + 0 ≤ 7293034; omega⟩ (fun _ H1 locs hP1 hD1 hk1 hS => ?_)
  obtain ⟨hP, hD⟩ := lw_12 hP hD hz hk1 hP1 hD1
  refine lv_aload_n hx hb dL_law_1161 rfl (lv_at hl 2 rfl) ?_
  refine lv_aload_n hx hb dL_law_1162 rfl (lv_at hl 4 rfl) ?_
  refine lv_iload hx hb dL_law_1163 (lv_at hl 0 rfl) ?_
  refine lv_iconst (v := 1) hx hb dL_law_1165 (by decide) ?_
  refine lv_iadd hx hb dL_law_1166 ?_
  refine va_sld (i := i + 1) hx hb hX hbl hbA hS (hi 1 (by decide) (by decide)) dL_law_1167 ?_
  refine lv_aload_n hx hb dL_law_1168 rfl (lv_at hl 4 rfl) ?_
  refine lv_iload hx hb dL_law_1169 (lv_at hl 0 rfl) ?_
  refine lv_iconst (v := 2) hx hb dL_law_1171 (by decide) ?_
  refine lv_iadd hx hb dL_law_1172 ?_
  refine va_sld (i := i + 2) hx hb hX hbl hbA hS (hi 2 (by decide) (by decide)) dL_law_1173 ?_
  have hz1 : ∀ q : Nat, H1.size ≤ q → A q := fun q h => hA q (Nat.le_trans hS.1 h)
  refine ld_Vi (As := [.int (xs (Int32.toNatClampNeg (i + 1))), .int (xs (Int32.toNatClampNeg (i + 2)))]) (rest := [.int y]) (q := y) (w' := fun (_ : Unit) => dw_X19 a2 ac2 τ1) ⟨hx, hb, hml, hown, hts⟩ (fun sz => dm_X19_process l hlt dC dI a2 ac2 n (xs (Int32.toNatClampNeg (i + 1))) (xs (Int32.toNatClampNeg (i + 2))) τ e2 sz) (cwV 2 hts gl_X19_process rfl rfl rfl (by decide +kernel) ⟨Nat.le_of_ble_eq_true rfl, Nat.le_of_ble_eq_true rfl⟩) (lp_19 hP) (ldd_19 hD) (lk_19 hK) hS hA hN.1 (va_recv (lk_19 hK) (lp_19 hP) (ci := 20) (q0 := 0) rfl rfl) rfl hl.1 rfl (Nat.le_of_ble_eq_true rfl) dL_law_1174 ⟨by show c1 + 0 + 0 ≤ 601024; omega, by show s1 + 0 + 0 ≤ 7293034; omega⟩ (fun _ H2 locs hP1 hD1 hk1 hS => ?_)
  obtain ⟨hP, hD⟩ := lw_19 hP hD hz1 hk1 hP1 hD1
  refine lv_icmp_eq (tgt := 1493) hx hb dL_law_1177 (by decide) (fun _ => ?_) (fun h9 => absurd rfl h9)
  exact K v σ1 β (τ1, x) o _ _ _ _ _ hJ1 hB (by omega) (by omega) hP hD hS hl

set_option maxHeartbeats 40000000 in
set_option maxRecDepth 100000 in
theorem law_c22 {p : Program} {l : Launch} {e : Env} {s : State} {m : MethodId} {below : List Frame} {meth : Method} {c : Code} {Q : State → Prop} {A : Nat → Prop} {dC : Nat → ClassId} {dI : Nat → Nat → Nat} {bs L n : Nat} {xs : Nat → Int32} {ao : Nat} {co : ClassId} {a a2 : Nat → Nat} {ac acB ac2 : Nat → ClassId} (hC : lw_C p l s m c A dC dI bs L xs co ac acB ac2) (hn : 70000 < n) (i : Int32) (hi : ∀ j : Int32, 0 ≤ j → j ≤ 5 → vp_in (i + j) L) {C1 S1 : Nat} (hC1 : C1 ≤ 601024) (hS1 : S1 ≤ 7293034) (K : lw_K p l e s m below meth c Q A dC dI bs n ao co a a2 ac acB ac2 i C1 S1) {v : Nat} {σ : S12} {β : Sb} {τ : S19} {x : Lb} {o : Nat → Int64} {c1 s1 : Nat} {H : Heap} {locs : List Loc} {ls : Array Slot} (hJ : JJ n σ (τ, x)) (hB : BW β) (b1 : c1 + 3 ≤ C1) (b2 : s1 + tp σ + 100 ≤ S1) (hP : va_P (dC, dI) vwCl (dw_LW ao co a a2 ac acB ac2 v σ β (τ, x) o) H) (hD : va_D A (dw_LW ao co a a2 ac acB ac2 v σ β (τ, x) o)) (hS : va_S A s.heap H locs) (hl : lv_has ls 8 [(4, .int i), (3, .ref ao), (2, .ref (a2 0)), (1, .ref (a 0)), (0, .ref bs)]) : W p l e room_1 s m #[Value.ref bs] below meth c H locs c1 s1 Q (F0 m 1182 ls []) := by
  obtain ⟨hlt, hx, hb, hml, hown, hts, hN, hA, hDe, hK, hX, hbl, hbA⟩ := id hC
  refine lv_aload_n hx hb dL_law_1182 rfl (lv_at hl 3 rfl) ?_
  refine lv_aload_n hx hb dL_law_1183 rfl (lv_at hl 4 rfl) ?_
  refine lv_iload hx hb dL_law_1184 (lv_at hl 0 rfl) ?_
  refine lv_iconst (v := 1) hx hb dL_law_1186 (by decide) ?_
  refine lv_iadd hx hb dL_law_1187 ?_
  refine va_sld (i := i + 1) hx hb hX hbl hbA hS (hi 1 (by decide) (by decide)) dL_law_1188 ?_
  refine lv_aload_n hx hb dL_law_1189 rfl (lv_at hl 4 rfl) ?_
  refine lv_iload hx hb dL_law_1190 (lv_at hl 0 rfl) ?_
  refine lv_iconst (v := 2) hx hb dL_law_1192 (by decide) ?_
  refine lv_iadd hx hb dL_law_1193 ?_
  refine va_sld (i := i + 2) hx hb hX hbl hbA hS (hi 2 (by decide) (by decide)) dL_law_1194 ?_
  have hz : ∀ q : Nat, H.size ≤ q → A q := fun q h => hA q (Nat.le_trans hS.1 h)
  obtain ⟨y, σ1, τ1, e1, e2, hJ1⟩ := jj_peek n (a 15) (a 3) hn (xs (Int32.toNatClampNeg (i + 1))) (xs (Int32.toNatClampNeg (i + 2))) hJ
  have ht : tp σ1 ≤ tp σ + 20 := tq_peek hn e1 hJ
  refine ld_Vi (As := [.int (xs (Int32.toNatClampNeg (i + 1))), .int (xs (Int32.toNatClampNeg (i + 2)))]) (rest := []) (q := y) (w' := fun (_ : Unit) => dw_X12 a ac σ1) ⟨hx, hb, hml, hown, hts⟩ (fun sz => dm_X12_peek l hlt dC dI a ac n (xs (Int32.toNatClampNeg (i + 1))) (xs (Int32.toNatClampNeg (i + 2))) σ e1 sz) (cwV 2 hts gl_X12_peek rfl rfl rfl (by decide +kernel) ⟨Nat.le_of_ble_eq_true rfl, Nat.le_of_ble_eq_true rfl⟩) (lp_12 hP) (ldd_12 hD) (lk_12 hK) hS hA hN.1 (va_recv (lk_12 hK) (lp_12 hP) (ci := 13) (q0 := 0) rfl rfl) rfl hl.1 rfl (Nat.le_of_ble_eq_true rfl) dL_law_1195 ⟨by show c1 + 0 ≤ 601024; omega, by show s1 + 0 ≤ 7293034; omega⟩ (fun _ H1 locs hP1 hD1 hk1 hS => ?_)
  obtain ⟨hP, hD⟩ := lw_12 hP hD hz hk1 hP1 hD1
  refine lv_aload_n hx hb dL_law_1198 rfl (lv_at hl 2 rfl) ?_
  refine lv_aload_n hx hb dL_law_1199 rfl (lv_at hl 4 rfl) ?_
  refine lv_iload hx hb dL_law_1200 (lv_at hl 0 rfl) ?_
  refine lv_iconst (v := 1) hx hb dL_law_1202 (by decide) ?_
  refine lv_iadd hx hb dL_law_1203 ?_
  refine va_sld (i := i + 1) hx hb hX hbl hbA hS (hi 1 (by decide) (by decide)) dL_law_1204 ?_
  refine lv_aload_n hx hb dL_law_1205 rfl (lv_at hl 4 rfl) ?_
  refine lv_iload hx hb dL_law_1206 (lv_at hl 0 rfl) ?_
  refine lv_iconst (v := 2) hx hb dL_law_1208 (by decide) ?_
  refine lv_iadd hx hb dL_law_1209 ?_
  refine va_sld (i := i + 2) hx hb hX hbl hbA hS (hi 2 (by decide) (by decide)) dL_law_1210 ?_
  have hz1 : ∀ q : Nat, H1.size ≤ q → A q := fun q h => hA q (Nat.le_trans hS.1 h)
  refine ld_Vi (As := [.int (xs (Int32.toNatClampNeg (i + 1))), .int (xs (Int32.toNatClampNeg (i + 2)))]) (rest := [.int y]) (q := y) (w' := fun (_ : Unit) => dw_X19 a2 ac2 τ1) ⟨hx, hb, hml, hown, hts⟩ (fun sz => dm_X19_peek l hlt dC dI a2 ac2 n (xs (Int32.toNatClampNeg (i + 1))) (xs (Int32.toNatClampNeg (i + 2))) τ e2 sz) (cwV 2 hts gl_X19_peek rfl rfl rfl (by decide +kernel) ⟨Nat.le_of_ble_eq_true rfl, Nat.le_of_ble_eq_true rfl⟩) (lp_19 hP) (ldd_19 hD) (lk_19 hK) hS hA hN.1 (va_recv (lk_19 hK) (lp_19 hP) (ci := 20) (q0 := 0) rfl rfl) rfl hl.1 rfl (Nat.le_of_ble_eq_true rfl) dL_law_1211 ⟨by show c1 + 0 + 0 ≤ 601024; omega, by show s1 + 0 + 0 ≤ 7293034; omega⟩ (fun _ H2 locs hP1 hD1 hk1 hS => ?_)
  obtain ⟨hP, hD⟩ := lw_19 hP hD hz1 hk1 hP1 hD1
  refine lv_icmp_eq (tgt := 1493) hx hb dL_law_1214 (by decide) (fun _ => ?_) (fun h9 => absurd rfl h9)
  exact K v σ1 β (τ1, x) o _ _ _ _ _ hJ1 hB (by omega) (by omega) hP hD hS hl

set_option maxHeartbeats 40000000 in
set_option maxRecDepth 100000 in
theorem law_c23 {p : Program} {l : Launch} {e : Env} {s : State} {m : MethodId} {below : List Frame} {meth : Method} {c : Code} {Q : State → Prop} {A : Nat → Prop} {dC : Nat → ClassId} {dI : Nat → Nat → Nat} {bs L n : Nat} {xs : Nat → Int32} {ao : Nat} {co : ClassId} {a a2 : Nat → Nat} {ac acB ac2 : Nat → ClassId} (hC : lw_C p l s m c A dC dI bs L xs co ac acB ac2) (hn : 70000 < n) (i : Int32) (hi : ∀ j : Int32, 0 ≤ j → j ≤ 5 → vp_in (i + j) L) {C1 S1 : Nat} (hC1 : C1 ≤ 601024) (hS1 : S1 ≤ 7293034) (K : lw_K p l e s m below meth c Q A dC dI bs n ao co a a2 ac acB ac2 i C1 S1) {v : Nat} {σ : S12} {β : Sb} {τ : S19} {x : Lb} {o : Nat → Int64} {c1 s1 : Nat} {H : Heap} {locs : List Loc} {ls : Array Slot} (hJ : JJ n σ (τ, x)) (hB : BW β) (b1 : c1 + 3 ≤ C1) (b2 : s1 + tp σ + 100 ≤ S1) (hP : va_P (dC, dI) vwCl (dw_LW ao co a a2 ac acB ac2 v σ β (τ, x) o) H) (hD : va_D A (dw_LW ao co a a2 ac acB ac2 v σ β (τ, x) o)) (hS : va_S A s.heap H locs) (hl : lv_has ls 8 [(4, .int i), (3, .ref ao), (2, .ref (a2 0)), (1, .ref (a 0)), (0, .ref bs)]) : W p l e room_1 s m #[Value.ref bs] below meth c H locs c1 s1 Q (F0 m 1219 ls []) := by
  obtain ⟨hlt, hx, hb, hml, hown, hts, hN, hA, hDe, hK, hX, hbl, hbA⟩ := id hC
  refine lv_aload_n hx hb dL_law_1219 rfl (lv_at hl 3 rfl) ?_
  refine lv_aload_n hx hb dL_law_1220 rfl (lv_at hl 4 rfl) ?_
  refine lv_iload hx hb dL_law_1221 (lv_at hl 0 rfl) ?_
  refine lv_iconst (v := 1) hx hb dL_law_1223 (by decide) ?_
  refine lv_iadd hx hb dL_law_1224 ?_
  refine va_sld (i := i + 1) hx hb hX hbl hbA hS (hi 1 (by decide) (by decide)) dL_law_1225 ?_
  refine lv_aload_n hx hb dL_law_1226 rfl (lv_at hl 4 rfl) ?_
  refine lv_iload hx hb dL_law_1227 (lv_at hl 0 rfl) ?_
  refine lv_iconst (v := 2) hx hb dL_law_1229 (by decide) ?_
  refine lv_iadd hx hb dL_law_1230 ?_
  refine va_sld (i := i + 2) hx hb hX hbl hbA hS (hi 2 (by decide) (by decide)) dL_law_1231 ?_
  refine lv_aload_n hx hb dL_law_1232 rfl (lv_at hl 4 rfl) ?_
  refine lv_iload hx hb dL_law_1233 (lv_at hl 0 rfl) ?_
  refine lv_iconst (v := 3) hx hb dL_law_1235 (by decide) ?_
  refine lv_iadd hx hb dL_law_1236 ?_
  refine va_sld (i := i + 3) hx hb hX hbl hbA hS (hi 3 (by decide) (by decide)) dL_law_1237 ?_
  have hz : ∀ q : Nat, H.size ≤ q → A q := fun q h => hA q (Nat.le_trans hS.1 h)
  obtain ⟨y, β1, τ1, e1, e2, hJ1, hB1⟩ := jj_text n (a 15) (a 3) hn (xs (Int32.toNatClampNeg (i + 1))) (xs (Int32.toNatClampNeg (i + 2))) (xs (Int32.toNatClampNeg (i + 3))) hJ hB
  refine ld_Ti (As := [.int (xs (Int32.toNatClampNeg (i + 1))), .int (xs (Int32.toNatClampNeg (i + 2))), .int (xs (Int32.toNatClampNeg (i + 3)))]) (rest := []) (q := y) (w' := fun v1 => dw_TX a ac acB v1 (σ, β1)) ⟨hx, hb, hml, hown, hts⟩ (fun sz => dm_X12_text l hlt dC dI a ac acB v n (xs (Int32.toNatClampNeg (i + 1))) (xs (Int32.toNatClampNeg (i + 2))) (xs (Int32.toNatClampNeg (i + 3))) σ β e1 sz) (cwV 3 hts gl_X12_text rfl rfl rfl (by decide +kernel) ⟨Nat.le_of_ble_eq_true rfl, Nat.le_of_ble_eq_true rfl⟩) (lp_T hP) (ldd_T hD) (lk_T hK) hS hA hN (va_recv (lk_T hK) (lp_T hP) (ci := 13) (q0 := 0) rfl rfl) rfl hl.1 rfl (Nat.le_of_ble_eq_true rfl) dL_law_1238 ⟨by show c1 + 1 ≤ 601024; omega, by show s1 + 34 ≤ 7293034; omega⟩ (fun v1 H1 locs hP1 hD1 hk1 hS => ?_)
  obtain ⟨hP, hD⟩ := lw_T hP hD hz hk1 hP1 hD1
  have ht : tp σ ≤ tp σ := Nat.le_refl _
  refine lv_aload_n hx hb dL_law_1241 rfl (lv_at hl 2 rfl) ?_
  refine lv_aload_n hx hb dL_law_1242 rfl (lv_at hl 4 rfl) ?_
  refine lv_iload hx hb dL_law_1243 (lv_at hl 0 rfl) ?_
  refine lv_iconst (v := 1) hx hb dL_law_1245 (by decide) ?_
  refine lv_iadd hx hb dL_law_1246 ?_
  refine va_sld (i := i + 1) hx hb hX hbl hbA hS (hi 1 (by decide) (by decide)) dL_law_1247 ?_
  refine lv_aload_n hx hb dL_law_1248 rfl (lv_at hl 4 rfl) ?_
  refine lv_iload hx hb dL_law_1249 (lv_at hl 0 rfl) ?_
  refine lv_iconst (v := 2) hx hb dL_law_1251 (by decide) ?_
  refine lv_iadd hx hb dL_law_1252 ?_
  refine va_sld (i := i + 2) hx hb hX hbl hbA hS (hi 2 (by decide) (by decide)) dL_law_1253 ?_
  refine lv_aload_n hx hb dL_law_1254 rfl (lv_at hl 4 rfl) ?_
  refine lv_iload hx hb dL_law_1255 (lv_at hl 0 rfl) ?_
  refine lv_iconst (v := 3) hx hb dL_law_1257 (by decide) ?_
  refine lv_iadd hx hb dL_law_1258 ?_
  refine va_sld (i := i + 3) hx hb hX hbl hbA hS (hi 3 (by decide) (by decide)) dL_law_1259 ?_
  have hz1 : ∀ q : Nat, H1.size ≤ q → A q := fun q h => hA q (Nat.le_trans hS.1 h)
  refine ld_Vi (As := [.int (xs (Int32.toNatClampNeg (i + 1))), .int (xs (Int32.toNatClampNeg (i + 2))), .int (xs (Int32.toNatClampNeg (i + 3)))]) (rest := [.int y]) (q := y) (w' := fun (_ : Unit) => dw_X19 a2 ac2 τ1) ⟨hx, hb, hml, hown, hts⟩ (fun sz => dm_X19_text l hlt dC dI a2 ac2 n (xs (Int32.toNatClampNeg (i + 1))) (xs (Int32.toNatClampNeg (i + 2))) (xs (Int32.toNatClampNeg (i + 3))) τ e2 sz) (cwV 3 hts gl_X19_text rfl rfl rfl (by decide +kernel) ⟨Nat.le_of_ble_eq_true rfl, Nat.le_of_ble_eq_true rfl⟩) (lp_19 hP) (ldd_19 hD) (lk_19 hK) hS hA hN.1 (va_recv (lk_19 hK) (lp_19 hP) (ci := 20) (q0 := 0) rfl rfl) rfl hl.1 rfl (Nat.le_of_ble_eq_true rfl) dL_law_1260 ⟨by show c1 + 1 + 0 ≤ 601024; omega, by show s1 + 34 + 0 ≤ 7293034; omega⟩ (fun _ H2 locs hP1 hD1 hk1 hS => ?_)
  obtain ⟨hP, hD⟩ := lw_19 hP hD hz1 hk1 hP1 hD1
  refine lv_icmp_eq (tgt := 1493) hx hb dL_law_1263 (by decide) (fun _ => ?_) (fun h9 => absurd rfl h9)
  exact K v1 σ β1 (τ1, x) o _ _ _ _ _ hJ1 hB1 (by omega) (by omega) hP hD hS hl

set_option maxHeartbeats 40000000 in
set_option maxRecDepth 100000 in
theorem law_c24 {p : Program} {l : Launch} {e : Env} {s : State} {m : MethodId} {below : List Frame} {meth : Method} {c : Code} {Q : State → Prop} {A : Nat → Prop} {dC : Nat → ClassId} {dI : Nat → Nat → Nat} {bs L n : Nat} {xs : Nat → Int32} {ao : Nat} {co : ClassId} {a a2 : Nat → Nat} {ac acB ac2 : Nat → ClassId} (hC : lw_C p l s m c A dC dI bs L xs co ac acB ac2) (hn : 70000 < n) (i : Int32) (hi : ∀ j : Int32, 0 ≤ j → j ≤ 5 → vp_in (i + j) L) {C1 S1 : Nat} (hC1 : C1 ≤ 601024) (hS1 : S1 ≤ 7293034) (K : lw_K p l e s m below meth c Q A dC dI bs n ao co a a2 ac acB ac2 i C1 S1) {v : Nat} {σ : S12} {β : Sb} {τ : S19} {x : Lb} {o : Nat → Int64} {c1 s1 : Nat} {H : Heap} {locs : List Loc} {ls : Array Slot} (hJ : JJ n σ (τ, x)) (hB : BW β) (b1 : c1 + 3 ≤ C1) (b2 : s1 + tp σ + 100 ≤ S1) (hP : va_P (dC, dI) vwCl (dw_LW ao co a a2 ac acB ac2 v σ β (τ, x) o) H) (hD : va_D A (dw_LW ao co a a2 ac acB ac2 v σ β (τ, x) o)) (hS : va_S A s.heap H locs) (hl : lv_has ls 8 [(4, .int i), (3, .ref ao), (2, .ref (a2 0)), (1, .ref (a 0)), (0, .ref bs)]) : W p l e room_1 s m #[Value.ref bs] below meth c H locs c1 s1 Q (F0 m 1268 ls []) := by
  obtain ⟨hlt, hx, hb, hml, hown, hts, hN, hA, hDe, hK, hX, hbl, hbA⟩ := id hC
  refine lv_aload_n hx hb dL_law_1268 rfl (lv_at hl 3 rfl) ?_
  refine lv_aload_n hx hb dL_law_1269 rfl (lv_at hl 4 rfl) ?_
  refine lv_iload hx hb dL_law_1270 (lv_at hl 0 rfl) ?_
  refine lv_iconst (v := 1) hx hb dL_law_1272 (by decide) ?_
  refine lv_iadd hx hb dL_law_1273 ?_
  refine va_sld (i := i + 1) hx hb hX hbl hbA hS (hi 1 (by decide) (by decide)) dL_law_1274 ?_
  refine lv_aload_n hx hb dL_law_1275 rfl (lv_at hl 4 rfl) ?_
  refine lv_iload hx hb dL_law_1276 (lv_at hl 0 rfl) ?_
  refine lv_iconst (v := 2) hx hb dL_law_1278 (by decide) ?_
  refine lv_iadd hx hb dL_law_1279 ?_
  refine va_sld (i := i + 2) hx hb hX hbl hbA hS (hi 2 (by decide) (by decide)) dL_law_1280 ?_
  refine lv_aload_n hx hb dL_law_1281 rfl (lv_at hl 4 rfl) ?_
  refine lv_iload hx hb dL_law_1282 (lv_at hl 0 rfl) ?_
  refine lv_iconst (v := 3) hx hb dL_law_1284 (by decide) ?_
  refine lv_iadd hx hb dL_law_1285 ?_
  refine va_sld (i := i + 3) hx hb hX hbl hbA hS (hi 3 (by decide) (by decide)) dL_law_1286 ?_
  have hz : ∀ q : Nat, H.size ≤ q → A q := fun q h => hA q (Nat.le_trans hS.1 h)
  obtain ⟨y, σ1, τ1, e1, e2, hJ1⟩ := jj_descriptor n (a 15) (a 3) hn (xs (Int32.toNatClampNeg (i + 1))) (xs (Int32.toNatClampNeg (i + 2))) (xs (Int32.toNatClampNeg (i + 3))) hJ
  have ht : tp σ1 ≤ tp σ + 20 := tq_descriptor hn e1 hJ
  refine ld_Vi (As := [.int (xs (Int32.toNatClampNeg (i + 1))), .int (xs (Int32.toNatClampNeg (i + 2))), .int (xs (Int32.toNatClampNeg (i + 3)))]) (rest := []) (q := y) (w' := fun (_ : Unit) => dw_X12 a ac σ1) ⟨hx, hb, hml, hown, hts⟩ (fun sz => dm_X12_descriptor l hlt dC dI a ac n (xs (Int32.toNatClampNeg (i + 1))) (xs (Int32.toNatClampNeg (i + 2))) (xs (Int32.toNatClampNeg (i + 3))) σ e1 sz) (cwV 3 hts gl_X12_descriptor rfl rfl rfl (by decide +kernel) ⟨Nat.le_of_ble_eq_true rfl, Nat.le_of_ble_eq_true rfl⟩) (lp_12 hP) (ldd_12 hD) (lk_12 hK) hS hA hN.1 (va_recv (lk_12 hK) (lp_12 hP) (ci := 13) (q0 := 0) rfl rfl) rfl hl.1 rfl (Nat.le_of_ble_eq_true rfl) dL_law_1287 ⟨by show c1 + 0 ≤ 601024; omega, by show s1 + 0 ≤ 7293034; omega⟩ (fun _ H1 locs hP1 hD1 hk1 hS => ?_)
  obtain ⟨hP, hD⟩ := lw_12 hP hD hz hk1 hP1 hD1
  refine lv_aload_n hx hb dL_law_1290 rfl (lv_at hl 2 rfl) ?_
  refine lv_aload_n hx hb dL_law_1291 rfl (lv_at hl 4 rfl) ?_
  refine lv_iload hx hb dL_law_1292 (lv_at hl 0 rfl) ?_
  refine lv_iconst (v := 1) hx hb dL_law_1294 (by decide) ?_
  refine lv_iadd hx hb dL_law_1295 ?_
  refine va_sld (i := i + 1) hx hb hX hbl hbA hS (hi 1 (by decide) (by decide)) dL_law_1296 ?_
  refine lv_aload_n hx hb dL_law_1297 rfl (lv_at hl 4 rfl) ?_
  refine lv_iload hx hb dL_law_1298 (lv_at hl 0 rfl) ?_
  refine lv_iconst (v := 2) hx hb dL_law_1300 (by decide) ?_
  refine lv_iadd hx hb dL_law_1301 ?_
  refine va_sld (i := i + 2) hx hb hX hbl hbA hS (hi 2 (by decide) (by decide)) dL_law_1302 ?_
  refine lv_aload_n hx hb dL_law_1303 rfl (lv_at hl 4 rfl) ?_
  refine lv_iload hx hb dL_law_1304 (lv_at hl 0 rfl) ?_
  refine lv_iconst (v := 3) hx hb dL_law_1306 (by decide) ?_
  refine lv_iadd hx hb dL_law_1307 ?_
  refine va_sld (i := i + 3) hx hb hX hbl hbA hS (hi 3 (by decide) (by decide)) dL_law_1308 ?_
  have hz1 : ∀ q : Nat, H1.size ≤ q → A q := fun q h => hA q (Nat.le_trans hS.1 h)
  refine ld_Vi (As := [.int (xs (Int32.toNatClampNeg (i + 1))), .int (xs (Int32.toNatClampNeg (i + 2))), .int (xs (Int32.toNatClampNeg (i + 3)))]) (rest := [.int y]) (q := y) (w' := fun (_ : Unit) => dw_X19 a2 ac2 τ1) ⟨hx, hb, hml, hown, hts⟩ (fun sz => dm_X19_descriptor l hlt dC dI a2 ac2 n (xs (Int32.toNatClampNeg (i + 1))) (xs (Int32.toNatClampNeg (i + 2))) (xs (Int32.toNatClampNeg (i + 3))) τ e2 sz) (cwV 3 hts gl_X19_descriptor rfl rfl rfl (by decide +kernel) ⟨Nat.le_of_ble_eq_true rfl, Nat.le_of_ble_eq_true rfl⟩) (lp_19 hP) (ldd_19 hD) (lk_19 hK) hS hA hN.1 (va_recv (lk_19 hK) (lp_19 hP) (ci := 20) (q0 := 0) rfl rfl) rfl hl.1 rfl (Nat.le_of_ble_eq_true rfl) dL_law_1309 ⟨by show c1 + 0 + 0 ≤ 601024; omega, by show s1 + 0 + 0 ≤ 7293034; omega⟩ (fun _ H2 locs hP1 hD1 hk1 hS => ?_)
  obtain ⟨hP, hD⟩ := lw_19 hP hD hz1 hk1 hP1 hD1
  refine lv_icmp_eq (tgt := 1493) hx hb dL_law_1312 (by decide) (fun _ => ?_) (fun h9 => absurd rfl h9)
  exact K v σ1 β (τ1, x) o _ _ _ _ _ hJ1 hB (by omega) (by omega) hP hD hS hl

set_option maxHeartbeats 40000000 in
set_option maxRecDepth 100000 in
theorem law_c25 {p : Program} {l : Launch} {e : Env} {s : State} {m : MethodId} {below : List Frame} {meth : Method} {c : Code} {Q : State → Prop} {A : Nat → Prop} {dC : Nat → ClassId} {dI : Nat → Nat → Nat} {bs L n : Nat} {xs : Nat → Int32} {ao : Nat} {co : ClassId} {a a2 : Nat → Nat} {ac acB ac2 : Nat → ClassId} (hC : lw_C p l s m c A dC dI bs L xs co ac acB ac2) (hn : 70000 < n) (i : Int32) (hi : ∀ j : Int32, 0 ≤ j → j ≤ 5 → vp_in (i + j) L) {C1 S1 : Nat} (hC1 : C1 ≤ 601024) (hS1 : S1 ≤ 7293034) (K : lw_K p l e s m below meth c Q A dC dI bs n ao co a a2 ac acB ac2 i C1 S1) {v : Nat} {σ : S12} {β : Sb} {τ : S19} {x : Lb} {o : Nat → Int64} {c1 s1 : Nat} {H : Heap} {locs : List Loc} {ls : Array Slot} (hJ : JJ n σ (τ, x)) (hB : BW β) (b1 : c1 + 3 ≤ C1) (b2 : s1 + tp σ + 100 ≤ S1) (hP : va_P (dC, dI) vwCl (dw_LW ao co a a2 ac acB ac2 v σ β (τ, x) o) H) (hD : va_D A (dw_LW ao co a a2 ac acB ac2 v σ β (τ, x) o)) (hS : va_S A s.heap H locs) (hl : lv_has ls 8 [(4, .int i), (3, .ref ao), (2, .ref (a2 0)), (1, .ref (a 0)), (0, .ref bs)]) : W p l e room_1 s m #[Value.ref bs] below meth c H locs c1 s1 Q (F0 m 1317 ls []) := by
  obtain ⟨hlt, hx, hb, hml, hown, hts, hN, hA, hDe, hK, hX, hbl, hbA⟩ := id hC
  refine lv_aload_n hx hb dL_law_1317 rfl (lv_at hl 3 rfl) ?_
  refine lv_aload_n hx hb dL_law_1318 rfl (lv_at hl 4 rfl) ?_
  refine lv_iload hx hb dL_law_1319 (lv_at hl 0 rfl) ?_
  refine lv_iconst (v := 1) hx hb dL_law_1321 (by decide) ?_
  refine lv_iadd hx hb dL_law_1322 ?_
  refine va_sld (i := i + 1) hx hb hX hbl hbA hS (hi 1 (by decide) (by decide)) dL_law_1323 ?_
  refine lv_aload_n hx hb dL_law_1324 rfl (lv_at hl 4 rfl) ?_
  refine lv_iload hx hb dL_law_1325 (lv_at hl 0 rfl) ?_
  refine lv_iconst (v := 2) hx hb dL_law_1327 (by decide) ?_
  refine lv_iadd hx hb dL_law_1328 ?_
  refine va_sld (i := i + 2) hx hb hX hbl hbA hS (hi 2 (by decide) (by decide)) dL_law_1329 ?_
  refine lv_aload_n hx hb dL_law_1330 rfl (lv_at hl 4 rfl) ?_
  refine lv_iload hx hb dL_law_1331 (lv_at hl 0 rfl) ?_
  refine lv_iconst (v := 3) hx hb dL_law_1333 (by decide) ?_
  refine lv_iadd hx hb dL_law_1334 ?_
  refine va_sld (i := i + 3) hx hb hX hbl hbA hS (hi 3 (by decide) (by decide)) dL_law_1335 ?_
  have hz : ∀ q : Nat, H.size ≤ q → A q := fun q h => hA q (Nat.le_trans hS.1 h)
  obtain ⟨y, σ1, τ1, e1, e2, hJ1⟩ := jj_held n (a 15) (a 3) hn (xs (Int32.toNatClampNeg (i + 1))) (xs (Int32.toNatClampNeg (i + 2))) (xs (Int32.toNatClampNeg (i + 3))) hJ
  have ht : tp σ1 ≤ tp σ + 20 := tq_held hn e1 hJ
  refine ld_Vi (As := [.int (xs (Int32.toNatClampNeg (i + 1))), .int (xs (Int32.toNatClampNeg (i + 2))), .int (xs (Int32.toNatClampNeg (i + 3)))]) (rest := []) (q := y) (w' := fun (_ : Unit) => dw_X12 a ac σ1) ⟨hx, hb, hml, hown, hts⟩ (fun sz => dm_X12_held l hlt dC dI a ac n (xs (Int32.toNatClampNeg (i + 1))) (xs (Int32.toNatClampNeg (i + 2))) (xs (Int32.toNatClampNeg (i + 3))) σ e1 sz) (cwV 3 hts gl_X12_held rfl rfl rfl (by decide +kernel) ⟨Nat.le_of_ble_eq_true rfl, Nat.le_of_ble_eq_true rfl⟩) (lp_12 hP) (ldd_12 hD) (lk_12 hK) hS hA hN.1 (va_recv (lk_12 hK) (lp_12 hP) (ci := 13) (q0 := 0) rfl rfl) rfl hl.1 rfl (Nat.le_of_ble_eq_true rfl) dL_law_1336 ⟨by show c1 + 0 ≤ 601024; omega, by show s1 + 0 ≤ 7293034; omega⟩ (fun _ H1 locs hP1 hD1 hk1 hS => ?_)
  obtain ⟨hP, hD⟩ := lw_12 hP hD hz hk1 hP1 hD1
  refine lv_aload_n hx hb dL_law_1339 rfl (lv_at hl 2 rfl) ?_
  refine lv_aload_n hx hb dL_law_1340 rfl (lv_at hl 4 rfl) ?_
  refine lv_iload hx hb dL_law_1341 (lv_at hl 0 rfl) ?_
  refine lv_iconst (v := 1) hx hb dL_law_1343 (by decide) ?_
  refine lv_iadd hx hb dL_law_1344 ?_
  refine va_sld (i := i + 1) hx hb hX hbl hbA hS (hi 1 (by decide) (by decide)) dL_law_1345 ?_
  refine lv_aload_n hx hb dL_law_1346 rfl (lv_at hl 4 rfl) ?_
  refine lv_iload hx hb dL_law_1347 (lv_at hl 0 rfl) ?_
  refine lv_iconst (v := 2) hx hb dL_law_1349 (by decide) ?_
  refine lv_iadd hx hb dL_law_1350 ?_
  refine va_sld (i := i + 2) hx hb hX hbl hbA hS (hi 2 (by decide) (by decide)) dL_law_1351 ?_
  refine lv_aload_n hx hb dL_law_1352 rfl (lv_at hl 4 rfl) ?_
  refine lv_iload hx hb dL_law_1353 (lv_at hl 0 rfl) ?_
  refine lv_iconst (v := 3) hx hb dL_law_1355 (by decide) ?_
  refine lv_iadd hx hb dL_law_1356 ?_
  refine va_sld (i := i + 3) hx hb hX hbl hbA hS (hi 3 (by decide) (by decide)) dL_law_1357 ?_
  have hz1 : ∀ q : Nat, H1.size ≤ q → A q := fun q h => hA q (Nat.le_trans hS.1 h)
  refine ld_Vi (As := [.int (xs (Int32.toNatClampNeg (i + 1))), .int (xs (Int32.toNatClampNeg (i + 2))), .int (xs (Int32.toNatClampNeg (i + 3)))]) (rest := [.int y]) (q := y) (w' := fun (_ : Unit) => dw_X19 a2 ac2 τ1) ⟨hx, hb, hml, hown, hts⟩ (fun sz => dm_X19_held l hlt dC dI a2 ac2 n (xs (Int32.toNatClampNeg (i + 1))) (xs (Int32.toNatClampNeg (i + 2))) (xs (Int32.toNatClampNeg (i + 3))) τ e2 sz) (cwV 3 hts gl_X19_held rfl rfl rfl (by decide +kernel) ⟨Nat.le_of_ble_eq_true rfl, Nat.le_of_ble_eq_true rfl⟩) (lp_19 hP) (ldd_19 hD) (lk_19 hK) hS hA hN.1 (va_recv (lk_19 hK) (lp_19 hP) (ci := 20) (q0 := 0) rfl rfl) rfl hl.1 rfl (Nat.le_of_ble_eq_true rfl) dL_law_1358 ⟨by show c1 + 0 + 0 ≤ 601024; omega, by show s1 + 0 + 0 ≤ 7293034; omega⟩ (fun _ H2 locs hP1 hD1 hk1 hS => ?_)
  obtain ⟨hP, hD⟩ := lw_19 hP hD hz1 hk1 hP1 hD1
  refine lv_icmp_eq (tgt := 1493) hx hb dL_law_1361 (by decide) (fun _ => ?_) (fun h9 => absurd rfl h9)
  exact K v σ1 β (τ1, x) o _ _ _ _ _ hJ1 hB (by omega) (by omega) hP hD hS hl

set_option maxHeartbeats 40000000 in
set_option maxRecDepth 100000 in
theorem law_c26 {p : Program} {l : Launch} {e : Env} {s : State} {m : MethodId} {below : List Frame} {meth : Method} {c : Code} {Q : State → Prop} {A : Nat → Prop} {dC : Nat → ClassId} {dI : Nat → Nat → Nat} {bs L n : Nat} {xs : Nat → Int32} {ao : Nat} {co : ClassId} {a a2 : Nat → Nat} {ac acB ac2 : Nat → ClassId} (hC : lw_C p l s m c A dC dI bs L xs co ac acB ac2) (hn : 70000 < n) (i : Int32) (hi : ∀ j : Int32, 0 ≤ j → j ≤ 5 → vp_in (i + j) L) {C1 S1 : Nat} (hC1 : C1 ≤ 601024) (hS1 : S1 ≤ 7293034) (K : lw_K p l e s m below meth c Q A dC dI bs n ao co a a2 ac acB ac2 i C1 S1) {v : Nat} {σ : S12} {β : Sb} {τ : S19} {x : Lb} {o : Nat → Int64} {c1 s1 : Nat} {H : Heap} {locs : List Loc} {ls : Array Slot} (hJ : JJ n σ (τ, x)) (hB : BW β) (b1 : c1 + 3 ≤ C1) (b2 : s1 + tp σ + 100 ≤ S1) (hP : va_P (dC, dI) vwCl (dw_LW ao co a a2 ac acB ac2 v σ β (τ, x) o) H) (hD : va_D A (dw_LW ao co a a2 ac acB ac2 v σ β (τ, x) o)) (hS : va_S A s.heap H locs) (hl : lv_has ls 8 [(4, .int i), (3, .ref ao), (2, .ref (a2 0)), (1, .ref (a 0)), (0, .ref bs)]) : W p l e room_1 s m #[Value.ref bs] below meth c H locs c1 s1 Q (F0 m 1366 ls []) := by
  obtain ⟨hlt, hx, hb, hml, hown, hts, hN, hA, hDe, hK, hX, hbl, hbA⟩ := id hC
  refine lv_aload_n hx hb dL_law_1366 rfl (lv_at hl 3 rfl) ?_
  refine lv_aload_n hx hb dL_law_1367 rfl (lv_at hl 4 rfl) ?_
  refine lv_iload hx hb dL_law_1368 (lv_at hl 0 rfl) ?_
  refine lv_iconst (v := 1) hx hb dL_law_1370 (by decide) ?_
  refine lv_iadd hx hb dL_law_1371 ?_
  refine va_sld (i := i + 1) hx hb hX hbl hbA hS (hi 1 (by decide) (by decide)) dL_law_1372 ?_
  have hz : ∀ q : Nat, H.size ≤ q → A q := fun q h => hA q (Nat.le_trans hS.1 h)
  obtain ⟨y, σ1, τ1, e1, e2, hJ1⟩ := jj_shown n (a 15) (a 3) hn (xs (Int32.toNatClampNeg (i + 1))) hJ
  have ht : tp σ1 ≤ tp σ + 20 := tq_shown hn e1 hJ
  refine ld_Vi (As := [.int (xs (Int32.toNatClampNeg (i + 1)))]) (rest := []) (q := y) (w' := fun (_ : Unit) => dw_X12 a ac σ1) ⟨hx, hb, hml, hown, hts⟩ (fun sz => dm_X12_shown l hlt dC dI a ac n (xs (Int32.toNatClampNeg (i + 1))) σ e1 sz) (cwV 1 hts gl_X12_shown rfl rfl rfl (by decide +kernel) ⟨Nat.le_of_ble_eq_true rfl, Nat.le_of_ble_eq_true rfl⟩) (lp_12 hP) (ldd_12 hD) (lk_12 hK) hS hA hN.1 (va_recv (lk_12 hK) (lp_12 hP) (ci := 13) (q0 := 0) rfl rfl) rfl hl.1 rfl (Nat.le_of_ble_eq_true rfl) dL_law_1373 ⟨by show c1 + 0 ≤ 601024; omega, by show s1 + 0 ≤ 7293034; omega⟩ (fun _ H1 locs hP1 hD1 hk1 hS => ?_)
  obtain ⟨hP, hD⟩ := lw_12 hP hD hz hk1 hP1 hD1
  refine lv_aload_n hx hb dL_law_1376 rfl (lv_at hl 2 rfl) ?_
  refine lv_aload_n hx hb dL_law_1377 rfl (lv_at hl 4 rfl) ?_
  refine lv_iload hx hb dL_law_1378 (lv_at hl 0 rfl) ?_
  refine lv_iconst (v := 1) hx hb dL_law_1380 (by decide) ?_
  refine lv_iadd hx hb dL_law_1381 ?_
  refine va_sld (i := i + 1) hx hb hX hbl hbA hS (hi 1 (by decide) (by decide)) dL_law_1382 ?_
  have hz1 : ∀ q : Nat, H1.size ≤ q → A q := fun q h => hA q (Nat.le_trans hS.1 h)
  refine ld_Vi (As := [.int (xs (Int32.toNatClampNeg (i + 1)))]) (rest := [.int y]) (q := y) (w' := fun (_ : Unit) => dw_X19 a2 ac2 τ1) ⟨hx, hb, hml, hown, hts⟩ (fun sz => dm_X19_shown l hlt dC dI a2 ac2 n (xs (Int32.toNatClampNeg (i + 1))) τ e2 sz) (cwV 1 hts gl_X19_shown rfl rfl rfl (by decide +kernel) ⟨Nat.le_of_ble_eq_true rfl, Nat.le_of_ble_eq_true rfl⟩) (lp_19 hP) (ldd_19 hD) (lk_19 hK) hS hA hN.1 (va_recv (lk_19 hK) (lp_19 hP) (ci := 20) (q0 := 0) rfl rfl) rfl hl.1 rfl (Nat.le_of_ble_eq_true rfl) dL_law_1383 ⟨by show c1 + 0 + 0 ≤ 601024; omega, by show s1 + 0 + 0 ≤ 7293034; omega⟩ (fun _ H2 locs hP1 hD1 hk1 hS => ?_)
  obtain ⟨hP, hD⟩ := lw_19 hP hD hz1 hk1 hP1 hD1
  refine lv_icmp_eq (tgt := 1493) hx hb dL_law_1386 (by decide) (fun _ => ?_) (fun h9 => absurd rfl h9)
  exact K v σ1 β (τ1, x) o _ _ _ _ _ hJ1 hB (by omega) (by omega) hP hD hS hl

set_option maxHeartbeats 40000000 in
set_option maxRecDepth 100000 in
theorem law_c27 {p : Program} {l : Launch} {e : Env} {s : State} {m : MethodId} {below : List Frame} {meth : Method} {c : Code} {Q : State → Prop} {A : Nat → Prop} {dC : Nat → ClassId} {dI : Nat → Nat → Nat} {bs L n : Nat} {xs : Nat → Int32} {ao : Nat} {co : ClassId} {a a2 : Nat → Nat} {ac acB ac2 : Nat → ClassId} (hC : lw_C p l s m c A dC dI bs L xs co ac acB ac2) (hn : 70000 < n) (i : Int32) (hi : ∀ j : Int32, 0 ≤ j → j ≤ 5 → vp_in (i + j) L) {C1 S1 : Nat} (hC1 : C1 ≤ 601024) (hS1 : S1 ≤ 7293034) (K : lw_K p l e s m below meth c Q A dC dI bs n ao co a a2 ac acB ac2 i C1 S1) {v : Nat} {σ : S12} {β : Sb} {τ : S19} {x : Lb} {o : Nat → Int64} {c1 s1 : Nat} {H : Heap} {locs : List Loc} {ls : Array Slot} (hJ : JJ n σ (τ, x)) (hB : BW β) (b1 : c1 + 3 ≤ C1) (b2 : s1 + tp σ + 100 ≤ S1) (hP : va_P (dC, dI) vwCl (dw_LW ao co a a2 ac acB ac2 v σ β (τ, x) o) H) (hD : va_D A (dw_LW ao co a a2 ac acB ac2 v σ β (τ, x) o)) (hS : va_S A s.heap H locs) (hl : lv_has ls 8 [(4, .int i), (3, .ref ao), (2, .ref (a2 0)), (1, .ref (a 0)), (0, .ref bs)]) : W p l e room_1 s m #[Value.ref bs] below meth c H locs c1 s1 Q (F0 m 1391 ls []) := by
  obtain ⟨hlt, hx, hb, hml, hown, hts, hN, hA, hDe, hK, hX, hbl, hbA⟩ := id hC
  refine lv_aload_n hx hb dL_law_1391 rfl (lv_at hl 3 rfl) ?_
  refine lv_aload_n hx hb dL_law_1392 rfl (lv_at hl 4 rfl) ?_
  refine lv_iload hx hb dL_law_1393 (lv_at hl 0 rfl) ?_
  refine lv_iconst (v := 1) hx hb dL_law_1395 (by decide) ?_
  refine lv_iadd hx hb dL_law_1396 ?_
  refine va_sld (i := i + 1) hx hb hX hbl hbA hS (hi 1 (by decide) (by decide)) dL_law_1397 ?_
  have hz : ∀ q : Nat, H.size ≤ q → A q := fun q h => hA q (Nat.le_trans hS.1 h)
  obtain ⟨y, σ1, τ1, e1, e2, hJ1⟩ := jj_count n (a 15) (a 3) hn (xs (Int32.toNatClampNeg (i + 1))) hJ
  have ht : tp σ1 ≤ tp σ + 20 := tq_count hn e1 hJ
  refine ld_Vl (As := [.int (xs (Int32.toNatClampNeg (i + 1)))]) (rest := []) (q := y) (w' := fun (_ : Unit) => dw_X12 a ac σ1) ⟨hx, hb, hml, hown, hts⟩ (fun sz => dm_X12_count l hlt dC dI a ac n (xs (Int32.toNatClampNeg (i + 1))) σ e1 sz) (cwV 1 hts gl_X12_count rfl rfl rfl (by decide +kernel) ⟨Nat.le_of_ble_eq_true rfl, Nat.le_of_ble_eq_true rfl⟩) (lp_12 hP) (ldd_12 hD) (lk_12 hK) hS hA hN.1 (va_recv (lk_12 hK) (lp_12 hP) (ci := 13) (q0 := 0) rfl rfl) rfl hl.1 rfl (Nat.le_of_ble_eq_true rfl) dL_law_1398 ⟨by show c1 + 0 ≤ 601024; omega, by show s1 + 0 ≤ 7293034; omega⟩ (fun _ H1 locs hP1 hD1 hk1 hS => ?_)
  obtain ⟨hP, hD⟩ := lw_12 hP hD hz hk1 hP1 hD1
  refine lv_aload_n hx hb dL_law_1401 rfl (lv_at hl 2 rfl) ?_
  refine lv_aload_n hx hb dL_law_1402 rfl (lv_at hl 4 rfl) ?_
  refine lv_iload hx hb dL_law_1403 (lv_at hl 0 rfl) ?_
  refine lv_iconst (v := 1) hx hb dL_law_1405 (by decide) ?_
  refine lv_iadd hx hb dL_law_1406 ?_
  refine va_sld (i := i + 1) hx hb hX hbl hbA hS (hi 1 (by decide) (by decide)) dL_law_1407 ?_
  have hz1 : ∀ q : Nat, H1.size ≤ q → A q := fun q h => hA q (Nat.le_trans hS.1 h)
  refine ld_Vl (As := [.int (xs (Int32.toNatClampNeg (i + 1)))]) (rest := [.long y]) (q := y) (w' := fun (_ : Unit) => dw_X19 a2 ac2 τ1) ⟨hx, hb, hml, hown, hts⟩ (fun sz => dm_X19_count l hlt dC dI a2 ac2 n (xs (Int32.toNatClampNeg (i + 1))) τ e2 sz) (cwV 1 hts gl_X19_count rfl rfl rfl (by decide +kernel) ⟨Nat.le_of_ble_eq_true rfl, Nat.le_of_ble_eq_true rfl⟩) (lp_19 hP) (ldd_19 hD) (lk_19 hK) hS hA hN.1 (va_recv (lk_19 hK) (lp_19 hP) (ci := 20) (q0 := 0) rfl rfl) rfl hl.1 rfl (Nat.le_of_ble_eq_true rfl) dL_law_1408 ⟨by show c1 + 0 + 0 ≤ 601024; omega, by show s1 + 0 + 0 ≤ 7293034; omega⟩ (fun _ H2 locs hP1 hD1 hk1 hS => ?_)
  obtain ⟨hP, hD⟩ := lw_19 hP hD hz1 hk1 hP1 hD1
  refine W.lcmp hx hb dL_law_1411 ?_
  refine lv_if_eq (tgt := 1493) hx hb dL_law_1412 (by decide) (fun _ => ?_) (fun h9 => absurd ((lg_cmp_eq y y).mpr rfl) h9)
  exact K v σ1 β (τ1, x) o _ _ _ _ _ hJ1 hB (by omega) (by omega) hP hD hS hl

set_option maxHeartbeats 40000000 in
set_option maxRecDepth 100000 in
theorem law_c28 {p : Program} {l : Launch} {e : Env} {s : State} {m : MethodId} {below : List Frame} {meth : Method} {c : Code} {Q : State → Prop} {A : Nat → Prop} {dC : Nat → ClassId} {dI : Nat → Nat → Nat} {bs L n : Nat} {xs : Nat → Int32} {ao : Nat} {co : ClassId} {a a2 : Nat → Nat} {ac acB ac2 : Nat → ClassId} (hC : lw_C p l s m c A dC dI bs L xs co ac acB ac2) (hn : 70000 < n) (i : Int32) (hi : ∀ j : Int32, 0 ≤ j → j ≤ 5 → vp_in (i + j) L) {C1 S1 : Nat} (hC1 : C1 ≤ 601024) (hS1 : S1 ≤ 7293034) (K : lw_K p l e s m below meth c Q A dC dI bs n ao co a a2 ac acB ac2 i C1 S1) {v : Nat} {σ : S12} {β : Sb} {τ : S19} {x : Lb} {o : Nat → Int64} {c1 s1 : Nat} {H : Heap} {locs : List Loc} {ls : Array Slot} (hJ : JJ n σ (τ, x)) (hB : BW β) (b1 : c1 + 3 ≤ C1) (b2 : s1 + tp σ + 100 ≤ S1) (hP : va_P (dC, dI) vwCl (dw_LW ao co a a2 ac acB ac2 v σ β (τ, x) o) H) (hD : va_D A (dw_LW ao co a a2 ac acB ac2 v σ β (τ, x) o)) (hS : va_S A s.heap H locs) (hl : lv_has ls 8 [(4, .int i), (3, .ref ao), (2, .ref (a2 0)), (1, .ref (a 0)), (0, .ref bs)]) : W p l e room_1 s m #[Value.ref bs] below meth c H locs c1 s1 Q (F0 m 1417 ls []) := by
  obtain ⟨hlt, hx, hb, hml, hown, hts, hN, hA, hDe, hK, hX, hbl, hbA⟩ := id hC
  refine lv_aload_n hx hb dL_law_1417 rfl (lv_at hl 3 rfl) ?_
  have hz : ∀ q : Nat, H.size ≤ q → A q := fun q h => hA q (Nat.le_trans hS.1 h)
  obtain ⟨y, σ1, τ1, e1, e2, hJ1⟩ := jj_pack n (a 15) (a 3) hn  hJ
  have ht : tp σ1 ≤ tp σ + 20 := tq_pack hn e1 hJ
  refine ld_Vi (As := []) (rest := []) (q := y) (w' := fun (_ : Unit) => dw_X12 a ac σ1) ⟨hx, hb, hml, hown, hts⟩ (fun sz => dm_X12_pack l hlt dC dI a ac n  σ e1 sz) (cwV 0 hts gl_X12_pack rfl rfl rfl (by decide +kernel) ⟨Nat.le_of_ble_eq_true rfl, Nat.le_of_ble_eq_true rfl⟩) (lp_12 hP) (ldd_12 hD) (lk_12 hK) hS hA hN.1 (va_recv (lk_12 hK) (lp_12 hP) (ci := 13) (q0 := 0) rfl rfl) rfl hl.1 rfl (Nat.le_of_ble_eq_true rfl) dL_law_1418 ⟨by show c1 + 0 ≤ 601024; omega, by show s1 + 0 ≤ 7293034; omega⟩ (fun _ H1 locs hP1 hD1 hk1 hS => ?_)
  obtain ⟨hP, hD⟩ := lw_12 hP hD hz hk1 hP1 hD1
  refine lv_aload_n hx hb dL_law_1421 rfl (lv_at hl 2 rfl) ?_
  have hz1 : ∀ q : Nat, H1.size ≤ q → A q := fun q h => hA q (Nat.le_trans hS.1 h)
  refine ld_Vi (As := []) (rest := [.int y]) (q := y) (w' := fun (_ : Unit) => dw_X19 a2 ac2 τ1) ⟨hx, hb, hml, hown, hts⟩ (fun sz => dm_X19_pack l hlt dC dI a2 ac2 n  τ e2 sz) (cwV 0 hts gl_X19_pack rfl rfl rfl (by decide +kernel) ⟨Nat.le_of_ble_eq_true rfl, Nat.le_of_ble_eq_true rfl⟩) (lp_19 hP) (ldd_19 hD) (lk_19 hK) hS hA hN.1 (va_recv (lk_19 hK) (lp_19 hP) (ci := 20) (q0 := 0) rfl rfl) rfl hl.1 rfl (Nat.le_of_ble_eq_true rfl) dL_law_1422 ⟨by show c1 + 0 + 0 ≤ 601024; omega, by show s1 + 0 + 0 ≤ 7293034; omega⟩ (fun _ H2 locs hP1 hD1 hk1 hS => ?_)
  obtain ⟨hP, hD⟩ := lw_19 hP hD hz1 hk1 hP1 hD1
  refine lv_icmp_eq (tgt := 1493) hx hb dL_law_1425 (by decide) (fun _ => ?_) (fun h9 => absurd rfl h9)
  exact K v σ1 β (τ1, x) o _ _ _ _ _ hJ1 hB (by omega) (by omega) hP hD hS hl

set_option maxHeartbeats 40000000 in
set_option maxRecDepth 100000 in
theorem law_c29 {p : Program} {l : Launch} {e : Env} {s : State} {m : MethodId} {below : List Frame} {meth : Method} {c : Code} {Q : State → Prop} {A : Nat → Prop} {dC : Nat → ClassId} {dI : Nat → Nat → Nat} {bs L n : Nat} {xs : Nat → Int32} {ao : Nat} {co : ClassId} {a a2 : Nat → Nat} {ac acB ac2 : Nat → ClassId} (hC : lw_C p l s m c A dC dI bs L xs co ac acB ac2) (hn : 70000 < n) (i : Int32) (hi : ∀ j : Int32, 0 ≤ j → j ≤ 5 → vp_in (i + j) L) {C1 S1 : Nat} (hC1 : C1 ≤ 601024) (hS1 : S1 ≤ 7293034) (K : lw_K p l e s m below meth c Q A dC dI bs n ao co a a2 ac acB ac2 i C1 S1) {v : Nat} {σ : S12} {β : Sb} {τ : S19} {x : Lb} {o : Nat → Int64} {c1 s1 : Nat} {H : Heap} {locs : List Loc} {ls : Array Slot} (hJ : JJ n σ (τ, x)) (hB : BW β) (b1 : c1 + 3 ≤ C1) (b2 : s1 + tp σ + 100 ≤ S1) (hP : va_P (dC, dI) vwCl (dw_LW ao co a a2 ac acB ac2 v σ β (τ, x) o) H) (hD : va_D A (dw_LW ao co a a2 ac acB ac2 v σ β (τ, x) o)) (hS : va_S A s.heap H locs) (hl : lv_has ls 8 [(4, .int i), (3, .ref ao), (2, .ref (a2 0)), (1, .ref (a 0)), (0, .ref bs)]) : W p l e room_1 s m #[Value.ref bs] below meth c H locs c1 s1 Q (F0 m 1430 ls []) := by
  obtain ⟨hlt, hx, hb, hml, hown, hts, hN, hA, hDe, hK, hX, hbl, hbA⟩ := id hC
  refine lv_aload_n hx hb dL_law_1430 rfl (lv_at hl 3 rfl) ?_
  refine lv_aload_n hx hb dL_law_1431 rfl (lv_at hl 4 rfl) ?_
  refine lv_iload hx hb dL_law_1432 (lv_at hl 0 rfl) ?_
  refine lv_iconst (v := 1) hx hb dL_law_1434 (by decide) ?_
  refine lv_iadd hx hb dL_law_1435 ?_
  refine va_sld (i := i + 1) hx hb hX hbl hbA hS (hi 1 (by decide) (by decide)) dL_law_1436 ?_
  have hz : ∀ q : Nat, H.size ≤ q → A q := fun q h => hA q (Nat.le_trans hS.1 h)
  obtain ⟨y, σ1, τ1, e1, e2, hJ1⟩ := jj_logByte n (a 15) (a 3) (xs (Int32.toNatClampNeg (i + 1))) hJ
  have ht : tp σ1 ≤ tp σ + 20 := tq_logByte hn e1 hJ
  refine ld_Vi (As := [.int (xs (Int32.toNatClampNeg (i + 1)))]) (rest := []) (q := y) (w' := fun (_ : Unit) => dw_X12 a ac σ1) ⟨hx, hb, hml, hown, hts⟩ (fun sz => dm_X12_logByte l hlt dC dI a ac n (xs (Int32.toNatClampNeg (i + 1))) σ e1 sz) (cwV 1 hts gl_X12_logByte rfl rfl rfl (by decide +kernel) ⟨Nat.le_of_ble_eq_true rfl, Nat.le_of_ble_eq_true rfl⟩) (lp_12 hP) (ldd_12 hD) (lk_12 hK) hS hA hN.1 (va_recv (lk_12 hK) (lp_12 hP) (ci := 13) (q0 := 0) rfl rfl) rfl hl.1 rfl (Nat.le_of_ble_eq_true rfl) dL_law_1437 ⟨by show c1 + 0 ≤ 601024; omega, by show s1 + 0 ≤ 7293034; omega⟩ (fun _ H1 locs hP1 hD1 hk1 hS => ?_)
  obtain ⟨hP, hD⟩ := lw_12 hP hD hz hk1 hP1 hD1
  refine lv_aload_n hx hb dL_law_1440 rfl (lv_at hl 2 rfl) ?_
  refine lv_aload_n hx hb dL_law_1441 rfl (lv_at hl 4 rfl) ?_
  refine lv_iload hx hb dL_law_1442 (lv_at hl 0 rfl) ?_
  refine lv_iconst (v := 1) hx hb dL_law_1444 (by decide) ?_
  refine lv_iadd hx hb dL_law_1445 ?_
  refine va_sld (i := i + 1) hx hb hX hbl hbA hS (hi 1 (by decide) (by decide)) dL_law_1446 ?_
  have hz1 : ∀ q : Nat, H1.size ≤ q → A q := fun q h => hA q (Nat.le_trans hS.1 h)
  refine ld_Vi (As := [.int (xs (Int32.toNatClampNeg (i + 1)))]) (rest := [.int y]) (q := y) (w' := fun (_ : Unit) => dw_X19 a2 ac2 τ1) ⟨hx, hb, hml, hown, hts⟩ (fun sz => dm_X19_logByte l hlt dC dI a2 ac2 n (xs (Int32.toNatClampNeg (i + 1))) τ e2 sz) (cwV 1 hts gl_X19_logByte rfl rfl rfl (by decide +kernel) ⟨Nat.le_of_ble_eq_true rfl, Nat.le_of_ble_eq_true rfl⟩) (lp_19 hP) (ldd_19 hD) (lk_19 hK) hS hA hN.1 (va_recv (lk_19 hK) (lp_19 hP) (ci := 20) (q0 := 0) rfl rfl) rfl hl.1 rfl (Nat.le_of_ble_eq_true rfl) dL_law_1447 ⟨by show c1 + 0 + 0 ≤ 601024; omega, by show s1 + 0 + 0 ≤ 7293034; omega⟩ (fun _ H2 locs hP1 hD1 hk1 hS => ?_)
  obtain ⟨hP, hD⟩ := lw_19 hP hD hz1 hk1 hP1 hD1
  refine lv_icmp_eq (tgt := 1493) hx hb dL_law_1450 (by decide) (fun _ => ?_) (fun h9 => absurd rfl h9)
  exact K v σ1 β (τ1, x) o _ _ _ _ _ hJ1 hB (by omega) (by omega) hP hD hS hl

set_option maxHeartbeats 40000000 in
set_option maxRecDepth 100000 in
theorem law_c30 {p : Program} {l : Launch} {e : Env} {s : State} {m : MethodId} {below : List Frame} {meth : Method} {c : Code} {Q : State → Prop} {A : Nat → Prop} {dC : Nat → ClassId} {dI : Nat → Nat → Nat} {bs L n : Nat} {xs : Nat → Int32} {ao : Nat} {co : ClassId} {a a2 : Nat → Nat} {ac acB ac2 : Nat → ClassId} (hC : lw_C p l s m c A dC dI bs L xs co ac acB ac2) (hn : 70000 < n) (i : Int32) (hi : ∀ j : Int32, 0 ≤ j → j ≤ 5 → vp_in (i + j) L) {C1 S1 : Nat} (hC1 : C1 ≤ 601024) (hS1 : S1 ≤ 7293034) (K : lw_K p l e s m below meth c Q A dC dI bs n ao co a a2 ac acB ac2 i C1 S1) {v : Nat} {σ : S12} {β : Sb} {τ : S19} {x : Lb} {o : Nat → Int64} {c1 s1 : Nat} {H : Heap} {locs : List Loc} {ls : Array Slot} (hJ : JJ n σ (τ, x)) (hB : BW β) (b1 : c1 + 3 ≤ C1) (b2 : s1 + tp σ + 100 ≤ S1) (hP : va_P (dC, dI) vwCl (dw_LW ao co a a2 ac acB ac2 v σ β (τ, x) o) H) (hD : va_D A (dw_LW ao co a a2 ac acB ac2 v σ β (τ, x) o)) (hS : va_S A s.heap H locs) (hl : lv_has ls 8 [(4, .int i), (3, .ref ao), (2, .ref (a2 0)), (1, .ref (a 0)), (0, .ref bs)]) : W p l e room_1 s m #[Value.ref bs] below meth c H locs c1 s1 Q (F0 m 1455 ls []) := by
  obtain ⟨hlt, hx, hb, hml, hown, hts, hN, hA, hDe, hK, hX, hbl, hbA⟩ := id hC
  refine lv_aload_n hx hb dL_law_1455 rfl (lv_at hl 3 rfl) ?_
  refine lv_aload_n hx hb dL_law_1456 rfl (lv_at hl 4 rfl) ?_
  refine lv_iload hx hb dL_law_1457 (lv_at hl 0 rfl) ?_
  refine lv_iconst (v := 1) hx hb dL_law_1459 (by decide) ?_
  refine lv_iadd hx hb dL_law_1460 ?_
  refine va_sld (i := i + 1) hx hb hX hbl hbA hS (hi 1 (by decide) (by decide)) dL_law_1461 ?_
  refine lv_aload_n hx hb dL_law_1462 rfl (lv_at hl 4 rfl) ?_
  refine lv_iload hx hb dL_law_1463 (lv_at hl 0 rfl) ?_
  refine lv_iconst (v := 2) hx hb dL_law_1465 (by decide) ?_
  refine lv_iadd hx hb dL_law_1466 ?_
  refine va_sld (i := i + 2) hx hb hX hbl hbA hS (hi 2 (by decide) (by decide)) dL_law_1467 ?_
  have hz : ∀ q : Nat, H.size ≤ q → A q := fun q h => hA q (Nat.le_trans hS.1 h)
  obtain ⟨y, σ1, τ1, e1, e2, hJ1⟩ := jj_event n (a 15) (a 3) (xs (Int32.toNatClampNeg (i + 1))) (xs (Int32.toNatClampNeg (i + 2))) hJ
  have ht : tp σ1 ≤ tp σ + 20 := tq_event hn e1 hJ
  refine ld_Vl (As := [.int (xs (Int32.toNatClampNeg (i + 1))), .int (xs (Int32.toNatClampNeg (i + 2)))]) (rest := []) (q := y) (w' := fun (_ : Unit) => dw_X12 a ac σ1) ⟨hx, hb, hml, hown, hts⟩ (fun sz => dm_X12_event l hlt dC dI a ac n (xs (Int32.toNatClampNeg (i + 1))) (xs (Int32.toNatClampNeg (i + 2))) σ e1 sz) (cwV 2 hts gl_X12_event rfl rfl rfl (by decide +kernel) ⟨Nat.le_of_ble_eq_true rfl, Nat.le_of_ble_eq_true rfl⟩) (lp_12 hP) (ldd_12 hD) (lk_12 hK) hS hA hN.1 (va_recv (lk_12 hK) (lp_12 hP) (ci := 13) (q0 := 0) rfl rfl) rfl hl.1 rfl (Nat.le_of_ble_eq_true rfl) dL_law_1468 ⟨by show c1 + 0 ≤ 601024; omega, by show s1 + 0 ≤ 7293034; omega⟩ (fun _ H1 locs hP1 hD1 hk1 hS => ?_)
  obtain ⟨hP, hD⟩ := lw_12 hP hD hz hk1 hP1 hD1
  refine lv_aload_n hx hb dL_law_1471 rfl (lv_at hl 2 rfl) ?_
  refine lv_aload_n hx hb dL_law_1472 rfl (lv_at hl 4 rfl) ?_
  refine lv_iload hx hb dL_law_1473 (lv_at hl 0 rfl) ?_
  refine lv_iconst (v := 1) hx hb dL_law_1475 (by decide) ?_
  refine lv_iadd hx hb dL_law_1476 ?_
  refine va_sld (i := i + 1) hx hb hX hbl hbA hS (hi 1 (by decide) (by decide)) dL_law_1477 ?_
  refine lv_aload_n hx hb dL_law_1478 rfl (lv_at hl 4 rfl) ?_
  refine lv_iload hx hb dL_law_1479 (lv_at hl 0 rfl) ?_
  refine lv_iconst (v := 2) hx hb dL_law_1481 (by decide) ?_
  refine lv_iadd hx hb dL_law_1482 ?_
  refine va_sld (i := i + 2) hx hb hX hbl hbA hS (hi 2 (by decide) (by decide)) dL_law_1483 ?_
  have hz1 : ∀ q : Nat, H1.size ≤ q → A q := fun q h => hA q (Nat.le_trans hS.1 h)
  refine ld_Vl (As := [.int (xs (Int32.toNatClampNeg (i + 1))), .int (xs (Int32.toNatClampNeg (i + 2)))]) (rest := [.long y]) (q := y) (w' := fun (_ : Unit) => dw_X19 a2 ac2 τ1) ⟨hx, hb, hml, hown, hts⟩ (fun sz => dm_X19_event l hlt dC dI a2 ac2 n (xs (Int32.toNatClampNeg (i + 1))) (xs (Int32.toNatClampNeg (i + 2))) τ e2 sz) (cwV 2 hts gl_X19_event rfl rfl rfl (by decide +kernel) ⟨Nat.le_of_ble_eq_true rfl, Nat.le_of_ble_eq_true rfl⟩) (lp_19 hP) (ldd_19 hD) (lk_19 hK) hS hA hN.1 (va_recv (lk_19 hK) (lp_19 hP) (ci := 20) (q0 := 0) rfl rfl) rfl hl.1 rfl (Nat.le_of_ble_eq_true rfl) dL_law_1484 ⟨by show c1 + 0 + 0 ≤ 601024; omega, by show s1 + 0 + 0 ≤ 7293034; omega⟩ (fun _ H2 locs hP1 hD1 hk1 hS => ?_)
  obtain ⟨hP, hD⟩ := lw_19 hP hD hz1 hk1 hP1 hD1
  refine W.lcmp hx hb dL_law_1487 ?_
  refine lv_if_eq (tgt := 1493) hx hb dL_law_1488 (by decide) (fun _ => ?_) (fun h9 => absurd ((lg_cmp_eq y y).mpr rfl) h9)
  exact K v σ1 β (τ1, x) o _ _ _ _ _ hJ1 hB (by omega) (by omega) hP hD hS hl

