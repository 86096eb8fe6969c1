set_option maxHeartbeats 40000000 in
set_option maxRecDepth 100000 in
theorem law_c0 {p : Program} {l : Launch} {e : Env} {s : State} {m : MethodId} {below : List Frame} {meth : Method} {c : Code} {Q : State → Prop} {A : Nat → Prop} {dC : Nat → ClassId} {dI : Nat → Nat → Nat} {bs L n : Nat} {xs : Nat → Int32} {ao : Nat} {co : ClassId} {a a2 : Nat → Nat} {ac acB ac2 : Nat → ClassId} (hC : lw_C p l s m c A dC dI bs L xs co ac acB ac2) (hn : 70000 < n) (i : Int32) (hi : ∀ j : Int32, 0 ≤ j → j ≤ 5 → vp_in (i + j) L) {C1 S1 : Nat} (hC1 : C1 ≤ 601024) (hS1 : S1 ≤ 7293034) (K : lw_K p l e s m below meth c Q A dC dI bs n ao co a a2 ac acB ac2 i C1 S1) {v : Nat} {σ : S12} {β : Sb} {τ : S19} {x : Lb} {o : Nat → Int64} {c1 s1 : Nat} {H : Heap} {locs : List Loc} {ls : Array Slot} (hJ : JJ n σ (τ, x)) (hB : BW β) (b1 : c1 + 3 ≤ C1) (b2 : s1 + tp σ + 100 ≤ S1) (hP : va_P (dC, dI) vwCl (dw_LW ao co a a2 ac acB ac2 v σ β (τ, x) o) H) (hD : va_D A (dw_LW ao co a a2 ac acB ac2 v σ β (τ, x) o)) (hS : va_S A s.heap H locs) (hl : lv_has ls 8 [(4, .int i), (3, .ref ao), (2, .ref (a2 0)), (1, .ref (a 0)), (0, .ref bs)]) : W p l e room_1 s m #[Value.ref bs] below meth c H locs c1 s1 Q (F0 m 180 ls []) := by
  obtain ⟨hlt, hx, hb, hml, hown, hts, hN, hA, hDe, hK, hX, hbl, hbA⟩ := id hC
  refine lv_aload_n hx hb dL_law_180 rfl (lv_at hl 3 rfl) ?_
  refine lv_aload_n hx hb dL_law_181 rfl (lv_at hl 4 rfl) ?_
  refine lv_iload hx hb dL_law_182 (lv_at hl 0 rfl) ?_
  refine lv_iconst (v := 1) hx hb dL_law_184 (by decide) ?_
  refine lv_iadd hx hb dL_law_185 ?_
  refine va_sld (i := i + 1) hx hb hX hbl hbA hS (hi 1 (by decide) (by decide)) dL_law_186 ?_
  refine lv_aload_n hx hb dL_law_187 rfl (lv_at hl 4 rfl) ?_
  refine lv_iload hx hb dL_law_188 (lv_at hl 0 rfl) ?_
  refine lv_iconst (v := 2) hx hb dL_law_190 (by decide) ?_
  refine lv_iadd hx hb dL_law_191 ?_
  refine va_sld (i := i + 2) hx hb hX hbl hbA hS (hi 2 (by decide) (by decide)) dL_law_192 ?_
  refine lv_aload_n hx hb dL_law_193 rfl (lv_at hl 4 rfl) ?_
  refine lv_iload hx hb dL_law_194 (lv_at hl 0 rfl) ?_
  refine lv_iconst (v := 3) hx hb dL_law_196 (by decide) ?_
  refine lv_iadd hx hb dL_law_197 ?_
  refine va_sld (i := i + 3) hx hb hX hbl hbA hS (hi 3 (by decide) (by decide)) dL_law_198 ?_
  refine lv_aload_n hx hb dL_law_199 rfl (lv_at hl 4 rfl) ?_
  refine lv_iload hx hb dL_law_200 (lv_at hl 0 rfl) ?_
  refine lv_iconst (v := 4) hx hb dL_law_202 (by decide) ?_
  refine lv_iadd hx hb dL_law_203 ?_
  refine va_sld (i := i + 4) hx hb hX hbl hbA hS (hi 4 (by decide) (by decide)) dL_law_204 ?_
  refine lv_aload_n hx hb dL_law_205 rfl (lv_at hl 4 rfl) ?_
  refine lv_iload hx hb dL_law_206 (lv_at hl 0 rfl) ?_
  refine lv_iconst (v := 5) hx hb dL_law_208 (by decide) ?_
  refine lv_iadd hx hb dL_law_209 ?_
  refine va_sld (i := i + 5) hx hb hX hbl hbA hS (hi 5 (by decide) (by decide)) dL_law_210 ?_
  have hz : ∀ q : Nat, H.size ≤ q → A q := fun q h => hA q (Nat.le_trans hS.1 h)
  obtain ⟨y, σ1, τ1, e1, e2, hJ1⟩ := jj_feed n (a 15) (a 3) hn (xs (Int32.toNatClampNeg (i + 1))) (xs (Int32.toNatClampNeg (i + 2))) (xs (Int32.toNatClampNeg (i + 3))) (xs (Int32.toNatClampNeg (i + 4))) (xs (Int32.toNatClampNeg (i + 5))) hJ
  have ht : tp σ1 ≤ tp σ + 20 := tq_feed hn e1 hJ
  refine ld_Vi (As := [.int (xs (Int32.toNatClampNeg (i + 1))), .int (xs (Int32.toNatClampNeg (i + 2))), .int (xs (Int32.toNatClampNeg (i + 3))), .int (xs (Int32.toNatClampNeg (i + 4))), .int (xs (Int32.toNatClampNeg (i + 5)))]) (rest := []) (q := y) (w' := fun (_ : Unit) => dw_X12 a ac σ1) ⟨hx, hb, hml, hown, hts⟩ (fun sz => dm_X12_feed l hlt dC dI a ac n (xs (Int32.toNatClampNeg (i + 1))) (xs (Int32.toNatClampNeg (i + 2))) (xs (Int32.toNatClampNeg (i + 3))) (xs (Int32.toNatClampNeg (i + 4))) (xs (Int32.toNatClampNeg (i + 5))) σ e1 sz) (cwV 5 hts gl_X12_feed rfl rfl rfl (by decide +kernel) ⟨Nat.le_of_ble_eq_true rfl, Nat.le_of_ble_eq_true rfl⟩) (lp_12 hP) (ldd_12 hD) (lk_12 hK) hS hA hN.1 (va_recv (lk_12 hK) (lp_12 hP) (ci := 13) (q0 := 0) rfl rfl) rfl hl.1 rfl (Nat.le_of_ble_eq_true rfl) dL_law_211 ⟨by show c1 + 0 ≤ 601024; omega, by show s1 + 0 ≤ 7293034; omega⟩ (fun _ H1 locs hP1 hD1 hk1 hS => ?_)
  obtain ⟨hP, hD⟩ := lw_12 hP hD hz hk1 hP1 hD1
  refine lv_aload_n hx hb dL_law_214 rfl (lv_at hl 2 rfl) ?_
  refine lv_aload_n hx hb dL_law_215 rfl (lv_at hl 4 rfl) ?_
  refine lv_iload hx hb dL_law_216 (lv_at hl 0 rfl) ?_
  refine lv_iconst (v := 1) hx hb dL_law_218 (by decide) ?_
  refine lv_iadd hx hb dL_law_219 ?_
  refine va_sld (i := i + 1) hx hb hX hbl hbA hS (hi 1 (by decide) (by decide)) dL_law_220 ?_
  refine lv_aload_n hx hb dL_law_221 rfl (lv_at hl 4 rfl) ?_
  refine lv_iload hx hb dL_law_222 (lv_at hl 0 rfl) ?_
  refine lv_iconst (v := 2) hx hb dL_law_224 (by decide) ?_
  refine lv_iadd hx hb dL_law_225 ?_
  refine va_sld (i := i + 2) hx hb hX hbl hbA hS (hi 2 (by decide) (by decide)) dL_law_226 ?_
  refine lv_aload_n hx hb dL_law_227 rfl (lv_at hl 4 rfl) ?_
  refine lv_iload hx hb dL_law_228 (lv_at hl 0 rfl) ?_
  refine lv_iconst (v := 3) hx hb dL_law_230 (by decide) ?_
  refine lv_iadd hx hb dL_law_231 ?_
  refine va_sld (i := i + 3) hx hb hX hbl hbA hS (hi 3 (by decide) (by decide)) dL_law_232 ?_
  refine lv_aload_n hx hb dL_law_233 rfl (lv_at hl 4 rfl) ?_
  refine lv_iload hx hb dL_law_234 (lv_at hl 0 rfl) ?_
  refine lv_iconst (v := 4) hx hb dL_law_236 (by decide) ?_
  refine lv_iadd hx hb dL_law_237 ?_
  refine va_sld (i := i + 4) hx hb hX hbl hbA hS (hi 4 (by decide) (by decide)) dL_law_238 ?_
  refine lv_aload_n hx hb dL_law_239 rfl (lv_at hl 4 rfl) ?_
  refine lv_iload hx hb dL_law_240 (lv_at hl 0 rfl) ?_
  refine lv_iconst (v := 5) hx hb dL_law_242 (by decide) ?_
  refine lv_iadd hx hb dL_law_243 ?_
  refine va_sld (i := i + 5) hx hb hX hbl hbA hS (hi 5 (by decide) (by decide)) dL_law_244 ?_
  have hz1 : ∀ q : Nat, H1.size ≤ q → A q := fun q h => hA q (Nat.le_trans hS.1 h)
  refine ld_Vi (As := [.int (xs (Int32.toNatClampNeg (i + 1))), .int (xs (Int32.toNatClampNeg (i + 2))), .int (xs (Int32.toNatClampNeg (i + 3))), .int (xs (Int32.toNatClampNeg (i + 4))), .int (xs (Int32.toNatClampNeg (i + 5)))]) (rest := [.int y]) (q := y) (w' := fun (_ : Unit) => dw_X19 a2 ac2 τ1) ⟨hx, hb, hml, hown, hts⟩ (fun sz => dm_X19_feed l hlt dC dI a2 ac2 n (xs (Int32.toNatClampNeg (i + 1))) (xs (Int32.toNatClampNeg (i + 2))) (xs (Int32.toNatClampNeg (i + 3))) (xs (Int32.toNatClampNeg (i + 4))) (xs (Int32.toNatClampNeg (i + 5))) τ e2 sz) (cwV 5 hts gl_X19_feed rfl rfl rfl (by decide +kernel) ⟨Nat.le_of_ble_eq_true rfl, Nat.le_of_ble_eq_true rfl⟩) (lp_19 hP) (ldd_19 hD) (lk_19 hK) hS hA hN.1 (va_recv (lk_19 hK) (lp_19 hP) (ci := 20) (q0 := 0) rfl rfl) rfl hl.1 rfl (Nat.le_of_ble_eq_true rfl) dL_law_245 ⟨by show c1 + 0 + 0 ≤ 601024; omega, by show s1 + 0 + 0 ≤ 7293034; omega⟩ (fun _ H2 locs hP1 hD1 hk1 hS => ?_)
  obtain ⟨hP, hD⟩ := lw_19 hP hD hz1 hk1 hP1 hD1
  refine lv_icmp_eq (tgt := 1493) hx hb dL_law_248 (by decide) (fun _ => ?_) (fun h9 => absurd rfl h9)
  exact K v σ1 β (τ1, x) o _ _ _ _ _ hJ1 hB (by omega) (by omega) hP hD hS hl

set_option maxHeartbeats 40000000 in
set_option maxRecDepth 100000 in
theorem law_c1 {p : Program} {l : Launch} {e : Env} {s : State} {m : MethodId} {below : List Frame} {meth : Method} {c : Code} {Q : State → Prop} {A : Nat → Prop} {dC : Nat → ClassId} {dI : Nat → Nat → Nat} {bs L n : Nat} {xs : Nat → Int32} {ao : Nat} {co : ClassId} {a a2 : Nat → Nat} {ac acB ac2 : Nat → ClassId} (hC : lw_C p l s m c A dC dI bs L xs co ac acB ac2) (hn : 70000 < n) (i : Int32) (hi : ∀ j : Int32, 0 ≤ j → j ≤ 5 → vp_in (i + j) L) {C1 S1 : Nat} (hC1 : C1 ≤ 601024) (hS1 : S1 ≤ 7293034) (K : lw_K p l e s m below meth c Q A dC dI bs n ao co a a2 ac acB ac2 i C1 S1) {v : Nat} {σ : S12} {β : Sb} {τ : S19} {x : Lb} {o : Nat → Int64} {c1 s1 : Nat} {H : Heap} {locs : List Loc} {ls : Array Slot} (hJ : JJ n σ (τ, x)) (hB : BW β) (b1 : c1 + 3 ≤ C1) (b2 : s1 + tp σ + 100 ≤ S1) (hP : va_P (dC, dI) vwCl (dw_LW ao co a a2 ac acB ac2 v σ β (τ, x) o) H) (hD : va_D A (dw_LW ao co a a2 ac acB ac2 v σ β (τ, x) o)) (hS : va_S A s.heap H locs) (hl : lv_has ls 8 [(4, .int i), (3, .ref ao), (2, .ref (a2 0)), (1, .ref (a 0)), (0, .ref bs)]) : W p l e room_1 s m #[Value.ref bs] below meth c H locs c1 s1 Q (F0 m 253 ls []) := by
  obtain ⟨hlt, hx, hb, hml, hown, hts, hN, hA, hDe, hK, hX, hbl, hbA⟩ := id hC
  refine lv_aload_n hx hb dL_law_253 rfl (lv_at hl 3 rfl) ?_
  refine lv_aload_n hx hb dL_law_254 rfl (lv_at hl 4 rfl) ?_
  refine lv_iload hx hb dL_law_255 (lv_at hl 0 rfl) ?_
  refine lv_iconst (v := 1) hx hb dL_law_257 (by decide) ?_
  refine lv_iadd hx hb dL_law_258 ?_
  refine va_sld (i := i + 1) hx hb hX hbl hbA hS (hi 1 (by decide) (by decide)) dL_law_259 ?_
  have hz : ∀ q : Nat, H.size ≤ q → A q := fun q h => hA q (Nat.le_trans hS.1 h)
  obtain ⟨y, σ1, τ1, e1, e2, hJ1⟩ := jj_end n (a 15) (a 3) (xs (Int32.toNatClampNeg (i + 1))) hJ
  have ht : tp σ1 ≤ tp σ + 20 := tq_end hn e1 hJ
  refine ld_Vi (As := [.int (xs (Int32.toNatClampNeg (i + 1)))]) (rest := []) (q := y) (w' := fun (_ : Unit) => dw_X12 a ac σ1) ⟨hx, hb, hml, hown, hts⟩ (fun sz => dm_X12_end l hlt dC dI a ac n (xs (Int32.toNatClampNeg (i + 1))) σ e1 sz) (cwV 1 hts gl_X12_end rfl rfl rfl (by decide +kernel) ⟨Nat.le_of_ble_eq_true rfl, Nat.le_of_ble_eq_true rfl⟩) (lp_12 hP) (ldd_12 hD) (lk_12 hK) hS hA hN.1 (va_recv (lk_12 hK) (lp_12 hP) (ci := 13) (q0 := 0) rfl rfl) rfl hl.1 rfl (Nat.le_of_ble_eq_true rfl) dL_law_260 ⟨by show c1 + 0 ≤ 601024; omega, by show s1 + 0 ≤ 7293034; omega⟩ (fun _ H1 locs hP1 hD1 hk1 hS => ?_)
  obtain ⟨hP, hD⟩ := lw_12 hP hD hz hk1 hP1 hD1
  refine lv_aload_n hx hb dL_law_263 rfl (lv_at hl 2 rfl) ?_
  refine lv_aload_n hx hb dL_law_264 rfl (lv_at hl 4 rfl) ?_
  refine lv_iload hx hb dL_law_265 (lv_at hl 0 rfl) ?_
  refine lv_iconst (v := 1) hx hb dL_law_267 (by decide) ?_
  refine lv_iadd hx hb dL_law_268 ?_
  refine va_sld (i := i + 1) hx hb hX hbl hbA hS (hi 1 (by decide) (by decide)) dL_law_269 ?_
  have hz1 : ∀ q : Nat, H1.size ≤ q → A q := fun q h => hA q (Nat.le_trans hS.1 h)
  refine ld_Vi (As := [.int (xs (Int32.toNatClampNeg (i + 1)))]) (rest := [.int y]) (q := y) (w' := fun (_ : Unit) => dw_X19 a2 ac2 τ1) ⟨hx, hb, hml, hown, hts⟩ (fun sz => dm_X19_end l hlt dC dI a2 ac2 n (xs (Int32.toNatClampNeg (i + 1))) τ e2 sz) (cwV 1 hts gl_X19_end rfl rfl rfl (by decide +kernel) ⟨Nat.le_of_ble_eq_true rfl, Nat.le_of_ble_eq_true rfl⟩) (lp_19 hP) (ldd_19 hD) (lk_19 hK) hS hA hN.1 (va_recv (lk_19 hK) (lp_19 hP) (ci := 20) (q0 := 0) rfl rfl) rfl hl.1 rfl (Nat.le_of_ble_eq_true rfl) dL_law_270 ⟨by show c1 + 0 + 0 ≤ 601024; omega, by show s1 + 0 + 0 ≤ 7293034; omega⟩ (fun _ H2 locs hP1 hD1 hk1 hS => ?_)
  obtain ⟨hP, hD⟩ := lw_19 hP hD hz1 hk1 hP1 hD1
  refine lv_icmp_eq (tgt := 1493) hx hb dL_law_273 (by decide) (fun _ => ?_) (fun h9 => absurd rfl h9)
  exact K v σ1 β (τ1, x) o _ _ _ _ _ hJ1 hB (by omega) (by omega) hP hD hS hl

set_option maxHeartbeats 40000000 in
set_option maxRecDepth 100000 in
theorem law_c2 {p : Program} {l : Launch} {e : Env} {s : State} {m : MethodId} {below : List Frame} {meth : Method} {c : Code} {Q : State → Prop} {A : Nat → Prop} {dC : Nat → ClassId} {dI : Nat → Nat → Nat} {bs L n : Nat} {xs : Nat → Int32} {ao : Nat} {co : ClassId} {a a2 : Nat → Nat} {ac acB ac2 : Nat → ClassId} (hC : lw_C p l s m c A dC dI bs L xs co ac acB ac2) (hn : 70000 < n) (i : Int32) (hi : ∀ j : Int32, 0 ≤ j → j ≤ 5 → vp_in (i + j) L) {C1 S1 : Nat} (hC1 : C1 ≤ 601024) (hS1 : S1 ≤ 7293034) (K : lw_K p l e s m below meth c Q A dC dI bs n ao co a a2 ac acB ac2 i C1 S1) {v : Nat} {σ : S12} {β : Sb} {τ : S19} {x : Lb} {o : Nat → Int64} {c1 s1 : Nat} {H : Heap} {locs : List Loc} {ls : Array Slot} (hJ : JJ n σ (τ, x)) (hB : BW β) (b1 : c1 + 3 ≤ C1) (b2 : s1 + tp σ + 100 ≤ S1) (hP : va_P (dC, dI) vwCl (dw_LW ao co a a2 ac acB ac2 v σ β (τ, x) o) H) (hD : va_D A (dw_LW ao co a a2 ac acB ac2 v σ β (τ, x) o)) (hS : va_S A s.heap H locs) (hl : lv_has ls 8 [(4, .int i), (3, .ref ao), (2, .ref (a2 0)), (1, .ref (a 0)), (0, .ref bs)]) : W p l e room_1 s m #[Value.ref bs] below meth c H locs c1 s1 Q (F0 m 278 ls []) := by
  obtain ⟨hlt, hx, hb, hml, hown, hts, hN, hA, hDe, hK, hX, hbl, hbA⟩ := id hC
  refine lv_aload_n hx hb dL_law_278 rfl (lv_at hl 3 rfl) ?_
  refine lv_aload_n hx hb dL_law_279 rfl (lv_at hl 4 rfl) ?_
  refine lv_iload hx hb dL_law_280 (lv_at hl 0 rfl) ?_
  refine lv_iconst (v := 1) hx hb dL_law_282 (by decide) ?_
  refine lv_iadd hx hb dL_law_283 ?_
  refine va_sld (i := i + 1) hx hb hX hbl hbA hS (hi 1 (by decide) (by decide)) dL_law_284 ?_
  refine lv_aload_n hx hb dL_law_285 rfl (lv_at hl 1 rfl) ?_
  have hz : ∀ q : Nat, H.size ≤ q → A q := fun q h => hA q (Nat.le_trans hS.1 h)
  obtain ⟨r, k, σ1, o', y, ω, ox, e1, hr0, e2, ek, eo, ht, hJ1⟩ : ∃ (r : (Int32 × S12) ⊕ (String × S12)) (k : Int32) (σ1 : S12) (o' : Nat → Int64) (y : Int32) (ω : S19 × Lb) (ox : Ox), df_X12_assemble n (a 15) (a 3) (xs (Int32.toNatClampNeg (i + 1))) σ = some r ∧ lw_R1 Int32.toInt64 r k σ1 o o' ∧ df_X19_assemble n (xs (Int32.toNatClampNeg (i + 1))) (τ, x) = some (y, (ω, ox)) ∧ sI ω.1.1 0 = k ∧ (k = 0 → o' (Int32.toNatClampNeg 0) = y.toInt64) ∧ tp σ1 + oxN ox ≤ tp σ + 43 ∧ ∀ na : Nat, JJ n σ1 (asL na (ω, ox)) := lj_assemble hn hJ o
  refine ldl_S (As := [.ref (a 0), .int (xs (Int32.toNatClampNeg (i + 1))), .ref ao]) (rest := []) (q := k) (w' := dw_HO ao co o' a ac σ1) ⟨hx, hb, hml, hown, hts⟩ (fun sz => dm_L_assemble l hlt dC dI a ac n ao co (xs (Int32.toNatClampNeg (i + 1))) σ o e1 hr0 sz) (vx_cwSW 3 hts gl_L_assemble rfl rfl rfl (by decide +kernel) ⟨Nat.le_of_ble_eq_true rfl, Nat.le_of_ble_eq_true rfl⟩) (lwp_h hP) (ldd_h hD) (lk_h hK) hS hA hN.1 hDe rfl hl.1 rfl (Nat.le_of_ble_eq_true rfl) dL_law_286 ⟨by show c1 + 1 ≤ 601024; omega, by show s1 + 6 ≤ 7293034; omega⟩ (fun H1 locs hP1 hD1 hk1 hS => ?_)
  obtain ⟨hP, hD⟩ := lw_h hP hD hz hk1 hP1 hD1
  refine lv_istore (lv' := [(5, .int k), (4, .int i), (3, .ref ao), (2, .ref (a2 0)), (1, .ref (a 0)), (0, .ref bs)]) hx hb dL_law_289 hl (by decide) rfl (fun ls hl => ?_)
  refine lv_aload_n hx hb dL_law_291 rfl (lv_at hl 3 rfl) ?_
  refine lv_aload_n hx hb dL_law_292 rfl (lv_at hl 5 rfl) ?_
  refine lv_iload hx hb dL_law_293 (lv_at hl 1 rfl) ?_
  refine lv_iconst (v := 1) hx hb dL_law_295 (by decide) ?_
  refine lv_iadd hx hb dL_law_296 ?_
  refine va_sld (i := i + 1) hx hb hX hbl hbA hS (hi 1 (by decide) (by decide)) dL_law_297 ?_
  have hz1 : ∀ q : Nat, H1.size ≤ q → A q := fun q h => hA q (Nat.le_trans hS.1 h)
  refine ld_Vi (mc := 1) (ms := oxN ox) (As := [.int (xs (Int32.toNatClampNeg (i + 1)))]) (rest := []) (q := y) (w' := fun na => dw_X19L a2 ac2 (asL na (ω, ox))) ⟨hx, hb, hml, hown, hts⟩ (fun sz => dm_X19_assemble l hlt dC dI a2 ac2 n (xs (Int32.toNatClampNeg (i + 1))) (τ, x) e2 sz) (cwV 1 hts gl_X19_assemble rfl rfl rfl (by decide +kernel) ⟨Nat.le_of_ble_eq_true rfl, Nat.le_of_ble_eq_true rfl⟩) (lp_L hP) (ldd_L hD) (lk_L hK) hS hA hN.1 (va_recv (lk_L hK) (lp_L hP) (ci := 20) (q0 := 0) rfl rfl) rfl hl.1 rfl (Nat.le_of_ble_eq_true rfl) dL_law_298 ⟨by show c1 + 1 + 1 ≤ 601024; omega, by show s1 + 6 + oxN ox ≤ 7293034; omega⟩ (fun na H2 locs hP1 hD1 hk1 hS => ?_)
  obtain ⟨hP, hD⟩ := lw_L hP hD hz1 hk1 hP1 hD1
  have ek : sI (asL na (ω, ox)).1.1 0 = k := ek
  have hJ1 := hJ1 na
  refine lv_istore (lv' := [(6, .int y), (5, .int k), (4, .int i), (3, .ref ao), (2, .ref (a2 0)), (1, .ref (a 0)), (0, .ref bs)]) hx hb dL_law_301 hl (by decide) rfl (fun ls hl => ?_)
  refine lv_aload_n hx hb dL_law_303 rfl (lv_at hl 4 rfl) ?_
  have hz2 : ∀ q : Nat, H2.size ≤ q → A q := fun q h => hA q (Nat.le_trans hS.1 h)
  refine ld_Vi (As := []) (rest := []) (q := k) (w' := fun (_ : Unit) => dw_X19 a2 ac2 (asL na (ω, ox)).1) ⟨hx, hb, hml, hown, hts⟩ (fun sz => dm_X19_thrown l hlt dC dI a2 ac2 n (asL na (ω, ox)).1 (r := (k, (asL na (ω, ox)).1)) (by rw [← ek]; rfl) sz) (cwV 0 hts gl_X19_thrown rfl rfl rfl (by decide +kernel) ⟨Nat.le_of_ble_eq_true rfl, Nat.le_of_ble_eq_true rfl⟩) (lp_19 hP) (ldd_19 hD) (lk_19 hK) hS hA hN.1 (va_recv (lk_19 hK) (lp_19 hP) (ci := 20) (q0 := 0) rfl rfl) rfl hl.1 rfl (Nat.le_of_ble_eq_true rfl) dL_law_304 ⟨by show c1 + 1 + 1 + 0 ≤ 601024; omega, by show s1 + 6 + oxN ox + 0 ≤ 7293034; omega⟩ (fun _ H3 locs hP1 hD1 hk1 hS => ?_)
  obtain ⟨hP, hD⟩ := lw_19 hP hD hz2 hk1 hP1 hD1
  refine lv_iload hx hb dL_law_307 (lv_at hl 1 rfl) ?_
  refine lv_icmp_eq (tgt := 314) hx hb dL_law_309 (by decide) (fun _ => ?_) (fun h9 => absurd rfl h9)
  refine lv_iload hx hb dL_law_314 (lv_at hl 1 rfl) ?_
  refine lv_if_ne (tgt := 331) hx hb dL_law_316 (by decide) (fun _ => ?_) (fun h9 => ?_)
  · refine lv_goto (tgt := 1493) hx hb dL_law_331 (by decide) ?_
    exact K v σ1 β (asL na (ω, ox)) o' _ _ _ _ _ hJ1 hB (by omega) (by omega) hP hD hS (lv_sub hl [2, 3, 4, 5, 6] rfl)
  · refine lv_aload_n hx hb dL_law_319 rfl (lv_at hl 3 rfl) ?_
    refine lv_iconst (v := 0) hx hb dL_law_320 (by decide) ?_
    refine va_lald (i := 0) hx hb hK hP 0 0 rfl rfl (vp_in_iff.mpr ⟨by decide, by decide⟩) dL_law_321 ?_
    have eo := eo h9
    rw [eo]
    refine lv_iload hx hb dL_law_322 (lv_at hl 0 rfl) ?_
    refine lv_i2l hx hb dL_law_324 rfl ?_
    refine W.lcmp hx hb dL_law_325 ?_
    refine lv_if_eq (tgt := 331) hx hb dL_law_326 (by decide) (fun _ => ?_) (fun h8 => absurd ((lg_cmp_eq _ _).mpr rfl) h8)
    refine lv_goto (tgt := 1493) hx hb dL_law_331 (by decide) ?_
    exact K v σ1 β (asL na (ω, ox)) o' _ _ _ _ _ hJ1 hB (by omega) (by omega) hP hD hS (lv_sub hl [2, 3, 4, 5, 6] rfl)

set_option maxHeartbeats 40000000 in
set_option maxRecDepth 100000 in
theorem law_c3 {p : Program} {l : Launch} {e : Env} {s : State} {m : MethodId} {below : List Frame} {meth : Method} {c : Code} {Q : State → Prop} {A : Nat → Prop} {dC : Nat → ClassId} {dI : Nat → Nat → Nat} {bs L n : Nat} {xs : Nat → Int32} {ao : Nat} {co : ClassId} {a a2 : Nat → Nat} {ac acB ac2 : Nat → ClassId} (hC : lw_C p l s m c A dC dI bs L xs co ac acB ac2) (hn : 70000 < n) (i : Int32) (hi : ∀ j : Int32, 0 ≤ j → j ≤ 5 → vp_in (i + j) L) {C1 S1 : Nat} (hC1 : C1 ≤ 601024) (hS1 : S1 ≤ 7293034) (K : lw_K p l e s m below meth c Q A dC dI bs n ao co a a2 ac acB ac2 i C1 S1) {v : Nat} {σ : S12} {β : Sb} {τ : S19} {x : Lb} {o : Nat → Int64} {c1 s1 : Nat} {H : Heap} {locs : List Loc} {ls : Array Slot} (hJ : JJ n σ (τ, x)) (hB : BW β) (b1 : c1 + 3 ≤ C1) (b2 : s1 + tp σ + 100 ≤ S1) (hP : va_P (dC, dI) vwCl (dw_LW ao co a a2 ac acB ac2 v σ β (τ, x) o) H) (hD : va_D A (dw_LW ao co a a2 ac acB ac2 v σ β (τ, x) o)) (hS : va_S A s.heap H locs) (hl : lv_has ls 8 [(4, .int i), (3, .ref ao), (2, .ref (a2 0)), (1, .ref (a 0)), (0, .ref bs)]) : W p l e room_1 s m #[Value.ref bs] below meth c H locs c1 s1 Q (F0 m 334 ls []) := by
  obtain ⟨hlt, hx, hb, hml, hown, hts, hN, hA, hDe, hK, hX, hbl, hbA⟩ := id hC
  refine lv_aload_n hx hb dL_law_334 rfl (lv_at hl 3 rfl) ?_
  refine lv_aload_n hx hb dL_law_335 rfl (lv_at hl 4 rfl) ?_
  refine lv_iload hx hb dL_law_336 (lv_at hl 0 rfl) ?_
  refine lv_iconst (v := 1) hx hb dL_law_338 (by decide) ?_
  refine lv_iadd hx hb dL_law_339 ?_
  refine va_sld (i := i + 1) hx hb hX hbl hbA hS (hi 1 (by decide) (by decide)) dL_law_340 ?_
  refine lv_aload_n hx hb dL_law_341 rfl (lv_at hl 4 rfl) ?_
  refine lv_iload hx hb dL_law_342 (lv_at hl 0 rfl) ?_
  refine lv_iconst (v := 2) hx hb dL_law_344 (by decide) ?_
  refine lv_iadd hx hb dL_law_345 ?_
  refine va_sld (i := i + 2) hx hb hX hbl hbA hS (hi 2 (by decide) (by decide)) dL_law_346 ?_
  have hz : ∀ q : Nat, H.size ≤ q → A q := fun q h => hA q (Nat.le_trans hS.1 h)
  obtain ⟨y, σ1, ω1, e1, e2, hJ1⟩ := jj_program n (a 15) (a 3) (xs (Int32.toNatClampNeg (i + 1))) (xs (Int32.toNatClampNeg (i + 2))) hJ
  have ht : tp σ1 ≤ tp σ + 20 := tq_program hn e1 hJ
  refine ld_Vi (As := [.int (xs (Int32.toNatClampNeg (i + 1))), .int (xs (Int32.toNatClampNeg (i + 2)))]) (rest := []) (q := y) (w' := fun (_ : Unit) => dw_X12 a ac σ1) ⟨hx, hb, hml, hown, hts⟩ (fun sz => dm_X12_program l hlt dC dI a ac n (xs (Int32.toNatClampNeg (i + 1))) (xs (Int32.toNatClampNeg (i + 2))) σ e1 sz) (cwV 2 hts gl_X12_program rfl rfl rfl (by decide +kernel) ⟨Nat.le_of_ble_eq_true rfl, Nat.le_of_ble_eq_true rfl⟩) (lp_12 hP) (ldd_12 hD) (lk_12 hK) hS hA hN.1 (va_recv (lk_12 hK) (lp_12 hP) (ci := 13) (q0 := 0) rfl rfl) rfl hl.1 rfl (Nat.le_of_ble_eq_true rfl) dL_law_347 ⟨by show c1 + 0 ≤ 601024; omega, by show s1 + 0 ≤ 7293034; omega⟩ (fun _ H1 locs hP1 hD1 hk1 hS => ?_)
  obtain ⟨hP, hD⟩ := lw_12 hP hD hz hk1 hP1 hD1
  refine lv_aload_n hx hb dL_law_350 rfl (lv_at hl 2 rfl) ?_
  refine lv_aload_n hx hb dL_law_351 rfl (lv_at hl 4 rfl) ?_
  refine lv_iload hx hb dL_law_352 (lv_at hl 0 rfl) ?_
  refine lv_iconst (v := 1) hx hb dL_law_354 (by decide) ?_
  refine lv_iadd hx hb dL_law_355 ?_
  refine va_sld (i := i + 1) hx hb hX hbl hbA hS (hi 1 (by decide) (by decide)) dL_law_356 ?_
  refine lv_aload_n hx hb dL_law_357 rfl (lv_at hl 4 rfl) ?_
  refine lv_iload hx hb dL_law_358 (lv_at hl 0 rfl) ?_
  refine lv_iconst (v := 2) hx hb dL_law_360 (by decide) ?_
  refine lv_iadd hx hb dL_law_361 ?_
  refine va_sld (i := i + 2) hx hb hX hbl hbA hS (hi 2 (by decide) (by decide)) dL_law_362 ?_
  have hz1 : ∀ q : Nat, H1.size ≤ q → A q := fun q h => hA q (Nat.le_trans hS.1 h)
  refine ld_Vi (As := [.int (xs (Int32.toNatClampNeg (i + 1))), .int (xs (Int32.toNatClampNeg (i + 2)))]) (rest := [.int y]) (q := y) (w' := fun (_ : Unit) => dw_X19L a2 ac2 ω1) ⟨hx, hb, hml, hown, hts⟩ (fun sz => dm_X19_program l hlt dC dI a2 ac2 n (xs (Int32.toNatClampNeg (i + 1))) (xs (Int32.toNatClampNeg (i + 2))) (τ, x) e2 sz) (cwV 2 hts gl_X19_program rfl rfl rfl (by decide +kernel) ⟨Nat.le_of_ble_eq_true rfl, Nat.le_of_ble_eq_true rfl⟩) (lp_L hP) (ldd_L hD) (lk_L hK) hS hA hN.1 (va_recv (lk_L hK) (lp_L hP) (ci := 20) (q0 := 0) rfl rfl) rfl hl.1 rfl (Nat.le_of_ble_eq_true rfl) dL_law_363 ⟨by show c1 + 0 + 0 ≤ 601024; omega, by show s1 + 0 + 0 ≤ 7293034; omega⟩ (fun _ H2 locs hP1 hD1 hk1 hS => ?_)
  obtain ⟨hP, hD⟩ := lw_L hP hD hz1 hk1 hP1 hD1
  refine lv_icmp_eq (tgt := 1493) hx hb dL_law_366 (by decide) (fun _ => ?_) (fun h9 => absurd rfl h9)
  exact K v σ1 β ω1 o _ _ _ _ _ hJ1 hB (by omega) (by omega) hP hD hS hl

set_option maxHeartbeats 40000000 in
set_option maxRecDepth 100000 in
theorem law_c4 {p : Program} {l : Launch} {e : Env} {s : State} {m : MethodId} {below : List Frame} {meth : Method} {c : Code} {Q : State → Prop} {A : Nat → Prop} {dC : Nat → ClassId} {dI : Nat → Nat → Nat} {bs L n : Nat} {xs : Nat → Int32} {ao : Nat} {co : ClassId} {a a2 : Nat → Nat} {ac acB ac2 : Nat → ClassId} (hC : lw_C p l s m c A dC dI bs L xs co ac acB ac2) (hn : 70000 < n) (i : Int32) (hi : ∀ j : Int32, 0 ≤ j → j ≤ 5 → vp_in (i + j) L) {C1 S1 : Nat} (hC1 : C1 ≤ 601024) (hS1 : S1 ≤ 7293034) (K : lw_K p l e s m below meth c Q A dC dI bs n ao co a a2 ac acB ac2 i C1 S1) {v : Nat} {σ : S12} {β : Sb} {τ : S19} {x : Lb} {o : Nat → Int64} {c1 s1 : Nat} {H : Heap} {locs : List Loc} {ls : Array Slot} (hJ : JJ n σ (τ, x)) (hB : BW β) (b1 : c1 + 3 ≤ C1) (b2 : s1 + tp σ + 100 ≤ S1) (hP : va_P (dC, dI) vwCl (dw_LW ao co a a2 ac acB ac2 v σ β (τ, x) o) H) (hD : va_D A (dw_LW ao co a a2 ac acB ac2 v σ β (τ, x) o)) (hS : va_S A s.heap H locs) (hl : lv_has ls 8 [(4, .int i), (3, .ref ao), (2, .ref (a2 0)), (1, .ref (a 0)), (0, .ref bs)]) : W p l e room_1 s m #[Value.ref bs] below meth c H locs c1 s1 Q (F0 m 371 ls []) := by
  obtain ⟨hlt, hx, hb, hml, hown, hts, hN, hA, hDe, hK, hX, hbl, hbA⟩ := id hC
  refine lv_aload_n hx hb dL_law_371 rfl (lv_at hl 3 rfl) ?_
  refine lv_aload_n hx hb dL_law_372 rfl (lv_at hl 4 rfl) ?_
  refine lv_iload hx hb dL_law_373 (lv_at hl 0 rfl) ?_
  refine lv_iconst (v := 1) hx hb dL_law_375 (by decide) ?_
  refine lv_iadd hx hb dL_law_376 ?_
  refine va_sld (i := i + 1) hx hb hX hbl hbA hS (hi 1 (by decide) (by decide)) dL_law_377 ?_
  refine lv_aload_n hx hb dL_law_378 rfl (lv_at hl 4 rfl) ?_
  refine lv_iload hx hb dL_law_379 (lv_at hl 0 rfl) ?_
  refine lv_iconst (v := 2) hx hb dL_law_381 (by decide) ?_
  refine lv_iadd hx hb dL_law_382 ?_
  refine va_sld (i := i + 2) hx hb hX hbl hbA hS (hi 2 (by decide) (by decide)) dL_law_383 ?_
  have hz : ∀ q : Nat, H.size ≤ q → A q := fun q h => hA q (Nat.le_trans hS.1 h)
  obtain ⟨y, σ1, τ1, e1, e2, hJ1⟩ := jj_image n (a 15) (a 3) (xs (Int32.toNatClampNeg (i + 1))) (xs (Int32.toNatClampNeg (i + 2))) hJ
  have ht : tp σ1 ≤ tp σ + 20 := tq_image hn e1 hJ
  refine ld_Vi (As := [.int (xs (Int32.toNatClampNeg (i + 1))), .int (xs (Int32.toNatClampNeg (i + 2)))]) (rest := []) (q := y) (w' := fun (_ : Unit) => dw_X12 a ac σ1) ⟨hx, hb, hml, hown, hts⟩ (fun sz => dm_X12_image l hlt dC dI a ac n (xs (Int32.toNatClampNeg (i + 1))) (xs (Int32.toNatClampNeg (i + 2))) σ e1 sz) (cwV 2 hts gl_X12_image rfl rfl rfl (by decide +kernel) ⟨Nat.le_of_ble_eq_true rfl, Nat.le_of_ble_eq_true rfl⟩) (lp_12 hP) (ldd_12 hD) (lk_12 hK) hS hA hN.1 (va_recv (lk_12 hK) (lp_12 hP) (ci := 13) (q0 := 0) rfl rfl) rfl hl.1 rfl (Nat.le_of_ble_eq_true rfl) dL_law_384 ⟨by show c1 + 0 ≤ 601024; omega, by show s1 + 0 ≤ 7293034; omega⟩ (fun _ H1 locs hP1 hD1 hk1 hS => ?_)
  obtain ⟨hP, hD⟩ := lw_12 hP hD hz hk1 hP1 hD1
  refine lv_aload_n hx hb dL_law_387 rfl (lv_at hl 2 rfl) ?_
  refine lv_aload_n hx hb dL_law_388 rfl (lv_at hl 4 rfl) ?_
  refine lv_iload hx hb dL_law_389 (lv_at hl 0 rfl) ?_
  refine lv_iconst (v := 1) hx hb dL_law_391 (by decide) ?_
  refine lv_iadd hx hb dL_law_392 ?_
  refine va_sld (i := i + 1) hx hb hX hbl hbA hS (hi 1 (by decide) (by decide)) dL_law_393 ?_
  refine lv_aload_n hx hb dL_law_394 rfl (lv_at hl 4 rfl) ?_
  refine lv_iload hx hb dL_law_395 (lv_at hl 0 rfl) ?_
  refine lv_iconst (v := 2) hx hb dL_law_397 (by decide) ?_
  refine lv_iadd hx hb dL_law_398 ?_
  refine va_sld (i := i + 2) hx hb hX hbl hbA hS (hi 2 (by decide) (by decide)) dL_law_399 ?_
  have hz1 : ∀ q : Nat, H1.size ≤ q → A q := fun q h => hA q (Nat.le_trans hS.1 h)
  refine ld_Vi (As := [.int (xs (Int32.toNatClampNeg (i + 1))), .int (xs (Int32.toNatClampNeg (i + 2)))]) (rest := [.int y]) (q := y) (w' := fun (_ : Unit) => dw_X19 a2 ac2 τ1) ⟨hx, hb, hml, hown, hts⟩ (fun sz => dm_X19_image l hlt dC dI a2 ac2 n (xs (Int32.toNatClampNeg (i + 1))) (xs (Int32.toNatClampNeg (i + 2))) τ e2 sz) (cwV 2 hts gl_X19_image rfl rfl rfl (by decide +kernel) ⟨Nat.le_of_ble_eq_true rfl, Nat.le_of_ble_eq_true rfl⟩) (lp_19 hP) (ldd_19 hD) (lk_19 hK) hS hA hN.1 (va_recv (lk_19 hK) (lp_19 hP) (ci := 20) (q0 := 0) rfl rfl) rfl hl.1 rfl (Nat.le_of_ble_eq_true rfl) dL_law_400 ⟨by show c1 + 0 + 0 ≤ 601024; omega, by show s1 + 0 + 0 ≤ 7293034; omega⟩ (fun _ H2 locs hP1 hD1 hk1 hS => ?_)
  obtain ⟨hP, hD⟩ := lw_19 hP hD hz1 hk1 hP1 hD1
  refine lv_icmp_eq (tgt := 1493) hx hb dL_law_403 (by decide) (fun _ => ?_) (fun h9 => absurd rfl h9)
  exact K v σ1 β (τ1, x) o _ _ _ _ _ hJ1 hB (by omega) (by omega) hP hD hS hl

set_option maxHeartbeats 40000000 in
set_option maxRecDepth 100000 in
theorem law_c5 {p : Program} {l : Launch} {e : Env} {s : State} {m : MethodId} {below : List Frame} {meth : Method} {c : Code} {Q : State → Prop} {A : Nat → Prop} {dC : Nat → ClassId} {dI : Nat → Nat → Nat} {bs L n : Nat} {xs : Nat → Int32} {ao : Nat} {co : ClassId} {a a2 : Nat → Nat} {ac acB ac2 : Nat → ClassId} (hC : lw_C p l s m c A dC dI bs L xs co ac acB ac2) (hn : 70000 < n) (i : Int32) (hi : ∀ j : Int32, 0 ≤ j → j ≤ 5 → vp_in (i + j) L) {C1 S1 : Nat} (hC1 : C1 ≤ 601024) (hS1 : S1 ≤ 7293034) (K : lw_K p l e s m below meth c Q A dC dI bs n ao co a a2 ac acB ac2 i C1 S1) {v : Nat} {σ : S12} {β : Sb} {τ : S19} {x : Lb} {o : Nat → Int64} {c1 s1 : Nat} {H : Heap} {locs : List Loc} {ls : Array Slot} (hJ : JJ n σ (τ, x)) (hB : BW β) (b1 : c1 + 3 ≤ C1) (b2 : s1 + tp σ + 100 ≤ S1) (hP : va_P (dC, dI) vwCl (dw_LW ao co a a2 ac acB ac2 v σ β (τ, x) o) H) (hD : va_D A (dw_LW ao co a a2 ac acB ac2 v σ β (τ, x) o)) (hS : va_S A s.heap H locs) (hl : lv_has ls 8 [(4, .int i), (3, .ref ao), (2, .ref (a2 0)), (1, .ref (a 0)), (0, .ref bs)]) : W p l e room_1 s m #[Value.ref bs] below meth c H locs c1 s1 Q (F0 m 408 ls []) := by
  obtain ⟨hlt, hx, hb, hml, hown, hts, hN, hA, hDe, hK, hX, hbl, hbA⟩ := id hC
  refine lv_aload_n hx hb dL_law_408 rfl (lv_at hl 3 rfl) ?_
  refine lv_aload_n hx hb dL_law_409 rfl (lv_at hl 4 rfl) ?_
  refine lv_iload hx hb dL_law_410 (lv_at hl 0 rfl) ?_
  refine lv_iconst (v := 1) hx hb dL_law_412 (by decide) ?_
  refine lv_iadd hx hb dL_law_413 ?_
  refine va_sld (i := i + 1) hx hb hX hbl hbA hS (hi 1 (by decide) (by decide)) dL_law_414 ?_
  refine lv_aload_n hx hb dL_law_415 rfl (lv_at hl 4 rfl) ?_
  refine lv_iload hx hb dL_law_416 (lv_at hl 0 rfl) ?_
  refine lv_iconst (v := 2) hx hb dL_law_418 (by decide) ?_
  refine lv_iadd hx hb dL_law_419 ?_
  refine va_sld (i := i + 2) hx hb hX hbl hbA hS (hi 2 (by decide) (by decide)) dL_law_420 ?_
  have hz : ∀ q : Nat, H.size ≤ q → A q := fun q h => hA q (Nat.le_trans hS.1 h)
  obtain ⟨y, σ1, ω1, e1, e2, hJ1⟩ := jj_label n (a 15) (a 3) (xs (Int32.toNatClampNeg (i + 1))) (xs (Int32.toNatClampNeg (i + 2))) hJ
  have ht : tp σ1 ≤ tp σ + 20 := tq_label hn e1 hJ
  refine ld_Vi (As := [.int (xs (Int32.toNatClampNeg (i + 1))), .int (xs (Int32.toNatClampNeg (i + 2)))]) (rest := []) (q := y) (w' := fun (_ : Unit) => dw_X12 a ac σ1) ⟨hx, hb, hml, hown, hts⟩ (fun sz => dm_X12_label l hlt dC dI a ac n (xs (Int32.toNatClampNeg (i + 1))) (xs (Int32.toNatClampNeg (i + 2))) σ e1 sz) (cwV 2 hts gl_X12_label rfl rfl rfl (by decide +kernel) ⟨Nat.le_of_ble_eq_true rfl, Nat.le_of_ble_eq_true rfl⟩) (lp_12 hP) (ldd_12 hD) (lk_12 hK) hS hA hN.1 (va_recv (lk_12 hK) (lp_12 hP) (ci := 13) (q0 := 0) rfl rfl) rfl hl.1 rfl (Nat.le_of_ble_eq_true rfl) dL_law_421 ⟨by show c1 + 0 ≤ 601024; omega, by show s1 + 0 ≤ 7293034; omega⟩ (fun _ H1 locs hP1 hD1 hk1 hS => ?_)
  obtain ⟨hP, hD⟩ := lw_12 hP hD hz hk1 hP1 hD1
  refine lv_aload_n hx hb dL_law_424 rfl (lv_at hl 2 rfl) ?_
  refine lv_aload_n hx hb dL_law_425 rfl (lv_at hl 4 rfl) ?_
  refine lv_iload hx hb dL_law_426 (lv_at hl 0 rfl) ?_
  refine lv_iconst (v := 1) hx hb dL_law_428 (by decide) ?_
  refine lv_iadd hx hb dL_law_429 ?_
  refine va_sld (i := i + 1) hx hb hX hbl hbA hS (hi 1 (by decide) (by decide)) dL_law_430 ?_
  refine lv_aload_n hx hb dL_law_431 rfl (lv_at hl 4 rfl) ?_
  refine lv_iload hx hb dL_law_432 (lv_at hl 0 rfl) ?_
  refine lv_iconst (v := 2) hx hb dL_law_434 (by decide) ?_
  refine lv_iadd hx hb dL_law_435 ?_
  refine va_sld (i := i + 2) hx hb hX hbl hbA hS (hi 2 (by decide) (by decide)) dL_law_436 ?_
  have hz1 : ∀ q : Nat, H1.size ≤ q → A q := fun q h => hA q (Nat.le_trans hS.1 h)
  refine ld_Vi (As := [.int (xs (Int32.toNatClampNeg (i + 1))), .int (xs (Int32.toNatClampNeg (i + 2)))]) (rest := [.int y]) (q := y) (w' := fun (_ : Unit) => dw_X19L a2 ac2 ω1) ⟨hx, hb, hml, hown, hts⟩ (fun sz => dm_X19_label l hlt dC dI a2 ac2 n (xs (Int32.toNatClampNeg (i + 1))) (xs (Int32.toNatClampNeg (i + 2))) (τ, x) e2 sz) (cwV 2 hts gl_X19_label rfl rfl rfl (by decide +kernel) ⟨Nat.le_of_ble_eq_true rfl, Nat.le_of_ble_eq_true rfl⟩) (lp_L hP) (ldd_L hD) (lk_L hK) hS hA hN.1 (va_recv (lk_L hK) (lp_L hP) (ci := 20) (q0 := 0) rfl rfl) rfl hl.1 rfl (Nat.le_of_ble_eq_true rfl) dL_law_437 ⟨by show c1 + 0 + 0 ≤ 601024; omega, by show s1 + 0 + 0 ≤ 7293034; omega⟩ (fun _ H2 locs hP1 hD1 hk1 hS => ?_)
  obtain ⟨hP, hD⟩ := lw_L hP hD hz1 hk1 hP1 hD1
  refine lv_icmp_eq (tgt := 1493) hx hb dL_law_440 (by decide) (fun _ => ?_) (fun h9 => absurd rfl h9)
  exact K v σ1 β ω1 o _ _ _ _ _ hJ1 hB (by omega) (by omega) hP hD hS hl

set_option maxHeartbeats 40000000 in
set_option maxRecDepth 100000 in
theorem law_c6 {p : Program} {l : Launch} {e : Env} {s : State} {m : MethodId} {below : List Frame} {meth : Method} {c : Code} {Q : State → Prop} {A : Nat → Prop} {dC : Nat → ClassId} {dI : Nat → Nat → Nat} {bs L n : Nat} {xs : Nat → Int32} {ao : Nat} {co : ClassId} {a a2 : Nat → Nat} {ac acB ac2 : Nat → ClassId} (hC : lw_C p l s m c A dC dI bs L xs co ac acB ac2) (hn : 70000 < n) (i : Int32) (hi : ∀ j : Int32, 0 ≤ j → j ≤ 5 → vp_in (i + j) L) {C1 S1 : Nat} (hC1 : C1 ≤ 601024) (hS1 : S1 ≤ 7293034) (K : lw_K p l e s m below meth c Q A dC dI bs n ao co a a2 ac acB ac2 i C1 S1) {v : Nat} {σ : S12} {β : Sb} {τ : S19} {x : Lb} {o : Nat → Int64} {c1 s1 : Nat} {H : Heap} {locs : List Loc} {ls : Array Slot} (hJ : JJ n σ (τ, x)) (hB : BW β) (b1 : c1 + 3 ≤ C1) (b2 : s1 + tp σ + 100 ≤ S1) (hP : va_P (dC, dI) vwCl (dw_LW ao co a a2 ac acB ac2 v σ β (τ, x) o) H) (hD : va_D A (dw_LW ao co a a2 ac acB ac2 v σ β (τ, x) o)) (hS : va_S A s.heap H locs) (hl : lv_has ls 8 [(4, .int i), (3, .ref ao), (2, .ref (a2 0)), (1, .ref (a 0)), (0, .ref bs)]) : W p l e room_1 s m #[Value.ref bs] below meth c H locs c1 s1 Q (F0 m 445 ls []) := by
  obtain ⟨hlt, hx, hb, hml, hown, hts, hN, hA, hDe, hK, hX, hbl, hbA⟩ := id hC
  refine lv_aload_n hx hb dL_law_445 rfl (lv_at hl 3 rfl) ?_
  refine lv_aload_n hx hb dL_law_446 rfl (lv_at hl 4 rfl) ?_
  refine lv_iload hx hb dL_law_447 (lv_at hl 0 rfl) ?_
  refine lv_iconst (v := 1) hx hb dL_law_449 (by decide) ?_
  refine lv_iadd hx hb dL_law_450 ?_
  refine va_sld (i := i + 1) hx hb hX hbl hbA hS (hi 1 (by decide) (by decide)) dL_law_451 ?_
  refine lv_aload_n hx hb dL_law_452 rfl (lv_at hl 4 rfl) ?_
  refine lv_iload hx hb dL_law_453 (lv_at hl 0 rfl) ?_
  refine lv_iconst (v := 2) hx hb dL_law_455 (by decide) ?_
  refine lv_iadd hx hb dL_law_456 ?_
  refine va_sld (i := i + 2) hx hb hX hbl hbA hS (hi 2 (by decide) (by decide)) dL_law_457 ?_
  have hz : ∀ q : Nat, H.size ≤ q → A q := fun q h => hA q (Nat.le_trans hS.1 h)
  obtain ⟨y, σ1, ω1, e1, e2, hJ1⟩ := jj_before n (a 15) (a 3) hn (xs (Int32.toNatClampNeg (i + 1))) (xs (Int32.toNatClampNeg (i + 2))) hJ
  have ht : tp σ1 ≤ tp σ + 20 := tq_before hn e1 hJ
  refine ld_Vi (As := [.int (xs (Int32.toNatClampNeg (i + 1))), .int (xs (Int32.toNatClampNeg (i + 2)))]) (rest := []) (q := y) (w' := fun (_ : Unit) => dw_X12 a ac σ1) ⟨hx, hb, hml, hown, hts⟩ (fun sz => dm_X12_before l hlt dC dI a ac n (xs (Int32.toNatClampNeg (i + 1))) (xs (Int32.toNatClampNeg (i + 2))) σ e1 sz) (cwV 2 hts gl_X12_before rfl rfl rfl (by decide +kernel) ⟨Nat.le_of_ble_eq_true rfl, Nat.le_of_ble_eq_true rfl⟩) (lp_12 hP) (ldd_12 hD) (lk_12 hK) hS hA hN.1 (va_recv (lk_12 hK) (lp_12 hP) (ci := 13) (q0 := 0) rfl rfl) rfl hl.1 rfl (Nat.le_of_ble_eq_true rfl) dL_law_458 ⟨by show c1 + 0 ≤ 601024; omega, by show s1 + 0 ≤ 7293034; omega⟩ (fun _ H1 locs hP1 hD1 hk1 hS => ?_)
  obtain ⟨hP, hD⟩ := lw_12 hP hD hz hk1 hP1 hD1
  refine lv_aload_n hx hb dL_law_461 rfl (lv_at hl 2 rfl) ?_
  refine lv_aload_n hx hb dL_law_462 rfl (lv_at hl 4 rfl) ?_
  refine lv_iload hx hb dL_law_463 (lv_at hl 0 rfl) ?_
  refine lv_iconst (v := 1) hx hb dL_law_465 (by decide) ?_
  refine lv_iadd hx hb dL_law_466 ?_
  refine va_sld (i := i + 1) hx hb hX hbl hbA hS (hi 1 (by decide) (by decide)) dL_law_467 ?_
  refine lv_aload_n hx hb dL_law_468 rfl (lv_at hl 4 rfl) ?_
  refine lv_iload hx hb dL_law_469 (lv_at hl 0 rfl) ?_
  refine lv_iconst (v := 2) hx hb dL_law_471 (by decide) ?_
  refine lv_iadd hx hb dL_law_472 ?_
  refine va_sld (i := i + 2) hx hb hX hbl hbA hS (hi 2 (by decide) (by decide)) dL_law_473 ?_
  have hz1 : ∀ q : Nat, H1.size ≤ q → A q := fun q h => hA q (Nat.le_trans hS.1 h)
  refine ld_Vi (As := [.int (xs (Int32.toNatClampNeg (i + 1))), .int (xs (Int32.toNatClampNeg (i + 2)))]) (rest := [.int y]) (q := y) (w' := fun (_ : Unit) => dw_X19L a2 ac2 ω1) ⟨hx, hb, hml, hown, hts⟩ (fun sz => dm_X19_before l hlt dC dI a2 ac2 n (xs (Int32.toNatClampNeg (i + 1))) (xs (Int32.toNatClampNeg (i + 2))) (τ, x) e2 sz) (cwV 2 hts gl_X19_before rfl rfl rfl (by decide +kernel) ⟨Nat.le_of_ble_eq_true rfl, Nat.le_of_ble_eq_true rfl⟩) (lp_L hP) (ldd_L hD) (lk_L hK) hS hA hN.1 (va_recv (lk_L hK) (lp_L hP) (ci := 20) (q0 := 0) rfl rfl) rfl hl.1 rfl (Nat.le_of_ble_eq_true rfl) dL_law_474 ⟨by show c1 + 0 + 0 ≤ 601024; omega, by show s1 + 0 + 0 ≤ 7293034; omega⟩ (fun _ H2 locs hP1 hD1 hk1 hS => ?_)
  obtain ⟨hP, hD⟩ := lw_L hP hD hz1 hk1 hP1 hD1
  refine lv_icmp_eq (tgt := 1493) hx hb dL_law_477 (by decide) (fun _ => ?_) (fun h9 => absurd rfl h9)
  exact K v σ1 β ω1 o _ _ _ _ _ hJ1 hB (by omega) (by omega) hP hD hS hl

set_option maxHeartbeats 40000000 in
set_option maxRecDepth 100000 in
theorem law_c7 {p : Program} {l : Launch} {e : Env} {s : State} {m : MethodId} {below : List Frame} {meth : Method} {c : Code} {Q : State → Prop} {A : Nat → Prop} {dC : Nat → ClassId} {dI : Nat → Nat → Nat} {bs L n : Nat} {xs : Nat → Int32} {ao : Nat} {co : ClassId} {a a2 : Nat → Nat} {ac acB ac2 : Nat → ClassId} (hC : lw_C p l s m c A dC dI bs L xs co ac acB ac2) (hn : 70000 < n) (i : Int32) (hi : ∀ j : Int32, 0 ≤ j → j ≤ 5 → vp_in (i + j) L) {C1 S1 : Nat} (hC1 : C1 ≤ 601024) (hS1 : S1 ≤ 7293034) (K : lw_K p l e s m below meth c Q A dC dI bs n ao co a a2 ac acB ac2 i C1 S1) {v : Nat} {σ : S12} {β : Sb} {τ : S19} {x : Lb} {o : Nat → Int64} {c1 s1 : Nat} {H : Heap} {locs : List Loc} {ls : Array Slot} (hJ : JJ n σ (τ, x)) (hB : BW β) (b1 : c1 + 3 ≤ C1) (b2 : s1 + tp σ + 100 ≤ S1) (hP : va_P (dC, dI) vwCl (dw_LW ao co a a2 ac acB ac2 v σ β (τ, x) o) H) (hD : va_D A (dw_LW ao co a a2 ac acB ac2 v σ β (τ, x) o)) (hS : va_S A s.heap H locs) (hl : lv_has ls 8 [(4, .int i), (3, .ref ao), (2, .ref (a2 0)), (1, .ref (a 0)), (0, .ref bs)]) : W p l e room_1 s m #[Value.ref bs] below meth c H locs c1 s1 Q (F0 m 482 ls []) := by
  obtain ⟨hlt, hx, hb, hml, hown, hts, hN, hA, hDe, hK, hX, hbl, hbA⟩ := id hC
  refine lv_aload_n hx hb dL_law_482 rfl (lv_at hl 3 rfl) ?_
  refine lv_aload_n hx hb dL_law_483 rfl (lv_at hl 4 rfl) ?_
  refine lv_iload hx hb dL_law_484 (lv_at hl 0 rfl) ?_
  refine lv_iconst (v := 1) hx hb dL_law_486 (by decide) ?_
  refine lv_iadd hx hb dL_law_487 ?_
  refine va_sld (i := i + 1) hx hb hX hbl hbA hS (hi 1 (by decide) (by decide)) dL_law_488 ?_
  refine lv_aload_n hx hb dL_law_489 rfl (lv_at hl 4 rfl) ?_
  refine lv_iload hx hb dL_law_490 (lv_at hl 0 rfl) ?_
  refine lv_iconst (v := 2) hx hb dL_law_492 (by decide) ?_
  refine lv_iadd hx hb dL_law_493 ?_
  refine va_sld (i := i + 2) hx hb hX hbl hbA hS (hi 2 (by decide) (by decide)) dL_law_494 ?_
  have hz : ∀ q : Nat, H.size ≤ q → A q := fun q h => hA q (Nat.le_trans hS.1 h)
  obtain ⟨y, σ1, τ1, e1, e2, hJ1⟩ := jj_line n (a 15) (a 3) hn (xs (Int32.toNatClampNeg (i + 1))) (xs (Int32.toNatClampNeg (i + 2))) hJ
  have ht : tp σ1 ≤ tp σ + 20 := tq_line hn e1 hJ
  refine ld_Vi (As := [.int (xs (Int32.toNatClampNeg (i + 1))), .int (xs (Int32.toNatClampNeg (i + 2)))]) (rest := []) (q := y) (w' := fun (_ : Unit) => dw_X12 a ac σ1) ⟨hx, hb, hml, hown, hts⟩ (fun sz => dm_X12_line l hlt dC dI a ac n (xs (Int32.toNatClampNeg (i + 1))) (xs (Int32.toNatClampNeg (i + 2))) σ e1 sz) (cwV 2 hts gl_X12_line rfl rfl rfl (by decide +kernel) ⟨Nat.le_of_ble_eq_true rfl, Nat.le_of_ble_eq_true rfl⟩) (lp_12 hP) (ldd_12 hD) (lk_12 hK) hS hA hN.1 (va_recv (lk_12 hK) (lp_12 hP) (ci := 13) (q0 := 0) rfl rfl) rfl hl.1 rfl (Nat.le_of_ble_eq_true rfl) dL_law_495 ⟨by show c1 + 0 ≤ 601024; omega, by show s1 + 0 ≤ 7293034; omega⟩ (fun _ H1 locs hP1 hD1 hk1 hS => ?_)
  obtain ⟨hP, hD⟩ := lw_12 hP hD hz hk1 hP1 hD1
  refine lv_aload_n hx hb dL_law_498 rfl (lv_at hl 2 rfl) ?_
  refine lv_aload_n hx hb dL_law_499 rfl (lv_at hl 4 rfl) ?_
  refine lv_iload hx hb dL_law_500 (lv_at hl 0 rfl) ?_
  refine lv_iconst (v := 1) hx hb dL_law_502 (by decide) ?_
  refine lv_iadd hx hb dL_law_503 ?_
  refine va_sld (i := i + 1) hx hb hX hbl hbA hS (hi 1 (by decide) (by decide)) dL_law_504 ?_
  refine lv_aload_n hx hb dL_law_505 rfl (lv_at hl 4 rfl) ?_
  refine lv_iload hx hb dL_law_506 (lv_at hl 0 rfl) ?_
  refine lv_iconst (v := 2) hx hb dL_law_508 (by decide) ?_
  refine lv_iadd hx hb dL_law_509 ?_
  refine va_sld (i := i + 2) hx hb hX hbl hbA hS (hi 2 (by decide) (by decide)) dL_law_510 ?_
  have hz1 : ∀ q : Nat, H1.size ≤ q → A q := fun q h => hA q (Nat.le_trans hS.1 h)
  refine ld_Vi (As := [.int (xs (Int32.toNatClampNeg (i + 1))), .int (xs (Int32.toNatClampNeg (i + 2)))]) (rest := [.int y]) (q := y) (w' := fun (_ : Unit) => dw_X19 a2 ac2 τ1) ⟨hx, hb, hml, hown, hts⟩ (fun sz => dm_X19_line l hlt dC dI a2 ac2 n (xs (Int32.toNatClampNeg (i + 1))) (xs (Int32.toNatClampNeg (i + 2))) τ e2 sz) (cwV 2 hts gl_X19_line rfl rfl rfl (by decide +kernel) ⟨Nat.le_of_ble_eq_true rfl, Nat.le_of_ble_eq_true rfl⟩) (lp_19 hP) (ldd_19 hD) (lk_19 hK) hS hA hN.1 (va_recv (lk_19 hK) (lp_19 hP) (ci := 20) (q0 := 0) rfl rfl) rfl hl.1 rfl (Nat.le_of_ble_eq_true rfl) dL_law_511 ⟨by show c1 + 0 + 0 ≤ 601024; omega, by show s1 + 0 + 0 ≤ 7293034; omega⟩ (fun _ H2 locs hP1 hD1 hk1 hS => ?_)
  obtain ⟨hP, hD⟩ := lw_19 hP hD hz1 hk1 hP1 hD1
  refine lv_icmp_eq (tgt := 1493) hx hb dL_law_514 (by decide) (fun _ => ?_) (fun h9 => absurd rfl h9)
  exact K v σ1 β (τ1, x) o _ _ _ _ _ hJ1 hB (by omega) (by omega) hP hD hS hl

set_option maxHeartbeats 40000000 in
set_option maxRecDepth 100000 in
theorem law_c8 {p : Program} {l : Launch} {e : Env} {s : State} {m : MethodId} {below : List Frame} {meth : Method} {c : Code} {Q : State → Prop} {A : Nat → Prop} {dC : Nat → ClassId} {dI : Nat → Nat → Nat} {bs L n : Nat} {xs : Nat → Int32} {ao : Nat} {co : ClassId} {a a2 : Nat → Nat} {ac acB ac2 : Nat → ClassId} (hC : lw_C p l s m c A dC dI bs L xs co ac acB ac2) (hn : 70000 < n) (i : Int32) (hi : ∀ j : Int32, 0 ≤ j → j ≤ 5 → vp_in (i + j) L) {C1 S1 : Nat} (hC1 : C1 ≤ 601024) (hS1 : S1 ≤ 7293034) (K : lw_K p l e s m below meth c Q A dC dI bs n ao co a a2 ac acB ac2 i C1 S1) {v : Nat} {σ : S12} {β : Sb} {τ : S19} {x : Lb} {o : Nat → Int64} {c1 s1 : Nat} {H : Heap} {locs : List Loc} {ls : Array Slot} (hJ : JJ n σ (τ, x)) (hB : BW β) (b1 : c1 + 3 ≤ C1) (b2 : s1 + tp σ + 100 ≤ S1) (hP : va_P (dC, dI) vwCl (dw_LW ao co a a2 ac acB ac2 v σ β (τ, x) o) H) (hD : va_D A (dw_LW ao co a a2 ac acB ac2 v σ β (τ, x) o)) (hS : va_S A s.heap H locs) (hl : lv_has ls 8 [(4, .int i), (3, .ref ao), (2, .ref (a2 0)), (1, .ref (a 0)), (0, .ref bs)]) : W p l e room_1 s m #[Value.ref bs] below meth c H locs c1 s1 Q (F0 m 519 ls []) := by
  obtain ⟨hlt, hx, hb, hml, hown, hts, hN, hA, hDe, hK, hX, hbl, hbA⟩ := id hC
  refine lv_aload_n hx hb dL_law_519 rfl (lv_at hl 3 rfl) ?_
  refine lv_aload_n hx hb dL_law_520 rfl (lv_at hl 4 rfl) ?_
  refine lv_iload hx hb dL_law_521 (lv_at hl 0 rfl) ?_
  refine lv_iconst (v := 1) hx hb dL_law_523 (by decide) ?_
  refine lv_iadd hx hb dL_law_524 ?_
  refine va_sld (i := i + 1) hx hb hX hbl hbA hS (hi 1 (by decide) (by decide)) dL_law_525 ?_
  have hz : ∀ q : Nat, H.size ≤ q → A q := fun q h => hA q (Nat.le_trans hS.1 h)
  obtain ⟨r, k, σ1, τ1, e1, hr0, e2, ek, ht, hJ1⟩ : ∃ (r : S12 ⊕ (String × S12)) (k : Int32) (σ1 : S12) (τ1 : S19), df_X12_boot n (a 15) (a 3) (xs (Int32.toNatClampNeg (i + 1))) σ = some r ∧ lw_V2 r k σ1 ∧ df_X19_boot n (xs (Int32.toNatClampNeg (i + 1))) τ = some τ1 ∧ sI τ1.1 0 = k ∧ tp σ1 ≤ tp σ ∧ JJ n σ1 (τ1, x) := lj_boot hn hJ
  refine ldl_S (As := [.ref (a 0), .int (xs (Int32.toNatClampNeg (i + 1)))]) (rest := []) (q := k) (w' := dw_X12 a ac σ1) ⟨hx, hb, hml, hown, hts⟩ (fun sz => dm_L_boot l hlt dC dI a ac n (xs (Int32.toNatClampNeg (i + 1))) σ e1 hr0 sz) (vx_cwSW 2 hts gl_L_boot rfl rfl rfl (by decide +kernel) ⟨Nat.le_of_ble_eq_true rfl, Nat.le_of_ble_eq_true rfl⟩) (lp_12 hP) (ldd_12 hD) (lk_12 hK) hS hA hN.1 hDe rfl hl.1 rfl (Nat.le_of_ble_eq_true rfl) dL_law_526 ⟨by show c1 + 1 ≤ 601024; omega, by show s1 + 6 ≤ 7293034; omega⟩ (fun H1 locs hP1 hD1 hk1 hS => ?_)
  obtain ⟨hP, hD⟩ := lw_12 hP hD hz hk1 hP1 hD1
  refine lv_istore (lv' := [(5, .int k), (4, .int i), (3, .ref ao), (2, .ref (a2 0)), (1, .ref (a 0)), (0, .ref bs)]) hx hb dL_law_529 hl (by decide) rfl (fun ls hl => ?_)
  refine lv_aload_n hx hb dL_law_531 rfl (lv_at hl 3 rfl) ?_
  refine lv_aload_n hx hb dL_law_532 rfl (lv_at hl 5 rfl) ?_
  refine lv_iload hx hb dL_law_533 (lv_at hl 1 rfl) ?_
  refine lv_iconst (v := 1) hx hb dL_law_535 (by decide) ?_
  refine lv_iadd hx hb dL_law_536 ?_
  refine va_sld (i := i + 1) hx hb hX hbl hbA hS (hi 1 (by decide) (by decide)) dL_law_537 ?_
  have hz1 : ∀ q : Nat, H1.size ≤ q → A q := fun q h => hA q (Nat.le_trans hS.1 h)
  refine ld_Vv (As := [.int (xs (Int32.toNatClampNeg (i + 1)))]) (rest := []) (w' := fun (_ : Unit) => dw_X19 a2 ac2 τ1) ⟨hx, hb, hml, hown, hts⟩ (fun sz => dm_X19_boot l hlt dC dI a2 ac2 n (xs (Int32.toNatClampNeg (i + 1))) τ e2 sz) (cwV 1 hts gl_X19_boot rfl rfl rfl (by decide +kernel) ⟨Nat.le_of_ble_eq_true rfl, Nat.le_of_ble_eq_true rfl⟩) (lp_19 hP) (ldd_19 hD) (lk_19 hK) hS hA hN.1 (va_recv (lk_19 hK) (lp_19 hP) (ci := 20) (q0 := 0) rfl rfl) rfl hl.1 rfl (Nat.le_of_ble_eq_true rfl) dL_law_538 ⟨by show c1 + 1 + 0 ≤ 601024; omega, by show s1 + 6 + 0 ≤ 7293034; omega⟩ (fun _ H2 locs hP1 hD1 hk1 hS => ?_)
  obtain ⟨hP, hD⟩ := lw_19 hP hD hz1 hk1 hP1 hD1
  refine lv_aload_n hx hb dL_law_541 rfl (lv_at hl 3 rfl) ?_
  have hz2 : ∀ q : Nat, H2.size ≤ q → A q := fun q h => hA q (Nat.le_trans hS.1 h)
  refine ld_Vi (As := []) (rest := []) (q := k) (w' := fun (_ : Unit) => dw_X19 a2 ac2 (τ1, x).1) ⟨hx, hb, hml, hown, hts⟩ (fun sz => dm_X19_thrown l hlt dC dI a2 ac2 n (τ1, x).1 (r := (k, (τ1, x).1)) (by rw [← ek]; rfl) sz) (cwV 0 hts gl_X19_thrown rfl rfl rfl (by decide +kernel) ⟨Nat.le_of_ble_eq_true rfl, Nat.le_of_ble_eq_true rfl⟩) (lp_19 hP) (ldd_19 hD) (lk_19 hK) hS hA hN.1 (va_recv (lk_19 hK) (lp_19 hP) (ci := 20) (q0 := 0) rfl rfl) rfl hl.1 rfl (Nat.le_of_ble_eq_true rfl) dL_law_542 ⟨by show c1 + 1 + 0 + 0 ≤ 601024; omega, by show s1 + 6 + 0 + 0 ≤ 7293034; omega⟩ (fun _ H3 locs hP1 hD1 hk1 hS => ?_)
  obtain ⟨hP, hD⟩ := lw_19 hP hD hz2 hk1 hP1 hD1
  refine lv_iload hx hb dL_law_545 (lv_at hl 0 rfl) ?_
  refine lv_icmp_eq (tgt := 552) hx hb dL_law_547 (by decide) (fun _ => ?_) (fun h9 => absurd rfl h9)
  refine lv_goto (tgt := 1493) hx hb dL_law_552 (by decide) ?_
  exact K v σ1 β (τ1, x) o _ _ _ _ _ hJ1 hB (by omega) (by omega) hP hD hS (lv_sub hl [1, 2, 3, 4, 5] rfl)

set_option maxHeartbeats 40000000 in
set_option maxRecDepth 100000 in
theorem law_c9 {p : Program} {l : Launch} {e : Env} {s : State} {m : MethodId} {below : List Frame} {meth : Method} {c : Code} {Q : State → Prop} {A : Nat → Prop} {dC : Nat → ClassId} {dI : Nat → Nat → Nat} {bs L n : Nat} {xs : Nat → Int32} {ao : Nat} {co : ClassId} {a a2 : Nat → Nat} {ac acB ac2 : Nat → ClassId} (hC : lw_C p l s m c A dC dI bs L xs co ac acB ac2) (hn : 70000 < n) (i : Int32) (hi : ∀ j : Int32, 0 ≤ j → j ≤ 5 → vp_in (i + j) L) {C1 S1 : Nat} (hC1 : C1 ≤ 601024) (hS1 : S1 ≤ 7293034) (K : lw_K p l e s m below meth c Q A dC dI bs n ao co a a2 ac acB ac2 i C1 S1) {v : Nat} {σ : S12} {β : Sb} {τ : S19} {x : Lb} {o : Nat → Int64} {c1 s1 : Nat} {H : Heap} {locs : List Loc} {ls : Array Slot} (hJ : JJ n σ (τ, x)) (hB : BW β) (b1 : c1 + 3 ≤ C1) (b2 : s1 + tp σ + 100 ≤ S1) (hP : va_P (dC, dI) vwCl (dw_LW ao co a a2 ac acB ac2 v σ β (τ, x) o) H) (hD : va_D A (dw_LW ao co a a2 ac acB ac2 v σ β (τ, x) o)) (hS : va_S A s.heap H locs) (hl : lv_has ls 8 [(4, .int i), (3, .ref ao), (2, .ref (a2 0)), (1, .ref (a 0)), (0, .ref bs)]) : W p l e room_1 s m #[Value.ref bs] below meth c H locs c1 s1 Q (F0 m 555 ls []) := by
  obtain ⟨hlt, hx, hb, hml, hown, hts, hN, hA, hDe, hK, hX, hbl, hbA⟩ := id hC
  refine lv_aload_n hx hb dL_law_555 rfl (lv_at hl 3 rfl) ?_
  refine lv_aload_n hx hb dL_law_556 rfl (lv_at hl 4 rfl) ?_
  refine lv_iload hx hb dL_law_557 (lv_at hl 0 rfl) ?_
  refine lv_iconst (v := 1) hx hb dL_law_559 (by decide) ?_
  refine lv_iadd hx hb dL_law_560 ?_
  refine va_sld (i := i + 1) hx hb hX hbl hbA hS (hi 1 (by decide) (by decide)) dL_law_561 ?_
  refine lv_aload_n hx hb dL_law_562 rfl (lv_at hl 1 rfl) ?_
  have hz : ∀ q : Nat, H.size ≤ q → A q := fun q h => hA q (Nat.le_trans hS.1 h)
  obtain ⟨r, k, σ1, o', y, τ1, e1, hr0, e2, ek, eo, ht, hJ1⟩ : ∃ (r : (Int32 × S12) ⊕ (String × S12)) (k : Int32) (σ1 : S12) (o' : Nat → Int64) (y : Int32) (τ1 : S19), df_X12_replay n (a 15) (a 3) (xs (Int32.toNatClampNeg (i + 1))) σ = some r ∧ lw_R2 Int32.toInt64 r k σ1 o o' ∧ df_X19_replay n (xs (Int32.toNatClampNeg (i + 1))) τ = some (y, τ1) ∧ sI τ1.1 0 = k ∧ (k = 0 → o' (Int32.toNatClampNeg 0) = y.toInt64) ∧ tp σ1 ≤ tp σ ∧ JJ n σ1 (τ1, x) := lj_replay hn hJ o
  refine ldl_S (As := [.ref (a 0), .int (xs (Int32.toNatClampNeg (i + 1))), .ref ao]) (rest := []) (q := k) (w' := dw_HO ao co o' a ac σ1) ⟨hx, hb, hml, hown, hts⟩ (fun sz => dm_L_replay l hlt dC dI a ac n ao co (xs (Int32.toNatClampNeg (i + 1))) σ o e1 hr0 sz) (vx_cwSW 3 hts gl_L_replay rfl rfl rfl (by decide +kernel) ⟨Nat.le_of_ble_eq_true rfl, Nat.le_of_ble_eq_true rfl⟩) (lwp_h hP) (ldd_h hD) (lk_h hK) hS hA hN.1 hDe rfl hl.1 rfl (Nat.le_of_ble_eq_true rfl) dL_law_563 ⟨by show c1 + 1 ≤ 601024; omega, by show s1 + 6 ≤ 7293034; omega⟩ (fun H1 locs hP1 hD1 hk1 hS => ?_)
  obtain ⟨hP, hD⟩ := lw_h hP hD hz hk1 hP1 hD1
  refine lv_istore (lv' := [(5, .int k), (4, .int i), (3, .ref ao), (2, .ref (a2 0)), (1, .ref (a 0)), (0, .ref bs)]) hx hb dL_law_566 hl (by decide) rfl (fun ls hl => ?_)
  refine lv_aload_n hx hb dL_law_568 rfl (lv_at hl 3 rfl) ?_
  refine lv_aload_n hx hb dL_law_569 rfl (lv_at hl 5 rfl) ?_
  refine lv_iload hx hb dL_law_570 (lv_at hl 1 rfl) ?_
  refine lv_iconst (v := 1) hx hb dL_law_572 (by decide) ?_
  refine lv_iadd hx hb dL_law_573 ?_
  refine va_sld (i := i + 1) hx hb hX hbl hbA hS (hi 1 (by decide) (by decide)) dL_law_574 ?_
  have hz1 : ∀ q : Nat, H1.size ≤ q → A q := fun q h => hA q (Nat.le_trans hS.1 h)
  refine ld_Vi (As := [.int (xs (Int32.toNatClampNeg (i + 1)))]) (rest := []) (q := y) (w' := fun (_ : Unit) => dw_X19 a2 ac2 τ1) ⟨hx, hb, hml, hown, hts⟩ (fun sz => dm_X19_replay l hlt dC dI a2 ac2 n (xs (Int32.toNatClampNeg (i + 1))) τ e2 sz) (cwV 1 hts gl_X19_replay rfl rfl rfl (by decide +kernel) ⟨Nat.le_of_ble_eq_true rfl, Nat.le_of_ble_eq_true rfl⟩) (lp_19 hP) (ldd_19 hD) (lk_19 hK) hS hA hN.1 (va_recv (lk_19 hK) (lp_19 hP) (ci := 20) (q0 := 0) rfl rfl) rfl hl.1 rfl (Nat.le_of_ble_eq_true rfl) dL_law_575 ⟨by show c1 + 1 + 0 ≤ 601024; omega, by show s1 + 6 + 0 ≤ 7293034; omega⟩ (fun _ H2 locs hP1 hD1 hk1 hS => ?_)
  obtain ⟨hP, hD⟩ := lw_19 hP hD hz1 hk1 hP1 hD1
  refine lv_istore (lv' := [(6, .int y), (5, .int k), (4, .int i), (3, .ref ao), (2, .ref (a2 0)), (1, .ref (a 0)), (0, .ref bs)]) hx hb dL_law_578 hl (by decide) rfl (fun ls hl => ?_)
  refine lv_aload_n hx hb dL_law_580 rfl (lv_at hl 4 rfl) ?_
  have hz2 : ∀ q : Nat, H2.size ≤ q → A q := fun q h => hA q (Nat.le_trans hS.1 h)
  refine ld_Vi (As := []) (rest := []) (q := k) (w' := fun (_ : Unit) => dw_X19 a2 ac2 (τ1, x).1) ⟨hx, hb, hml, hown, hts⟩ (fun sz => dm_X19_thrown l hlt dC dI a2 ac2 n (τ1, x).1 (r := (k, (τ1, x).1)) (by rw [← ek]; rfl) sz) (cwV 0 hts gl_X19_thrown rfl rfl rfl (by decide +kernel) ⟨Nat.le_of_ble_eq_true rfl, Nat.le_of_ble_eq_true rfl⟩) (lp_19 hP) (ldd_19 hD) (lk_19 hK) hS hA hN.1 (va_recv (lk_19 hK) (lp_19 hP) (ci := 20) (q0 := 0) rfl rfl) rfl hl.1 rfl (Nat.le_of_ble_eq_true rfl) dL_law_581 ⟨by show c1 + 1 + 0 + 0 ≤ 601024; omega, by show s1 + 6 + 0 + 0 ≤ 7293034; omega⟩ (fun _ H3 locs hP1 hD1 hk1 hS => ?_)
  obtain ⟨hP, hD⟩ := lw_19 hP hD hz2 hk1 hP1 hD1
  refine lv_iload hx hb dL_law_584 (lv_at hl 1 rfl) ?_
  refine lv_icmp_eq (tgt := 591) hx hb dL_law_586 (by decide) (fun _ => ?_) (fun h9 => absurd rfl h9)
  refine lv_iload hx hb dL_law_591 (lv_at hl 1 rfl) ?_
  refine lv_if_ne (tgt := 608) hx hb dL_law_593 (by decide) (fun _ => ?_) (fun h9 => ?_)
  · refine lv_goto (tgt := 1493) hx hb dL_law_608 (by decide) ?_
    exact K v σ1 β (τ1, x) o' _ _ _ _ _ hJ1 hB (by omega) (by omega) hP hD hS (lv_sub hl [2, 3, 4, 5, 6] rfl)
  · refine lv_aload_n hx hb dL_law_596 rfl (lv_at hl 3 rfl) ?_
    refine lv_iconst (v := 0) hx hb dL_law_597 (by decide) ?_
    refine va_lald (i := 0) hx hb hK hP 0 0 rfl rfl (vp_in_iff.mpr ⟨by decide, by decide⟩) dL_law_598 ?_
    have eo := eo h9
    rw [eo]
    refine lv_iload hx hb dL_law_599 (lv_at hl 0 rfl) ?_
    refine lv_i2l hx hb dL_law_601 rfl ?_
    refine W.lcmp hx hb dL_law_602 ?_
    refine lv_if_eq (tgt := 608) hx hb dL_law_603 (by decide) (fun _ => ?_) (fun h8 => absurd ((lg_cmp_eq _ _).mpr rfl) h8)
    refine lv_goto (tgt := 1493) hx hb dL_law_608 (by decide) ?_
    exact K v σ1 β (τ1, x) o' _ _ _ _ _ hJ1 hB (by omega) (by omega) hP hD hS (lv_sub hl [2, 3, 4, 5, 6] rfl)

