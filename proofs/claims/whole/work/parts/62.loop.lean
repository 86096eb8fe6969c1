set_option maxHeartbeats 40000000 in
set_option maxRecDepth 100000 in
theorem law_sw {p : Program} {l : Launch} {e : Env} {s : State} {m : MethodId} {below : List Frame} {meth : Method} {c : Code} {Q : State → Prop} {A : Nat → Prop} {dC : Nat → ClassId} {dI : Nat → Nat → Nat} {bs L n : Nat} {xs : Nat → Int32} {ao : Nat} {co : ClassId} {a a2 : Nat → Nat} {ac acB ac2 : Nat → ClassId} (hC : lw_C p l s m c A dC dI bs L xs co ac acB ac2) (hn : 70000 < n) (i : Int32) (hi : ∀ j : Int32, 0 ≤ j → j ≤ 5 → vp_in (i + j) L) (hi0 : vp_in i L) {C1 S1 : Nat} (hC1 : C1 ≤ 601024) (hS1 : S1 ≤ 7293034) (K : lw_K p l e s m below meth c Q A dC dI bs n ao co a a2 ac acB ac2 i C1 S1) {v : Nat} {σ : S12} {β : Sb} {x : S19 × Lb} {o : Nat → Int64} {c1 s1 : Nat} {H : Heap} {locs : List Loc} {ls : Array Slot} (hJ : JJ n σ x) (hB : BW β) (b1 : c1 + 3 ≤ C1) (b2 : s1 + tp σ + 100 ≤ S1) (hP : va_P (dC, dI) vwCl (dw_LW ao co a a2 ac acB ac2 v σ β x o) H) (hD : va_D A (dw_LW ao co a a2 ac acB ac2 v σ β x o)) (hS : va_S A s.heap H locs) (hl : lv_has ls 8 [(4, .int i), (3, .ref ao), (2, .ref (a2 0)), (1, .ref (a 0)), (0, .ref bs)]) : W p l e room_1 s m #[Value.ref bs] below meth c H locs c1 s1 Q (F0 m 33 ls []) := by
  obtain ⟨hlt, hx, hb, hml, hown, hts, hN, hA, hDe, hK, hX, hbl, hbA⟩ := id hC
  refine lv_aload_n hx hb dL_law_33 rfl (lv_at hl 4 rfl) ?_
  refine lv_iload hx hb dL_law_34 (lv_at hl 0 rfl) ?_
  refine va_sld (i := i) hx hb hX hbl hbA hS hi0 dL_law_36 ?_
  refine lv_bipush (v := 31) hx hb dL_law_37 (by decide) ?_
  refine lv_iand hx hb dL_law_39 ?_
  generalize (xs (Int32.toNatClampNeg i) &&& 31) = z
  by_cases c_0 : z = 0
  · refine lv_tableIn (off := 140) (tgt := 180) hx hb dL_law_40 (by rw [c_0]; decide) (by rw [c_0]; decide) (by rw [c_0]; decide) (by decide) ?_
    exact law_c0 hC hn i hi hC1 hS1 K (τ := x.1) (x := x.2) hJ hB b1 b2 hP hD hS hl
  by_cases c_1 : z = 1
  · refine lv_tableIn (off := 213) (tgt := 253) hx hb dL_law_40 (by rw [c_1]; decide) (by rw [c_1]; decide) (by rw [c_1]; decide) (by decide) ?_
    exact law_c1 hC hn i hi hC1 hS1 K (τ := x.1) (x := x.2) hJ hB b1 b2 hP hD hS hl
  by_cases c_2 : z = 2
  · refine lv_tableIn (off := 238) (tgt := 278) hx hb dL_law_40 (by rw [c_2]; decide) (by rw [c_2]; decide) (by rw [c_2]; decide) (by decide) ?_
    exact law_c2 hC hn i hi hC1 hS1 K (τ := x.1) (x := x.2) hJ hB b1 b2 hP hD hS hl
  by_cases c_3 : z = 3
  · refine lv_tableIn (off := 294) (tgt := 334) hx hb dL_law_40 (by rw [c_3]; decide) (by rw [c_3]; decide) (by rw [c_3]; decide) (by decide) ?_
    exact law_c3 hC hn i hi hC1 hS1 K (τ := x.1) (x := x.2) hJ hB b1 b2 hP hD hS hl
  by_cases c_4 : z = 4
  · refine lv_tableIn (off := 331) (tgt := 371) hx hb dL_law_40 (by rw [c_4]; decide) (by rw [c_4]; decide) (by rw [c_4]; decide) (by decide) ?_
    exact law_c4 hC hn i hi hC1 hS1 K (τ := x.1) (x := x.2) hJ hB b1 b2 hP hD hS hl
  by_cases c_5 : z = 5
  · refine lv_tableIn (off := 368) (tgt := 408) hx hb dL_law_40 (by rw [c_5]; decide) (by rw [c_5]; decide) (by rw [c_5]; decide) (by decide) ?_
    exact law_c5 hC hn i hi hC1 hS1 K (τ := x.1) (x := x.2) hJ hB b1 b2 hP hD hS hl
  by_cases c_6 : z = 6
  · refine lv_tableIn (off := 405) (tgt := 445) hx hb dL_law_40 (by rw [c_6]; decide) (by rw [c_6]; decide) (by rw [c_6]; decide) (by decide) ?_
    exact law_c6 hC hn i hi hC1 hS1 K (τ := x.1) (x := x.2) hJ hB b1 b2 hP hD hS hl
  by_cases c_7 : z = 7
  · refine lv_tableIn (off := 442) (tgt := 482) hx hb dL_law_40 (by rw [c_7]; decide) (by rw [c_7]; decide) (by rw [c_7]; decide) (by decide) ?_
    exact law_c7 hC hn i hi hC1 hS1 K (τ := x.1) (x := x.2) hJ hB b1 b2 hP hD hS hl
  by_cases c_8 : z = 8
  · refine lv_tableIn (off := 479) (tgt := 519) hx hb dL_law_40 (by rw [c_8]; decide) (by rw [c_8]; decide) (by rw [c_8]; decide) (by decide) ?_
    exact law_c8 hC hn i hi hC1 hS1 K (τ := x.1) (x := x.2) hJ hB b1 b2 hP hD hS hl
  by_cases c_9 : z = 9
  · refine lv_tableIn (off := 515) (tgt := 555) hx hb dL_law_40 (by rw [c_9]; decide) (by rw [c_9]; decide) (by rw [c_9]; decide) (by decide) ?_
    exact law_c9 hC hn i hi hC1 hS1 K (τ := x.1) (x := x.2) hJ hB b1 b2 hP hD hS hl
  by_cases c_10 : z = 10
  · refine lv_tableIn (off := 571) (tgt := 611) hx hb dL_law_40 (by rw [c_10]; decide) (by rw [c_10]; decide) (by rw [c_10]; decide) (by decide) ?_
    exact law_c10 hC hn i hi hC1 hS1 K (τ := x.1) (x := x.2) hJ hB b1 b2 hP hD hS hl
  by_cases c_11 : z = 11
  · refine lv_tableIn (off := 683) (tgt := 723) hx hb dL_law_40 (by rw [c_11]; decide) (by rw [c_11]; decide) (by rw [c_11]; decide) (by decide) ?_
    exact law_c11 hC hn i hi hC1 hS1 K (τ := x.1) (x := x.2) hJ hB b1 b2 hP hD hS hl
  by_cases c_12 : z = 12
  · refine lv_tableIn (off := 739) (tgt := 779) hx hb dL_law_40 (by rw [c_12]; decide) (by rw [c_12]; decide) (by rw [c_12]; decide) (by decide) ?_
    exact law_c12 hC hn i hi hC1 hS1 K (τ := x.1) (x := x.2) hJ hB b1 b2 hP hD hS hl
  by_cases c_13 : z = 13
  · refine lv_tableIn (off := 752) (tgt := 792) hx hb dL_law_40 (by rw [c_13]; decide) (by rw [c_13]; decide) (by rw [c_13]; decide) (by decide) ?_
    exact law_c13 hC hn i hi hC1 hS1 K (τ := x.1) (x := x.2) hJ hB b1 b2 hP hD hS hl
  by_cases c_14 : z = 14
  · refine lv_tableIn (off := 788) (tgt := 828) hx hb dL_law_40 (by rw [c_14]; decide) (by rw [c_14]; decide) (by rw [c_14]; decide) (by decide) ?_
    exact law_c14 hC hn i hi hC1 hS1 K (τ := x.1) (x := x.2) hJ hB b1 b2 hP hD hS hl
  by_cases c_15 : z = 15
  · refine lv_tableIn (off := 801) (tgt := 841) hx hb dL_law_40 (by rw [c_15]; decide) (by rw [c_15]; decide) (by rw [c_15]; decide) (by decide) ?_
    exact law_c15 hC hn i hi hC1 hS1 K (τ := x.1) (x := x.2) hJ hB b1 b2 hP hD hS hl
  by_cases c_16 : z = 16
  · refine lv_tableIn (off := 857) (tgt := 897) hx hb dL_law_40 (by rw [c_16]; decide) (by rw [c_16]; decide) (by rw [c_16]; decide) (by decide) ?_
    exact law_c16 hC hn i hi hC1 hS1 K (τ := x.1) (x := x.2) hJ hB b1 b2 hP hD hS hl
  by_cases c_17 : z = 17
  · refine lv_tableIn (off := 920) (tgt := 960) hx hb dL_law_40 (by rw [c_17]; decide) (by rw [c_17]; decide) (by rw [c_17]; decide) (by decide) ?_
    exact law_c17 hC hn i hi hC1 hS1 K (τ := x.1) (x := x.2) hJ hB b1 b2 hP hD hS hl
  by_cases c_18 : z = 18
  · refine lv_tableIn (off := 975) (tgt := 1015) hx hb dL_law_40 (by rw [c_18]; decide) (by rw [c_18]; decide) (by rw [c_18]; decide) (by decide) ?_
    exact law_c18 hC hn i hi hC1 hS1 K (τ := x.1) (x := x.2) hJ hB b1 b2 hP hD hS hl
  by_cases c_19 : z = 19
  · refine lv_tableIn (off := 1031) (tgt := 1071) hx hb dL_law_40 (by rw [c_19]; decide) (by rw [c_19]; decide) (by rw [c_19]; decide) (by decide) ?_
    exact law_c19 hC hn i hi hC1 hS1 K (τ := x.1) (x := x.2) hJ hB b1 b2 hP hD hS hl
  by_cases c_20 : z = 20
  · refine lv_tableIn (off := 1068) (tgt := 1108) hx hb dL_law_40 (by rw [c_20]; decide) (by rw [c_20]; decide) (by rw [c_20]; decide) (by decide) ?_
    exact law_c20 hC hn i hi hC1 hS1 K (τ := x.1) (x := x.2) hJ hB b1 b2 hP hD hS hl
  by_cases c_21 : z = 21
  · refine lv_tableIn (off := 1105) (tgt := 1145) hx hb dL_law_40 (by rw [c_21]; decide) (by rw [c_21]; decide) (by rw [c_21]; decide) (by decide) ?_
    exact law_c21 hC hn i hi hC1 hS1 K (τ := x.1) (x := x.2) hJ hB b1 b2 hP hD hS hl
  by_cases c_22 : z = 22
  · refine lv_tableIn (off := 1142) (tgt := 1182) hx hb dL_law_40 (by rw [c_22]; decide) (by rw [c_22]; decide) (by rw [c_22]; decide) (by decide) ?_
    exact law_c22 hC hn i hi hC1 hS1 K (τ := x.1) (x := x.2) hJ hB b1 b2 hP hD hS hl
  by_cases c_23 : z = 23
  · refine lv_tableIn (off := 1179) (tgt := 1219) hx hb dL_law_40 (by rw [c_23]; decide) (by rw [c_23]; decide) (by rw [c_23]; decide) (by decide) ?_
    exact law_c23 hC hn i hi hC1 hS1 K (τ := x.1) (x := x.2) hJ hB b1 b2 hP hD hS hl
  by_cases c_24 : z = 24
  · refine lv_tableIn (off := 1228) (tgt := 1268) hx hb dL_law_40 (by rw [c_24]; decide) (by rw [c_24]; decide) (by rw [c_24]; decide) (by decide) ?_
    exact law_c24 hC hn i hi hC1 hS1 K (τ := x.1) (x := x.2) hJ hB b1 b2 hP hD hS hl
  by_cases c_25 : z = 25
  · refine lv_tableIn (off := 1277) (tgt := 1317) hx hb dL_law_40 (by rw [c_25]; decide) (by rw [c_25]; decide) (by rw [c_25]; decide) (by decide) ?_
    exact law_c25 hC hn i hi hC1 hS1 K (τ := x.1) (x := x.2) hJ hB b1 b2 hP hD hS hl
  by_cases c_26 : z = 26
  · refine lv_tableIn (off := 1326) (tgt := 1366) hx hb dL_law_40 (by rw [c_26]; decide) (by rw [c_26]; decide) (by rw [c_26]; decide) (by decide) ?_
    exact law_c26 hC hn i hi hC1 hS1 K (τ := x.1) (x := x.2) hJ hB b1 b2 hP hD hS hl
  by_cases c_27 : z = 27
  · refine lv_tableIn (off := 1351) (tgt := 1391) hx hb dL_law_40 (by rw [c_27]; decide) (by rw [c_27]; decide) (by rw [c_27]; decide) (by decide) ?_
    exact law_c27 hC hn i hi hC1 hS1 K (τ := x.1) (x := x.2) hJ hB b1 b2 hP hD hS hl
  by_cases c_28 : z = 28
  · refine lv_tableIn (off := 1377) (tgt := 1417) hx hb dL_law_40 (by rw [c_28]; decide) (by rw [c_28]; decide) (by rw [c_28]; decide) (by decide) ?_
    exact law_c28 hC hn i hi hC1 hS1 K (τ := x.1) (x := x.2) hJ hB b1 b2 hP hD hS hl
  by_cases c_29 : z = 29
  · refine lv_tableIn (off := 1390) (tgt := 1430) hx hb dL_law_40 (by rw [c_29]; decide) (by rw [c_29]; decide) (by rw [c_29]; decide) (by decide) ?_
    exact law_c29 hC hn i hi hC1 hS1 K (τ := x.1) (x := x.2) hJ hB b1 b2 hP hD hS hl
  by_cases c_30 : z = 30
  · refine lv_tableIn (off := 1415) (tgt := 1455) hx hb dL_law_40 (by rw [c_30]; decide) (by rw [c_30]; decide) (by rw [c_30]; decide) (by decide) ?_
    exact law_c30 hC hn i hi hC1 hS1 K (τ := x.1) (x := x.2) hJ hB b1 b2 hP hD hS hl
  refine lv_tableOut (tgt := 1493) hx hb dL_law_40 (by have g0 := nv_nei c_0 (k := 0) (by decide); have g1 := nv_nei c_1 (k := 1) (by decide); have g2 := nv_nei c_2 (k := 2) (by decide); have g3 := nv_nei c_3 (k := 3) (by decide); have g4 := nv_nei c_4 (k := 4) (by decide); have g5 := nv_nei c_5 (k := 5) (by decide); have g6 := nv_nei c_6 (k := 6) (by decide); have g7 := nv_nei c_7 (k := 7) (by decide); have g8 := nv_nei c_8 (k := 8) (by decide); have g9 := nv_nei c_9 (k := 9) (by decide); have g10 := nv_nei c_10 (k := 10) (by decide); have g11 := nv_nei c_11 (k := 11) (by decide); have g12 := nv_nei c_12 (k := 12) (by decide); have g13 := nv_nei c_13 (k := 13) (by decide); have g14 := nv_nei c_14 (k := 14) (by decide); have g15 := nv_nei c_15 (k := 15) (by decide); have g16 := nv_nei c_16 (k := 16) (by decide); have g17 := nv_nei c_17 (k := 17) (by decide); have g18 := nv_nei c_18 (k := 18) (by decide); have g19 := nv_nei c_19 (k := 19) (by decide); have g20 := nv_nei c_20 (k := 20) (by decide); have g21 := nv_nei c_21 (k := 21) (by decide); have g22 := nv_nei c_22 (k := 22) (by decide); have g23 := nv_nei c_23 (k := 23) (by decide); have g24 := nv_nei c_24 (k := 24) (by decide); have g25 := nv_nei c_25 (k := 25) (by decide); have g26 := nv_nei c_26 (k := 26) (by decide); have g27 := nv_nei c_27 (k := 27) (by decide); have g28 := nv_nei c_28 (k := 28) (by decide); have g29 := nv_nei c_29 (k := 29) (by decide); have g30 := nv_nei c_30 (k := 30) (by decide); omega) (by decide) ?_
  exact K v σ β x o _ _ _ _ _ hJ hB (by omega) (by omega) hP hD hS hl
theorem lw_6 (t : Nat) : nI (6 * t) + Int32.ofInt 6 = nI (6 * (t + 1)) := by
  have h := nI_add (6 * t) 6
  rw [Nat.mul_add]
  exact h
theorem lw_gt {L t : Nat} (hL : L ≤ 3072) (ht : 6 * t ≤ 3072) : (Int32.ofNat L - 6 < nI (6 * t)) ↔ L < 6 * t + 6 := by
  rw [Int32.lt_iff_toInt_lt, show (Int32.ofNat L - 6 : Int32) = nI L - nI 6 from rfl, pk_sub_toInt (by omega) (by omega), nI_toInt (by omega)]
  omega
theorem lw_in {L t : Nat} (hL : L ≤ 3072) (ht : 6 * t + 6 ≤ L) (j : Int32) (h0 : 0 ≤ j) (h5 : j ≤ 5) : vp_in (nI (6 * t) + j) L := by
  have h0 : (0 : Int) ≤ j.toInt := by
    rw [Int32.le_iff_toInt_le] at h0
    exact h0
  have h5 : j.toInt ≤ ((5 : Nat) : Int) := by
    rw [Int32.le_iff_toInt_le] at h5
    exact h5
  obtain ⟨J, hJ, rfl, _⟩ := ix_nI h0 h5
  rw [nI_add, vp_in_iff, nI_toInt (by omega)]
  omega
set_option maxHeartbeats 40000000 in
set_option maxRecDepth 100000 in
theorem law_loop {p : Program} {l : Launch} {e : Env} {s : State} {m : MethodId} {below : List Frame} {meth : Method} {c : Code} {dC : Nat → ClassId} {dI : Nat → Nat → Nat} {bs L n : Nat} {xs : Nat → Int32} {ao : Nat} {co : ClassId} {a a2 : Nat → Nat} {ac acB ac2 : Nat → ClassId} (hC : lw_C p l s m c (fun q : Nat => s.heap.size ≤ q) dC dI bs L xs co ac acB ac2) (hn : 70000 < n) (hL : L ≤ 3072) (hr : meth.sig.returnType = ret) (hlocks : meth.locks = false) {c0 s0 : Nat} (hc0 : c0 ≤ 599000) (hs0 : s0 ≤ 7200000) : ∀ (k t : Nat), k + t = 513 → 6 * t ≤ L → ∀ (v : Nat) (σ : S12) (β : Sb) (x : S19 × Lb) (o : Nat → Int64) (c1 s1 : Nat) (H : Heap) (locs : List Loc) (ls : Array Slot), JJ n σ x → BW β → c1 ≤ c0 + 3 * t → s1 + tp σ ≤ s0 + 100 * t → va_P (dC, dI) vwCl (dw_LW ao co a a2 ac acB ac2 v σ β x o) H → va_D (fun q : Nat => s.heap.size ≤ q) (dw_LW ao co a a2 ac acB ac2 v σ β x o) → va_S (fun q : Nat => s.heap.size ≤ q) s.heap H locs → lv_has ls 8 [(4, .int (nI (6 * t))), (3, .ref ao), (2, .ref (a2 0)), (1, .ref (a 0)), (0, .ref bs)] → W p l e room_1 s m #[Value.ref bs] below meth c H locs c1 s1 (lw_Z below #[Value.ref bs] s) (F0 m 23 ls []) := fun k => by
  obtain ⟨hlt, hx, hb, hml, hown, hts, hN, hA, hDe, hK, hX, hbl, hbA⟩ := id hC
  induction k with
  | zero => exact fun t h1 h2 => by omega
  | succ k ih =>
    intro t h1 h2 v σ β x o c1 s1 H locs ls hJ hB q1 q2 hP hD hS hl
    refine lv_iload hx hb dL_law_23 (lv_at hl 0 rfl) ?_
    refine lv_aload_n hx hb dL_law_25 rfl (lv_at hl 4 rfl) ?_
    refine va_slen hx hb hX hbl hbA hS dL_law_26 ?_
    refine lv_bipush (v := 6) hx hb dL_law_27 (by decide) ?_
    refine lv_isub hx hb dL_law_29 ?_
    refine lv_icmp_gt (tgt := 1499) hx hb dL_law_30 (by decide) (fun _ => ?_) (fun c9 => ?_)
    · refine lv_iconst (v := 1) hx hb dL_law_1499 (by decide) ?_
      refine va_forget (fun q hq => hS.2.2 q hq) ?_
      refine W.widen (k := 601024) (n := 7293034) (by omega) (by omega) ?_
      exact lw_ret hx hb hr hlocks dL_law_1500
    · have h6 : 6 * t + 6 ≤ L := by
        rw [lw_gt hL (by omega)] at c9
        omega
      have hin := lw_in hL h6
      have hin0 : vp_in (nI (6 * t)) L := by
        have := hin 0 (by decide) (by decide)
        rw [show nI (6 * t) + (0 : Int32) = nI (6 * t) from nI_add (6 * t) 0] at this
        exact this
      refine law_sw hC hn (nI (6 * t)) hin hin0 (C1 := c0 + 3 * (t + 1)) (S1 := s0 + 100 * (t + 1)) (by omega) (by omega) (fun v σ β x o c1 s1 H locs ls hJ hB q1 q2 hP hD hS hl => ?_) hJ hB (by omega) (by omega) hP hD hS hl
      refine lv_iinc (v := nI (6 * (t + 1))) (lv' := [(4, .int (nI (6 * (t + 1)))), (3, .ref ao), (2, .ref (a2 0)), (1, .ref (a 0)), (0, .ref bs)]) hx hb dL_law_1493 hl (k := 0) rfl (lw_6 t) (by decide) rfl (fun ls hl => ?_)
      refine lv_goto (tgt := 23) hx hb dL_law_1496 (by decide) ?_
      exact ih (t + 1) (by omega) (by omega) v σ β x o c1 s1 H locs ls hJ hB q1 q2 hP hD hS hl

