set_option maxHeartbeats 40000000 in
set_option maxRecDepth 100000 in
theorem law_c10 {p : Program} {l : Launch} {e : Env} {s : State} {m : MethodId} {below : List Frame} {meth : Method} {c : Code} {Q : State → Prop} {A : Nat → Prop} {dC : Nat → ClassId} {dI : Nat → Nat → Nat} {bs L n : Nat} {xs : Nat → Int32} {ao : Nat} {co : ClassId} {a a2 : Nat → Nat} {ac acB ac2 : Nat → ClassId} (hC : lw_C p l s m c A dC dI bs L xs co ac acB ac2) (hn : 70000 < n) (i : Int32) (hi : ∀ j : Int32, 0 ≤ j → j ≤ 5 → vp_in (i + j) L) {C1 S1 : Nat} (hC1 : C1 ≤ 601024) (hS1 : S1 ≤ 7293034) (K : lw_K p l e s m below meth c Q A dC dI bs n ao co a a2 ac acB ac2 i C1 S1) {v : Nat} {σ : S12} {β : Sb} {τ : S19} {x : Lb} {o : Nat → Int64} {c1 s1 : Nat} {H : Heap} {locs : List Loc} {ls : Array Slot} (hJ : JJ n σ (τ, x)) (hB : BW β) (b1 : c1 + 3 ≤ C1) (b2 : s1 + tp σ + 100 ≤ S1) (hP : va_P (dC, dI) vwCl (dw_LW ao co a a2 ac acB ac2 v σ β (τ, x) o) H) (hD : va_D A (dw_LW ao co a a2 ac acB ac2 v σ β (τ, x) o)) (hS : va_S A s.heap H locs) (hl : lv_has ls 8 [(4, .int i), (3, .ref ao), (2, .ref (a2 0)), (1, .ref (a 0)), (0, .ref bs)]) : W p l e room_1 s m #[Value.ref bs] below meth c H locs c1 s1 Q (F0 m 611 ls []) := by
  obtain ⟨hlt, hx, hb, hml, hown, hts, hN, hA, hDe, hK, hX, hbl, hbA⟩ := id hC
  refine lv_aload_n hx hb dL_law_611 rfl (lv_at hl 3 rfl) ?_
  refine lv_aload_n hx hb dL_law_612 rfl (lv_at hl 4 rfl) ?_
  refine lv_iload hx hb dL_law_613 (lv_at hl 0 rfl) ?_
  refine lv_iconst (v := 1) hx hb dL_law_615 (by decide) ?_
  refine lv_iadd hx hb dL_law_616 ?_
  refine va_sld (i := i + 1) hx hb hX hbl hbA hS (hi 1 (by decide) (by decide)) dL_law_617 ?_
  refine lv_aload_n hx hb dL_law_618 rfl (lv_at hl 4 rfl) ?_
  refine lv_iload hx hb dL_law_619 (lv_at hl 0 rfl) ?_
  refine lv_iconst (v := 2) hx hb dL_law_621 (by decide) ?_
  refine lv_iadd hx hb dL_law_622 ?_
  refine va_sld (i := i + 2) hx hb hX hbl hbA hS (hi 2 (by decide) (by decide)) dL_law_623 ?_
  refine lv_i2l hx hb dL_law_624 rfl ?_
  refine lv_bipush (v := 32) hx hb dL_law_625 (by decide) ?_
  refine lv_lshl hx hb dL_law_627 rfl ?_
  refine lv_aload_n hx hb dL_law_628 rfl (lv_at hl 4 rfl) ?_
  refine lv_iload hx hb dL_law_629 (lv_at hl 0 rfl) ?_
  refine lv_iconst (v := 3) hx hb dL_law_631 (by decide) ?_
  refine lv_iadd hx hb dL_law_632 ?_
  refine va_sld (i := i + 3) hx hb hX hbl hbA hS (hi 3 (by decide) (by decide)) dL_law_633 ?_
  refine lv_i2l hx hb dL_law_634 rfl ?_
  refine lv_ldc2 hx hb hown (hts (.constantLong RL 99 4294967295) tw_ldc) dL_law_635 ?_
  refine lv_land hx hb dL_law_638 ?_
  refine lv_lor hx hb dL_law_639 ?_
  refine lv_aload_n hx hb dL_law_640 rfl (lv_at hl 4 rfl) ?_
  refine lv_iload hx hb dL_law_641 (lv_at hl 0 rfl) ?_
  refine lv_iconst (v := 4) hx hb dL_law_643 (by decide) ?_
  refine lv_iadd hx hb dL_law_644 ?_
  refine va_sld (i := i + 4) hx hb hX hbl hbA hS (hi 4 (by decide) (by decide)) dL_law_645 ?_
  refine lv_aload_n hx hb dL_law_646 rfl (lv_at hl 1 rfl) ?_
  have hz : ∀ q : Nat, H.size ≤ q → A q := fun q h => hA q (Nat.le_trans hS.1 h)
  obtain ⟨r, k, σ1, o', y, τ1, e1, hr0, e2, ek, eo, ht, hJ1⟩ : ∃ (r : (Int32 × S12) ⊕ (String × S12)) (k : Int32) (σ1 : S12) (o' : Nat → Int64) (y : Int32) (τ1 : S19), df_X12_outside n (a 15) (a 3) (xs (Int32.toNatClampNeg (i + 1))) (((xs (Int32.toNatClampNeg (i + 2))).toInt64 <<< ((32 : Int32).toInt64 &&& 63)) ||| ((xs (Int32.toNatClampNeg (i + 3))).toInt64 &&& 4294967295)) (xs (Int32.toNatClampNeg (i + 4))) σ = some r ∧ lw_R2 Int32.toInt64 r k σ1 o o' ∧ df_X19_outside n (xs (Int32.toNatClampNeg (i + 1))) (((xs (Int32.toNatClampNeg (i + 2))).toInt64 <<< ((32 : Int32).toInt64 &&& 63)) ||| ((xs (Int32.toNatClampNeg (i + 3))).toInt64 &&& 4294967295)) (xs (Int32.toNatClampNeg (i + 4))) τ = some (y, τ1) ∧ sI τ1.1 0 = k ∧ (k = 0 → o' (Int32.toNatClampNeg 0) = y.toInt64) ∧ tp σ1 ≤ tp σ ∧ JJ n σ1 (τ1, x) := lj_outside hn hJ o
  refine ldl_S (As := [.ref (a 0), .int (xs (Int32.toNatClampNeg (i + 1))), .long (((xs (Int32.toNatClampNeg (i + 2))).toInt64 <<< ((32 : Int32).toInt64 &&& 63)) ||| ((xs (Int32.toNatClampNeg (i + 3))).toInt64 &&& 4294967295)), .int (xs (Int32.toNatClampNeg (i + 4))), .ref ao]) (rest := []) (q := k) (w' := dw_HO ao co o' a ac σ1) ⟨hx, hb, hml, hown, hts⟩ (fun sz => dm_L_outside l hlt dC dI a ac n ao co (xs (Int32.toNatClampNeg (i + 1))) (((xs (Int32.toNatClampNeg (i + 2))).toInt64 <<< ((32 : Int32).toInt64 &&& 63)) ||| ((xs (Int32.toNatClampNeg (i + 3))).toInt64 &&& 4294967295)) (xs (Int32.toNatClampNeg (i + 4))) σ o e1 hr0 sz) (vx_cwSW 5 hts gl_L_outside rfl rfl rfl (by decide +kernel) ⟨Nat.le_of_ble_eq_true rfl, Nat.le_of_ble_eq_true rfl⟩) (lwp_h hP) (ldd_h hD) (lk_h hK) hS hA hN.1 hDe rfl hl.1 rfl (Nat.le_of_ble_eq_true rfl) dL_law_647 ⟨by show c1 + 1 ≤ 601024; omega, by show s1 + 6 ≤ 7293034; omega⟩ (fun H1 locs hP1 hD1 hk1 hS => ?_)
  obtain ⟨hP, hD⟩ := lw_h hP hD hz hk1 hP1 hD1
  refine lv_istore (lv' := [(5, .int k), (4, .int i), (3, .ref ao), (2, .ref (a2 0)), (1, .ref (a 0)), (0, .ref bs)]) hx hb dL_law_650 hl (by decide) rfl (fun ls hl => ?_)
  refine lv_aload_n hx hb dL_law_652 rfl (lv_at hl 3 rfl) ?_
  refine lv_aload_n hx hb dL_law_653 rfl (lv_at hl 5 rfl) ?_
  refine lv_iload hx hb dL_law_654 (lv_at hl 1 rfl) ?_
  refine lv_iconst (v := 1) hx hb dL_law_656 (by decide) ?_
  refine lv_iadd hx hb dL_law_657 ?_
  refine va_sld (i := i + 1) hx hb hX hbl hbA hS (hi 1 (by decide) (by decide)) dL_law_658 ?_
  refine lv_aload_n hx hb dL_law_659 rfl (lv_at hl 5 rfl) ?_
  refine lv_iload hx hb dL_law_660 (lv_at hl 1 rfl) ?_
  refine lv_iconst (v := 2) hx hb dL_law_662 (by decide) ?_
  refine lv_iadd hx hb dL_law_663 ?_
  refine va_sld (i := i + 2) hx hb hX hbl hbA hS (hi 2 (by decide) (by decide)) dL_law_664 ?_
  refine lv_i2l hx hb dL_law_665 rfl ?_
  refine lv_bipush (v := 32) hx hb dL_law_666 (by decide) ?_
  refine lv_lshl hx hb dL_law_668 rfl ?_
  refine lv_aload_n hx hb dL_law_669 rfl (lv_at hl 5 rfl) ?_
  refine lv_iload hx hb dL_law_670 (lv_at hl 1 rfl) ?_
  refine lv_iconst (v := 3) hx hb dL_law_672 (by decide) ?_
  refine lv_iadd hx hb dL_law_673 ?_
  refine va_sld (i := i + 3) hx hb hX hbl hbA hS (hi 3 (by decide) (by decide)) dL_law_674 ?_
  refine lv_i2l hx hb dL_law_675 rfl ?_
  refine lv_ldc2 hx hb hown (hts (.constantLong RL 99 4294967295) tw_ldc) dL_law_676 ?_
  refine lv_land hx hb dL_law_679 ?_
  refine lv_lor hx hb dL_law_680 ?_
  refine lv_aload_n hx hb dL_law_681 rfl (lv_at hl 5 rfl) ?_
  refine lv_iload hx hb dL_law_682 (lv_at hl 1 rfl) ?_
  refine lv_iconst (v := 4) hx hb dL_law_684 (by decide) ?_
  refine lv_iadd hx hb dL_law_685 ?_
  refine va_sld (i := i + 4) hx hb hX hbl hbA hS (hi 4 (by decide) (by decide)) dL_law_686 ?_
  have hz1 : ∀ q : Nat, H1.size ≤ q → A q := fun q h => hA q (Nat.le_trans hS.1 h)
  refine ld_Vi (As := [.int (xs (Int32.toNatClampNeg (i + 1))), .long (((xs (Int32.toNatClampNeg (i + 2))).toInt64 <<< ((32 : Int32).toInt64 &&& 63)) ||| ((xs (Int32.toNatClampNeg (i + 3))).toInt64 &&& 4294967295)), .int (xs (Int32.toNatClampNeg (i + 4)))]) (rest := []) (q := y) (w' := fun (_ : Unit) => dw_X19 a2 ac2 τ1) ⟨hx, hb, hml, hown, hts⟩ (fun sz => dm_X19_outside l hlt dC dI a2 ac2 n (xs (Int32.toNatClampNeg (i + 1))) (((xs (Int32.toNatClampNeg (i + 2))).toInt64 <<< ((32 : Int32).toInt64 &&& 63)) ||| ((xs (Int32.toNatClampNeg (i + 3))).toInt64 &&& 4294967295)) (xs (Int32.toNatClampNeg (i + 4))) τ e2 sz) (cwV 3 hts gl_X19_outside rfl rfl rfl (by decide +kernel) ⟨Nat.le_of_ble_eq_true rfl, Nat.le_of_ble_eq_true rfl⟩) (lp_19 hP) (ldd_19 hD) (lk_19 hK) hS hA hN.1 (va_recv (lk_19 hK) (lp_19 hP) (ci := 20) (q0 := 0) rfl rfl) rfl hl.1 rfl (Nat.le_of_ble_eq_true rfl) dL_law_687 ⟨by show c1 + 1 + 0 ≤ 601024; omega, by show s1 + 6 + 0 ≤ 7293034; omega⟩ (fun _ H2 locs hP1 hD1 hk1 hS => ?_)
  obtain ⟨hP, hD⟩ := lw_19 hP hD hz1 hk1 hP1 hD1
  refine lv_istore (lv' := [(6, .int y), (5, .int k), (4, .int i), (3, .ref ao), (2, .ref (a2 0)), (1, .ref (a 0)), (0, .ref bs)]) hx hb dL_law_690 hl (by decide) rfl (fun ls hl => ?_)
  refine lv_aload_n hx hb dL_law_692 rfl (lv_at hl 4 rfl) ?_
  have hz2 : ∀ q : Nat, H2.size ≤ q → A q := fun q h => hA q (Nat.le_trans hS.1 h)
  refine ld_Vi (As := []) (rest := []) (q := k) (w' := fun (_ : Unit) => dw_X19 a2 ac2 (τ1, x).1) ⟨hx, hb, hml, hown, hts⟩ (fun sz => dm_X19_thrown l hlt dC dI a2 ac2 n (τ1, x).1 (r := (k, (τ1, x).1)) (by rw [← ek]; rfl) sz) (cwV 0 hts gl_X19_thrown rfl rfl rfl (by decide +kernel) ⟨Nat.le_of_ble_eq_true rfl, Nat.le_of_ble_eq_true rfl⟩) (lp_19 hP) (ldd_19 hD) (lk_19 hK) hS hA hN.1 (va_recv (lk_19 hK) (lp_19 hP) (ci := 20) (q0 := 0) rfl rfl) rfl hl.1 rfl (Nat.le_of_ble_eq_true rfl) dL_law_693 ⟨by show c1 + 1 + 0 + 0 ≤ 601024; omega, by show s1 + 6 + 0 + 0 ≤ 7293034; omega⟩ (fun _ H3 locs hP1 hD1 hk1 hS => ?_)
  obtain ⟨hP, hD⟩ := lw_19 hP hD hz2 hk1 hP1 hD1
  refine lv_iload hx hb dL_law_696 (lv_at hl 1 rfl) ?_
  refine lv_icmp_eq (tgt := 703) hx hb dL_law_698 (by decide) (fun _ => ?_) (fun h9 => absurd rfl h9)
  refine lv_iload hx hb dL_law_703 (lv_at hl 1 rfl) ?_
  refine lv_if_ne (tgt := 720) hx hb dL_law_705 (by decide) (fun _ => ?_) (fun h9 => ?_)
  · refine lv_goto (tgt := 1493) hx hb dL_law_720 (by decide) ?_
    exact K v σ1 β (τ1, x) o' _ _ _ _ _ hJ1 hB (by omega) (by omega) hP hD hS (lv_sub hl [2, 3, 4, 5, 6] rfl)
  · refine lv_aload_n hx hb dL_law_708 rfl (lv_at hl 3 rfl) ?_
    refine lv_iconst (v := 0) hx hb dL_law_709 (by decide) ?_
    refine va_lald (i := 0) hx hb hK hP 0 0 rfl rfl (vp_in_iff.mpr ⟨by decide, by decide⟩) dL_law_710 ?_
    have eo := eo h9
    rw [eo]
    refine lv_iload hx hb dL_law_711 (lv_at hl 0 rfl) ?_
    refine lv_i2l hx hb dL_law_713 rfl ?_
    refine W.lcmp hx hb dL_law_714 ?_
    refine lv_if_eq (tgt := 720) hx hb dL_law_715 (by decide) (fun _ => ?_) (fun h8 => absurd ((lg_cmp_eq _ _).mpr rfl) h8)
    refine lv_goto (tgt := 1493) hx hb dL_law_720 (by decide) ?_
    exact K v σ1 β (τ1, x) o' _ _ _ _ _ hJ1 hB (by omega) (by omega) hP hD hS (lv_sub hl [2, 3, 4, 5, 6] rfl)

set_option maxHeartbeats 40000000 in
set_option maxRecDepth 100000 in
theorem law_c11 {p : Program} {l : Launch} {e : Env} {s : State} {m : MethodId} {below : List Frame} {meth : Method} {c : Code} {Q : State → Prop} {A : Nat → Prop} {dC : Nat → ClassId} {dI : Nat → Nat → Nat} {bs L n : Nat} {xs : Nat → Int32} {ao : Nat} {co : ClassId} {a a2 : Nat → Nat} {ac acB ac2 : Nat → ClassId} (hC : lw_C p l s m c A dC dI bs L xs co ac acB ac2) (hn : 70000 < n) (i : Int32) (hi : ∀ j : Int32, 0 ≤ j → j ≤ 5 → vp_in (i + j) L) {C1 S1 : Nat} (hC1 : C1 ≤ 601024) (hS1 : S1 ≤ 7293034) (K : lw_K p l e s m below meth c Q A dC dI bs n ao co a a2 ac acB ac2 i C1 S1) {v : Nat} {σ : S12} {β : Sb} {τ : S19} {x : Lb} {o : Nat → Int64} {c1 s1 : Nat} {H : Heap} {locs : List Loc} {ls : Array Slot} (hJ : JJ n σ (τ, x)) (hB : BW β) (b1 : c1 + 3 ≤ C1) (b2 : s1 + tp σ + 100 ≤ S1) (hP : va_P (dC, dI) vwCl (dw_LW ao co a a2 ac acB ac2 v σ β (τ, x) o) H) (hD : va_D A (dw_LW ao co a a2 ac acB ac2 v σ β (τ, x) o)) (hS : va_S A s.heap H locs) (hl : lv_has ls 8 [(4, .int i), (3, .ref ao), (2, .ref (a2 0)), (1, .ref (a 0)), (0, .ref bs)]) : W p l e room_1 s m #[Value.ref bs] below meth c H locs c1 s1 Q (F0 m 723 ls []) := by
  obtain ⟨hlt, hx, hb, hml, hown, hts, hN, hA, hDe, hK, hX, hbl, hbA⟩ := id hC
  refine lv_aload_n hx hb dL_law_723 rfl (lv_at hl 3 rfl) ?_
  refine lv_aload_n hx hb dL_law_724 rfl (lv_at hl 4 rfl) ?_
  refine lv_iload hx hb dL_law_725 (lv_at hl 0 rfl) ?_
  refine lv_iconst (v := 1) hx hb dL_law_727 (by decide) ?_
  refine lv_iadd hx hb dL_law_728 ?_
  refine va_sld (i := i + 1) hx hb hX hbl hbA hS (hi 1 (by decide) (by decide)) dL_law_729 ?_
  refine lv_aload_n hx hb dL_law_730 rfl (lv_at hl 1 rfl) ?_
  have hz : ∀ q : Nat, H.size ≤ q → A q := fun q h => hA q (Nat.le_trans hS.1 h)
  obtain ⟨r, k, σ1, o', y, τ1, e1, hr0, e2, ek, eo, ht, hJ1⟩ : ∃ (r : (Int32 × S12) ⊕ (String × S12)) (k : Int32) (σ1 : S12) (o' : Nat → Int64) (y : Int32) (τ1 : S19), df_X12_run n (a 15) (a 3) (xs (Int32.toNatClampNeg (i + 1))) σ = some r ∧ lw_R2 Int32.toInt64 r k σ1 o o' ∧ df_X19_run n (xs (Int32.toNatClampNeg (i + 1))) τ = some (y, τ1) ∧ sI τ1.1 0 = k ∧ (k = 0 → o' (Int32.toNatClampNeg 0) = y.toInt64) ∧ tp σ1 ≤ tp σ ∧ JJ n σ1 (τ1, x) := lj_run hn hJ o
  refine ldl_S (As := [.ref (a 0), .int (xs (Int32.toNatClampNeg (i + 1))), .ref ao]) (rest := []) (q := k) (w' := dw_HO ao co o' a ac σ1) ⟨hx, hb, hml, hown, hts⟩ (fun sz => dm_L_run l hlt dC dI a ac n ao co (xs (Int32.toNatClampNeg (i + 1))) σ o e1 hr0 sz) (vx_cwSW 3 hts gl_L_run rfl rfl rfl (by decide +kernel) ⟨Nat.le_of_ble_eq_true rfl, Nat.le_of_ble_eq_true rfl⟩) (lwp_h hP) (ldd_h hD) (lk_h hK) hS hA hN.1 hDe rfl hl.1 rfl (Nat.le_of_ble_eq_true rfl) dL_law_731 ⟨by show c1 + 1 ≤ 601024; omega, by show s1 + 6 ≤ 7293034; omega⟩ (fun H1 locs hP1 hD1 hk1 hS => ?_)
  obtain ⟨hP, hD⟩ := lw_h hP hD hz hk1 hP1 hD1
  refine lv_istore (lv' := [(5, .int k), (4, .int i), (3, .ref ao), (2, .ref (a2 0)), (1, .ref (a 0)), (0, .ref bs)]) hx hb dL_law_734 hl (by decide) rfl (fun ls hl => ?_)
  refine lv_aload_n hx hb dL_law_736 rfl (lv_at hl 3 rfl) ?_
  refine lv_aload_n hx hb dL_law_737 rfl (lv_at hl 5 rfl) ?_
  refine lv_iload hx hb dL_law_738 (lv_at hl 1 rfl) ?_
  refine lv_iconst (v := 1) hx hb dL_law_740 (by decide) ?_
  refine lv_iadd hx hb dL_law_741 ?_
  refine va_sld (i := i + 1) hx hb hX hbl hbA hS (hi 1 (by decide) (by decide)) dL_law_742 ?_
  have hz1 : ∀ q : Nat, H1.size ≤ q → A q := fun q h => hA q (Nat.le_trans hS.1 h)
  refine ld_Vi (As := [.int (xs (Int32.toNatClampNeg (i + 1)))]) (rest := []) (q := y) (w' := fun (_ : Unit) => dw_X19 a2 ac2 τ1) ⟨hx, hb, hml, hown, hts⟩ (fun sz => dm_X19_run l hlt dC dI a2 ac2 n (xs (Int32.toNatClampNeg (i + 1))) τ e2 sz) (cwV 1 hts gl_X19_run rfl rfl rfl (by decide +kernel) ⟨Nat.le_of_ble_eq_true rfl, Nat.le_of_ble_eq_true rfl⟩) (lp_19 hP) (ldd_19 hD) (lk_19 hK) hS hA hN.1 (va_recv (lk_19 hK) (lp_19 hP) (ci := 20) (q0 := 0) rfl rfl) rfl hl.1 rfl (Nat.le_of_ble_eq_true rfl) dL_law_743 ⟨by show c1 + 1 + 0 ≤ 601024; omega, by show s1 + 6 + 0 ≤ 7293034; omega⟩ (fun _ H2 locs hP1 hD1 hk1 hS => ?_)
  obtain ⟨hP, hD⟩ := lw_19 hP hD hz1 hk1 hP1 hD1
  refine lv_istore (lv' := [(6, .int y), (5, .int k), (4, .int i), (3, .ref ao), (2, .ref (a2 0)), (1, .ref (a 0)), (0, .ref bs)]) hx hb dL_law_746 hl (by decide) rfl (fun ls hl => ?_)
  refine lv_aload_n hx hb dL_law_748 rfl (lv_at hl 4 rfl) ?_
  have hz2 : ∀ q : Nat, H2.size ≤ q → A q := fun q h => hA q (Nat.le_trans hS.1 h)
  refine ld_Vi (As := []) (rest := []) (q := k) (w' := fun (_ : Unit) => dw_X19 a2 ac2 (τ1, x).1) ⟨hx, hb, hml, hown, hts⟩ (fun sz => dm_X19_thrown l hlt dC dI a2 ac2 n (τ1, x).1 (r := (k, (τ1, x).1)) (by rw [← ek]; rfl) sz) (cwV 0 hts gl_X19_thrown rfl rfl rfl (by decide +kernel) ⟨Nat.le_of_ble_eq_true rfl, Nat.le_of_ble_eq_true rfl⟩) (lp_19 hP) (ldd_19 hD) (lk_19 hK) hS hA hN.1 (va_recv (lk_19 hK) (lp_19 hP) (ci := 20) (q0 := 0) rfl rfl) rfl hl.1 rfl (Nat.le_of_ble_eq_true rfl) dL_law_749 ⟨by show c1 + 1 + 0 + 0 ≤ 601024; omega, by show s1 + 6 + 0 + 0 ≤ 7293034; omega⟩ (fun _ H3 locs hP1 hD1 hk1 hS => ?_)
  obtain ⟨hP, hD⟩ := lw_19 hP hD hz2 hk1 hP1 hD1
  refine lv_iload hx hb dL_law_752 (lv_at hl 1 rfl) ?_
  refine lv_icmp_eq (tgt := 759) hx hb dL_law_754 (by decide) (fun _ => ?_) (fun h9 => absurd rfl h9)
  refine lv_iload hx hb dL_law_759 (lv_at hl 1 rfl) ?_
  refine lv_if_ne (tgt := 776) hx hb dL_law_761 (by decide) (fun _ => ?_) (fun h9 => ?_)
  · refine lv_goto (tgt := 1493) hx hb dL_law_776 (by decide) ?_
    exact K v σ1 β (τ1, x) o' _ _ _ _ _ hJ1 hB (by omega) (by omega) hP hD hS (lv_sub hl [2, 3, 4, 5, 6] rfl)
  · refine lv_aload_n hx hb dL_law_764 rfl (lv_at hl 3 rfl) ?_
    refine lv_iconst (v := 0) hx hb dL_law_765 (by decide) ?_
    refine va_lald (i := 0) hx hb hK hP 0 0 rfl rfl (vp_in_iff.mpr ⟨by decide, by decide⟩) dL_law_766 ?_
    have eo := eo h9
    rw [eo]
    refine lv_iload hx hb dL_law_767 (lv_at hl 0 rfl) ?_
    refine lv_i2l hx hb dL_law_769 rfl ?_
    refine W.lcmp hx hb dL_law_770 ?_
    refine lv_if_eq (tgt := 776) hx hb dL_law_771 (by decide) (fun _ => ?_) (fun h8 => absurd ((lg_cmp_eq _ _).mpr rfl) h8)
    refine lv_goto (tgt := 1493) hx hb dL_law_776 (by decide) ?_
    exact K v σ1 β (τ1, x) o' _ _ _ _ _ hJ1 hB (by omega) (by omega) hP hD hS (lv_sub hl [2, 3, 4, 5, 6] rfl)

set_option maxHeartbeats 40000000 in
set_option maxRecDepth 100000 in
theorem law_c12 {p : Program} {l : Launch} {e : Env} {s : State} {m : MethodId} {below : List Frame} {meth : Method} {c : Code} {Q : State → Prop} {A : Nat → Prop} {dC : Nat → ClassId} {dI : Nat → Nat → Nat} {bs L n : Nat} {xs : Nat → Int32} {ao : Nat} {co : ClassId} {a a2 : Nat → Nat} {ac acB ac2 : Nat → ClassId} (hC : lw_C p l s m c A dC dI bs L xs co ac acB ac2) (hn : 70000 < n) (i : Int32) (hi : ∀ j : Int32, 0 ≤ j → j ≤ 5 → vp_in (i + j) L) {C1 S1 : Nat} (hC1 : C1 ≤ 601024) (hS1 : S1 ≤ 7293034) (K : lw_K p l e s m below meth c Q A dC dI bs n ao co a a2 ac acB ac2 i C1 S1) {v : Nat} {σ : S12} {β : Sb} {τ : S19} {x : Lb} {o : Nat → Int64} {c1 s1 : Nat} {H : Heap} {locs : List Loc} {ls : Array Slot} (hJ : JJ n σ (τ, x)) (hB : BW β) (b1 : c1 + 3 ≤ C1) (b2 : s1 + tp σ + 100 ≤ S1) (hP : va_P (dC, dI) vwCl (dw_LW ao co a a2 ac acB ac2 v σ β (τ, x) o) H) (hD : va_D A (dw_LW ao co a a2 ac acB ac2 v σ β (τ, x) o)) (hS : va_S A s.heap H locs) (hl : lv_has ls 8 [(4, .int i), (3, .ref ao), (2, .ref (a2 0)), (1, .ref (a 0)), (0, .ref bs)]) : W p l e room_1 s m #[Value.ref bs] below meth c H locs c1 s1 Q (F0 m 779 ls []) := by
  obtain ⟨hlt, hx, hb, hml, hown, hts, hN, hA, hDe, hK, hX, hbl, hbA⟩ := id hC
  refine lv_aload_n hx hb dL_law_779 rfl (lv_at hl 3 rfl) ?_
  have hz : ∀ q : Nat, H.size ≤ q → A q := fun q h => hA q (Nat.le_trans hS.1 h)
  obtain ⟨y, σ1, τ1, e1, e2, hJ1⟩ := jj_reason n (a 15) (a 3)  hJ
  have ht : tp σ1 ≤ tp σ + 20 := tq_reason hn e1 hJ
  refine ld_Vi (As := []) (rest := []) (q := y) (w' := fun (_ : Unit) => dw_X12 a ac σ1) ⟨hx, hb, hml, hown, hts⟩ (fun sz => dm_X12_reason l hlt dC dI a ac n  σ e1 sz) (cwV 0 hts gl_X12_reason rfl rfl rfl (by decide +kernel) ⟨Nat.le_of_ble_eq_true rfl, Nat.le_of_ble_eq_true rfl⟩) (lp_12 hP) (ldd_12 hD) (lk_12 hK) hS hA hN.1 (va_recv (lk_12 hK) (lp_12 hP) (ci := 13) (q0 := 0) rfl rfl) rfl hl.1 rfl (Nat.le_of_ble_eq_true rfl) dL_law_780 ⟨by show c1 + 0 ≤ 601024; omega, by show s1 + 0 ≤ 7293034; omega⟩ (fun _ H1 locs hP1 hD1 hk1 hS => ?_)
  obtain ⟨hP, hD⟩ := lw_12 hP hD hz hk1 hP1 hD1
  refine lv_aload_n hx hb dL_law_783 rfl (lv_at hl 2 rfl) ?_
  have hz1 : ∀ q : Nat, H1.size ≤ q → A q := fun q h => hA q (Nat.le_trans hS.1 h)
  refine ld_Vi (As := []) (rest := [.int y]) (q := y) (w' := fun (_ : Unit) => dw_X19 a2 ac2 τ1) ⟨hx, hb, hml, hown, hts⟩ (fun sz => dm_X19_reason l hlt dC dI a2 ac2 n  τ e2 sz) (cwV 0 hts gl_X19_reason rfl rfl rfl (by decide +kernel) ⟨Nat.le_of_ble_eq_true rfl, Nat.le_of_ble_eq_true rfl⟩) (lp_19 hP) (ldd_19 hD) (lk_19 hK) hS hA hN.1 (va_recv (lk_19 hK) (lp_19 hP) (ci := 20) (q0 := 0) rfl rfl) rfl hl.1 rfl (Nat.le_of_ble_eq_true rfl) dL_law_784 ⟨by show c1 + 0 + 0 ≤ 601024; omega, by show s1 + 0 + 0 ≤ 7293034; omega⟩ (fun _ H2 locs hP1 hD1 hk1 hS => ?_)
  obtain ⟨hP, hD⟩ := lw_19 hP hD hz1 hk1 hP1 hD1
  refine lv_icmp_eq (tgt := 1493) hx hb dL_law_787 (by decide) (fun _ => ?_) (fun h9 => absurd rfl h9)
  exact K v σ1 β (τ1, x) o _ _ _ _ _ hJ1 hB (by omega) (by omega) hP hD hS hl

set_option maxHeartbeats 40000000 in
set_option maxRecDepth 100000 in
theorem law_c13 {p : Program} {l : Launch} {e : Env} {s : State} {m : MethodId} {below : List Frame} {meth : Method} {c : Code} {Q : State → Prop} {A : Nat → Prop} {dC : Nat → ClassId} {dI : Nat → Nat → Nat} {bs L n : Nat} {xs : Nat → Int32} {ao : Nat} {co : ClassId} {a a2 : Nat → Nat} {ac acB ac2 : Nat → ClassId} (hC : lw_C p l s m c A dC dI bs L xs co ac acB ac2) (hn : 70000 < n) (i : Int32) (hi : ∀ j : Int32, 0 ≤ j → j ≤ 5 → vp_in (i + j) L) {C1 S1 : Nat} (hC1 : C1 ≤ 601024) (hS1 : S1 ≤ 7293034) (K : lw_K p l e s m below meth c Q A dC dI bs n ao co a a2 ac acB ac2 i C1 S1) {v : Nat} {σ : S12} {β : Sb} {τ : S19} {x : Lb} {o : Nat → Int64} {c1 s1 : Nat} {H : Heap} {locs : List Loc} {ls : Array Slot} (hJ : JJ n σ (τ, x)) (hB : BW β) (b1 : c1 + 3 ≤ C1) (b2 : s1 + tp σ + 100 ≤ S1) (hP : va_P (dC, dI) vwCl (dw_LW ao co a a2 ac acB ac2 v σ β (τ, x) o) H) (hD : va_D A (dw_LW ao co a a2 ac acB ac2 v σ β (τ, x) o)) (hS : va_S A s.heap H locs) (hl : lv_has ls 8 [(4, .int i), (3, .ref ao), (2, .ref (a2 0)), (1, .ref (a 0)), (0, .ref bs)]) : W p l e room_1 s m #[Value.ref bs] below meth c H locs c1 s1 Q (F0 m 792 ls []) := by
  obtain ⟨hlt, hx, hb, hml, hown, hts, hN, hA, hDe, hK, hX, hbl, hbA⟩ := id hC
  refine lv_aload_n hx hb dL_law_792 rfl (lv_at hl 3 rfl) ?_
  refine lv_aload_n hx hb dL_law_793 rfl (lv_at hl 4 rfl) ?_
  refine lv_iload hx hb dL_law_794 (lv_at hl 0 rfl) ?_
  refine lv_iconst (v := 1) hx hb dL_law_796 (by decide) ?_
  refine lv_iadd hx hb dL_law_797 ?_
  refine va_sld (i := i + 1) hx hb hX hbl hbA hS (hi 1 (by decide) (by decide)) dL_law_798 ?_
  have hz : ∀ q : Nat, H.size ≤ q → A q := fun q h => hA q (Nat.le_trans hS.1 h)
  obtain ⟨r, k, σ1, τ1, e1, hr0, e2, ek, ht, hJ1⟩ : ∃ (r : S12 ⊕ (String × S12)) (k : Int32) (σ1 : S12) (τ1 : S19), df_X12_go n (a 15) (a 3) (xs (Int32.toNatClampNeg (i + 1))) σ = some r ∧ lw_V1 r k σ1 ∧ df_X19_go n (xs (Int32.toNatClampNeg (i + 1))) τ = some τ1 ∧ sI τ1.1 0 = k ∧ tp σ1 ≤ tp σ ∧ JJ n σ1 (τ1, x) := lj_go hn hJ
  refine ldl_S (As := [.ref (a 0), .int (xs (Int32.toNatClampNeg (i + 1)))]) (rest := []) (q := k) (w' := dw_X12 a ac σ1) ⟨hx, hb, hml, hown, hts⟩ (fun sz => dm_L_go l hlt dC dI a ac n (xs (Int32.toNatClampNeg (i + 1))) σ e1 hr0 sz) (vx_cwSW 2 hts gl_L_go rfl rfl rfl (by decide +kernel) ⟨Nat.le_of_ble_eq_true rfl, Nat.le_of_ble_eq_true rfl⟩) (lp_12 hP) (ldd_12 hD) (lk_12 hK) hS hA hN.1 hDe rfl hl.1 rfl (Nat.le_of_ble_eq_true rfl) dL_law_799 ⟨by show c1 + 1 ≤ 601024; omega, by show s1 + 6 ≤ 7293034; omega⟩ (fun H1 locs hP1 hD1 hk1 hS => ?_)
  obtain ⟨hP, hD⟩ := lw_12 hP hD hz hk1 hP1 hD1
  refine lv_istore (lv' := [(5, .int k), (4, .int i), (3, .ref ao), (2, .ref (a2 0)), (1, .ref (a 0)), (0, .ref bs)]) hx hb dL_law_802 hl (by decide) rfl (fun ls hl => ?_)
  refine lv_aload_n hx hb dL_law_804 rfl (lv_at hl 3 rfl) ?_
  refine lv_aload_n hx hb dL_law_805 rfl (lv_at hl 5 rfl) ?_
  refine lv_iload hx hb dL_law_806 (lv_at hl 1 rfl) ?_
  refine lv_iconst (v := 1) hx hb dL_law_808 (by decide) ?_
  refine lv_iadd hx hb dL_law_809 ?_
  refine va_sld (i := i + 1) hx hb hX hbl hbA hS (hi 1 (by decide) (by decide)) dL_law_810 ?_
  have hz1 : ∀ q : Nat, H1.size ≤ q → A q := fun q h => hA q (Nat.le_trans hS.1 h)
  refine ld_Vv (As := [.int (xs (Int32.toNatClampNeg (i + 1)))]) (rest := []) (w' := fun (_ : Unit) => dw_X19 a2 ac2 τ1) ⟨hx, hb, hml, hown, hts⟩ (fun sz => dm_X19_go l hlt dC dI a2 ac2 n (xs (Int32.toNatClampNeg (i + 1))) τ e2 sz) (cwV 1 hts gl_X19_go rfl rfl rfl (by decide +kernel) ⟨Nat.le_of_ble_eq_true rfl, Nat.le_of_ble_eq_true rfl⟩) (lp_19 hP) (ldd_19 hD) (lk_19 hK) hS hA hN.1 (va_recv (lk_19 hK) (lp_19 hP) (ci := 20) (q0 := 0) rfl rfl) rfl hl.1 rfl (Nat.le_of_ble_eq_true rfl) dL_law_811 ⟨by show c1 + 1 + 0 ≤ 601024; omega, by show s1 + 6 + 0 ≤ 7293034; omega⟩ (fun _ H2 locs hP1 hD1 hk1 hS => ?_)
  obtain ⟨hP, hD⟩ := lw_19 hP hD hz1 hk1 hP1 hD1
  refine lv_aload_n hx hb dL_law_814 rfl (lv_at hl 3 rfl) ?_
  have hz2 : ∀ q : Nat, H2.size ≤ q → A q := fun q h => hA q (Nat.le_trans hS.1 h)
  refine ld_Vi (As := []) (rest := []) (q := k) (w' := fun (_ : Unit) => dw_X19 a2 ac2 (τ1, x).1) ⟨hx, hb, hml, hown, hts⟩ (fun sz => dm_X19_thrown l hlt dC dI a2 ac2 n (τ1, x).1 (r := (k, (τ1, x).1)) (by rw [← ek]; rfl) sz) (cwV 0 hts gl_X19_thrown rfl rfl rfl (by decide +kernel) ⟨Nat.le_of_ble_eq_true rfl, Nat.le_of_ble_eq_true rfl⟩) (lp_19 hP) (ldd_19 hD) (lk_19 hK) hS hA hN.1 (va_recv (lk_19 hK) (lp_19 hP) (ci := 20) (q0 := 0) rfl rfl) rfl hl.1 rfl (Nat.le_of_ble_eq_true rfl) dL_law_815 ⟨by show c1 + 1 + 0 + 0 ≤ 601024; omega, by show s1 + 6 + 0 + 0 ≤ 7293034; omega⟩ (fun _ H3 locs hP1 hD1 hk1 hS => ?_)
  obtain ⟨hP, hD⟩ := lw_19 hP hD hz2 hk1 hP1 hD1
  refine lv_iload hx hb dL_law_818 (lv_at hl 0 rfl) ?_
  refine lv_icmp_eq (tgt := 825) hx hb dL_law_820 (by decide) (fun _ => ?_) (fun h9 => absurd rfl h9)
  refine lv_goto (tgt := 1493) hx hb dL_law_825 (by decide) ?_
  exact K v σ1 β (τ1, x) o _ _ _ _ _ hJ1 hB (by omega) (by omega) hP hD hS (lv_sub hl [1, 2, 3, 4, 5] rfl)

set_option maxHeartbeats 40000000 in
set_option maxRecDepth 100000 in
theorem law_c14 {p : Program} {l : Launch} {e : Env} {s : State} {m : MethodId} {below : List Frame} {meth : Method} {c : Code} {Q : State → Prop} {A : Nat → Prop} {dC : Nat → ClassId} {dI : Nat → Nat → Nat} {bs L n : Nat} {xs : Nat → Int32} {ao : Nat} {co : ClassId} {a a2 : Nat → Nat} {ac acB ac2 : Nat → ClassId} (hC : lw_C p l s m c A dC dI bs L xs co ac acB ac2) (hn : 70000 < n) (i : Int32) (hi : ∀ j : Int32, 0 ≤ j → j ≤ 5 → vp_in (i + j) L) {C1 S1 : Nat} (hC1 : C1 ≤ 601024) (hS1 : S1 ≤ 7293034) (K : lw_K p l e s m below meth c Q A dC dI bs n ao co a a2 ac acB ac2 i C1 S1) {v : Nat} {σ : S12} {β : Sb} {τ : S19} {x : Lb} {o : Nat → Int64} {c1 s1 : Nat} {H : Heap} {locs : List Loc} {ls : Array Slot} (hJ : JJ n σ (τ, x)) (hB : BW β) (b1 : c1 + 3 ≤ C1) (b2 : s1 + tp σ + 100 ≤ S1) (hP : va_P (dC, dI) vwCl (dw_LW ao co a a2 ac acB ac2 v σ β (τ, x) o) H) (hD : va_D A (dw_LW ao co a a2 ac acB ac2 v σ β (τ, x) o)) (hS : va_S A s.heap H locs) (hl : lv_has ls 8 [(4, .int i), (3, .ref ao), (2, .ref (a2 0)), (1, .ref (a 0)), (0, .ref bs)]) : W p l e room_1 s m #[Value.ref bs] below meth c H locs c1 s1 Q (F0 m 828 ls []) := by
  obtain ⟨hlt, hx, hb, hml, hown, hts, hN, hA, hDe, hK, hX, hbl, hbA⟩ := id hC
  refine lv_aload_n hx hb dL_law_828 rfl (lv_at hl 3 rfl) ?_
  have hz : ∀ q : Nat, H.size ≤ q → A q := fun q h => hA q (Nat.le_trans hS.1 h)
  obtain ⟨y, σ1, τ1, e1, e2, hJ1⟩ := jj_cut n (a 15) (a 3) hn  hJ
  have ht : tp σ1 ≤ tp σ + 20 := tq_cut hn e1 hJ
  refine ld_Vi (As := []) (rest := []) (q := y) (w' := fun (_ : Unit) => dw_X12 a ac σ1) ⟨hx, hb, hml, hown, hts⟩ (fun sz => dm_X12_cut l hlt dC dI a ac n  σ e1 sz) (cwV 0 hts gl_X12_cut rfl rfl rfl (by decide +kernel) ⟨Nat.le_of_ble_eq_true rfl, Nat.le_of_ble_eq_true rfl⟩) (lp_12 hP) (ldd_12 hD) (lk_12 hK) hS hA hN.1 (va_recv (lk_12 hK) (lp_12 hP) (ci := 13) (q0 := 0) rfl rfl) rfl hl.1 rfl (Nat.le_of_ble_eq_true rfl) dL_law_829 ⟨by show c1 + 0 ≤ 601024; omega, by show s1 + 0 ≤ 7293034; omega⟩ (fun _ H1 locs hP1 hD1 hk1 hS => ?_)
  obtain ⟨hP, hD⟩ := lw_12 hP hD hz hk1 hP1 hD1
  refine lv_aload_n hx hb dL_law_832 rfl (lv_at hl 2 rfl) ?_
  have hz1 : ∀ q : Nat, H1.size ≤ q → A q := fun q h => hA q (Nat.le_trans hS.1 h)
  refine ld_Vi (As := []) (rest := [.int y]) (q := y) (w' := fun (_ : Unit) => dw_X19 a2 ac2 τ1) ⟨hx, hb, hml, hown, hts⟩ (fun sz => dm_X19_cut l hlt dC dI a2 ac2 n  τ e2 sz) (cwV 0 hts gl_X19_cut rfl rfl rfl (by decide +kernel) ⟨Nat.le_of_ble_eq_true rfl, Nat.le_of_ble_eq_true rfl⟩) (lp_19 hP) (ldd_19 hD) (lk_19 hK) hS hA hN.1 (va_recv (lk_19 hK) (lp_19 hP) (ci := 20) (q0 := 0) rfl rfl) rfl hl.1 rfl (Nat.le_of_ble_eq_true rfl) dL_law_833 ⟨by show c1 + 0 + 0 ≤ 601024; omega, by show s1 + 0 + 0 ≤ 7293034; omega⟩ (fun _ H2 locs hP1 hD1 hk1 hS => ?_)
  obtain ⟨hP, hD⟩ := lw_19 hP hD hz1 hk1 hP1 hD1
  refine lv_icmp_eq (tgt := 1493) hx hb dL_law_836 (by decide) (fun _ => ?_) (fun h9 => absurd rfl h9)
  exact K v σ1 β (τ1, x) o _ _ _ _ _ hJ1 hB (by omega) (by omega) hP hD hS hl

set_option maxHeartbeats 40000000 in
set_option maxRecDepth 100000 in
theorem law_c15 {p : Program} {l : Launch} {e : Env} {s : State} {m : MethodId} {below : List Frame} {meth : Method} {c : Code} {Q : State → Prop} {A : Nat → Prop} {dC : Nat → ClassId} {dI : Nat → Nat → Nat} {bs L n : Nat} {xs : Nat → Int32} {ao : Nat} {co : ClassId} {a a2 : Nat → Nat} {ac acB ac2 : Nat → ClassId} (hC : lw_C p l s m c A dC dI bs L xs co ac acB ac2) (hn : 70000 < n) (i : Int32) (hi : ∀ j : Int32, 0 ≤ j → j ≤ 5 → vp_in (i + j) L) {C1 S1 : Nat} (hC1 : C1 ≤ 601024) (hS1 : S1 ≤ 7293034) (K : lw_K p l e s m below meth c Q A dC dI bs n ao co a a2 ac acB ac2 i C1 S1) {v : Nat} {σ : S12} {β : Sb} {τ : S19} {x : Lb} {o : Nat → Int64} {c1 s1 : Nat} {H : Heap} {locs : List Loc} {ls : Array Slot} (hJ : JJ n σ (τ, x)) (hB : BW β) (b1 : c1 + 3 ≤ C1) (b2 : s1 + tp σ + 100 ≤ S1) (hP : va_P (dC, dI) vwCl (dw_LW ao co a a2 ac acB ac2 v σ β (τ, x) o) H) (hD : va_D A (dw_LW ao co a a2 ac acB ac2 v σ β (τ, x) o)) (hS : va_S A s.heap H locs) (hl : lv_has ls 8 [(4, .int i), (3, .ref ao), (2, .ref (a2 0)), (1, .ref (a 0)), (0, .ref bs)]) : W p l e room_1 s m #[Value.ref bs] below meth c H locs c1 s1 Q (F0 m 841 ls []) := by
  obtain ⟨hlt, hx, hb, hml, hown, hts, hN, hA, hDe, hK, hX, hbl, hbA⟩ := id hC
  refine lv_aload_n hx hb dL_law_841 rfl (lv_at hl 3 rfl) ?_
  refine lv_aload_n hx hb dL_law_842 rfl (lv_at hl 4 rfl) ?_
  refine lv_iload hx hb dL_law_843 (lv_at hl 0 rfl) ?_
  refine lv_iconst (v := 1) hx hb dL_law_845 (by decide) ?_
  refine lv_iadd hx hb dL_law_846 ?_
  refine va_sld (i := i + 1) hx hb hX hbl hbA hS (hi 1 (by decide) (by decide)) dL_law_847 ?_
  refine lv_aload_n hx hb dL_law_848 rfl (lv_at hl 1 rfl) ?_
  have hz : ∀ q : Nat, H.size ≤ q → A q := fun q h => hA q (Nat.le_trans hS.1 h)
  obtain ⟨r, k, σ1, o', y, τ1, e1, hr0, e2, ek, eo, ht, hJ1⟩ : ∃ (r : (Int32 × S12) ⊕ (String × S12)) (k : Int32) (σ1 : S12) (o' : Nat → Int64) (y : Int32) (τ1 : S19), df_X12_watch n (a 15) (a 3) (xs (Int32.toNatClampNeg (i + 1))) σ = some r ∧ lw_R1 Int32.toInt64 r k σ1 o o' ∧ df_X19_watch n (xs (Int32.toNatClampNeg (i + 1))) τ = some (y, τ1) ∧ sI τ1.1 0 = k ∧ (k = 0 → o' (Int32.toNatClampNeg 0) = y.toInt64) ∧ tp σ1 ≤ tp σ ∧ JJ n σ1 (τ1, x) := lj_watch hn hJ o
  refine ldl_S (As := [.ref (a 0), .int (xs (Int32.toNatClampNeg (i + 1))), .ref ao]) (rest := []) (q := k) (w' := dw_HO ao co o' a ac σ1) ⟨hx, hb, hml, hown, hts⟩ (fun sz => dm_L_watch l hlt dC dI a ac n ao co (xs (Int32.toNatClampNeg (i + 1))) σ o e1 hr0 sz) (vx_cwSW 3 hts gl_L_watch rfl rfl rfl (by decide +kernel) ⟨Nat.le_of_ble_eq_true rfl, Nat.le_of_ble_eq_true rfl⟩) (lwp_h hP) (ldd_h hD) (lk_h hK) hS hA hN.1 hDe rfl hl.1 rfl (Nat.le_of_ble_eq_true rfl) dL_law_849 ⟨by show c1 + 1 ≤ 601024; omega, by show s1 + 6 ≤ 7293034; omega⟩ (fun H1 locs hP1 hD1 hk1 hS => ?_)
  obtain ⟨hP, hD⟩ := lw_h hP hD hz hk1 hP1 hD1
  refine lv_istore (lv' := [(5, .int k), (4, .int i), (3, .ref ao), (2, .ref (a2 0)), (1, .ref (a 0)), (0, .ref bs)]) hx hb dL_law_852 hl (by decide) rfl (fun ls hl => ?_)
  refine lv_aload_n hx hb dL_law_854 rfl (lv_at hl 3 rfl) ?_
  refine lv_aload_n hx hb dL_law_855 rfl (lv_at hl 5 rfl) ?_
  refine lv_iload hx hb dL_law_856 (lv_at hl 1 rfl) ?_
  refine lv_iconst (v := 1) hx hb dL_law_858 (by decide) ?_
  refine lv_iadd hx hb dL_law_859 ?_
  refine va_sld (i := i + 1) hx hb hX hbl hbA hS (hi 1 (by decide) (by decide)) dL_law_860 ?_
  have hz1 : ∀ q : Nat, H1.size ≤ q → A q := fun q h => hA q (Nat.le_trans hS.1 h)
  refine ld_Vi (As := [.int (xs (Int32.toNatClampNeg (i + 1)))]) (rest := []) (q := y) (w' := fun (_ : Unit) => dw_X19 a2 ac2 τ1) ⟨hx, hb, hml, hown, hts⟩ (fun sz => dm_X19_watch l hlt dC dI a2 ac2 n (xs (Int32.toNatClampNeg (i + 1))) τ e2 sz) (cwV 1 hts gl_X19_watch rfl rfl rfl (by decide +kernel) ⟨Nat.le_of_ble_eq_true rfl, Nat.le_of_ble_eq_true rfl⟩) (lp_19 hP) (ldd_19 hD) (lk_19 hK) hS hA hN.1 (va_recv (lk_19 hK) (lp_19 hP) (ci := 20) (q0 := 0) rfl rfl) rfl hl.1 rfl (Nat.le_of_ble_eq_true rfl) dL_law_861 ⟨by show c1 + 1 + 0 ≤ 601024; omega, by show s1 + 6 + 0 ≤ 7293034; omega⟩ (fun _ H2 locs hP1 hD1 hk1 hS => ?_)
  obtain ⟨hP, hD⟩ := lw_19 hP hD hz1 hk1 hP1 hD1
  refine lv_istore (lv' := [(6, .int y), (5, .int k), (4, .int i), (3, .ref ao), (2, .ref (a2 0)), (1, .ref (a 0)), (0, .ref bs)]) hx hb dL_law_864 hl (by decide) rfl (fun ls hl => ?_)
  refine lv_aload_n hx hb dL_law_866 rfl (lv_at hl 4 rfl) ?_
  have hz2 : ∀ q : Nat, H2.size ≤ q → A q := fun q h => hA q (Nat.le_trans hS.1 h)
  refine ld_Vi (As := []) (rest := []) (q := k) (w' := fun (_ : Unit) => dw_X19 a2 ac2 (τ1, x).1) ⟨hx, hb, hml, hown, hts⟩ (fun sz => dm_X19_thrown l hlt dC dI a2 ac2 n (τ1, x).1 (r := (k, (τ1, x).1)) (by rw [← ek]; rfl) sz) (cwV 0 hts gl_X19_thrown rfl rfl rfl (by decide +kernel) ⟨Nat.le_of_ble_eq_true rfl, Nat.le_of_ble_eq_true rfl⟩) (lp_19 hP) (ldd_19 hD) (lk_19 hK) hS hA hN.1 (va_recv (lk_19 hK) (lp_19 hP) (ci := 20) (q0 := 0) rfl rfl) rfl hl.1 rfl (Nat.le_of_ble_eq_true rfl) dL_law_867 ⟨by show c1 + 1 + 0 + 0 ≤ 601024; omega, by show s1 + 6 + 0 + 0 ≤ 7293034; omega⟩ (fun _ H3 locs hP1 hD1 hk1 hS => ?_)
  obtain ⟨hP, hD⟩ := lw_19 hP hD hz2 hk1 hP1 hD1
  refine lv_iload hx hb dL_law_870 (lv_at hl 1 rfl) ?_
  refine lv_icmp_eq (tgt := 877) hx hb dL_law_872 (by decide) (fun _ => ?_) (fun h9 => absurd rfl h9)
  refine lv_iload hx hb dL_law_877 (lv_at hl 1 rfl) ?_
  refine lv_if_ne (tgt := 894) hx hb dL_law_879 (by decide) (fun _ => ?_) (fun h9 => ?_)
  · refine lv_goto (tgt := 1493) hx hb dL_law_894 (by decide) ?_
    exact K v σ1 β (τ1, x) o' _ _ _ _ _ hJ1 hB (by omega) (by omega) hP hD hS (lv_sub hl [2, 3, 4, 5, 6] rfl)
  · refine lv_aload_n hx hb dL_law_882 rfl (lv_at hl 3 rfl) ?_
    refine lv_iconst (v := 0) hx hb dL_law_883 (by decide) ?_
    refine va_lald (i := 0) hx hb hK hP 0 0 rfl rfl (vp_in_iff.mpr ⟨by decide, by decide⟩) dL_law_884 ?_
    have eo := eo h9
    rw [eo]
    refine lv_iload hx hb dL_law_885 (lv_at hl 0 rfl) ?_
    refine lv_i2l hx hb dL_law_887 rfl ?_
    refine W.lcmp hx hb dL_law_888 ?_
    refine lv_if_eq (tgt := 894) hx hb dL_law_889 (by decide) (fun _ => ?_) (fun h8 => absurd ((lg_cmp_eq _ _).mpr rfl) h8)
    refine lv_goto (tgt := 1493) hx hb dL_law_894 (by decide) ?_
    exact K v σ1 β (τ1, x) o' _ _ _ _ _ hJ1 hB (by omega) (by omega) hP hD hS (lv_sub hl [2, 3, 4, 5, 6] rfl)

set_option maxHeartbeats 40000000 in
set_option maxRecDepth 100000 in
theorem law_c16 {p : Program} {l : Launch} {e : Env} {s : State} {m : MethodId} {below : List Frame} {meth : Method} {c : Code} {Q : State → Prop} {A : Nat → Prop} {dC : Nat → ClassId} {dI : Nat → Nat → Nat} {bs L n : Nat} {xs : Nat → Int32} {ao : Nat} {co : ClassId} {a a2 : Nat → Nat} {ac acB ac2 : Nat → ClassId} (hC : lw_C p l s m c A dC dI bs L xs co ac acB ac2) (hn : 70000 < n) (i : Int32) (hi : ∀ j : Int32, 0 ≤ j → j ≤ 5 → vp_in (i + j) L) {C1 S1 : Nat} (hC1 : C1 ≤ 601024) (hS1 : S1 ≤ 7293034) (K : lw_K p l e s m below meth c Q A dC dI bs n ao co a a2 ac acB ac2 i C1 S1) {v : Nat} {σ : S12} {β : Sb} {τ : S19} {x : Lb} {o : Nat → Int64} {c1 s1 : Nat} {H : Heap} {locs : List Loc} {ls : Array Slot} (hJ : JJ n σ (τ, x)) (hB : BW β) (b1 : c1 + 3 ≤ C1) (b2 : s1 + tp σ + 100 ≤ S1) (hP : va_P (dC, dI) vwCl (dw_LW ao co a a2 ac acB ac2 v σ β (τ, x) o) H) (hD : va_D A (dw_LW ao co a a2 ac acB ac2 v σ β (τ, x) o)) (hS : va_S A s.heap H locs) (hl : lv_has ls 8 [(4, .int i), (3, .ref ao), (2, .ref (a2 0)), (1, .ref (a 0)), (0, .ref bs)]) : W p l e room_1 s m #[Value.ref bs] below meth c H locs c1 s1 Q (F0 m 897 ls []) := by
  obtain ⟨hlt, hx, hb, hml, hown, hts, hN, hA, hDe, hK, hX, hbl, hbA⟩ := id hC
  refine lv_aload_n hx hb dL_law_897 rfl (lv_at hl 3 rfl) ?_
  refine lv_aload_n hx hb dL_law_898 rfl (lv_at hl 4 rfl) ?_
  refine lv_iload hx hb dL_law_899 (lv_at hl 0 rfl) ?_
  refine lv_iconst (v := 1) hx hb dL_law_901 (by decide) ?_
  refine lv_iadd hx hb dL_law_902 ?_
  refine va_sld (i := i + 1) hx hb hX hbl hbA hS (hi 1 (by decide) (by decide)) dL_law_903 ?_
  refine lv_aload_n hx hb dL_law_904 rfl (lv_at hl 1 rfl) ?_
  have hz : ∀ q : Nat, H.size ≤ q → A q := fun q h => hA q (Nat.le_trans hS.1 h)
  obtain ⟨r, k, σ1, o', y, τ1, e1, hr0, e2, ek, eo, ht, hJ1⟩ : ∃ (r : (Int32 × S12) ⊕ (String × S12)) (k : Int32) (σ1 : S12) (o' : Nat → Int64) (y : Int32) (τ1 : S19), df_X12_drop n (a 15) (a 3) (xs (Int32.toNatClampNeg (i + 1))) σ = some r ∧ lw_R1 lw_b r k σ1 o o' ∧ df_X19_drop n (xs (Int32.toNatClampNeg (i + 1))) τ = some (y, τ1) ∧ sI τ1.1 0 = k ∧ (k = 0 → o' (Int32.toNatClampNeg 0) = lw_b y) ∧ tp σ1 ≤ tp σ ∧ JJ n σ1 (τ1, x) := lj_drop hn hJ o
  refine ldl_S (As := [.ref (a 0), .int (xs (Int32.toNatClampNeg (i + 1))), .ref ao]) (rest := []) (q := k) (w' := dw_HO ao co o' a ac σ1) ⟨hx, hb, hml, hown, hts⟩ (fun sz => dm_L_drop l hlt dC dI a ac n ao co (xs (Int32.toNatClampNeg (i + 1))) σ o e1 hr0 sz) (vx_cwSW 3 hts gl_L_drop rfl rfl rfl (by decide +kernel) ⟨Nat.le_of_ble_eq_true rfl, Nat.le_of_ble_eq_true rfl⟩) (lwp_h hP) (ldd_h hD) (lk_h hK) hS hA hN.1 hDe rfl hl.1 rfl (Nat.le_of_ble_eq_true rfl) dL_law_905 ⟨by show c1 + 1 ≤ 601024; omega, by show s1 + 6 ≤ 7293034; omega⟩ (fun H1 locs hP1 hD1 hk1 hS => ?_)
  obtain ⟨hP, hD⟩ := lw_h hP hD hz hk1 hP1 hD1
  refine lv_istore (lv' := [(5, .int k), (4, .int i), (3, .ref ao), (2, .ref (a2 0)), (1, .ref (a 0)), (0, .ref bs)]) hx hb dL_law_908 hl (by decide) rfl (fun ls hl => ?_)
  refine lv_aload_n hx hb dL_law_910 rfl (lv_at hl 3 rfl) ?_
  refine lv_aload_n hx hb dL_law_911 rfl (lv_at hl 5 rfl) ?_
  refine lv_iload hx hb dL_law_912 (lv_at hl 1 rfl) ?_
  refine lv_iconst (v := 1) hx hb dL_law_914 (by decide) ?_
  refine lv_iadd hx hb dL_law_915 ?_
  refine va_sld (i := i + 1) hx hb hX hbl hbA hS (hi 1 (by decide) (by decide)) dL_law_916 ?_
  have hz1 : ∀ q : Nat, H1.size ≤ q → A q := fun q h => hA q (Nat.le_trans hS.1 h)
  refine ld_Vi (As := [.int (xs (Int32.toNatClampNeg (i + 1)))]) (rest := []) (q := y) (w' := fun (_ : Unit) => dw_X19 a2 ac2 τ1) ⟨hx, hb, hml, hown, hts⟩ (fun sz => dm_X19_drop l hlt dC dI a2 ac2 n (xs (Int32.toNatClampNeg (i + 1))) τ e2 sz) (cwV 1 hts gl_X19_drop rfl rfl rfl (by decide +kernel) ⟨Nat.le_of_ble_eq_true rfl, Nat.le_of_ble_eq_true rfl⟩) (lp_19 hP) (ldd_19 hD) (lk_19 hK) hS hA hN.1 (va_recv (lk_19 hK) (lp_19 hP) (ci := 20) (q0 := 0) rfl rfl) rfl hl.1 rfl (Nat.le_of_ble_eq_true rfl) dL_law_917 ⟨by show c1 + 1 + 0 ≤ 601024; omega, by show s1 + 6 + 0 ≤ 7293034; omega⟩ (fun _ H2 locs hP1 hD1 hk1 hS => ?_)
  obtain ⟨hP, hD⟩ := lw_19 hP hD hz1 hk1 hP1 hD1
  refine lv_istore (lv' := [(6, .int y), (5, .int k), (4, .int i), (3, .ref ao), (2, .ref (a2 0)), (1, .ref (a 0)), (0, .ref bs)]) hx hb dL_law_920 hl (by decide) rfl (fun ls hl => ?_)
  refine lv_aload_n hx hb dL_law_922 rfl (lv_at hl 4 rfl) ?_
  have hz2 : ∀ q : Nat, H2.size ≤ q → A q := fun q h => hA q (Nat.le_trans hS.1 h)
  refine ld_Vi (As := []) (rest := []) (q := k) (w' := fun (_ : Unit) => dw_X19 a2 ac2 (τ1, x).1) ⟨hx, hb, hml, hown, hts⟩ (fun sz => dm_X19_thrown l hlt dC dI a2 ac2 n (τ1, x).1 (r := (k, (τ1, x).1)) (by rw [← ek]; rfl) sz) (cwV 0 hts gl_X19_thrown rfl rfl rfl (by decide +kernel) ⟨Nat.le_of_ble_eq_true rfl, Nat.le_of_ble_eq_true rfl⟩) (lp_19 hP) (ldd_19 hD) (lk_19 hK) hS hA hN.1 (va_recv (lk_19 hK) (lp_19 hP) (ci := 20) (q0 := 0) rfl rfl) rfl hl.1 rfl (Nat.le_of_ble_eq_true rfl) dL_law_923 ⟨by show c1 + 1 + 0 + 0 ≤ 601024; omega, by show s1 + 6 + 0 + 0 ≤ 7293034; omega⟩ (fun _ H3 locs hP1 hD1 hk1 hS => ?_)
  obtain ⟨hP, hD⟩ := lw_19 hP hD hz2 hk1 hP1 hD1
  refine lv_iload hx hb dL_law_926 (lv_at hl 1 rfl) ?_
  refine lv_icmp_eq (tgt := 933) hx hb dL_law_928 (by decide) (fun _ => ?_) (fun h9 => absurd rfl h9)
  refine lv_iload hx hb dL_law_933 (lv_at hl 1 rfl) ?_
  refine lv_if_ne (tgt := 957) hx hb dL_law_935 (by decide) (fun _ => ?_) (fun h9 => ?_)
  · refine lv_goto (tgt := 1493) hx hb dL_law_957 (by decide) ?_
    exact K v σ1 β (τ1, x) o' _ _ _ _ _ hJ1 hB (by omega) (by omega) hP hD hS (lv_sub hl [2, 3, 4, 5, 6] rfl)
  · refine lv_aload_n hx hb dL_law_938 rfl (lv_at hl 3 rfl) ?_
    refine lv_iconst (v := 0) hx hb dL_law_939 (by decide) ?_
    refine va_lald (i := 0) hx hb hK hP 0 0 rfl rfl (vp_in_iff.mpr ⟨by decide, by decide⟩) dL_law_940 ?_
    have eo := eo h9
    rw [eo]
    refine lv_iload hx hb dL_law_941 (lv_at hl 0 rfl) ?_
    refine lv_if_eq (tgt := 950) hx hb dL_law_943 (by decide) (fun q0 => ?_) (fun q0 => ?_)
    · refine lv_lconst (v := 0) hx hb dL_law_950 (by decide) ?_
      rw [show lw_b y = 0 from if_pos q0]
      refine W.lcmp hx hb dL_law_951 ?_
      refine lv_if_eq (tgt := 957) hx hb dL_law_952 (by decide) (fun _ => ?_) (fun h8 => absurd ((lg_cmp_eq _ _).mpr rfl) h8)
      refine lv_goto (tgt := 1493) hx hb dL_law_957 (by decide) ?_
      exact K v σ1 β (τ1, x) o' _ _ _ _ _ hJ1 hB (by omega) (by omega) hP hD hS (lv_sub hl [2, 3, 4, 5, 6] rfl)
    · refine lv_lconst (v := 1) hx hb dL_law_946 (by decide) ?_
      refine lv_goto (tgt := 951) hx hb dL_law_947 (by decide) ?_
      rw [show lw_b y = 1 from if_neg q0]
      refine W.lcmp hx hb dL_law_951 ?_
      refine lv_if_eq (tgt := 957) hx hb dL_law_952 (by decide) (fun _ => ?_) (fun h8 => absurd ((lg_cmp_eq _ _).mpr rfl) h8)
      refine lv_goto (tgt := 1493) hx hb dL_law_957 (by decide) ?_
      exact K v σ1 β (τ1, x) o' _ _ _ _ _ hJ1 hB (by omega) (by omega) hP hD hS (lv_sub hl [2, 3, 4, 5, 6] rfl)

set_option maxHeartbeats 40000000 in
set_option maxRecDepth 100000 in
theorem law_c17 {p : Program} {l : Launch} {e : Env} {s : State} {m : MethodId} {below : List Frame} {meth : Method} {c : Code} {Q : State → Prop} {A : Nat → Prop} {dC : Nat → ClassId} {dI : Nat → Nat → Nat} {bs L n : Nat} {xs : Nat → Int32} {ao : Nat} {co : ClassId} {a a2 : Nat → Nat} {ac acB ac2 : Nat → ClassId} (hC : lw_C p l s m c A dC dI bs L xs co ac acB ac2) (hn : 70000 < n) (i : Int32) (hi : ∀ j : Int32, 0 ≤ j → j ≤ 5 → vp_in (i + j) L) {C1 S1 : Nat} (hC1 : C1 ≤ 601024) (hS1 : S1 ≤ 7293034) (K : lw_K p l e s m below meth c Q A dC dI bs n ao co a a2 ac acB ac2 i C1 S1) {v : Nat} {σ : S12} {β : Sb} {τ : S19} {x : Lb} {o : Nat → Int64} {c1 s1 : Nat} {H : Heap} {locs : List Loc} {ls : Array Slot} (hJ : JJ n σ (τ, x)) (hB : BW β) (b1 : c1 + 3 ≤ C1) (b2 : s1 + tp σ + 100 ≤ S1) (hP : va_P (dC, dI) vwCl (dw_LW ao co a a2 ac acB ac2 v σ β (τ, x) o) H) (hD : va_D A (dw_LW ao co a a2 ac acB ac2 v σ β (τ, x) o)) (hS : va_S A s.heap H locs) (hl : lv_has ls 8 [(4, .int i), (3, .ref ao), (2, .ref (a2 0)), (1, .ref (a 0)), (0, .ref bs)]) : W p l e room_1 s m #[Value.ref bs] below meth c H locs c1 s1 Q (F0 m 960 ls []) := by
  obtain ⟨hlt, hx, hb, hml, hown, hts, hN, hA, hDe, hK, hX, hbl, hbA⟩ := id hC
  refine lv_aload_n hx hb dL_law_960 rfl (lv_at hl 3 rfl) ?_
  refine lv_aload_n hx hb dL_law_961 rfl (lv_at hl 4 rfl) ?_
  refine lv_iload hx hb dL_law_962 (lv_at hl 0 rfl) ?_
  refine lv_iconst (v := 1) hx hb dL_law_964 (by decide) ?_
  refine lv_iadd hx hb dL_law_965 ?_
  refine va_sld (i := i + 1) hx hb hX hbl hbA hS (hi 1 (by decide) (by decide)) dL_law_966 ?_
  refine lv_aload_n hx hb dL_law_967 rfl (lv_at hl 1 rfl) ?_
  have hz : ∀ q : Nat, H.size ≤ q → A q := fun q h => hA q (Nat.le_trans hS.1 h)
  obtain ⟨r, k, σ1, o', y, τ1, e1, hr0, e2, ek, eo, ht, hJ1⟩ : ∃ (r : (Int64 × S12) ⊕ (String × S12)) (k : Int32) (σ1 : S12) (o' : Nat → Int64) (y : Int64) (τ1 : S19), df_X12_value n (a 15) (a 3) (xs (Int32.toNatClampNeg (i + 1))) σ = some r ∧ lw_R2 (fun v : Int64 => v) r k σ1 o o' ∧ df_X19_value n (xs (Int32.toNatClampNeg (i + 1))) τ = some (y, τ1) ∧ sI τ1.1 0 = k ∧ (k = 0 → o' (Int32.toNatClampNeg 0) = y) ∧ tp σ1 ≤ tp σ ∧ JJ n σ1 (τ1, x) := lj_value hn hJ o
  refine ldl_S (As := [.ref (a 0), .int (xs (Int32.toNatClampNeg (i + 1))), .ref ao]) (rest := []) (q := k) (w' := dw_HO ao co o' a ac σ1) ⟨hx, hb, hml, hown, hts⟩ (fun sz => dm_L_value l hlt dC dI a ac n ao co (xs (Int32.toNatClampNeg (i + 1))) σ o e1 hr0 sz) (vx_cwSW 3 hts gl_L_value rfl rfl rfl (by decide +kernel) ⟨Nat.le_of_ble_eq_true rfl, Nat.le_of_ble_eq_true rfl⟩) (lwp_h hP) (ldd_h hD) (lk_h hK) hS hA hN.1 hDe rfl hl.1 rfl (Nat.le_of_ble_eq_true rfl) dL_law_968 ⟨by show c1 + 1 ≤ 601024; omega, by show s1 + 6 ≤ 7293034; omega⟩ (fun H1 locs hP1 hD1 hk1 hS => ?_)
  obtain ⟨hP, hD⟩ := lw_h hP hD hz hk1 hP1 hD1
  refine lv_istore (lv' := [(5, .int k), (4, .int i), (3, .ref ao), (2, .ref (a2 0)), (1, .ref (a 0)), (0, .ref bs)]) hx hb dL_law_971 hl (by decide) rfl (fun ls hl => ?_)
  refine lv_aload_n hx hb dL_law_973 rfl (lv_at hl 3 rfl) ?_
  refine lv_aload_n hx hb dL_law_974 rfl (lv_at hl 5 rfl) ?_
  refine lv_iload hx hb dL_law_975 (lv_at hl 1 rfl) ?_
  refine lv_iconst (v := 1) hx hb dL_law_977 (by decide) ?_
  refine lv_iadd hx hb dL_law_978 ?_
  refine va_sld (i := i + 1) hx hb hX hbl hbA hS (hi 1 (by decide) (by decide)) dL_law_979 ?_
  have hz1 : ∀ q : Nat, H1.size ≤ q → A q := fun q h => hA q (Nat.le_trans hS.1 h)
  refine ld_Vl (As := [.int (xs (Int32.toNatClampNeg (i + 1)))]) (rest := []) (q := y) (w' := fun (_ : Unit) => dw_X19 a2 ac2 τ1) ⟨hx, hb, hml, hown, hts⟩ (fun sz => dm_X19_value l hlt dC dI a2 ac2 n (xs (Int32.toNatClampNeg (i + 1))) τ e2 sz) (cwV 1 hts gl_X19_value rfl rfl rfl (by decide +kernel) ⟨Nat.le_of_ble_eq_true rfl, Nat.le_of_ble_eq_true rfl⟩) (lp_19 hP) (ldd_19 hD) (lk_19 hK) hS hA hN.1 (va_recv (lk_19 hK) (lp_19 hP) (ci := 20) (q0 := 0) rfl rfl) rfl hl.1 rfl (Nat.le_of_ble_eq_true rfl) dL_law_980 ⟨by show c1 + 1 + 0 ≤ 601024; omega, by show s1 + 6 + 0 ≤ 7293034; omega⟩ (fun _ H2 locs hP1 hD1 hk1 hS => ?_)
  obtain ⟨hP, hD⟩ := lw_19 hP hD hz1 hk1 hP1 hD1
  refine lv_lstore (lv' := [(6, .long y), (5, .int k), (4, .int i), (3, .ref ao), (2, .ref (a2 0)), (1, .ref (a 0)), (0, .ref bs)]) hx hb dL_law_983 hl (by decide) rfl (fun ls hl => ?_)
  refine lv_aload_n hx hb dL_law_985 rfl (lv_at hl 4 rfl) ?_
  have hz2 : ∀ q : Nat, H2.size ≤ q → A q := fun q h => hA q (Nat.le_trans hS.1 h)
  refine ld_Vi (As := []) (rest := []) (q := k) (w' := fun (_ : Unit) => dw_X19 a2 ac2 (τ1, x).1) ⟨hx, hb, hml, hown, hts⟩ (fun sz => dm_X19_thrown l hlt dC dI a2 ac2 n (τ1, x).1 (r := (k, (τ1, x).1)) (by rw [← ek]; rfl) sz) (cwV 0 hts gl_X19_thrown rfl rfl rfl (by decide +kernel) ⟨Nat.le_of_ble_eq_true rfl, Nat.le_of_ble_eq_true rfl⟩) (lp_19 hP) (ldd_19 hD) (lk_19 hK) hS hA hN.1 (va_recv (lk_19 hK) (lp_19 hP) (ci := 20) (q0 := 0) rfl rfl) rfl hl.1 rfl (Nat.le_of_ble_eq_true rfl) dL_law_986 ⟨by show c1 + 1 + 0 + 0 ≤ 601024; omega, by show s1 + 6 + 0 + 0 ≤ 7293034; omega⟩ (fun _ H3 locs hP1 hD1 hk1 hS => ?_)
  obtain ⟨hP, hD⟩ := lw_19 hP hD hz2 hk1 hP1 hD1
  refine lv_iload hx hb dL_law_989 (lv_at hl 1 rfl) ?_
  refine lv_icmp_eq (tgt := 996) hx hb dL_law_991 (by decide) (fun _ => ?_) (fun h9 => absurd rfl h9)
  refine lv_iload hx hb dL_law_996 (lv_at hl 1 rfl) ?_
  refine lv_if_ne (tgt := 1012) hx hb dL_law_998 (by decide) (fun _ => ?_) (fun h9 => ?_)
  · refine lv_goto (tgt := 1493) hx hb dL_law_1012 (by decide) ?_
    exact K v σ1 β (τ1, x) o' _ _ _ _ _ hJ1 hB (by omega) (by omega) hP hD hS (lv_sub hl [2, 3, 4, 5, 6] rfl)
  · refine lv_aload_n hx hb dL_law_1001 rfl (lv_at hl 3 rfl) ?_
    refine lv_iconst (v := 0) hx hb dL_law_1002 (by decide) ?_
    refine va_lald (i := 0) hx hb hK hP 0 0 rfl rfl (vp_in_iff.mpr ⟨by decide, by decide⟩) dL_law_1003 ?_
    have eo := eo h9
    rw [eo]
    refine lv_lload hx hb dL_law_1004 (lv_at hl 0 rfl) ?_
    refine W.lcmp hx hb dL_law_1006 ?_
    refine lv_if_eq (tgt := 1012) hx hb dL_law_1007 (by decide) (fun _ => ?_) (fun h8 => absurd ((lg_cmp_eq _ _).mpr rfl) h8)
    refine lv_goto (tgt := 1493) hx hb dL_law_1012 (by decide) ?_
    exact K v σ1 β (τ1, x) o' _ _ _ _ _ hJ1 hB (by omega) (by omega) hP hD hS (lv_sub hl [2, 3, 4, 5, 6] rfl)

set_option maxHeartbeats 40000000 in
set_option maxRecDepth 100000 in
theorem law_c18 {p : Program} {l : Launch} {e : Env} {s : State} {m : MethodId} {below : List Frame} {meth : Method} {c : Code} {Q : State → Prop} {A : Nat → Prop} {dC : Nat → ClassId} {dI : Nat → Nat → Nat} {bs L n : Nat} {xs : Nat → Int32} {ao : Nat} {co : ClassId} {a a2 : Nat → Nat} {ac acB ac2 : Nat → ClassId} (hC : lw_C p l s m c A dC dI bs L xs co ac acB ac2) (hn : 70000 < n) (i : Int32) (hi : ∀ j : Int32, 0 ≤ j → j ≤ 5 → vp_in (i + j) L) {C1 S1 : Nat} (hC1 : C1 ≤ 601024) (hS1 : S1 ≤ 7293034) (K : lw_K p l e s m below meth c Q A dC dI bs n ao co a a2 ac acB ac2 i C1 S1) {v : Nat} {σ : S12} {β : Sb} {τ : S19} {x : Lb} {o : Nat → Int64} {c1 s1 : Nat} {H : Heap} {locs : List Loc} {ls : Array Slot} (hJ : JJ n σ (τ, x)) (hB : BW β) (b1 : c1 + 3 ≤ C1) (b2 : s1 + tp σ + 100 ≤ S1) (hP : va_P (dC, dI) vwCl (dw_LW ao co a a2 ac acB ac2 v σ β (τ, x) o) H) (hD : va_D A (dw_LW ao co a a2 ac acB ac2 v σ β (τ, x) o)) (hS : va_S A s.heap H locs) (hl : lv_has ls 8 [(4, .int i), (3, .ref ao), (2, .ref (a2 0)), (1, .ref (a 0)), (0, .ref bs)]) : W p l e room_1 s m #[Value.ref bs] below meth c H locs c1 s1 Q (F0 m 1015 ls []) := by
  obtain ⟨hlt, hx, hb, hml, hown, hts, hN, hA, hDe, hK, hX, hbl, hbA⟩ := id hC
  refine lv_aload_n hx hb dL_law_1015 rfl (lv_at hl 3 rfl) ?_
  refine lv_aload_n hx hb dL_law_1016 rfl (lv_at hl 4 rfl) ?_
  refine lv_iload hx hb dL_law_1017 (lv_at hl 0 rfl) ?_
  refine lv_iconst (v := 1) hx hb dL_law_1019 (by decide) ?_
  refine lv_iadd hx hb dL_law_1020 ?_
  refine va_sld (i := i + 1) hx hb hX hbl hbA hS (hi 1 (by decide) (by decide)) dL_law_1021 ?_
  refine lv_aload_n hx hb dL_law_1022 rfl (lv_at hl 1 rfl) ?_
  have hz : ∀ q : Nat, H.size ≤ q → A q := fun q h => hA q (Nat.le_trans hS.1 h)
  obtain ⟨r, k, σ1, o', y, τ1, e1, hr0, e2, ek, eo, ht, hJ1⟩ : ∃ (r : (Int32 × S12) ⊕ (String × S12)) (k : Int32) (σ1 : S12) (o' : Nat → Int64) (y : Int32) (τ1 : S19), df_X12_backTo n (a 15) (a 3) (xs (Int32.toNatClampNeg (i + 1))) σ = some r ∧ lw_R2 Int32.toInt64 r k σ1 o o' ∧ df_X19_backTo n (xs (Int32.toNatClampNeg (i + 1))) τ = some (y, τ1) ∧ sI τ1.1 0 = k ∧ (k = 0 → o' (Int32.toNatClampNeg 0) = y.toInt64) ∧ tp σ1 ≤ tp σ ∧ JJ n σ1 (τ1, x) := lj_backTo hn hJ o
  refine ldl_S (As := [.ref (a 0), .int (xs (Int32.toNatClampNeg (i + 1))), .ref ao]) (rest := []) (q := k) (w' := dw_HO ao co o' a ac σ1) ⟨hx, hb, hml, hown, hts⟩ (fun sz => dm_L_backTo l hlt dC dI a ac n ao co (xs (Int32.toNatClampNeg (i + 1))) σ o e1 hr0 sz) (vx_cwSW 3 hts gl_L_backTo rfl rfl rfl (by decide +kernel) ⟨Nat.le_of_ble_eq_true rfl, Nat.le_of_ble_eq_true rfl⟩) (lwp_h hP) (ldd_h hD) (lk_h hK) hS hA hN.1 hDe rfl hl.1 rfl (Nat.le_of_ble_eq_true rfl) dL_law_1023 ⟨by show c1 + 1 ≤ 601024; omega, by show s1 + 6 ≤ 7293034; omega⟩ (fun H1 locs hP1 hD1 hk1 hS => ?_)
  obtain ⟨hP, hD⟩ := lw_h hP hD hz hk1 hP1 hD1
  refine lv_istore (lv' := [(5, .int k), (4, .int i), (3, .ref ao), (2, .ref (a2 0)), (1, .ref (a 0)), (0, .ref bs)]) hx hb dL_law_1026 hl (by decide) rfl (fun ls hl => ?_)
  refine lv_aload_n hx hb dL_law_1028 rfl (lv_at hl 3 rfl) ?_
  refine lv_aload_n hx hb dL_law_1029 rfl (lv_at hl 5 rfl) ?_
  refine lv_iload hx hb dL_law_1030 (lv_at hl 1 rfl) ?_
  refine lv_iconst (v := 1) hx hb dL_law_1032 (by decide) ?_
  refine lv_iadd hx hb dL_law_1033 ?_
  refine va_sld (i := i + 1) hx hb hX hbl hbA hS (hi 1 (by decide) (by decide)) dL_law_1034 ?_
  have hz1 : ∀ q : Nat, H1.size ≤ q → A q := fun q h => hA q (Nat.le_trans hS.1 h)
  refine ld_Vi (As := [.int (xs (Int32.toNatClampNeg (i + 1)))]) (rest := []) (q := y) (w' := fun (_ : Unit) => dw_X19 a2 ac2 τ1) ⟨hx, hb, hml, hown, hts⟩ (fun sz => dm_X19_backTo l hlt dC dI a2 ac2 n (xs (Int32.toNatClampNeg (i + 1))) τ e2 sz) (cwV 1 hts gl_X19_backTo rfl rfl rfl (by decide +kernel) ⟨Nat.le_of_ble_eq_true rfl, Nat.le_of_ble_eq_true rfl⟩) (lp_19 hP) (ldd_19 hD) (lk_19 hK) hS hA hN.1 (va_recv (lk_19 hK) (lp_19 hP) (ci := 20) (q0 := 0) rfl rfl) rfl hl.1 rfl (Nat.le_of_ble_eq_true rfl) dL_law_1035 ⟨by show c1 + 1 + 0 ≤ 601024; omega, by show s1 + 6 + 0 ≤ 7293034; omega⟩ (fun _ H2 locs hP1 hD1 hk1 hS => ?_)
  obtain ⟨hP, hD⟩ := lw_19 hP hD hz1 hk1 hP1 hD1
  refine lv_istore (lv' := [(6, .int y), (5, .int k), (4, .int i), (3, .ref ao), (2, .ref (a2 0)), (1, .ref (a 0)), (0, .ref bs)]) hx hb dL_law_1038 hl (by decide) rfl (fun ls hl => ?_)
  refine lv_aload_n hx hb dL_law_1040 rfl (lv_at hl 4 rfl) ?_
  have hz2 : ∀ q : Nat, H2.size ≤ q → A q := fun q h => hA q (Nat.le_trans hS.1 h)
  refine ld_Vi (As := []) (rest := []) (q := k) (w' := fun (_ : Unit) => dw_X19 a2 ac2 (τ1, x).1) ⟨hx, hb, hml, hown, hts⟩ (fun sz => dm_X19_thrown l hlt dC dI a2 ac2 n (τ1, x).1 (r := (k, (τ1, x).1)) (by rw [← ek]; rfl) sz) (cwV 0 hts gl_X19_thrown rfl rfl rfl (by decide +kernel) ⟨Nat.le_of_ble_eq_true rfl, Nat.le_of_ble_eq_true rfl⟩) (lp_19 hP) (ldd_19 hD) (lk_19 hK) hS hA hN.1 (va_recv (lk_19 hK) (lp_19 hP) (ci := 20) (q0 := 0) rfl rfl) rfl hl.1 rfl (Nat.le_of_ble_eq_true rfl) dL_law_1041 ⟨by show c1 + 1 + 0 + 0 ≤ 601024; omega, by show s1 + 6 + 0 + 0 ≤ 7293034; omega⟩ (fun _ H3 locs hP1 hD1 hk1 hS => ?_)
  obtain ⟨hP, hD⟩ := lw_19 hP hD hz2 hk1 hP1 hD1
  refine lv_iload hx hb dL_law_1044 (lv_at hl 1 rfl) ?_
  refine lv_icmp_eq (tgt := 1051) hx hb dL_law_1046 (by decide) (fun _ => ?_) (fun h9 => absurd rfl h9)
  refine lv_iload hx hb dL_law_1051 (lv_at hl 1 rfl) ?_
  refine lv_if_ne (tgt := 1068) hx hb dL_law_1053 (by decide) (fun _ => ?_) (fun h9 => ?_)
  · refine lv_goto (tgt := 1493) hx hb dL_law_1068 (by decide) ?_
    exact K v σ1 β (τ1, x) o' _ _ _ _ _ hJ1 hB (by omega) (by omega) hP hD hS (lv_sub hl [2, 3, 4, 5, 6] rfl)
  · refine lv_aload_n hx hb dL_law_1056 rfl (lv_at hl 3 rfl) ?_
    refine lv_iconst (v := 0) hx hb dL_law_1057 (by decide) ?_
    refine va_lald (i := 0) hx hb hK hP 0 0 rfl rfl (vp_in_iff.mpr ⟨by decide, by decide⟩) dL_law_1058 ?_
    have eo := eo h9
    rw [eo]
    refine lv_iload hx hb dL_law_1059 (lv_at hl 0 rfl) ?_
    refine lv_i2l hx hb dL_law_1061 rfl ?_
    refine W.lcmp hx hb dL_law_1062 ?_
    refine lv_if_eq (tgt := 1068) hx hb dL_law_1063 (by decide) (fun _ => ?_) (fun h8 => absurd ((lg_cmp_eq _ _).mpr rfl) h8)
    refine lv_goto (tgt := 1493) hx hb dL_law_1068 (by decide) ?_
    exact K v σ1 β (τ1, x) o' _ _ _ _ _ hJ1 hB (by omega) (by omega) hP hD hS (lv_sub hl [2, 3, 4, 5, 6] rfl)

set_option maxHeartbeats 40000000 in
set_option maxRecDepth 100000 in
theorem law_c19 {p : Program} {l : Launch} {e : Env} {s : State} {m : MethodId} {below : List Frame} {meth : Method} {c : Code} {Q : State → Prop} {A : Nat → Prop} {dC : Nat → ClassId} {dI : Nat → Nat → Nat} {bs L n : Nat} {xs : Nat → Int32} {ao : Nat} {co : ClassId} {a a2 : Nat → Nat} {ac acB ac2 : Nat → ClassId} (hC : lw_C p l s m c A dC dI bs L xs co ac acB ac2) (hn : 70000 < n) (i : Int32) (hi : ∀ j : Int32, 0 ≤ j → j ≤ 5 → vp_in (i + j) L) {C1 S1 : Nat} (hC1 : C1 ≤ 601024) (hS1 : S1 ≤ 7293034) (K : lw_K p l e s m below meth c Q A dC dI bs n ao co a a2 ac acB ac2 i C1 S1) {v : Nat} {σ : S12} {β : Sb} {τ : S19} {x : Lb} {o : Nat → Int64} {c1 s1 : Nat} {H : Heap} {locs : List Loc} {ls : Array Slot} (hJ : JJ n σ (τ, x)) (hB : BW β) (b1 : c1 + 3 ≤ C1) (b2 : s1 + tp σ + 100 ≤ S1) (hP : va_P (dC, dI) vwCl (dw_LW ao co a a2 ac acB ac2 v σ β (τ, x) o) H) (hD : va_D A (dw_LW ao co a a2 ac acB ac2 v σ β (τ, x) o)) (hS : va_S A s.heap H locs) (hl : lv_has ls 8 [(4, .int i), (3, .ref ao), (2, .ref (a2 0)), (1, .ref (a 0)), (0, .ref bs)]) : W p l e room_1 s m #[Value.ref bs] below meth c H locs c1 s1 Q (F0 m 1071 ls []) := by
  obtain ⟨hlt, hx, hb, hml, hown, hts, hN, hA, hDe, hK, hX, hbl, hbA⟩ := id hC
  refine lv_aload_n hx hb dL_law_1071 rfl (lv_at hl 3 rfl) ?_
  refine lv_aload_n hx hb dL_law_1072 rfl (lv_at hl 4 rfl) ?_
  refine lv_iload hx hb dL_law_1073 (lv_at hl 0 rfl) ?_
  refine lv_iconst (v := 1) hx hb dL_law_1075 (by decide) ?_
  refine lv_iadd hx hb dL_law_1076 ?_
  refine va_sld (i := i + 1) hx hb hX hbl hbA hS (hi 1 (by decide) (by decide)) dL_law_1077 ?_
  refine lv_aload_n hx hb dL_law_1078 rfl (lv_at hl 4 rfl) ?_
  refine lv_iload hx hb dL_law_1079 (lv_at hl 0 rfl) ?_
  refine lv_iconst (v := 2) hx hb dL_law_1081 (by decide) ?_
  refine lv_iadd hx hb dL_law_1082 ?_
  refine va_sld (i := i + 2) hx hb hX hbl hbA hS (hi 2 (by decide) (by decide)) dL_law_1083 ?_
  have hz : ∀ q : Nat, H.size ≤ q → A q := fun q h => hA q (Nat.le_trans hS.1 h)
  obtain ⟨y, σ1, τ1, e1, e2, hJ1⟩ := jj_wrote n (a 15) (a 3) hn (xs (Int32.toNatClampNeg (i + 1))) (xs (Int32.toNatClampNeg (i + 2))) hJ
  have ht : tp σ1 ≤ tp σ + 20 := tq_wrote hn e1 hJ
  refine ld_Vi (As := [.int (xs (Int32.toNatClampNeg (i + 1))), .int (xs (Int32.toNatClampNeg (i + 2)))]) (rest := []) (q := y) (w' := fun (_ : Unit) => dw_X12 a ac σ1) ⟨hx, hb, hml, hown, hts⟩ (fun sz => dm_X12_wrote l hlt dC dI a ac n (xs (Int32.toNatClampNeg (i + 1))) (xs (Int32.toNatClampNeg (i + 2))) σ e1 sz) (cwV 2 hts gl_X12_wrote rfl rfl rfl (by decide +kernel) ⟨Nat.le_of_ble_eq_true rfl, Nat.le_of_ble_eq_true rfl⟩) (lp_12 hP) (ldd_12 hD) (lk_12 hK) hS hA hN.1 (va_recv (lk_12 hK) (lp_12 hP) (ci := 13) (q0 := 0) rfl rfl) rfl hl.1 rfl (Nat.le_of_ble_eq_true rfl) dL_law_1084 ⟨by show c1 + 0 ≤ 601024; omega, by show s1 + 0 ≤ 7293034; omega⟩ (fun _ H1 locs hP1 hD1 hk1 hS => ?_)
  obtain ⟨hP, hD⟩ := lw_12 hP hD hz hk1 hP1 hD1
  refine lv_aload_n hx hb dL_law_1087 rfl (lv_at hl 2 rfl) ?_
  refine lv_aload_n hx hb dL_law_1088 rfl (lv_at hl 4 rfl) ?_
  refine lv_iload hx hb dL_law_1089 (lv_at hl 0 rfl) ?_
  refine lv_iconst (v := 1) hx hb dL_law_1091 (by decide) ?_
  refine lv_iadd hx hb dL_law_1092 ?_
  refine va_sld (i := i + 1) hx hb hX hbl hbA hS (hi 1 (by decide) (by decide)) dL_law_1093 ?_
  refine lv_aload_n hx hb dL_law_1094 rfl (lv_at hl 4 rfl) ?_
  refine lv_iload hx hb dL_law_1095 (lv_at hl 0 rfl) ?_
  refine lv_iconst (v := 2) hx hb dL_law_1097 (by decide) ?_
  refine lv_iadd hx hb dL_law_1098 ?_
  refine va_sld (i := i + 2) hx hb hX hbl hbA hS (hi 2 (by decide) (by decide)) dL_law_1099 ?_
  have hz1 : ∀ q : Nat, H1.size ≤ q → A q := fun q h => hA q (Nat.le_trans hS.1 h)
  refine ld_Vi (As := [.int (xs (Int32.toNatClampNeg (i + 1))), .int (xs (Int32.toNatClampNeg (i + 2)))]) (rest := [.int y]) (q := y) (w' := fun (_ : Unit) => dw_X19 a2 ac2 τ1) ⟨hx, hb, hml, hown, hts⟩ (fun sz => dm_X19_wrote l hlt dC dI a2 ac2 n (xs (Int32.toNatClampNeg (i + 1))) (xs (Int32.toNatClampNeg (i + 2))) τ e2 sz) (cwV 2 hts gl_X19_wrote rfl rfl rfl (by decide +kernel) ⟨Nat.le_of_ble_eq_true rfl, Nat.le_of_ble_eq_true rfl⟩) (lp_19 hP) (ldd_19 hD) (lk_19 hK) hS hA hN.1 (va_recv (lk_19 hK) (lp_19 hP) (ci := 20) (q0 := 0) rfl rfl) rfl hl.1 rfl (Nat.le_of_ble_eq_true rfl) dL_law_1100 ⟨by show c1 + 0 + 0 ≤ 601024; omega, by show s1 + 0 + 0 ≤ 7293034; omega⟩ (fun _ H2 locs hP1 hD1 hk1 hS => ?_)
  obtain ⟨hP, hD⟩ := lw_19 hP hD hz1 hk1 hP1 hD1
  refine lv_icmp_eq (tgt := 1493) hx hb dL_law_1103 (by decide) (fun _ => ?_) (fun h9 => absurd rfl h9)
  exact K v σ1 β (τ1, x) o _ _ _ _ _ hJ1 hB (by omega) (by omega) hP hD hS hl

