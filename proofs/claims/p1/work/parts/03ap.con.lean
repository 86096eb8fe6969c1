set_option maxHeartbeats 40000000 in
set_option maxRecDepth 100000 in
theorem k_X19_feed (l : Launch) (hlt : l.stackTraces = false) (dC : Nat → ClassId) (dI : Nat → Nat → Nat) (c0 : Nat) (c1 : Nat) (c2 : ClassId) (c3 : Int32) (c4 : Int32) (c5 : Int32) (c6 : Int32) (c7 : Int32) (c8 : Nat) (c9 : Nat) (c10 : Nat) (c11 : Nat) (c12 : Nat) (c13 : Nat) (c14 : Nat) (c15 : Nat) (c16 : Nat) (c17 : Nat) (c18 : Nat) (c19 : Nat) (c20 : Nat) (c21 : Nat) (c22 : Nat) (c23 : Nat) (c24 : Nat) (c25 : Nat) (c26 : Nat) (c27 : Nat) (c28 : Nat) (c29 : Nat) (sz : Nat) : Met l yX19_feed ow_k_X19_feed ({ frames := 0, cells := 0, slots := 0, locals := 0 }) (va_Pc [.ref c0, .int c3, .int c4, .int c5, .int c6, .int c7] (fun U => U.heap.size = sz ∧ va_P (dC, dI) vwCl [(c0, .inr (20, [.int 0, .ref c1, .int 0, .int 0, .ref c8, .ref c9, .ref c10, .ref c11, .ref c12, .ref c13, .ref c14, .ref c15, .ref c16, .ref c17, .ref c18, .ref c19, .ref c20, .int 0, .int 0, .int 0, .int 0, .int 0, .int 0, .int 0, .int 0, .int 0, .ref c21, .ref c22, .ref c23, .ref c24, .ref c25, .ref c26, .ref c27, .ref c28, .ref c29, .int 0])), (c1, .inl (c2, 32768, .inl (fun _ => 0)))] U.heap ∧ va_K (dC, dI) vwCl [(c2, .int)] U ∧ va_D (fun _ => True) [(c0, .inr (20, [.int 0, .ref c1, .int 0, .int 0, .ref c8, .ref c9, .ref c10, .ref c11, .ref c12, .ref c13, .ref c14, .ref c15, .ref c16, .ref c17, .ref c18, .ref c19, .ref c20, .int 0, .int 0, .int 0, .int 0, .int 0, .int 0, .int 0, .int 0, .int 0, .ref c21, .ref c22, .ref c23, .ref c24, .ref c25, .ref c26, .ref c27, .ref c28, .ref c29, .int 0])), (c1, .inl (c2, 32768, .inl (fun _ => 0)))] ∧ nv_E (va_A [(c0, .inr (20, [.int 0, .ref c1, .int 0, .int 0, .ref c8, .ref c9, .ref c10, .ref c11, .ref c12, .ref c13, .ref c14, .ref c15, .ref c16, .ref c17, .ref c18, .ref c19, .ref c20, .int 0, .int 0, .int 0, .int 0, .int 0, .int 0, .int 0, .int 0, .int 0, .ref c21, .ref c22, .ref c23, .ref c24, .ref c25, .ref c26, .ref c27, .ref c28, .ref c29, .int 0])), (c1, .inl (c2, 32768, .inl (fun _ => 0)))] sz) U)) (va_Qi (fun r _ => r = 20) (fun (_ : Unit) t => ∃ (f140 : Nat → Int32), va_P (dC, dI) vwCl [(c0, .inr (20, [.int 0, .ref c1, .int 20, .int 1, .ref c8, .ref c9, .ref c10, .ref c11, .ref c12, .ref c13, .ref c14, .ref c15, .ref c16, .ref c17, .ref c18, .ref c19, .ref c20, .int 0, .int 0, .int 0, .int 0, .int 0, .int 0, .int 0, .int 0, .int 0, .ref c21, .ref c22, .ref c23, .ref c24, .ref c25, .ref c26, .ref c27, .ref c28, .ref c29, .int 0])), (c1, .inl (c2, 32768, .inl f140))] t.heap ∧ va_K (dC, dI) vwCl [(c2, .int)] t ∧ va_D (va_A [(c0, .inr (20, [.int 0, .ref c1, .int 0, .int 0, .ref c8, .ref c9, .ref c10, .ref c11, .ref c12, .ref c13, .ref c14, .ref c15, .ref c16, .ref c17, .ref c18, .ref c19, .ref c20, .int 0, .int 0, .int 0, .int 0, .int 0, .int 0, .int 0, .int 0, .int 0, .ref c21, .ref c22, .ref c23, .ref c24, .ref c25, .ref c26, .ref c27, .ref c28, .ref c29, .int 0])), (c1, .inl (c2, 32768, .inl (fun _ => 0)))] sz) [(c0, .inr (20, [.int 0, .ref c1, .int 20, .int 1, .ref c8, .ref c9, .ref c10, .ref c11, .ref c12, .ref c13, .ref c14, .ref c15, .ref c16, .ref c17, .ref c18, .ref c19, .ref c20, .int 0, .int 0, .int 0, .int 0, .int 0, .int 0, .int 0, .int 0, .int 0, .ref c21, .ref c22, .ref c23, .ref c24, .ref c25, .ref c26, .ref c27, .ref c28, .ref c29, .int 0])), (c1, .inl (c2, 32768, .inl f140))]) (va_A [(c0, .inr (20, [.int 0, .ref c1, .int 0, .int 0, .ref c8, .ref c9, .ref c10, .ref c11, .ref c12, .ref c13, .ref c14, .ref c15, .ref c16, .ref c17, .ref c18, .ref c19, .ref c20, .int 0, .int 0, .int 0, .int 0, .int 0, .int 0, .int 0, .int 0, .int 0, .ref c21, .ref c22, .ref c23, .ref c24, .ref c25, .ref c26, .ref c27, .ref c28, .ref c29, .int 0])), (c1, .inl (c2, 32768, .inl (fun _ => 0)))] sz)) 0 0 (va_A [(c0, .inr (20, [.int 0, .ref c1, .int 0, .int 0, .ref c8, .ref c9, .ref c10, .ref c11, .ref c12, .ref c13, .ref c14, .ref c15, .ref c16, .ref c17, .ref c18, .ref c19, .ref c20, .int 0, .int 0, .int 0, .int 0, .int 0, .int 0, .int 0, .int 0, .int 0, .ref c21, .ref c22, .ref c23, .ref c24, .ref c25, .ref c26, .ref c27, .ref c28, .ref c29, .int 0])), (c1, .inl (c2, 32768, .inl (fun _ => 0)))] sz) := by
  refine Met.ofW (cc := cX19_feed) (maxL := 8) (ret := (some .int)) (by decide) rfl ?_
  intro p e s m args below meth c s₁ B hml hv
  obtain ⟨rfl, hsz, hP, hK, hD0, hN⟩ := hv
  have hx := B.exec
  have hb := B.bytes
  have hr := B.returns
  have hts := atoms_spec (ws := ow_k_X19_feed) B.pre
  have hown : s.vm.findClass RX19 = some m.cls := findClass_of_methodNamed B.named
  have hlocks := B.notSynchronized
  subst hsz
  have hD := hD0.self (sz := s.heap.size)
  generalize hAe : va_A [(c0, .inr (20, [.int 0, .ref c1, .int 0, .int 0, .ref c8, .ref c9, .ref c10, .ref c11, .ref c12, .ref c13, .ref c14, .ref c15, .ref c16, .ref c17, .ref c18, .ref c19, .ref c20, .int 0, .int 0, .int 0, .int 0, .int 0, .int 0, .int 0, .int 0, .int 0, .ref c21, .ref c22, .ref c23, .ref c24, .ref c25, .ref c26, .ref c27, .ref c28, .ref c29, .int 0])), (c1, .inl (c2, 32768, .inl (fun _ => 0)))] s.heap.size = A at hD hN ⊢
  have hA : ∀ q : Nat, s.heap.size ≤ q → A q := fun q h => by rw [← hAe]; exact Or.inr h
  have hS : va_S A s.heap s.heap [] := va_S.rf
  have hl := lv_entry ([.ref c0, .int c3, .int c4, .int c5, .int c6, .int c7]) (n := 8) (Nat.le_of_ble_eq_true rfl)
  rw [lg_entry_eq]
  generalize (lg_sl ([.ref c0, .int c3, .int c4, .int c5, .int c6, .int c7]) ++ List.replicate (8 - (lg_sl ([.ref c0, .int c3, .int c4, .int c5, .int c6, .int c7])).length) Slot.unset).toArray = ls at hl ⊢
  have hl : lv_has ls 8 [(0, .ref c0), (1, .int c3), (2, .int c4), (3, .int c5), (4, .int c6), (5, .int c7)] := hl
  refine k_X19_feed_s0 dC dI c0 c1 c2 c3 c4 c5 c6 c7 c8 c9 c10 c11 c12 c13 c14 c15 c16 c17 c18 c19 c20 c21 c22 c23 c24 c25 c26 c27 c28 c29 hlt hx hb hml hown hts hN hA hK hP hD hS hl (fun f14 H locs ls hK hP hD hS hl => ?_)
  refine k_X19_feed_s1 dC dI c0 c1 c2 c3 c4 c5 c6 c7 c8 c9 c10 c11 c12 c13 c14 c15 c16 c17 c18 c19 c20 c21 c22 c23 c24 c25 c26 c27 c28 c29 f14 hlt hx hb hml hown hts hN hA hK hP hD hS hl (fun f35 H locs ls hK hP hD hS hl => ?_)
  refine k_X19_feed_s2 dC dI c0 c1 c2 c3 c4 c5 c6 c7 c8 c9 c10 c11 c12 c13 c14 c15 c16 c17 c18 c19 c20 c21 c22 c23 c24 c25 c26 c27 c28 c29 f35 hlt hx hb hml hown hts hN hA hK hP hD hS hl (fun f49 H locs ls hK hP hD hS hl => ?_)
  refine k_X19_feed_s3 dC dI c0 c1 c2 c3 c4 c5 c6 c7 c8 c9 c10 c11 c12 c13 c14 c15 c16 c17 c18 c19 c20 c21 c22 c23 c24 c25 c26 c27 c28 c29 f49 hlt hx hb hml hown hts hN hA hK hP hD hS hl (fun f70 H locs ls hK hP hD hS hl => ?_)
  refine k_X19_feed_s4 dC dI c0 c1 c2 c3 c4 c5 c6 c7 c8 c9 c10 c11 c12 c13 c14 c15 c16 c17 c18 c19 c20 c21 c22 c23 c24 c25 c26 c27 c28 c29 f70 hlt hx hb hml hown hts hN hA hK hP hD hS hl (fun f84 H locs ls hK hP hD hS hl => ?_)
  refine k_X19_feed_s5 dC dI c0 c1 c2 c3 c4 c5 c6 c7 c8 c9 c10 c11 c12 c13 c14 c15 c16 c17 c18 c19 c20 c21 c22 c23 c24 c25 c26 c27 c28 c29 f84 hlt hx hb hml hown hts hN hA hK hP hD hS hl (fun f98 H locs ls hK hP hD hS hl => ?_)
  refine k_X19_feed_s6 dC dI c0 c1 c2 c3 c4 c5 c6 c7 c8 c9 c10 c11 c12 c13 c14 c15 c16 c17 c18 c19 c20 c21 c22 c23 c24 c25 c26 c27 c28 c29 f98 hlt hx hb hml hown hts hN hA hK hP hD hS hl (fun f112 H locs ls hK hP hD hS hl => ?_)
  refine k_X19_feed_s7 dC dI c0 c1 c2 c3 c4 c5 c6 c7 c8 c9 c10 c11 c12 c13 c14 c15 c16 c17 c18 c19 c20 c21 c22 c23 c24 c25 c26 c27 c28 c29 f112 hlt hx hb hml hown hts hN hA hK hP hD hS hl (fun f126 H locs ls hK hP hD hS hl => ?_)
  refine lv_imul hx hb dX19_feed_95 ?_
  refine lv_topi (fun z129 ez129 => ?_)
  obtain rfl : z129 = 16 := ez129.trans (by decide)
  refine lv_isub hx hb dX19_feed_96 ?_
  refine lv_topi (fun z130 ez130 => ?_)
  obtain rfl : z130 = 8 := ez130.trans (by decide)
  refine lv_ishr hx hb dX19_feed_97 ?_
  refine lv_topi (fun z131 ez131 => ?_)
  refine lv_sipush (v := 255) hx hb dX19_feed_98 (by decide) ?_
  refine lv_iand hx hb dX19_feed_101 ?_
  refine lv_topi (fun z132 ez132 => ?_)
  refine va_iast (i := 18) (x := z132) hx hb hK hP hD hS 1 0 rfl rfl (vp_in_iff.mpr ⟨by decide, by decide⟩) dX19_feed_102 (fun H locs hP hD hS => ?_)
  generalize hf133 : upd f126 (Int32.toNatClampNeg 18) z132 = f133 at hP hD
  have hP : va_P (dC, dI) vwCl [(c0, .inr (20, [.int 0, .ref c1, .int 18, .int 0, .ref c8, .ref c9, .ref c10, .ref c11, .ref c12, .ref c13, .ref c14, .ref c15, .ref c16, .ref c17, .ref c18, .ref c19, .ref c20, .int 0, .int 0, .int 0, .int 0, .int 0, .int 0, .int 0, .int 0, .int 0, .ref c21, .ref c22, .ref c23, .ref c24, .ref c25, .ref c26, .ref c27, .ref c28, .ref c29, .int 0])), (c1, .inl (c2, 32768, .inl f133))] H := hP
  have hD : va_D A [(c0, .inr (20, [.int 0, .ref c1, .int 18, .int 0, .ref c8, .ref c9, .ref c10, .ref c11, .ref c12, .ref c13, .ref c14, .ref c15, .ref c16, .ref c17, .ref c18, .ref c19, .ref c20, .int 0, .int 0, .int 0, .int 0, .int 0, .int 0, .int 0, .int 0, .int 0, .ref c21, .ref c22, .ref c23, .ref c24, .ref c25, .ref c26, .ref c27, .ref c28, .ref c29, .int 0])), (c1, .inl (c2, 32768, .inl f133))] := hD
  refine lv_aload_n hx hb dX19_feed_103 rfl (lv_at hl 2 rfl) ?_
  refine lv_dup hx hb dX19_feed_104 rfl ?_
  refine va_get (D := (dC, dI)) (ci := 20) (v := .int 18) (C := RX19) (T := TX19) (N := 36) hx hb hts hi_k_X19_feed_X19 hown hK hP 0 rfl rfl 2 (by decide) (hts (.fieldLink RX19 117 "TimeMachineModel" "taped" "I") (List.mem_of_getElem? (i := 2) rfl)) (fun _ h9 => h9) rfl dX19_feed_105 ?_
  refine lv_iconst (v := 1) hx hb dX19_feed_108 (by decide) ?_
  refine lv_iadd hx hb dX19_feed_109 ?_
  refine lv_topi (fun z134 ez134 => ?_)
  obtain rfl : z134 = 19 := ez134.trans (by decide)
  refine va_put (D := (dC, dI)) (ci := 20) (v := .int 19) (ty := .int) (C := RX19) (T := TX19) (N := 36) hx hb hts hi_k_X19_feed_X19 tyX19 tyX19_ok nmX19 hown hK hP hD hS 0 rfl rfl 2 (by decide) (hts (.fieldLink RX19 117 "TimeMachineModel" "taped" "I") (List.mem_of_getElem? (i := 2) rfl)) (fun _ h9 => h9) rfl (by decide +kernel) rfl rfl (Nat.le_of_ble_eq_true rfl) dX19_feed_110 (fun H locs hP hD hS => ?_)
  have hP : va_P (dC, dI) vwCl [(c0, .inr (20, [.int 0, .ref c1, .int 19, .int 0, .ref c8, .ref c9, .ref c10, .ref c11, .ref c12, .ref c13, .ref c14, .ref c15, .ref c16, .ref c17, .ref c18, .ref c19, .ref c20, .int 0, .int 0, .int 0, .int 0, .int 0, .int 0, .int 0, .int 0, .int 0, .ref c21, .ref c22, .ref c23, .ref c24, .ref c25, .ref c26, .ref c27, .ref c28, .ref c29, .int 0])), (c1, .inl (c2, 32768, .inl f133))] H := hP
  have hD : va_D A [(c0, .inr (20, [.int 0, .ref c1, .int 19, .int 0, .ref c8, .ref c9, .ref c10, .ref c11, .ref c12, .ref c13, .ref c14, .ref c15, .ref c16, .ref c17, .ref c18, .ref c19, .ref c20, .int 0, .int 0, .int 0, .int 0, .int 0, .int 0, .int 0, .int 0, .int 0, .ref c21, .ref c22, .ref c23, .ref c24, .ref c25, .ref c26, .ref c27, .ref c28, .ref c29, .int 0])), (c1, .inl (c2, 32768, .inl f133))] := hD
  refine lv_iinc (v := 19) (lv' := [(6, .int 19), (7, .int c7), (0, .ref c0), (1, .int c3), (2, .int c4), (3, .int c5), (4, .int c6), (5, .int c7)]) hx hb dX19_feed_113 hl (k := 1) rfl (by decide) (by decide) rfl (fun ls hl => ?_)
  refine lv_goto (tgt := 22) hx hb dX19_feed_116 (by decide) ?_
  refine lv_iload hx hb dX19_feed_22 (lv_at hl 0 rfl) ?_
  refine lv_bipush (v := 20) hx hb dX19_feed_24 (by decide) ?_
  refine lv_icmp_ge (tgt := 119) hx hb dX19_feed_26 (by decide) (fun h9 => absurd h9 (by decide)) (fun _ => ?_)
  refine lv_iload hx hb dX19_feed_29 (lv_at hl 0 rfl) ?_
  refine lv_iconst (v := 4) hx hb dX19_feed_31 (by decide) ?_
  refine lv_icmp_ge (tgt := 39) hx hb dX19_feed_32 (by decide) (fun _ => ?_) (fun h9 => absurd (by decide) h9)
  refine lv_iload hx hb dX19_feed_39 (lv_at hl 0 rfl) ?_
  refine lv_bipush (v := 8) hx hb dX19_feed_41 (by decide) ?_
  refine lv_icmp_ge (tgt := 50) hx hb dX19_feed_43 (by decide) (fun _ => ?_) (fun h9 => absurd (by decide) h9)
  refine lv_iload hx hb dX19_feed_50 (lv_at hl 0 rfl) ?_
  refine lv_bipush (v := 12) hx hb dX19_feed_52 (by decide) ?_
  refine lv_icmp_ge (tgt := 61) hx hb dX19_feed_54 (by decide) (fun _ => ?_) (fun h9 => absurd (by decide) h9)
  refine lv_iload hx hb dX19_feed_61 (lv_at hl 0 rfl) ?_
  refine lv_bipush (v := 16) hx hb dX19_feed_63 (by decide) ?_
  refine lv_icmp_ge (tgt := 73) hx hb dX19_feed_65 (by decide) (fun _ => ?_) (fun h9 => absurd (by decide) h9)
  refine lv_iload hx hb dX19_feed_73 (lv_at hl 7 rfl) ?_
  refine lv_istore (lv' := [(7, .int c7), (6, .int 19), (0, .ref c0), (1, .int c3), (2, .int c4), (3, .int c5), (4, .int c6), (5, .int c7)]) hx hb dX19_feed_75 hl (by decide) rfl (fun ls hl => ?_)
  refine lv_aload_n hx hb dX19_feed_77 rfl (lv_at hl 2 rfl) ?_
  refine va_get (D := (dC, dI)) (ci := 20) (v := .ref c1) (C := RX19) (T := TX19) (N := 36) hx hb hts hi_k_X19_feed_X19 hown hK hP 0 rfl rfl 1 (by decide) (hts (.fieldLink RX19 10 "TimeMachineModel" "tape" "[I") (List.mem_of_getElem? (i := 4) rfl)) (fun _ h9 => h9) rfl dX19_feed_78 ?_
  refine lv_aload_n hx hb dX19_feed_81 rfl (lv_at hl 2 rfl) ?_
  refine va_get (D := (dC, dI)) (ci := 20) (v := .int 19) (C := RX19) (T := TX19) (N := 36) hx hb hts hi_k_X19_feed_X19 hown hK hP 0 rfl rfl 2 (by decide) (hts (.fieldLink RX19 117 "TimeMachineModel" "taped" "I") (List.mem_of_getElem? (i := 2) rfl)) (fun _ h9 => h9) rfl dX19_feed_82 ?_
  refine lv_iload hx hb dX19_feed_85 (lv_at hl 0 rfl) ?_
  refine lv_bipush (v := 24) hx hb dX19_feed_87 (by decide) ?_
  refine lv_bipush (v := 8) hx hb dX19_feed_89 (by decide) ?_
  refine lv_iload hx hb dX19_feed_91 (lv_at hl 1 rfl) ?_
  refine lv_iconst (v := 4) hx hb dX19_feed_93 (by decide) ?_
  refine lv_irem hx hb dX19_feed_94 (by decide) ?_
  refine lv_topi (fun z135 ez135 => ?_)
  obtain rfl : z135 = 3 := ez135.trans (by decide)
  refine lv_imul hx hb dX19_feed_95 ?_
  refine lv_topi (fun z136 ez136 => ?_)
  obtain rfl : z136 = 24 := ez136.trans (by decide)
  refine lv_isub hx hb dX19_feed_96 ?_
  refine lv_topi (fun z137 ez137 => ?_)
  obtain rfl : z137 = 0 := ez137.trans (by decide)
  refine lv_ishr hx hb dX19_feed_97 ?_
  refine lv_topi (fun z138 ez138 => ?_)
  refine lv_sipush (v := 255) hx hb dX19_feed_98 (by decide) ?_
  refine lv_iand hx hb dX19_feed_101 ?_
  refine lv_topi (fun z139 ez139 => ?_)
  refine va_iast (i := 19) (x := z139) hx hb hK hP hD hS 1 0 rfl rfl (vp_in_iff.mpr ⟨by decide, by decide⟩) dX19_feed_102 (fun H locs hP hD hS => ?_)
  generalize hf140 : upd f133 (Int32.toNatClampNeg 19) z139 = f140 at hP hD
  have hP : va_P (dC, dI) vwCl [(c0, .inr (20, [.int 0, .ref c1, .int 19, .int 0, .ref c8, .ref c9, .ref c10, .ref c11, .ref c12, .ref c13, .ref c14, .ref c15, .ref c16, .ref c17, .ref c18, .ref c19, .ref c20, .int 0, .int 0, .int 0, .int 0, .int 0, .int 0, .int 0, .int 0, .int 0, .ref c21, .ref c22, .ref c23, .ref c24, .ref c25, .ref c26, .ref c27, .ref c28, .ref c29, .int 0])), (c1, .inl (c2, 32768, .inl f140))] H := hP
  have hD : va_D A [(c0, .inr (20, [.int 0, .ref c1, .int 19, .int 0, .ref c8, .ref c9, .ref c10, .ref c11, .ref c12, .ref c13, .ref c14, .ref c15, .ref c16, .ref c17, .ref c18, .ref c19, .ref c20, .int 0, .int 0, .int 0, .int 0, .int 0, .int 0, .int 0, .int 0, .int 0, .ref c21, .ref c22, .ref c23, .ref c24, .ref c25, .ref c26, .ref c27, .ref c28, .ref c29, .int 0])), (c1, .inl (c2, 32768, .inl f140))] := hD
  refine lv_aload_n hx hb dX19_feed_103 rfl (lv_at hl 2 rfl) ?_
  refine lv_dup hx hb dX19_feed_104 rfl ?_
  refine va_get (D := (dC, dI)) (ci := 20) (v := .int 19) (C := RX19) (T := TX19) (N := 36) hx hb hts hi_k_X19_feed_X19 hown hK hP 0 rfl rfl 2 (by decide) (hts (.fieldLink RX19 117 "TimeMachineModel" "taped" "I") (List.mem_of_getElem? (i := 2) rfl)) (fun _ h9 => h9) rfl dX19_feed_105 ?_
  refine lv_iconst (v := 1) hx hb dX19_feed_108 (by decide) ?_
  refine lv_iadd hx hb dX19_feed_109 ?_
  refine lv_topi (fun z141 ez141 => ?_)
  obtain rfl : z141 = 20 := ez141.trans (by decide)
  refine va_put (D := (dC, dI)) (ci := 20) (v := .int 20) (ty := .int) (C := RX19) (T := TX19) (N := 36) hx hb hts hi_k_X19_feed_X19 tyX19 tyX19_ok nmX19 hown hK hP hD hS 0 rfl rfl 2 (by decide) (hts (.fieldLink RX19 117 "TimeMachineModel" "taped" "I") (List.mem_of_getElem? (i := 2) rfl)) (fun _ h9 => h9) rfl (by decide +kernel) rfl rfl (Nat.le_of_ble_eq_true rfl) dX19_feed_110 (fun H locs hP hD hS => ?_)
  have hP : va_P (dC, dI) vwCl [(c0, .inr (20, [.int 0, .ref c1, .int 20, .int 0, .ref c8, .ref c9, .ref c10, .ref c11, .ref c12, .ref c13, .ref c14, .ref c15, .ref c16, .ref c17, .ref c18, .ref c19, .ref c20, .int 0, .int 0, .int 0, .int 0, .int 0, .int 0, .int 0, .int 0, .int 0, .ref c21, .ref c22, .ref c23, .ref c24, .ref c25, .ref c26, .ref c27, .ref c28, .ref c29, .int 0])), (c1, .inl (c2, 32768, .inl f140))] H := hP
  have hD : va_D A [(c0, .inr (20, [.int 0, .ref c1, .int 20, .int 0, .ref c8, .ref c9, .ref c10, .ref c11, .ref c12, .ref c13, .ref c14, .ref c15, .ref c16, .ref c17, .ref c18, .ref c19, .ref c20, .int 0, .int 0, .int 0, .int 0, .int 0, .int 0, .int 0, .int 0, .int 0, .ref c21, .ref c22, .ref c23, .ref c24, .ref c25, .ref c26, .ref c27, .ref c28, .ref c29, .int 0])), (c1, .inl (c2, 32768, .inl f140))] := hD
  refine lv_iinc (v := 20) (lv' := [(6, .int 20), (7, .int c7), (0, .ref c0), (1, .int c3), (2, .int c4), (3, .int c5), (4, .int c6), (5, .int c7)]) hx hb dX19_feed_113 hl (k := 1) rfl (by decide) (by decide) rfl (fun ls hl => ?_)
  refine lv_goto (tgt := 22) hx hb dX19_feed_116 (by decide) ?_
  refine lv_iload hx hb dX19_feed_22 (lv_at hl 0 rfl) ?_
  refine lv_bipush (v := 20) hx hb dX19_feed_24 (by decide) ?_
  refine lv_icmp_ge (tgt := 119) hx hb dX19_feed_26 (by decide) (fun _ => ?_) (fun h9 => absurd (by decide) h9)
  refine lv_aload_n hx hb dX19_feed_119 rfl (lv_at hl 2 rfl) ?_
  refine lv_iconst (v := 1) hx hb dX19_feed_120 (by decide) ?_
  refine va_put (D := (dC, dI)) (ci := 20) (v := .int 1) (ty := .boolean) (C := RX19) (T := TX19) (N := 36) hx hb hts hi_k_X19_feed_X19 tyX19 tyX19_ok nmX19 hown hK hP hD hS 0 rfl rfl 3 (by decide) (hts (.fieldLink RX19 120 "TimeMachineModel" "fed" "Z") (List.mem_of_getElem? (i := 5) rfl)) (fun _ h9 => h9) rfl (by decide +kernel) rfl rfl (Nat.le_of_ble_eq_true rfl) dX19_feed_121 (fun H locs hP hD hS => ?_)
  have hP : va_P (dC, dI) vwCl [(c0, .inr (20, [.int 0, .ref c1, .int 20, .int 1, .ref c8, .ref c9, .ref c10, .ref c11, .ref c12, .ref c13, .ref c14, .ref c15, .ref c16, .ref c17, .ref c18, .ref c19, .ref c20, .int 0, .int 0, .int 0, .int 0, .int 0, .int 0, .int 0, .int 0, .int 0, .ref c21, .ref c22, .ref c23, .ref c24, .ref c25, .ref c26, .ref c27, .ref c28, .ref c29, .int 0])), (c1, .inl (c2, 32768, .inl f140))] H := hP
  have hD : va_D A [(c0, .inr (20, [.int 0, .ref c1, .int 20, .int 1, .ref c8, .ref c9, .ref c10, .ref c11, .ref c12, .ref c13, .ref c14, .ref c15, .ref c16, .ref c17, .ref c18, .ref c19, .ref c20, .int 0, .int 0, .int 0, .int 0, .int 0, .int 0, .int 0, .int 0, .int 0, .ref c21, .ref c22, .ref c23, .ref c24, .ref c25, .ref c26, .ref c27, .ref c28, .ref c29, .int 0])), (c1, .inl (c2, 32768, .inl f140))] := hD
  refine lv_aload_n hx hb dX19_feed_124 rfl (lv_at hl 2 rfl) ?_
  refine va_get (D := (dC, dI)) (ci := 20) (v := .int 20) (C := RX19) (T := TX19) (N := 36) hx hb hts hi_k_X19_feed_X19 hown hK hP 0 rfl rfl 2 (by decide) (hts (.fieldLink RX19 117 "TimeMachineModel" "taped" "I") (List.mem_of_getElem? (i := 2) rfl)) (fun _ h9 => h9) rfl dX19_feed_125 ?_
  have hP9 := hP.sub (ws' := [(c0, .inr (20, [.int 0, .ref c1, .int 20, .int 1, .ref c8, .ref c9, .ref c10, .ref c11, .ref c12, .ref c13, .ref c14, .ref c15, .ref c16, .ref c17, .ref c18, .ref c19, .ref c20, .int 0, .int 0, .int 0, .int 0, .int 0, .int 0, .int 0, .int 0, .int 0, .ref c21, .ref c22, .ref c23, .ref c24, .ref c25, .ref c26, .ref c27, .ref c28, .ref c29, .int 0])), (c1, .inl (c2, 32768, .inl f140))]) [0, 1] rfl
  have hD9 := hD.sub (ws' := [(c0, .inr (20, [.int 0, .ref c1, .int 20, .int 1, .ref c8, .ref c9, .ref c10, .ref c11, .ref c12, .ref c13, .ref c14, .ref c15, .ref c16, .ref c17, .ref c18, .ref c19, .ref c20, .int 0, .int 0, .int 0, .int 0, .int 0, .int 0, .int 0, .int 0, .int 0, .ref c21, .ref c22, .ref c23, .ref c24, .ref c25, .ref c26, .ref c27, .ref c28, .ref c29, .int 0])), (c1, .inl (c2, 32768, .inl f140))]) [0, 1] (by decide) rfl
  have hK9 := hK.sub (tys' := [(c2, .int)]) [0] rfl
  refine W.widen (k := 0) (n := 0) (by decide +kernel) (by decide +kernel) ?_
  exact W.iret (v := 20) hx hb hr (fun t ht hW => ⟨⟨20, (), rfl, rfl, f140, by rw [ht]; exact hP9, va_K.moved hW.alike hK9, hD9⟩, hS.F ht⟩) hS.2.2 dX19_feed_128
def ow_k_X12_end : List Cond := .code yX12_end cX12_end 2 (some .int) :: ([.fieldLink RX12 66 "TimeMachine" "fresh" "Z"] ++ (u_ws RX12 TX12 12 ++ []))
theorem gd_k_X12_end : ∀ w ∈ ow_k_X12_end, (w.onTables && w.keeps) = true ∨ ∃ ty, w = Cond.arrayClass ty := List.forall_mem_cons.mpr ⟨good_of_word rfl, List.forall_mem_append.mpr ⟨fun w h => good_of_word (List.all_eq_true.mp (by decide +kernel) w h), List.forall_mem_append.mpr ⟨gu_X12, fun _ h => nomatch h⟩⟩⟩
theorem hi_k_X12_end_X12 : ∀ w ∈ u_ws RX12 TX12 12, w ∈ ow_k_X12_end := fun w h => List.mem_cons_of_mem _ (List.mem_append_right _ (List.mem_append_left _ h))
set_option maxHeartbeats 40000000 in
set_option maxRecDepth 100000 in
theorem k_X12_end (l : Launch) (hlt : l.stackTraces = false) (dC : Nat → ClassId) (dI : Nat → Nat → Nat) (c0 : Nat) (c1 : Int32) (c2 : Nat) (c3 : Nat) (c4 : Nat) (c5 : Nat) (c6 : Nat) (c7 : Nat) (c8 : Nat) (c9 : Nat) (c10 : Nat) (sz : Nat) : Met l yX12_end ow_k_X12_end ({ frames := 0, cells := 0, slots := 0, locals := 0 }) (va_Pc [.ref c0, .int c1] (fun U => U.heap.size = sz ∧ va_P (dC, dI) vwCl [(c0, .inr (13, [.ref c2, .int 0, .int 0, .ref c3, .ref c4, .ref c5, .ref c6, .ref c7, .ref c8, .ref c9, .int 0, .ref c10]))] U.heap ∧ va_K (dC, dI) vwCl [] U ∧ va_D (fun _ => True) [(c0, .inr (13, [.ref c2, .int 0, .int 0, .ref c3, .ref c4, .ref c5, .ref c6, .ref c7, .ref c8, .ref c9, .int 0, .ref c10]))] ∧ nv_E (va_A [(c0, .inr (13, [.ref c2, .int 0, .int 0, .ref c3, .ref c4, .ref c5, .ref c6, .ref c7, .ref c8, .ref c9, .int 0, .ref c10]))] sz) U)) (va_Qi (fun r _ => ((c1 < 0) ∧ r = (-1)) ∨ ((¬ c1 < 0) ∧ (20 < c1) ∧ r = (-1)) ∨ ((¬ c1 < 0) ∧ (¬ 20 < c1) ∧ r = (-1)) ∨ False) (fun (_ : Unit) t => True) (va_A [(c0, .inr (13, [.ref c2, .int 0, .int 0, .ref c3, .ref c4, .ref c5, .ref c6, .ref c7, .ref c8, .ref c9, .int 0, .ref c10]))] sz)) 0 0 (va_A [(c0, .inr (13, [.ref c2, .int 0, .int 0, .ref c3, .ref c4, .ref c5, .ref c6, .ref c7, .ref c8, .ref c9, .int 0, .ref c10]))] sz) := by
  refine Met.ofW (cc := cX12_end) (maxL := 2) (ret := (some .int)) (by decide) rfl ?_
  intro p e s m args below meth c s₁ B hml hv
  obtain ⟨rfl, hsz, hP, hK, hD0, hN⟩ := hv
  have hx := B.exec
  have hb := B.bytes
  have hr := B.returns
  have hts := atoms_spec (ws := ow_k_X12_end) B.pre
  have hown : s.vm.findClass RX12 = some m.cls := findClass_of_methodNamed B.named
  have hlocks := B.notSynchronized
  subst hsz
  have hD := hD0.self (sz := s.heap.size)
  generalize hAe : va_A [(c0, .inr (13, [.ref c2, .int 0, .int 0, .ref c3, .ref c4, .ref c5, .ref c6, .ref c7, .ref c8, .ref c9, .int 0, .ref c10]))] s.heap.size = A at hD hN ⊢
  have hA : ∀ q : Nat, s.heap.size ≤ q → A q := fun q h => by rw [← hAe]; exact Or.inr h
  have hS : va_S A s.heap s.heap [] := va_S.rf
  have hl := lv_entry ([.ref c0, .int c1]) (n := 2) (Nat.le_of_ble_eq_true rfl)
  rw [lg_entry_eq]
  generalize (lg_sl ([.ref c0, .int c1]) ++ List.replicate (2 - (lg_sl ([.ref c0, .int c1])).length) Slot.unset).toArray = ls at hl ⊢
  have hl : lv_has ls 2 [(0, .ref c0), (1, .int c1)] := hl
  refine lv_iload_n hx hb dX12_end_0 rfl (lv_at hl 1 rfl) ?_
  refine lv_if_lt (tgt := 17) hx hb dX12_end_1 (by decide) (fun c_1 => ?_) (fun c_1 => ?_)
  · refine lv_iconst (v := (-1)) hx hb dX12_end_17 (by decide) ?_
    refine W.widen (k := 0) (n := 0) (by decide +kernel) (by decide +kernel) ?_
    exact W.iret (v := (-1)) hx hb hr (fun t ht hW => ⟨⟨(-1), (), rfl, Or.inl ⟨c_1, rfl⟩, trivial⟩, hS.F ht⟩) hS.2.2 dX12_end_18
  · refine lv_iload_n hx hb dX12_end_4 rfl (lv_at hl 1 rfl) ?_
    refine lv_bipush (v := 20) hx hb dX12_end_5 (by decide) ?_
    refine lv_icmp_gt (tgt := 17) hx hb dX12_end_7 (by decide) (fun c_2 => ?_) (fun c_2 => ?_)
    · refine lv_iconst (v := (-1)) hx hb dX12_end_17 (by decide) ?_
      refine W.widen (k := 0) (n := 0) (by decide +kernel) (by decide +kernel) ?_
      exact W.iret (v := (-1)) hx hb hr (fun t ht hW => ⟨⟨(-1), (), rfl, Or.inr (Or.inl ⟨c_1, c_2, rfl⟩), trivial⟩, hS.F ht⟩) hS.2.2 dX12_end_18
    · refine lv_aload_n hx hb dX12_end_10 rfl (lv_at hl 0 rfl) ?_
      refine va_get (D := (dC, dI)) (ci := 13) (v := .int 0) (C := RX12) (T := TX12) (N := 12) hx hb hts hi_k_X12_end_X12 hown hK hP 0 rfl rfl 2 (by decide) (hts (.fieldLink RX12 66 "TimeMachine" "fresh" "Z") (List.mem_of_getElem? (i := 1) rfl)) (fun _ h9 => h9) rfl dX12_end_11 ?_
      refine lv_if_ne (tgt := 19) hx hb dX12_end_14 (by decide) (fun h9 => absurd h9 (by decide)) (fun _ => ?_)
      refine lv_iconst (v := (-1)) hx hb dX12_end_17 (by decide) ?_
      refine W.widen (k := 0) (n := 0) (by decide +kernel) (by decide +kernel) ?_
      exact W.iret (v := (-1)) hx hb hr (fun t ht hW => ⟨⟨(-1), (), rfl, Or.inr (Or.inr (Or.inl ⟨c_1, c_2, rfl⟩)), trivial⟩, hS.F ht⟩) hS.2.2 dX12_end_18
def ow_k_X19_end : List Cond := .code yX19_end cX19_end 2 (some .int) :: ([.fieldLink RX19 113 "TimeMachineModel" "code" "I", .fieldLink RX19 120 "TimeMachineModel" "fed" "Z"] ++ (u_ws RX19 TX19 36 ++ []))
theorem gd_k_X19_end : ∀ w ∈ ow_k_X19_end, (w.onTables && w.keeps) = true ∨ ∃ ty, w = Cond.arrayClass ty := List.forall_mem_cons.mpr ⟨good_of_word rfl, List.forall_mem_append.mpr ⟨fun w h => good_of_word (List.all_eq_true.mp (by decide +kernel) w h), List.forall_mem_append.mpr ⟨gu_X19, fun _ h => nomatch h⟩⟩⟩
theorem hi_k_X19_end_X19 : ∀ w ∈ u_ws RX19 TX19 36, w ∈ ow_k_X19_end := fun w h => List.mem_cons_of_mem _ (List.mem_append_right _ (List.mem_append_left _ h))
set_option maxHeartbeats 40000000 in
set_option maxRecDepth 100000 in
theorem k_X19_end (l : Launch) (hlt : l.stackTraces = false) (dC : Nat → ClassId) (dI : Nat → Nat → Nat) (c0 : Nat) (c1 : Int32) (c2 : Nat) (c3 : Nat) (c4 : Nat) (c5 : Nat) (c6 : Nat) (c7 : Nat) (c8 : Nat) (c9 : Nat) (c10 : Nat) (c11 : Nat) (c12 : Nat) (c13 : Nat) (c14 : Nat) (c15 : Nat) (c16 : Nat) (c17 : Nat) (c18 : Nat) (c19 : Nat) (c20 : Nat) (c21 : Nat) (c22 : Nat) (c23 : Nat) (c24 : Nat) (sz : Nat) : Met l yX19_end ow_k_X19_end ({ frames := 0, cells := 0, slots := 0, locals := 0 }) (va_Pc [.ref c0, .int c1] (fun U => U.heap.size = sz ∧ va_P (dC, dI) vwCl [(c0, .inr (20, [.int 0, .ref c2, .int 0, .int 0, .ref c3, .ref c4, .ref c5, .ref c6, .ref c7, .ref c8, .ref c9, .ref c10, .ref c11, .ref c12, .ref c13, .ref c14, .ref c15, .int 0, .int 0, .int 0, .int 0, .int 0, .int 0, .int 0, .int 0, .int 0, .ref c16, .ref c17, .ref c18, .ref c19, .ref c20, .ref c21, .ref c22, .ref c23, .ref c24, .int 0]))] U.heap ∧ va_K (dC, dI) vwCl [] U ∧ va_D (fun _ => True) [(c0, .inr (20, [.int 0, .ref c2, .int 0, .int 0, .ref c3, .ref c4, .ref c5, .ref c6, .ref c7, .ref c8, .ref c9, .ref c10, .ref c11, .ref c12, .ref c13, .ref c14, .ref c15, .int 0, .int 0, .int 0, .int 0, .int 0, .int 0, .int 0, .int 0, .int 0, .ref c16, .ref c17, .ref c18, .ref c19, .ref c20, .ref c21, .ref c22, .ref c23, .ref c24, .int 0]))] ∧ nv_E (va_A [(c0, .inr (20, [.int 0, .ref c2, .int 0, .int 0, .ref c3, .ref c4, .ref c5, .ref c6, .ref c7, .ref c8, .ref c9, .ref c10, .ref c11, .ref c12, .ref c13, .ref c14, .ref c15, .int 0, .int 0, .int 0, .int 0, .int 0, .int 0, .int 0, .int 0, .int 0, .ref c16, .ref c17, .ref c18, .ref c19, .ref c20, .ref c21, .ref c22, .ref c23, .ref c24, .int 0]))] sz) U)) (va_Qi (fun r _ => r = (-1)) (fun (_ : Unit) t => va_P (dC, dI) vwCl [(c0, .inr (20, [.int 0, .ref c2, .int 0, .int 0, .ref c3, .ref c4, .ref c5, .ref c6, .ref c7, .ref c8, .ref c9, .ref c10, .ref c11, .ref c12, .ref c13, .ref c14, .ref c15, .int 0, .int 0, .int 0, .int 0, .int 0, .int 0, .int 0, .int 0, .int 0, .ref c16, .ref c17, .ref c18, .ref c19, .ref c20, .ref c21, .ref c22, .ref c23, .ref c24, .int 0]))] t.heap ∧ va_K (dC, dI) vwCl [] t ∧ va_D (va_A [(c0, .inr (20, [.int 0, .ref c2, .int 0, .int 0, .ref c3, .ref c4, .ref c5, .ref c6, .ref c7, .ref c8, .ref c9, .ref c10, .ref c11, .ref c12, .ref c13, .ref c14, .ref c15, .int 0, .int 0, .int 0, .int 0, .int 0, .int 0, .int 0, .int 0, .int 0, .ref c16, .ref c17, .ref c18, .ref c19, .ref c20, .ref c21, .ref c22, .ref c23, .ref c24, .int 0]))] sz) [(c0, .inr (20, [.int 0, .ref c2, .int 0, .int 0, .ref c3, .ref c4, .ref c5, .ref c6, .ref c7, .ref c8, .ref c9, .ref c10, .ref c11, .ref c12, .ref c13, .ref c14, .ref c15, .int 0, .int 0, .int 0, .int 0, .int 0, .int 0, .int 0, .int 0, .int 0, .ref c16, .ref c17, .ref c18, .ref c19, .ref c20, .ref c21, .ref c22, .ref c23, .ref c24, .int 0]))]) (va_A [(c0, .inr (20, [.int 0, .ref c2, .int 0, .int 0, .ref c3, .ref c4, .ref c5, .ref c6, .ref c7, .ref c8, .ref c9, .ref c10, .ref c11, .ref c12, .ref c13, .ref c14, .ref c15, .int 0, .int 0, .int 0, .int 0, .int 0, .int 0, .int 0, .int 0, .int 0, .ref c16, .ref c17, .ref c18, .ref c19, .ref c20, .ref c21, .ref c22, .ref c23, .ref c24, .int 0]))] sz)) 0 0 (va_A [(c0, .inr (20, [.int 0, .ref c2, .int 0, .int 0, .ref c3, .ref c4, .ref c5, .ref c6, .ref c7, .ref c8, .ref c9, .ref c10, .ref c11, .ref c12, .ref c13, .ref c14, .ref c15, .int 0, .int 0, .int 0, .int 0, .int 0, .int 0, .int 0, .int 0, .int 0, .ref c16, .ref c17, .ref c18, .ref c19, .ref c20, .ref c21, .ref c22, .ref c23, .ref c24, .int 0]))] sz) := by
  refine Met.ofW (cc := cX19_end) (maxL := 2) (ret := (some .int)) (by decide) rfl ?_
  intro p e s m args below meth c s₁ B hml hv
  obtain ⟨rfl, hsz, hP, hK, hD0, hN⟩ := hv
  have hx := B.exec
  have hb := B.bytes
  have hr := B.returns
  have hts := atoms_spec (ws := ow_k_X19_end) B.pre
  have hown : s.vm.findClass RX19 = some m.cls := findClass_of_methodNamed B.named
  have hlocks := B.notSynchronized
  subst hsz
  have hD := hD0.self (sz := s.heap.size)
  generalize hAe : va_A [(c0, .inr (20, [.int 0, .ref c2, .int 0, .int 0, .ref c3, .ref c4, .ref c5, .ref c6, .ref c7, .ref c8, .ref c9, .ref c10, .ref c11, .ref c12, .ref c13, .ref c14, .ref c15, .int 0, .int 0, .int 0, .int 0, .int 0, .int 0, .int 0, .int 0, .int 0, .ref c16, .ref c17, .ref c18, .ref c19, .ref c20, .ref c21, .ref c22, .ref c23, .ref c24, .int 0]))] s.heap.size = A at hD hN ⊢
  have hA : ∀ q : Nat, s.heap.size ≤ q → A q := fun q h => by rw [← hAe]; exact Or.inr h
  have hS : va_S A s.heap s.heap [] := va_S.rf
  have hl := lv_entry ([.ref c0, .int c1]) (n := 2) (Nat.le_of_ble_eq_true rfl)
  rw [lg_entry_eq]
  generalize (lg_sl ([.ref c0, .int c1]) ++ List.replicate (2 - (lg_sl ([.ref c0, .int c1])).length) Slot.unset).toArray = ls at hl ⊢
  have hl : lv_has ls 2 [(0, .ref c0), (1, .int c1)] := hl
  refine lv_aload_n hx hb dX19_end_0 rfl (lv_at hl 0 rfl) ?_
  refine lv_iconst (v := 0) hx hb dX19_end_1 (by decide) ?_
  refine va_put (D := (dC, dI)) (ci := 20) (v := .int 0) (ty := .int) (C := RX19) (T := TX19) (N := 36) hx hb hts hi_k_X19_end_X19 tyX19 tyX19_ok nmX19 hown hK hP hD hS 0 rfl rfl 0 (by decide) (hts (.fieldLink RX19 113 "TimeMachineModel" "code" "I") (List.mem_of_getElem? (i := 1) rfl)) (fun _ h9 => h9) rfl (by decide +kernel) rfl rfl (Nat.le_of_ble_eq_true rfl) dX19_end_2 (fun H locs hP hD hS => ?_)
  have hP : va_P (dC, dI) vwCl [(c0, .inr (20, [.int 0, .ref c2, .int 0, .int 0, .ref c3, .ref c4, .ref c5, .ref c6, .ref c7, .ref c8, .ref c9, .ref c10, .ref c11, .ref c12, .ref c13, .ref c14, .ref c15, .int 0, .int 0, .int 0, .int 0, .int 0, .int 0, .int 0, .int 0, .int 0, .ref c16, .ref c17, .ref c18, .ref c19, .ref c20, .ref c21, .ref c22, .ref c23, .ref c24, .int 0]))] H := hP
  have hD : va_D A [(c0, .inr (20, [.int 0, .ref c2, .int 0, .int 0, .ref c3, .ref c4, .ref c5, .ref c6, .ref c7, .ref c8, .ref c9, .ref c10, .ref c11, .ref c12, .ref c13, .ref c14, .ref c15, .int 0, .int 0, .int 0, .int 0, .int 0, .int 0, .int 0, .int 0, .int 0, .ref c16, .ref c17, .ref c18, .ref c19, .ref c20, .ref c21, .ref c22, .ref c23, .ref c24, .int 0]))] := hD
  refine lv_aload_n hx hb dX19_end_5 rfl (lv_at hl 0 rfl) ?_
  refine va_get (D := (dC, dI)) (ci := 20) (v := .int 0) (C := RX19) (T := TX19) (N := 36) hx hb hts hi_k_X19_end_X19 hown hK hP 0 rfl rfl 3 (by decide) (hts (.fieldLink RX19 120 "TimeMachineModel" "fed" "Z") (List.mem_of_getElem? (i := 2) rfl)) (fun _ h9 => h9) rfl dX19_end_6 ?_
  refine lv_if_eq (tgt := 24) hx hb dX19_end_9 (by decide) (fun _ => ?_) (fun h9 => absurd (by decide) h9)
  refine lv_iconst (v := (-1)) hx hb dX19_end_24 (by decide) ?_
  have hP9 := hP.sub (ws' := [(c0, .inr (20, [.int 0, .ref c2, .int 0, .int 0, .ref c3, .ref c4, .ref c5, .ref c6, .ref c7, .ref c8, .ref c9, .ref c10, .ref c11, .ref c12, .ref c13, .ref c14, .ref c15, .int 0, .int 0, .int 0, .int 0, .int 0, .int 0, .int 0, .int 0, .int 0, .ref c16, .ref c17, .ref c18, .ref c19, .ref c20, .ref c21, .ref c22, .ref c23, .ref c24, .int 0]))]) [0] rfl
  have hD9 := hD.sub (ws' := [(c0, .inr (20, [.int 0, .ref c2, .int 0, .int 0, .ref c3, .ref c4, .ref c5, .ref c6, .ref c7, .ref c8, .ref c9, .ref c10, .ref c11, .ref c12, .ref c13, .ref c14, .ref c15, .int 0, .int 0, .int 0, .int 0, .int 0, .int 0, .int 0, .int 0, .int 0, .ref c16, .ref c17, .ref c18, .ref c19, .ref c20, .ref c21, .ref c22, .ref c23, .ref c24, .int 0]))]) [0] (by decide) rfl
  have hK9 := hK.sub (tys' := []) [] rfl
  refine W.widen (k := 0) (n := 0) (by decide +kernel) (by decide +kernel) ?_
  exact W.iret (v := (-1)) hx hb hr (fun t ht hW => ⟨⟨(-1), (), rfl, rfl, by rw [ht]; exact hP9, va_K.moved hW.alike hK9, hD9⟩, hS.F ht⟩) hS.2.2 dX19_end_25
def ow_k_X12_isUsedProgram : List Cond := .code yX12_isUsedProgram cX12_isUsedProgram 3 (some .boolean) :: ([.fieldLink RX12 16 "TimeMachine" "programs" "[LTimeMachine$Program;", .fieldLink RX12 33 "TimeMachine" "timeline" "LTimeMachine$Timeline;", .fieldLink RX12 297 "TimeMachine$Timeline" "programs" "[LTimeMachine$Program;"] ++ (u_ws RX12 TX12 12 ++ (u_ws RX11 TX11 16 ++ [])))
theorem gd_k_X12_isUsedProgram : ∀ w ∈ ow_k_X12_isUsedProgram, (w.onTables && w.keeps) = true ∨ ∃ ty, w = Cond.arrayClass ty := List.forall_mem_cons.mpr ⟨good_of_word rfl, List.forall_mem_append.mpr ⟨fun w h => good_of_word (List.all_eq_true.mp (by decide +kernel) w h), List.forall_mem_append.mpr ⟨gu_X12, List.forall_mem_append.mpr ⟨gu_X11, fun _ h => nomatch h⟩⟩⟩⟩
theorem hi_k_X12_isUsedProgram_X12 : ∀ w ∈ u_ws RX12 TX12 12, w ∈ ow_k_X12_isUsedProgram := fun w h => List.mem_cons_of_mem _ (List.mem_append_right _ (List.mem_append_left _ h))
theorem hi_k_X12_isUsedProgram_X11 : ∀ w ∈ u_ws RX11 TX11 16, w ∈ ow_k_X12_isUsedProgram := fun w h => List.mem_cons_of_mem _ (List.mem_append_right _ (List.mem_append_right _ (List.mem_append_left _ h)))
set_option maxHeartbeats 40000000 in
set_option maxRecDepth 100000 in
theorem k_X12_isUsedProgram (l : Launch) (hlt : l.stackTraces = false) (dC : Nat → ClassId) (dI : Nat → Nat → Nat) (c0 : Nat) (c1 : Nat) (c2 : ClassId) (c3 : Nat) (c4 : Nat) (c5 : ClassId) (c6 : Nat) (c7 : Nat) (c8 : Nat) (c9 : Nat) (c10 : Nat) (c11 : Nat) (c12 : Nat) (c13 : Nat) (c14 : Nat) (c15 : Nat) (c16 : Nat) (c17 : Nat) (c18 : Nat) (c19 : Nat) (c20 : Nat) (sz : Nat) : Met l yX12_isUsedProgram ow_k_X12_isUsedProgram ({ frames := 0, cells := 0, slots := 0, locals := 0 }) (va_Pc [.ref c0, .ref c6] (fun U => U.heap.size = sz ∧ va_P (dC, dI) vwCl [(c0, .inr (13, [.ref c7, .int 0, .int 0, .ref c1, .ref c8, .ref c9, .ref c3, .ref c10, .ref c11, .ref c12, .int 0, .ref c13])), (c1, .inl (c2, 4, .inr (.inr (.inr (.inr (fun _ => none)))))), (c3, .inr (12, [.ref c4, .ref c14, .ref c15, .ref c16, .ref c17, .ref c18, .int 0, .ref c19, .ref c20, .int 0, .int 0, .int 0, .int 0, .int 0, .int 0, .int 0])), (c4, .inl (c5, 4, .inr (.inr (.inr (.inr (fun _ => none))))))] U.heap ∧ va_K (dC, dI) vwCl [(c2, .object RX8), (c5, .object RX8)] U ∧ va_D (fun _ => True) [(c0, .inr (13, [.ref c7, .int 0, .int 0, .ref c1, .ref c8, .ref c9, .ref c3, .ref c10, .ref c11, .ref c12, .int 0, .ref c13])), (c1, .inl (c2, 4, .inr (.inr (.inr (.inr (fun _ => none)))))), (c3, .inr (12, [.ref c4, .ref c14, .ref c15, .ref c16, .ref c17, .ref c18, .int 0, .ref c19, .ref c20, .int 0, .int 0, .int 0, .int 0, .int 0, .int 0, .int 0])), (c4, .inl (c5, 4, .inr (.inr (.inr (.inr (fun _ => none))))))] ∧ nv_E (va_A [(c0, .inr (13, [.ref c7, .int 0, .int 0, .ref c1, .ref c8, .ref c9, .ref c3, .ref c10, .ref c11, .ref c12, .int 0, .ref c13])), (c1, .inl (c2, 4, .inr (.inr (.inr (.inr (fun _ => none)))))), (c3, .inr (12, [.ref c4, .ref c14, .ref c15, .ref c16, .ref c17, .ref c18, .int 0, .ref c19, .ref c20, .int 0, .int 0, .int 0, .int 0, .int 0, .int 0, .int 0])), (c4, .inl (c5, 4, .inr (.inr (.inr (.inr (fun _ => none))))))] sz) U)) (va_Qi (fun r _ => r = 0) (fun (_ : Unit) t => va_P (dC, dI) vwCl [(c0, .inr (13, [.ref c7, .int 0, .int 0, .ref c1, .ref c8, .ref c9, .ref c3, .ref c10, .ref c11, .ref c12, .int 0, .ref c13])), (c1, .inl (c2, 4, .inr (.inr (.inr (.inr (fun _ => none)))))), (c3, .inr (12, [.ref c4, .ref c14, .ref c15, .ref c16, .ref c17, .ref c18, .int 0, .ref c19, .ref c20, .int 0, .int 0, .int 0, .int 0, .int 0, .int 0, .int 0])), (c4, .inl (c5, 4, .inr (.inr (.inr (.inr (fun _ => none))))))] t.heap ∧ va_K (dC, dI) vwCl [(c2, .object RX8), (c5, .object RX8)] t ∧ va_D (va_A [(c0, .inr (13, [.ref c7, .int 0, .int 0, .ref c1, .ref c8, .ref c9, .ref c3, .ref c10, .ref c11, .ref c12, .int 0, .ref c13])), (c1, .inl (c2, 4, .inr (.inr (.inr (.inr (fun _ => none)))))), (c3, .inr (12, [.ref c4, .ref c14, .ref c15, .ref c16, .ref c17, .ref c18, .int 0, .ref c19, .ref c20, .int 0, .int 0, .int 0, .int 0, .int 0, .int 0, .int 0])), (c4, .inl (c5, 4, .inr (.inr (.inr (.inr (fun _ => none))))))] sz) [(c0, .inr (13, [.ref c7, .int 0, .int 0, .ref c1, .ref c8, .ref c9, .ref c3, .ref c10, .ref c11, .ref c12, .int 0, .ref c13])), (c1, .inl (c2, 4, .inr (.inr (.inr (.inr (fun _ => none)))))), (c3, .inr (12, [.ref c4, .ref c14, .ref c15, .ref c16, .ref c17, .ref c18, .int 0, .ref c19, .ref c20, .int 0, .int 0, .int 0, .int 0, .int 0, .int 0, .int 0])), (c4, .inl (c5, 4, .inr (.inr (.inr (.inr (fun _ => none))))))]) (va_A [(c0, .inr (13, [.ref c7, .int 0, .int 0, .ref c1, .ref c8, .ref c9, .ref c3, .ref c10, .ref c11, .ref c12, .int 0, .ref c13])), (c1, .inl (c2, 4, .inr (.inr (.inr (.inr (fun _ => none)))))), (c3, .inr (12, [.ref c4, .ref c14, .ref c15, .ref c16, .ref c17, .ref c18, .int 0, .ref c19, .ref c20, .int 0, .int 0, .int 0, .int 0, .int 0, .int 0, .int 0])), (c4, .inl (c5, 4, .inr (.inr (.inr (.inr (fun _ => none))))))] sz)) 0 0 (va_A [(c0, .inr (13, [.ref c7, .int 0, .int 0, .ref c1, .ref c8, .ref c9, .ref c3, .ref c10, .ref c11, .ref c12, .int 0, .ref c13])), (c1, .inl (c2, 4, .inr (.inr (.inr (.inr (fun _ => none)))))), (c3, .inr (12, [.ref c4, .ref c14, .ref c15, .ref c16, .ref c17, .ref c18, .int 0, .ref c19, .ref c20, .int 0, .int 0, .int 0, .int 0, .int 0, .int 0, .int 0])), (c4, .inl (c5, 4, .inr (.inr (.inr (.inr (fun _ => none))))))] sz) := by
  refine Met.ofW (cc := cX12_isUsedProgram) (maxL := 3) (ret := (some .boolean)) (by decide) rfl ?_
  intro p e s m args below meth c s₁ B hml hv
  obtain ⟨rfl, hsz, hP, hK, hD0, hN⟩ := hv
  have hx := B.exec
  have hb := B.bytes
  have hr := B.returns
  have hts := atoms_spec (ws := ow_k_X12_isUsedProgram) B.pre
  have hown : s.vm.findClass RX12 = some m.cls := findClass_of_methodNamed B.named
  have hlocks := B.notSynchronized
  subst hsz
  have hD := hD0.self (sz := s.heap.size)
  generalize hAe : va_A [(c0, .inr (13, [.ref c7, .int 0, .int 0, .ref c1, .ref c8, .ref c9, .ref c3, .ref c10, .ref c11, .ref c12, .int 0, .ref c13])), (c1, .inl (c2, 4, .inr (.inr (.inr (.inr (fun _ => none)))))), (c3, .inr (12, [.ref c4, .ref c14, .ref c15, .ref c16, .ref c17, .ref c18, .int 0, .ref c19, .ref c20, .int 0, .int 0, .int 0, .int 0, .int 0, .int 0, .int 0])), (c4, .inl (c5, 4, .inr (.inr (.inr (.inr (fun _ => none))))))] s.heap.size = A at hD hN ⊢
  have hA : ∀ q : Nat, s.heap.size ≤ q → A q := fun q h => by rw [← hAe]; exact Or.inr h
  have hS : va_S A s.heap s.heap [] := va_S.rf
  have hl := lv_entry ([.ref c0, .ref c6]) (n := 3) (Nat.le_of_ble_eq_true rfl)
  rw [lg_entry_eq]
  generalize (lg_sl ([.ref c0, .ref c6]) ++ List.replicate (3 - (lg_sl ([.ref c0, .ref c6])).length) Slot.unset).toArray = ls at hl ⊢
  have hl : lv_has ls 3 [(0, .ref c0), (1, .ref c6)] := hl
  refine lv_iconst (v := 0) hx hb dX12_isUsedProgram_0 (by decide) ?_
  refine lv_istore_n (lv' := [(2, .int 0), (0, .ref c0), (1, .ref c6)]) hx hb dX12_isUsedProgram_1 rfl hl (by decide) rfl (fun ls hl => ?_)
  refine lv_iload_n hx hb dX12_isUsedProgram_2 rfl (lv_at hl 0 rfl) ?_
  refine lv_iconst (v := 4) hx hb dX12_isUsedProgram_3 (by decide) ?_
  refine lv_icmp_ge (tgt := 38) hx hb dX12_isUsedProgram_4 (by decide) (fun h9 => absurd h9 (by decide)) (fun _ => ?_)
  refine lv_aload_n hx hb dX12_isUsedProgram_7 rfl (lv_at hl 1 rfl) ?_
  refine va_get (D := (dC, dI)) (ci := 13) (v := .ref c1) (C := RX12) (T := TX12) (N := 12) hx hb hts hi_k_X12_isUsedProgram_X12 hown hK hP 0 rfl rfl 3 (by decide) (hts (.fieldLink RX12 16 "TimeMachine" "programs" "[LTimeMachine$Program;") (List.mem_of_getElem? (i := 1) rfl)) (fun _ h9 => h9) rfl dX12_isUsedProgram_8 ?_
  refine lv_iload_n hx hb dX12_isUsedProgram_11 rfl (lv_at hl 0 rfl) ?_
  refine va_aldq (i := 0) hx hb hK hP 1 0 rfl rfl (vp_in_iff.mpr ⟨by decide, by decide⟩) dX12_isUsedProgram_12 ?_
  refine W.eq (g2 := F0 m 13 ls [.null]) rfl ?_
  refine lv_aload_n hx hb dX12_isUsedProgram_13 rfl (lv_at hl 2 rfl) ?_
  refine W.eq (g2 := F0 m 14 ls [va_rf (some c6), va_rf (none)]) rfl ?_
  refine lv_acmp_eq (tgt := 30) hx hb dX12_isUsedProgram_14 (by decide) (fun h9 => absurd h9 (by simp)) (fun _ => ?_)
  refine lv_aload_n hx hb dX12_isUsedProgram_17 rfl (lv_at hl 1 rfl) ?_
  refine va_get (D := (dC, dI)) (ci := 13) (v := .ref c3) (C := RX12) (T := TX12) (N := 12) hx hb hts hi_k_X12_isUsedProgram_X12 hown hK hP 0 rfl rfl 6 (by decide) (hts (.fieldLink RX12 33 "TimeMachine" "timeline" "LTimeMachine$Timeline;") (List.mem_of_getElem? (i := 2) rfl)) (fun _ h9 => h9) rfl dX12_isUsedProgram_18 ?_
  refine va_get (D := (dC, dI)) (ci := 12) (v := .ref c4) (C := RX11) (T := TX11) (N := 16) hx hb hts hi_k_X12_isUsedProgram_X11 hown hK hP 2 rfl rfl 0 (by decide) (hts (.fieldLink RX12 297 "TimeMachine$Timeline" "programs" "[LTimeMachine$Program;") (List.mem_of_getElem? (i := 3) rfl)) (fun _ h9 => h9) rfl dX12_isUsedProgram_21 ?_
  refine lv_iload_n hx hb dX12_isUsedProgram_24 rfl (lv_at hl 0 rfl) ?_
  refine va_aldq (i := 0) hx hb hK hP 3 1 rfl rfl (vp_in_iff.mpr ⟨by decide, by decide⟩) dX12_isUsedProgram_25 ?_
  refine W.eq (g2 := F0 m 26 ls [.null]) rfl ?_
  refine lv_aload_n hx hb dX12_isUsedProgram_26 rfl (lv_at hl 2 rfl) ?_
  refine W.eq (g2 := F0 m 27 ls [va_rf (some c6), va_rf (none)]) rfl ?_
  refine lv_acmp_ne (tgt := 32) hx hb dX12_isUsedProgram_27 (by decide) (fun _ => ?_) (fun h9 => absurd h9 (by simp))
  refine lv_iinc (v := 1) (lv' := [(2, .int 1), (0, .ref c0), (1, .ref c6)]) hx hb dX12_isUsedProgram_32 hl (k := 0) rfl (by decide) (by decide) rfl (fun ls hl => ?_)
  refine lv_goto (tgt := 2) hx hb dX12_isUsedProgram_35 (by decide) ?_
  refine lv_iload_n hx hb dX12_isUsedProgram_2 rfl (lv_at hl 0 rfl) ?_
  refine lv_iconst (v := 4) hx hb dX12_isUsedProgram_3 (by decide) ?_
  refine lv_icmp_ge (tgt := 38) hx hb dX12_isUsedProgram_4 (by decide) (fun h9 => absurd h9 (by decide)) (fun _ => ?_)
  refine lv_aload_n hx hb dX12_isUsedProgram_7 rfl (lv_at hl 1 rfl) ?_
  refine va_get (D := (dC, dI)) (ci := 13) (v := .ref c1) (C := RX12) (T := TX12) (N := 12) hx hb hts hi_k_X12_isUsedProgram_X12 hown hK hP 0 rfl rfl 3 (by decide) (hts (.fieldLink RX12 16 "TimeMachine" "programs" "[LTimeMachine$Program;") (List.mem_of_getElem? (i := 1) rfl)) (fun _ h9 => h9) rfl dX12_isUsedProgram_8 ?_
  refine lv_iload_n hx hb dX12_isUsedProgram_11 rfl (lv_at hl 0 rfl) ?_
  refine va_aldq (i := 1) hx hb hK hP 1 0 rfl rfl (vp_in_iff.mpr ⟨by decide, by decide⟩) dX12_isUsedProgram_12 ?_
  refine W.eq (g2 := F0 m 13 ls [.null]) rfl ?_
  refine lv_aload_n hx hb dX12_isUsedProgram_13 rfl (lv_at hl 2 rfl) ?_
  refine W.eq (g2 := F0 m 14 ls [va_rf (some c6), va_rf (none)]) rfl ?_
  refine lv_acmp_eq (tgt := 30) hx hb dX12_isUsedProgram_14 (by decide) (fun h9 => absurd h9 (by simp)) (fun _ => ?_)
  refine lv_aload_n hx hb dX12_isUsedProgram_17 rfl (lv_at hl 1 rfl) ?_
  refine va_get (D := (dC, dI)) (ci := 13) (v := .ref c3) (C := RX12) (T := TX12) (N := 12) hx hb hts hi_k_X12_isUsedProgram_X12 hown hK hP 0 rfl rfl 6 (by decide) (hts (.fieldLink RX12 33 "TimeMachine" "timeline" "LTimeMachine$Timeline;") (List.mem_of_getElem? (i := 2) rfl)) (fun _ h9 => h9) rfl dX12_isUsedProgram_18 ?_
  refine va_get (D := (dC, dI)) (ci := 12) (v := .ref c4) (C := RX11) (T := TX11) (N := 16) hx hb hts hi_k_X12_isUsedProgram_X11 hown hK hP 2 rfl rfl 0 (by decide) (hts (.fieldLink RX12 297 "TimeMachine$Timeline" "programs" "[LTimeMachine$Program;") (List.mem_of_getElem? (i := 3) rfl)) (fun _ h9 => h9) rfl dX12_isUsedProgram_21 ?_
  refine lv_iload_n hx hb dX12_isUsedProgram_24 rfl (lv_at hl 0 rfl) ?_
  refine va_aldq (i := 1) hx hb hK hP 3 1 rfl rfl (vp_in_iff.mpr ⟨by decide, by decide⟩) dX12_isUsedProgram_25 ?_
  refine W.eq (g2 := F0 m 26 ls [.null]) rfl ?_
  refine lv_aload_n hx hb dX12_isUsedProgram_26 rfl (lv_at hl 2 rfl) ?_
  refine W.eq (g2 := F0 m 27 ls [va_rf (some c6), va_rf (none)]) rfl ?_
  refine lv_acmp_ne (tgt := 32) hx hb dX12_isUsedProgram_27 (by decide) (fun _ => ?_) (fun h9 => absurd h9 (by simp))
  refine lv_iinc (v := 2) (lv' := [(2, .int 2), (0, .ref c0), (1, .ref c6)]) hx hb dX12_isUsedProgram_32 hl (k := 0) rfl (by decide) (by decide) rfl (fun ls hl => ?_)
  refine lv_goto (tgt := 2) hx hb dX12_isUsedProgram_35 (by decide) ?_
  refine lv_iload_n hx hb dX12_isUsedProgram_2 rfl (lv_at hl 0 rfl) ?_
  refine lv_iconst (v := 4) hx hb dX12_isUsedProgram_3 (by decide) ?_
  refine lv_icmp_ge (tgt := 38) hx hb dX12_isUsedProgram_4 (by decide) (fun h9 => absurd h9 (by decide)) (fun _ => ?_)
  refine lv_aload_n hx hb dX12_isUsedProgram_7 rfl (lv_at hl 1 rfl) ?_
  refine va_get (D := (dC, dI)) (ci := 13) (v := .ref c1) (C := RX12) (T := TX12) (N := 12) hx hb hts hi_k_X12_isUsedProgram_X12 hown hK hP 0 rfl rfl 3 (by decide) (hts (.fieldLink RX12 16 "TimeMachine" "programs" "[LTimeMachine$Program;") (List.mem_of_getElem? (i := 1) rfl)) (fun _ h9 => h9) rfl dX12_isUsedProgram_8 ?_
  refine lv_iload_n hx hb dX12_isUsedProgram_11 rfl (lv_at hl 0 rfl) ?_
  refine va_aldq (i := 2) hx hb hK hP 1 0 rfl rfl (vp_in_iff.mpr ⟨by decide, by decide⟩) dX12_isUsedProgram_12 ?_
  refine W.eq (g2 := F0 m 13 ls [.null]) rfl ?_
  refine lv_aload_n hx hb dX12_isUsedProgram_13 rfl (lv_at hl 2 rfl) ?_
  refine W.eq (g2 := F0 m 14 ls [va_rf (some c6), va_rf (none)]) rfl ?_
  refine lv_acmp_eq (tgt := 30) hx hb dX12_isUsedProgram_14 (by decide) (fun h9 => absurd h9 (by simp)) (fun _ => ?_)
  refine lv_aload_n hx hb dX12_isUsedProgram_17 rfl (lv_at hl 1 rfl) ?_
  refine va_get (D := (dC, dI)) (ci := 13) (v := .ref c3) (C := RX12) (T := TX12) (N := 12) hx hb hts hi_k_X12_isUsedProgram_X12 hown hK hP 0 rfl rfl 6 (by decide) (hts (.fieldLink RX12 33 "TimeMachine" "timeline" "LTimeMachine$Timeline;") (List.mem_of_getElem? (i := 2) rfl)) (fun _ h9 => h9) rfl dX12_isUsedProgram_18 ?_
  refine va_get (D := (dC, dI)) (ci := 12) (v := .ref c4) (C := RX11) (T := TX11) (N := 16) hx hb hts hi_k_X12_isUsedProgram_X11 hown hK hP 2 rfl rfl 0 (by decide) (hts (.fieldLink RX12 297 "TimeMachine$Timeline" "programs" "[LTimeMachine$Program;") (List.mem_of_getElem? (i := 3) rfl)) (fun _ h9 => h9) rfl dX12_isUsedProgram_21 ?_
  refine lv_iload_n hx hb dX12_isUsedProgram_24 rfl (lv_at hl 0 rfl) ?_
  refine va_aldq (i := 2) hx hb hK hP 3 1 rfl rfl (vp_in_iff.mpr ⟨by decide, by decide⟩) dX12_isUsedProgram_25 ?_
  refine W.eq (g2 := F0 m 26 ls [.null]) rfl ?_
  refine lv_aload_n hx hb dX12_isUsedProgram_26 rfl (lv_at hl 2 rfl) ?_
  refine W.eq (g2 := F0 m 27 ls [va_rf (some c6), va_rf (none)]) rfl ?_
  refine lv_acmp_ne (tgt := 32) hx hb dX12_isUsedProgram_27 (by decide) (fun _ => ?_) (fun h9 => absurd h9 (by simp))
  refine lv_iinc (v := 3) (lv' := [(2, .int 3), (0, .ref c0), (1, .ref c6)]) hx hb dX12_isUsedProgram_32 hl (k := 0) rfl (by decide) (by decide) rfl (fun ls hl => ?_)
  refine lv_goto (tgt := 2) hx hb dX12_isUsedProgram_35 (by decide) ?_
  refine lv_iload_n hx hb dX12_isUsedProgram_2 rfl (lv_at hl 0 rfl) ?_
  refine lv_iconst (v := 4) hx hb dX12_isUsedProgram_3 (by decide) ?_
  refine lv_icmp_ge (tgt := 38) hx hb dX12_isUsedProgram_4 (by decide) (fun h9 => absurd h9 (by decide)) (fun _ => ?_)
  refine lv_aload_n hx hb dX12_isUsedProgram_7 rfl (lv_at hl 1 rfl) ?_
  refine va_get (D := (dC, dI)) (ci := 13) (v := .ref c1) (C := RX12) (T := TX12) (N := 12) hx hb hts hi_k_X12_isUsedProgram_X12 hown hK hP 0 rfl rfl 3 (by decide) (hts (.fieldLink RX12 16 "TimeMachine" "programs" "[LTimeMachine$Program;") (List.mem_of_getElem? (i := 1) rfl)) (fun _ h9 => h9) rfl dX12_isUsedProgram_8 ?_
  refine lv_iload_n hx hb dX12_isUsedProgram_11 rfl (lv_at hl 0 rfl) ?_
  refine va_aldq (i := 3) hx hb hK hP 1 0 rfl rfl (vp_in_iff.mpr ⟨by decide, by decide⟩) dX12_isUsedProgram_12 ?_
  refine W.eq (g2 := F0 m 13 ls [.null]) rfl ?_
  refine lv_aload_n hx hb dX12_isUsedProgram_13 rfl (lv_at hl 2 rfl) ?_
  refine W.eq (g2 := F0 m 14 ls [va_rf (some c6), va_rf (none)]) rfl ?_
  refine lv_acmp_eq (tgt := 30) hx hb dX12_isUsedProgram_14 (by decide) (fun h9 => absurd h9 (by simp)) (fun _ => ?_)
  refine lv_aload_n hx hb dX12_isUsedProgram_17 rfl (lv_at hl 1 rfl) ?_
  refine va_get (D := (dC, dI)) (ci := 13) (v := .ref c3) (C := RX12) (T := TX12) (N := 12) hx hb hts hi_k_X12_isUsedProgram_X12 hown hK hP 0 rfl rfl 6 (by decide) (hts (.fieldLink RX12 33 "TimeMachine" "timeline" "LTimeMachine$Timeline;") (List.mem_of_getElem? (i := 2) rfl)) (fun _ h9 => h9) rfl dX12_isUsedProgram_18 ?_
  refine va_get (D := (dC, dI)) (ci := 12) (v := .ref c4) (C := RX11) (T := TX11) (N := 16) hx hb hts hi_k_X12_isUsedProgram_X11 hown hK hP 2 rfl rfl 0 (by decide) (hts (.fieldLink RX12 297 "TimeMachine$Timeline" "programs" "[LTimeMachine$Program;") (List.mem_of_getElem? (i := 3) rfl)) (fun _ h9 => h9) rfl dX12_isUsedProgram_21 ?_
  refine lv_iload_n hx hb dX12_isUsedProgram_24 rfl (lv_at hl 0 rfl) ?_
  refine va_aldq (i := 3) hx hb hK hP 3 1 rfl rfl (vp_in_iff.mpr ⟨by decide, by decide⟩) dX12_isUsedProgram_25 ?_
  refine W.eq (g2 := F0 m 26 ls [.null]) rfl ?_
  refine lv_aload_n hx hb dX12_isUsedProgram_26 rfl (lv_at hl 2 rfl) ?_
  refine W.eq (g2 := F0 m 27 ls [va_rf (some c6), va_rf (none)]) rfl ?_
  refine lv_acmp_ne (tgt := 32) hx hb dX12_isUsedProgram_27 (by decide) (fun _ => ?_) (fun h9 => absurd h9 (by simp))
  refine lv_iinc (v := 4) (lv' := [(2, .int 4), (0, .ref c0), (1, .ref c6)]) hx hb dX12_isUsedProgram_32 hl (k := 0) rfl (by decide) (by decide) rfl (fun ls hl => ?_)
  refine lv_goto (tgt := 2) hx hb dX12_isUsedProgram_35 (by decide) ?_
  refine lv_iload_n hx hb dX12_isUsedProgram_2 rfl (lv_at hl 0 rfl) ?_
  refine lv_iconst (v := 4) hx hb dX12_isUsedProgram_3 (by decide) ?_
  refine lv_icmp_ge (tgt := 38) hx hb dX12_isUsedProgram_4 (by decide) (fun _ => ?_) (fun h9 => absurd (by decide) h9)
  refine lv_iconst (v := 0) hx hb dX12_isUsedProgram_38 (by decide) ?_
  have hP9 := hP.sub (ws' := [(c0, .inr (13, [.ref c7, .int 0, .int 0, .ref c1, .ref c8, .ref c9, .ref c3, .ref c10, .ref c11, .ref c12, .int 0, .ref c13])), (c1, .inl (c2, 4, .inr (.inr (.inr (.inr (fun _ => none)))))), (c3, .inr (12, [.ref c4, .ref c14, .ref c15, .ref c16, .ref c17, .ref c18, .int 0, .ref c19, .ref c20, .int 0, .int 0, .int 0, .int 0, .int 0, .int 0, .int 0])), (c4, .inl (c5, 4, .inr (.inr (.inr (.inr (fun _ => none))))))]) [0, 1, 2, 3] rfl
  have hD9 := hD.sub (ws' := [(c0, .inr (13, [.ref c7, .int 0, .int 0, .ref c1, .ref c8, .ref c9, .ref c3, .ref c10, .ref c11, .ref c12, .int 0, .ref c13])), (c1, .inl (c2, 4, .inr (.inr (.inr (.inr (fun _ => none)))))), (c3, .inr (12, [.ref c4, .ref c14, .ref c15, .ref c16, .ref c17, .ref c18, .int 0, .ref c19, .ref c20, .int 0, .int 0, .int 0, .int 0, .int 0, .int 0, .int 0])), (c4, .inl (c5, 4, .inr (.inr (.inr (.inr (fun _ => none))))))]) [0, 1, 2, 3] (by decide) rfl
  have hK9 := hK.sub (tys' := [(c2, .object RX8), (c5, .object RX8)]) [0, 1] rfl
  refine W.widen (k := 0) (n := 0) (by decide +kernel) (by decide +kernel) ?_
  exact W.zret (v := 0) hx hb hr (by decide) (fun t ht hW => ⟨⟨0, (), rfl, rfl, by rw [ht]; exact hP9, va_K.moved hW.alike hK9, hD9⟩, hS.F ht⟩) hS.2.2 dX12_isUsedProgram_39
def ow_k_X12_unusedProgram : List Cond := .code yX12_unusedProgram cX12_unusedProgram 2 (some (.object "TimeMachine$Program")) :: ([.fieldLink RX12 20 "TimeMachine" "programPool" "[LTimeMachine$Program;", .methodLink RX12 293 yX12_isUsedProgram, .instanceMethod yX12_isUsedProgram, .selects RX12 yX12_isUsedProgram yX12_isUsedProgram, .initialized RX12] ++ (u_ws RX12 TX12 12 ++ (ow_k_X12_isUsedProgram ++ [])))
theorem gd_k_X12_unusedProgram : ∀ w ∈ ow_k_X12_unusedProgram, (w.onTables && w.keeps) = true ∨ ∃ ty, w = Cond.arrayClass ty := List.forall_mem_cons.mpr ⟨good_of_word rfl, List.forall_mem_append.mpr ⟨fun w h => good_of_word (List.all_eq_true.mp (by decide +kernel) w h), List.forall_mem_append.mpr ⟨gu_X12, List.forall_mem_append.mpr ⟨gd_k_X12_isUsedProgram, fun _ h => nomatch h⟩⟩⟩⟩
theorem hi_k_X12_unusedProgram_X12 : ∀ w ∈ u_ws RX12 TX12 12, w ∈ ow_k_X12_unusedProgram := fun w h => List.mem_cons_of_mem _ (List.mem_append_right _ (List.mem_append_left _ h))
theorem gi_k_X12_unusedProgram_0 : GoodIn ow_k_X12_unusedProgram (wsV RX12 293 RX12 yX12_isUsedProgram ow_k_X12_isUsedProgram) := goodIn_app (goodIn_of _ (by decide +kernel)) (fun w h => ⟨List.mem_cons_of_mem _ (List.mem_append_right _ (List.mem_append_right _ (List.mem_append_left _ h))), gd_k_X12_isUsedProgram w h⟩)
set_option maxHeartbeats 40000000 in
set_option maxRecDepth 100000 in
theorem k_X12_unusedProgram (l : Launch) (hlt : l.stackTraces = false) (dC : Nat → ClassId) (dI : Nat → Nat → Nat) (c0 : Nat) (c1 : Nat) (c2 : ClassId) (c3 : Nat) (c4 : ClassId) (c5 : Nat) (c6 : Nat) (c7 : Nat) (c8 : Nat) (c9 : Nat) (c10 : Nat) (c11 : Nat) (c12 : Nat) (c13 : Nat) (c14 : Nat) (c15 : Nat) (c16 : ClassId) (c17 : Nat) (c18 : Nat) (c19 : Nat) (c20 : Nat) (c21 : Nat) (c22 : Nat) (c23 : Nat) (c24 : Nat) (c25 : Nat) (c26 : Nat) (c27 : Nat) (c28 : Nat) (c29 : Nat) (sz : Nat) : Met l yX12_unusedProgram ow_k_X12_unusedProgram ({ frames := 1, cells := 0, slots := 0, locals := 22 }) (va_Pc [.ref c0] (fun U => U.heap.size = sz ∧ va_P (dC, dI) vwCl [(c0, .inr (13, [.ref c17, .int 0, .int 0, .ref c1, .ref c3, .ref c18, .ref c14, .ref c19, .ref c20, .ref c21, .int 0, .ref c22])), (c1, .inl (c2, 4, .inr (.inr (.inr (.inr (fun _ => none)))))), (c3, .inl (c4, 9, .inr (.inr (.inr (.inr (nv_row [some c5, some c6, some c7, some c8, some c9, some c10, some c11, some c12, some c13])))))), (c14, .inr (12, [.ref c15, .ref c23, .ref c24, .ref c25, .ref c26, .ref c27, .int 0, .ref c28, .ref c29, .int 0, .int 0, .int 0, .int 0, .int 0, .int 0, .int 0])), (c15, .inl (c16, 4, .inr (.inr (.inr (.inr (fun _ => none))))))] U.heap ∧ va_K (dC, dI) vwCl [(c2, .object RX8), (c4, .object RX8), (c16, .object RX8)] U ∧ va_D (fun _ => True) [(c0, .inr (13, [.ref c17, .int 0, .int 0, .ref c1, .ref c3, .ref c18, .ref c14, .ref c19, .ref c20, .ref c21, .int 0, .ref c22])), (c1, .inl (c2, 4, .inr (.inr (.inr (.inr (fun _ => none)))))), (c3, .inl (c4, 9, .inr (.inr (.inr (.inr (nv_row [some c5, some c6, some c7, some c8, some c9, some c10, some c11, some c12, some c13])))))), (c14, .inr (12, [.ref c15, .ref c23, .ref c24, .ref c25, .ref c26, .ref c27, .int 0, .ref c28, .ref c29, .int 0, .int 0, .int 0, .int 0, .int 0, .int 0, .int 0])), (c15, .inl (c16, 4, .inr (.inr (.inr (.inr (fun _ => none))))))] ∧ nv_E (va_A [(c0, .inr (13, [.ref c17, .int 0, .int 0, .ref c1, .ref c3, .ref c18, .ref c14, .ref c19, .ref c20, .ref c21, .int 0, .ref c22])), (c1, .inl (c2, 4, .inr (.inr (.inr (.inr (fun _ => none)))))), (c3, .inl (c4, 9, .inr (.inr (.inr (.inr (nv_row [some c5, some c6, some c7, some c8, some c9, some c10, some c11, some c12, some c13])))))), (c14, .inr (12, [.ref c15, .ref c23, .ref c24, .ref c25, .ref c26, .ref c27, .int 0, .ref c28, .ref c29, .int 0, .int 0, .int 0, .int 0, .int 0, .int 0, .int 0])), (c15, .inl (c16, 4, .inr (.inr (.inr (.inr (fun _ => none))))))] sz) U)) (va_Qq (fun r _ => r = some c5) (fun (_ : Unit) t => va_P (dC, dI) vwCl [(c3, .inl (c4, 9, .inr (.inr (.inr (.inr (nv_row [some c5, some c6, some c7, some c8, some c9, some c10, some c11, some c12, some c13])))))), (c0, .inr (13, [.ref c17, .int 0, .int 0, .ref c1, .ref c3, .ref c18, .ref c14, .ref c19, .ref c20, .ref c21, .int 0, .ref c22])), (c1, .inl (c2, 4, .inr (.inr (.inr (.inr (fun _ => none)))))), (c14, .inr (12, [.ref c15, .ref c23, .ref c24, .ref c25, .ref c26, .ref c27, .int 0, .ref c28, .ref c29, .int 0, .int 0, .int 0, .int 0, .int 0, .int 0, .int 0])), (c15, .inl (c16, 4, .inr (.inr (.inr (.inr (fun _ => none))))))] t.heap ∧ va_K (dC, dI) vwCl [(c4, .object RX8), (c2, .object RX8), (c16, .object RX8)] t ∧ va_D (va_A [(c0, .inr (13, [.ref c17, .int 0, .int 0, .ref c1, .ref c3, .ref c18, .ref c14, .ref c19, .ref c20, .ref c21, .int 0, .ref c22])), (c1, .inl (c2, 4, .inr (.inr (.inr (.inr (fun _ => none)))))), (c3, .inl (c4, 9, .inr (.inr (.inr (.inr (nv_row [some c5, some c6, some c7, some c8, some c9, some c10, some c11, some c12, some c13])))))), (c14, .inr (12, [.ref c15, .ref c23, .ref c24, .ref c25, .ref c26, .ref c27, .int 0, .ref c28, .ref c29, .int 0, .int 0, .int 0, .int 0, .int 0, .int 0, .int 0])), (c15, .inl (c16, 4, .inr (.inr (.inr (.inr (fun _ => none))))))] sz) [(c3, .inl (c4, 9, .inr (.inr (.inr (.inr (nv_row [some c5, some c6, some c7, some c8, some c9, some c10, some c11, some c12, some c13])))))), (c0, .inr (13, [.ref c17, .int 0, .int 0, .ref c1, .ref c3, .ref c18, .ref c14, .ref c19, .ref c20, .ref c21, .int 0, .ref c22])), (c1, .inl (c2, 4, .inr (.inr (.inr (.inr (fun _ => none)))))), (c14, .inr (12, [.ref c15, .ref c23, .ref c24, .ref c25, .ref c26, .ref c27, .int 0, .ref c28, .ref c29, .int 0, .int 0, .int 0, .int 0, .int 0, .int 0, .int 0])), (c15, .inl (c16, 4, .inr (.inr (.inr (.inr (fun _ => none))))))]) (va_A [(c0, .inr (13, [.ref c17, .int 0, .int 0, .ref c1, .ref c3, .ref c18, .ref c14, .ref c19, .ref c20, .ref c21, .int 0, .ref c22])), (c1, .inl (c2, 4, .inr (.inr (.inr (.inr (fun _ => none)))))), (c3, .inl (c4, 9, .inr (.inr (.inr (.inr (nv_row [some c5, some c6, some c7, some c8, some c9, some c10, some c11, some c12, some c13])))))), (c14, .inr (12, [.ref c15, .ref c23, .ref c24, .ref c25, .ref c26, .ref c27, .int 0, .ref c28, .ref c29, .int 0, .int 0, .int 0, .int 0, .int 0, .int 0, .int 0])), (c15, .inl (c16, 4, .inr (.inr (.inr (.inr (fun _ => none))))))] sz)) 0 0 (va_A [(c0, .inr (13, [.ref c17, .int 0, .int 0, .ref c1, .ref c3, .ref c18, .ref c14, .ref c19, .ref c20, .ref c21, .int 0, .ref c22])), (c1, .inl (c2, 4, .inr (.inr (.inr (.inr (fun _ => none)))))), (c3, .inl (c4, 9, .inr (.inr (.inr (.inr (nv_row [some c5, some c6, some c7, some c8, some c9, some c10, some c11, some c12, some c13])))))), (c14, .inr (12, [.ref c15, .ref c23, .ref c24, .ref c25, .ref c26, .ref c27, .int 0, .ref c28, .ref c29, .int 0, .int 0, .int 0, .int 0, .int 0, .int 0, .int 0])), (c15, .inl (c16, 4, .inr (.inr (.inr (.inr (fun _ => none))))))] sz) := by
  refine Met.ofW (cc := cX12_unusedProgram) (maxL := 2) (ret := (some (.object "TimeMachine$Program"))) (by decide) rfl ?_
  intro p e s m args below meth c s₁ B hml hv
  obtain ⟨rfl, hsz, hP, hK, hD0, hN⟩ := hv
  have hx := B.exec
  have hb := B.bytes
  have hr := B.returns
  have hts := atoms_spec (ws := ow_k_X12_unusedProgram) B.pre
  have hown : s.vm.findClass RX12 = some m.cls := findClass_of_methodNamed B.named
  have hlocks := B.notSynchronized
  subst hsz
  have hD := hD0.self (sz := s.heap.size)
  generalize hAe : va_A [(c0, .inr (13, [.ref c17, .int 0, .int 0, .ref c1, .ref c3, .ref c18, .ref c14, .ref c19, .ref c20, .ref c21, .int 0, .ref c22])), (c1, .inl (c2, 4, .inr (.inr (.inr (.inr (fun _ => none)))))), (c3, .inl (c4, 9, .inr (.inr (.inr (.inr (nv_row [some c5, some c6, some c7, some c8, some c9, some c10, some c11, some c12, some c13])))))), (c14, .inr (12, [.ref c15, .ref c23, .ref c24, .ref c25, .ref c26, .ref c27, .int 0, .ref c28, .ref c29, .int 0, .int 0, .int 0, .int 0, .int 0, .int 0, .int 0])), (c15, .inl (c16, 4, .inr (.inr (.inr (.inr (fun _ => none))))))] s.heap.size = A at hD hN ⊢
  have hA : ∀ q : Nat, s.heap.size ≤ q → A q := fun q h => by rw [← hAe]; exact Or.inr h
  have hS : va_S A s.heap s.heap [] := va_S.rf
  have hl := lv_entry ([.ref c0]) (n := 2) (Nat.le_of_ble_eq_true rfl)
  rw [lg_entry_eq]
  generalize (lg_sl ([.ref c0]) ++ List.replicate (2 - (lg_sl ([.ref c0])).length) Slot.unset).toArray = ls at hl ⊢
  have hl : lv_has ls 2 [(0, .ref c0)] := hl
  refine lv_iconst (v := 0) hx hb dX12_unusedProgram_0 (by decide) ?_
  refine lv_istore_n (lv' := [(1, .int 0), (0, .ref c0)]) hx hb dX12_unusedProgram_1 rfl hl (by decide) rfl (fun ls hl => ?_)
  refine lv_iload_n hx hb dX12_unusedProgram_2 rfl (lv_at hl 0 rfl) ?_
  refine lv_aload_n hx hb dX12_unusedProgram_3 rfl (lv_at hl 1 rfl) ?_
  refine va_get (D := (dC, dI)) (ci := 13) (v := .ref c3) (C := RX12) (T := TX12) (N := 12) hx hb hts hi_k_X12_unusedProgram_X12 hown hK hP 0 rfl rfl 4 (by decide) (hts (.fieldLink RX12 20 "TimeMachine" "programPool" "[LTimeMachine$Program;") (List.mem_of_getElem? (i := 1) rfl)) (fun _ h9 => h9) rfl dX12_unusedProgram_4 ?_
  refine va_alen (v := 9) hx hb hK hP 2 1 rfl rfl (show Int32.ofNat 9 = 9 by decide) dX12_unusedProgram_7 ?_
  refine lv_iconst (v := 1) hx hb dX12_unusedProgram_8 (by decide) ?_
  refine lv_isub hx hb dX12_unusedProgram_9 ?_
  refine lv_topi (fun z1 ez1 => ?_)
  obtain rfl : z1 = 8 := ez1.trans (by decide)
  refine lv_icmp_ge (tgt := 32) hx hb dX12_unusedProgram_10 (by decide) (fun h9 => absurd h9 (by decide)) (fun _ => ?_)
  refine lv_aload_n hx hb dX12_unusedProgram_13 rfl (lv_at hl 1 rfl) ?_
  refine lv_aload_n hx hb dX12_unusedProgram_14 rfl (lv_at hl 1 rfl) ?_
  refine va_get (D := (dC, dI)) (ci := 13) (v := .ref c3) (C := RX12) (T := TX12) (N := 12) hx hb hts hi_k_X12_unusedProgram_X12 hown hK hP 0 rfl rfl 4 (by decide) (hts (.fieldLink RX12 20 "TimeMachine" "programPool" "[LTimeMachine$Program;") (List.mem_of_getElem? (i := 1) rfl)) (fun _ h9 => h9) rfl dX12_unusedProgram_15 ?_
  refine lv_iload_n hx hb dX12_unusedProgram_18 rfl (lv_at hl 0 rfl) ?_
  refine va_aldq (i := 0) hx hb hK hP 2 1 rfl rfl (vp_in_iff.mpr ⟨by decide, by decide⟩) dX12_unusedProgram_19 ?_
  refine W.eq (g2 := F0 m 20 ls [.ref c5, .ref c0]) (by rw [nv_row_at (k := 0) (by decide)]; rfl) ?_
  have hPc := hP.sub (ws' := [(c0, .inr (13, [.ref c17, .int 0, .int 0, .ref c1, .ref c3, .ref c18, .ref c14, .ref c19, .ref c20, .ref c21, .int 0, .ref c22])), (c1, .inl (c2, 4, .inr (.inr (.inr (.inr (fun _ => none)))))), (c14, .inr (12, [.ref c15, .ref c23, .ref c24, .ref c25, .ref c26, .ref c27, .int 0, .ref c28, .ref c29, .int 0, .int 0, .int 0, .int 0, .int 0, .int 0, .int 0])), (c15, .inl (c16, 4, .inr (.inr (.inr (.inr (fun _ => none))))))]) [0, 1, 3, 4] rfl
  have hDc := hD.sub (ws' := [(c0, .inr (13, [.ref c17, .int 0, .int 0, .ref c1, .ref c3, .ref c18, .ref c14, .ref c19, .ref c20, .ref c21, .int 0, .ref c22])), (c1, .inl (c2, 4, .inr (.inr (.inr (.inr (fun _ => none)))))), (c14, .inr (12, [.ref c15, .ref c23, .ref c24, .ref c25, .ref c26, .ref c27, .int 0, .ref c28, .ref c29, .int 0, .int 0, .int 0, .int 0, .int 0, .int 0, .int 0])), (c15, .inl (c16, 4, .inr (.inr (.inr (.inr (fun _ => none))))))]) [0, 1, 3, 4] (by decide) rfl
  have hKc := hK.sub (tys' := [(c2, .object RX8), (c16, .object RX8)]) [0, 2] rfl
  have hFc := va_free (wc := [(c0, .inr (13, [.ref c17, .int 0, .int 0, .ref c1, .ref c3, .ref c18, .ref c14, .ref c19, .ref c20, .ref c21, .int 0, .ref c22])), (c1, .inl (c2, 4, .inr (.inr (.inr (.inr (fun _ => none)))))), (c14, .inr (12, [.ref c15, .ref c23, .ref c24, .ref c25, .ref c26, .ref c27, .int 0, .ref c28, .ref c29, .int 0, .int 0, .int 0, .int 0, .int 0, .int 0, .int 0])), (c15, .inl (c16, 4, .inr (.inr (.inr (.inr (fun _ => none))))))]) hD hS hA [0, 1, 3, 4] rfl
  refine va_calli (va_runV (As := [.ref c5]) (rest := []) ⟨hx, hb, hml, hown, hts⟩ (k_X12_isUsedProgram l hlt dC dI c0 c1 c2 c14 c15 c16 c5 c17 c3 c18 c19 c20 c21 c22 c23 c24 c25 c26 c27 c28 c29  s.heap.size) (cwV 1 hts gi_k_X12_unusedProgram_0 rfl rfl rfl (by decide +kernel) ⟨Nat.le_of_ble_eq_true rfl, Nat.le_of_ble_eq_true rfl⟩) ⟨fun a U g mk q => by obtain ⟨q0, q1, qP, qK, qD, qN⟩ := q; exact ⟨q0, q1, qP, va_K.moved (u := U) (U := U.calling g mk a) (Vm.Alike.refl U.vm) qK, qD, nv_same rfl rfl qN⟩, va_recv hKc hPc (ci := 13) (q0 := 0) rfl rfl, fun U hU hW => ⟨rfl, by rw [hU], by rw [hU]; exact hPc, va_K.moved hW.alike hKc, hDc.weaken (fun _ _ _ _ => trivial), nv_call hS hFc hU hW hN⟩⟩ rfl rfl hl.1 rfl (lv_room (Nat.le_of_ble_eq_true rfl)) dX12_unusedProgram_20 ⟨by decide +kernel, by decide +kernel⟩) hS (fun q _ h => hFc q h) hFc (fun r2 u t H1 locs ht hvm hw hB hz1 hk1 hS => ?_)
  obtain ⟨hP1, hK1, hD1⟩ := hB
  rw [ht] at hP1
  have hK1 := va_K.moved hvm.symm hK1
  obtain rfl : r2 = 0 := hw
  obtain ⟨hP, hD⟩ := va_join (wr := [(c3, .inl (c4, 9, .inr (.inr (.inr (.inr (nv_row [some c5, some c6, some c7, some c8, some c9, some c10, some c11, some c12, some c13]))))))]) (w1 := [(c0, .inr (13, [.ref c17, .int 0, .int 0, .ref c1, .ref c3, .ref c18, .ref c14, .ref c19, .ref c20, .ref c21, .int 0, .ref c22])), (c1, .inl (c2, 4, .inr (.inr (.inr (.inr (fun _ => none)))))), (c14, .inr (12, [.ref c15, .ref c23, .ref c24, .ref c25, .ref c26, .ref c27, .int 0, .ref c28, .ref c29, .int 0, .int 0, .int 0, .int 0, .int 0, .int 0, .int 0])), (c15, .inl (c16, 4, .inr (.inr (.inr (.inr (fun _ => none))))))]) hP hD [0, 1, 3, 4] [2] rfl rfl (by decide) (by decide) hk1 hFc hP1 hD1
  have hK := (hK.sub (tys' := [(c4, .object RX8)]) [1] rfl).app hK1
  generalize H1 = H at hP hS ⊢
  have hP : va_P (dC, dI) vwCl [(c3, .inl (c4, 9, .inr (.inr (.inr (.inr (nv_row [some c5, some c6, some c7, some c8, some c9, some c10, some c11, some c12, some c13])))))), (c0, .inr (13, [.ref c17, .int 0, .int 0, .ref c1, .ref c3, .ref c18, .ref c14, .ref c19, .ref c20, .ref c21, .int 0, .ref c22])), (c1, .inl (c2, 4, .inr (.inr (.inr (.inr (fun _ => none)))))), (c14, .inr (12, [.ref c15, .ref c23, .ref c24, .ref c25, .ref c26, .ref c27, .int 0, .ref c28, .ref c29, .int 0, .int 0, .int 0, .int 0, .int 0, .int 0, .int 0])), (c15, .inl (c16, 4, .inr (.inr (.inr (.inr (fun _ => none))))))] H := hP
  have hD : va_D A [(c3, .inl (c4, 9, .inr (.inr (.inr (.inr (nv_row [some c5, some c6, some c7, some c8, some c9, some c10, some c11, some c12, some c13])))))), (c0, .inr (13, [.ref c17, .int 0, .int 0, .ref c1, .ref c3, .ref c18, .ref c14, .ref c19, .ref c20, .ref c21, .int 0, .ref c22])), (c1, .inl (c2, 4, .inr (.inr (.inr (.inr (fun _ => none)))))), (c14, .inr (12, [.ref c15, .ref c23, .ref c24, .ref c25, .ref c26, .ref c27, .int 0, .ref c28, .ref c29, .int 0, .int 0, .int 0, .int 0, .int 0, .int 0, .int 0])), (c15, .inl (c16, 4, .inr (.inr (.inr (.inr (fun _ => none))))))] := hD
  have hK : va_K (dC, dI) vwCl [(c4, .object RX8), (c2, .object RX8), (c16, .object RX8)] s := hK
  refine W.widen (k := 0) (n := 0) (by decide +kernel) (by decide +kernel) ?_
  refine lv_if_eq (tgt := 32) hx hb dX12_unusedProgram_23 (by decide) (fun _ => ?_) (fun h9 => absurd (by decide) h9)
  refine lv_aload_n hx hb dX12_unusedProgram_32 rfl (lv_at hl 1 rfl) ?_
  refine va_get (D := (dC, dI)) (ci := 13) (v := .ref c3) (C := RX12) (T := TX12) (N := 12) hx hb hts hi_k_X12_unusedProgram_X12 hown hK hP 1 rfl rfl 4 (by decide) (hts (.fieldLink RX12 20 "TimeMachine" "programPool" "[LTimeMachine$Program;") (List.mem_of_getElem? (i := 1) rfl)) (fun _ h9 => h9) rfl dX12_unusedProgram_33 ?_
  refine lv_iload_n hx hb dX12_unusedProgram_36 rfl (lv_at hl 0 rfl) ?_
  refine va_aldq (i := 0) hx hb hK hP 0 0 rfl rfl (vp_in_iff.mpr ⟨by decide, by decide⟩) dX12_unusedProgram_37 ?_
  refine W.eq (g2 := F0 m 38 ls [.ref c5]) (by rw [nv_row_at (k := 0) (by decide)]; rfl) ?_
  have hP9 := hP.sub (ws' := [(c3, .inl (c4, 9, .inr (.inr (.inr (.inr (nv_row [some c5, some c6, some c7, some c8, some c9, some c10, some c11, some c12, some c13])))))), (c0, .inr (13, [.ref c17, .int 0, .int 0, .ref c1, .ref c3, .ref c18, .ref c14, .ref c19, .ref c20, .ref c21, .int 0, .ref c22])), (c1, .inl (c2, 4, .inr (.inr (.inr (.inr (fun _ => none)))))), (c14, .inr (12, [.ref c15, .ref c23, .ref c24, .ref c25, .ref c26, .ref c27, .int 0, .ref c28, .ref c29, .int 0, .int 0, .int 0, .int 0, .int 0, .int 0, .int 0])), (c15, .inl (c16, 4, .inr (.inr (.inr (.inr (fun _ => none))))))]) [0, 1, 2, 3, 4] rfl
  have hD9 := hD.sub (ws' := [(c3, .inl (c4, 9, .inr (.inr (.inr (.inr (nv_row [some c5, some c6, some c7, some c8, some c9, some c10, some c11, some c12, some c13])))))), (c0, .inr (13, [.ref c17, .int 0, .int 0, .ref c1, .ref c3, .ref c18, .ref c14, .ref c19, .ref c20, .ref c21, .int 0, .ref c22])), (c1, .inl (c2, 4, .inr (.inr (.inr (.inr (fun _ => none)))))), (c14, .inr (12, [.ref c15, .ref c23, .ref c24, .ref c25, .ref c26, .ref c27, .int 0, .ref c28, .ref c29, .int 0, .int 0, .int 0, .int 0, .int 0, .int 0, .int 0])), (c15, .inl (c16, 4, .inr (.inr (.inr (.inr (fun _ => none))))))]) [0, 1, 2, 3, 4] (by decide) rfl
  have hK9 := hK.sub (tys' := [(c4, .object RX8), (c2, .object RX8), (c16, .object RX8)]) [0, 1, 2] rfl
  refine W.widen (k := 0) (n := 0) (by decide +kernel) (by decide +kernel) ?_
  exact W.aret (v := .ref c5) hx hb hr (by first | exact Or.inl ⟨_, rfl⟩ | exact Or.inr ⟨_, rfl⟩) (by first | exact Or.inl rfl | exact Or.inr ⟨_, rfl⟩) (fun t ht hW => ⟨⟨some c5, (), rfl, rfl, by rw [ht]; exact hP9, va_K.moved hW.alike hK9, hD9⟩, hS.F ht⟩) hS.2.2 dX12_unusedProgram_38
def ow_k_X12_useTape : List Cond := .code yX12_useTape cX12_useTape 2 (some .int) :: ([.fieldLink RX12 58 "TimeMachine" "taped" "I", .fieldLink RX12 66 "TimeMachine" "fresh" "Z"] ++ (u_ws RX12 TX12 12 ++ []))
theorem gd_k_X12_useTape : ∀ w ∈ ow_k_X12_useTape, (w.onTables && w.keeps) = true ∨ ∃ ty, w = Cond.arrayClass ty := List.forall_mem_cons.mpr ⟨good_of_word rfl, List.forall_mem_append.mpr ⟨fun w h => good_of_word (List.all_eq_true.mp (by decide +kernel) w h), List.forall_mem_append.mpr ⟨gu_X12, fun _ h => nomatch h⟩⟩⟩
theorem hi_k_X12_useTape_X12 : ∀ w ∈ u_ws RX12 TX12 12, w ∈ ow_k_X12_useTape := fun w h => List.mem_cons_of_mem _ (List.mem_append_right _ (List.mem_append_left _ h))
set_option maxHeartbeats 40000000 in
set_option maxRecDepth 100000 in
theorem k_X12_useTape (l : Launch) (hlt : l.stackTraces = false) (dC : Nat → ClassId) (dI : Nat → Nat → Nat) (c0 : Nat) (c1 : Nat) (c2 : Nat) (c3 : Nat) (c4 : Nat) (c5 : Nat) (c6 : Nat) (c7 : Nat) (c8 : Nat) (c9 : Nat) (sz : Nat) : Met l yX12_useTape ow_k_X12_useTape ({ frames := 0, cells := 0, slots := 0, locals := 0 }) (va_Pc [.ref c0] (fun U => U.heap.size = sz ∧ va_P (dC, dI) vwCl [(c0, .inr (13, [.ref c1, .int 0, .int 0, .ref c2, .ref c3, .ref c4, .ref c5, .ref c6, .ref c7, .ref c8, .int 0, .ref c9]))] U.heap ∧ va_K (dC, dI) vwCl [] U ∧ va_D (fun _ => True) [(c0, .inr (13, [.ref c1, .int 0, .int 0, .ref c2, .ref c3, .ref c4, .ref c5, .ref c6, .ref c7, .ref c8, .int 0, .ref c9]))] ∧ nv_E (va_A [(c0, .inr (13, [.ref c1, .int 0, .int 0, .ref c2, .ref c3, .ref c4, .ref c5, .ref c6, .ref c7, .ref c8, .int 0, .ref c9]))] sz) U)) (va_Qi (fun r _ => r = 0) (fun (_ : Unit) t => va_P (dC, dI) vwCl [(c0, .inr (13, [.ref c1, .int 0, .int 0, .ref c2, .ref c3, .ref c4, .ref c5, .ref c6, .ref c7, .ref c8, .int 0, .ref c9]))] t.heap ∧ va_K (dC, dI) vwCl [] t ∧ va_D (va_A [(c0, .inr (13, [.ref c1, .int 0, .int 0, .ref c2, .ref c3, .ref c4, .ref c5, .ref c6, .ref c7, .ref c8, .int 0, .ref c9]))] sz) [(c0, .inr (13, [.ref c1, .int 0, .int 0, .ref c2, .ref c3, .ref c4, .ref c5, .ref c6, .ref c7, .ref c8, .int 0, .ref c9]))]) (va_A [(c0, .inr (13, [.ref c1, .int 0, .int 0, .ref c2, .ref c3, .ref c4, .ref c5, .ref c6, .ref c7, .ref c8, .int 0, .ref c9]))] sz)) 0 0 (va_A [(c0, .inr (13, [.ref c1, .int 0, .int 0, .ref c2, .ref c3, .ref c4, .ref c5, .ref c6, .ref c7, .ref c8, .int 0, .ref c9]))] sz) := by
  refine Met.ofW (cc := cX12_useTape) (maxL := 2) (ret := (some .int)) (by decide) rfl ?_
  intro p e s m args below meth c s₁ B hml hv
  obtain ⟨rfl, hsz, hP, hK, hD0, hN⟩ := hv
  have hx := B.exec
  have hb := B.bytes
  have hr := B.returns
  have hts := atoms_spec (ws := ow_k_X12_useTape) B.pre
  have hown : s.vm.findClass RX12 = some m.cls := findClass_of_methodNamed B.named
  have hlocks := B.notSynchronized
  subst hsz
  have hD := hD0.self (sz := s.heap.size)
  generalize hAe : va_A [(c0, .inr (13, [.ref c1, .int 0, .int 0, .ref c2, .ref c3, .ref c4, .ref c5, .ref c6, .ref c7, .ref c8, .int 0, .ref c9]))] s.heap.size = A at hD hN ⊢
  have hA : ∀ q : Nat, s.heap.size ≤ q → A q := fun q h => by rw [← hAe]; exact Or.inr h
  have hS : va_S A s.heap s.heap [] := va_S.rf
  have hl := lv_entry ([.ref c0]) (n := 2) (Nat.le_of_ble_eq_true rfl)
  rw [lg_entry_eq]
  generalize (lg_sl ([.ref c0]) ++ List.replicate (2 - (lg_sl ([.ref c0])).length) Slot.unset).toArray = ls at hl ⊢
  have hl : lv_has ls 2 [(0, .ref c0)] := hl
  refine lv_aload_n hx hb dX12_useTape_0 rfl (lv_at hl 0 rfl) ?_
  refine va_get (D := (dC, dI)) (ci := 13) (v := .int 0) (C := RX12) (T := TX12) (N := 12) hx hb hts hi_k_X12_useTape_X12 hown hK hP 0 rfl rfl 1 (by decide) (hts (.fieldLink RX12 58 "TimeMachine" "taped" "I") (List.mem_of_getElem? (i := 1) rfl)) (fun _ h9 => h9) rfl dX12_useTape_1 ?_
  refine lv_istore_n (lv' := [(1, .int 0), (0, .ref c0)]) hx hb dX12_useTape_4 rfl hl (by decide) rfl (fun ls hl => ?_)
  refine lv_aload_n hx hb dX12_useTape_5 rfl (lv_at hl 1 rfl) ?_
  refine lv_iconst (v := 0) hx hb dX12_useTape_6 (by decide) ?_
  refine va_put (D := (dC, dI)) (ci := 13) (v := .int 0) (ty := .int) (C := RX12) (T := TX12) (N := 12) hx hb hts hi_k_X12_useTape_X12 tyX12 tyX12_ok nmX12 hown hK hP hD hS 0 rfl rfl 1 (by decide) (hts (.fieldLink RX12 58 "TimeMachine" "taped" "I") (List.mem_of_getElem? (i := 1) rfl)) (fun _ h9 => h9) rfl (by decide +kernel) rfl rfl (Nat.le_of_ble_eq_true rfl) dX12_useTape_7 (fun H locs hP hD hS => ?_)
  have hP : va_P (dC, dI) vwCl [(c0, .inr (13, [.ref c1, .int 0, .int 0, .ref c2, .ref c3, .ref c4, .ref c5, .ref c6, .ref c7, .ref c8, .int 0, .ref c9]))] H := hP
  have hD : va_D A [(c0, .inr (13, [.ref c1, .int 0, .int 0, .ref c2, .ref c3, .ref c4, .ref c5, .ref c6, .ref c7, .ref c8, .int 0, .ref c9]))] := hD
  refine lv_aload_n hx hb dX12_useTape_10 rfl (lv_at hl 1 rfl) ?_
  refine lv_iconst (v := 0) hx hb dX12_useTape_11 (by decide) ?_
  refine va_put (D := (dC, dI)) (ci := 13) (v := .int 0) (ty := .boolean) (C := RX12) (T := TX12) (N := 12) hx hb hts hi_k_X12_useTape_X12 tyX12 tyX12_ok nmX12 hown hK hP hD hS 0 rfl rfl 2 (by decide) (hts (.fieldLink RX12 66 "TimeMachine" "fresh" "Z") (List.mem_of_getElem? (i := 2) rfl)) (fun _ h9 => h9) rfl (by decide +kernel) rfl rfl (Nat.le_of_ble_eq_true rfl) dX12_useTape_12 (fun H locs hP hD hS => ?_)
  have hP : va_P (dC, dI) vwCl [(c0, .inr (13, [.ref c1, .int 0, .int 0, .ref c2, .ref c3, .ref c4, .ref c5, .ref c6, .ref c7, .ref c8, .int 0, .ref c9]))] H := hP
  have hD : va_D A [(c0, .inr (13, [.ref c1, .int 0, .int 0, .ref c2, .ref c3, .ref c4, .ref c5, .ref c6, .ref c7, .ref c8, .int 0, .ref c9]))] := hD
  refine lv_iload_n hx hb dX12_useTape_15 rfl (lv_at hl 0 rfl) ?_
  have hP9 := hP.sub (ws' := [(c0, .inr (13, [.ref c1, .int 0, .int 0, .ref c2, .ref c3, .ref c4, .ref c5, .ref c6, .ref c7, .ref c8, .int 0, .ref c9]))]) [0] rfl
  have hD9 := hD.sub (ws' := [(c0, .inr (13, [.ref c1, .int 0, .int 0, .ref c2, .ref c3, .ref c4, .ref c5, .ref c6, .ref c7, .ref c8, .int 0, .ref c9]))]) [0] (by decide) rfl
  have hK9 := hK.sub (tys' := []) [] rfl
  refine W.widen (k := 0) (n := 0) (by decide +kernel) (by decide +kernel) ?_
  exact W.iret (v := 0) hx hb hr (fun t ht hW => ⟨⟨0, (), rfl, rfl, by rw [ht]; exact hP9, va_K.moved hW.alike hK9, hD9⟩, hS.F ht⟩) hS.2.2 dX12_useTape_16
def ow_k_J7_fill_53178 : List Cond := .code yJ7_fill_53178 cJ7_fill_53178 4 none :: ([] ++ [])
theorem gd_k_J7_fill_53178 : ∀ w ∈ ow_k_J7_fill_53178, (w.onTables && w.keeps) = true ∨ ∃ ty, w = Cond.arrayClass ty := List.forall_mem_cons.mpr ⟨good_of_word rfl, List.forall_mem_append.mpr ⟨fun w h => good_of_word (List.all_eq_true.mp (by decide +kernel) w h), fun _ h => nomatch h⟩⟩
set_option maxHeartbeats 4000000 in
theorem k_J7_fill_53178_loop {p : Program} {l : Launch} {e : Env} {s : State} {m : MethodId} {args : Array Value} {below : List Frame} {meth : Method} {c : Code} {Q : State → Prop} {A : Nat → Prop} (dC : Nat → ClassId) (dI : Nat → Nat → Nat) (c0 : Nat) (c1 : ClassId) (hx : p.tables.exec = Jvm.exec) (hb : c.code = cJ7_fill_53178) (hK : va_K (dC, dI) vwCl [(c1, .int)] s)
    (kk : ∀ (f : Nat → Int32) (H : Heap) (locs : List Loc) (ls : Array Slot), va_P (dC, dI) vwCl [(c0, .inl (c1, 256, .inl f))] H → va_D A [(c0, .inl (c1, 256, .inl f))] → va_S A s.heap H locs → W p l e (headSpec ow_k_J7_fill_53178 ({ frames := 0, cells := 0, slots := 0, locals := 0 })).room s m args below meth c H locs 0 0 Q (F0 m 20 ls [])) :
    ∀ (k : Nat) (i : Int32) (f : Nat → Int32) (H : Heap) (locs : List Loc) (ls : Array Slot), 0 ≤ i.toInt → i.toInt + k = 256 → va_P (dC, dI) vwCl [(c0, .inl (c1, 256, .inl f))] H → va_D A [(c0, .inl (c1, 256, .inl f))] → va_S A s.heap H locs → lv_has ls 4 [(2, .int i), (3, .int 256), (0, .ref c0), (1, .int 0)] → W p l e (headSpec ow_k_J7_fill_53178 ({ frames := 0, cells := 0, slots := 0, locals := 0 })).room s m args below meth c H locs 0 0 Q (F0 m 5 ls []) := by
  have hNN : (256 : Int32).toInt = 256 := by decide
  intro k
  induction k with
  | zero =>
    intro i f H locs ls h0 hk hP hD hS hl
    refine lv_iload_n hx hb dJ7_fill_53178_5 rfl (lv_at hl 0 rfl) ?_
    refine lv_iload_n hx hb dJ7_fill_53178_6 rfl (lv_at hl 1 rfl) ?_
    refine lv_icmp_ge (tgt := 20) hx hb dJ7_fill_53178_7 (by decide) (fun _ => ?_) (fun h9 => absurd (Int32.le_iff_toInt_le.mpr (by rw [hNN]; omega)) h9)
    exact kk f H locs ls hP hD hS
  | succ k ih =>
    intro i f H locs ls h0 hk hP hD hS hl
    refine lv_iload_n hx hb dJ7_fill_53178_5 rfl (lv_at hl 0 rfl) ?_
    refine lv_iload_n hx hb dJ7_fill_53178_6 rfl (lv_at hl 1 rfl) ?_
    refine lv_icmp_ge (tgt := 20) hx hb dJ7_fill_53178_7 (by decide) (fun h9 => absurd (Int32.le_iff_toInt_le.mp h9) (by rw [hNN]; omega)) (fun _ => ?_)
    refine lv_aload_n hx hb dJ7_fill_53178_10 rfl (lv_at hl 2 rfl) ?_
    refine lv_iload_n hx hb dJ7_fill_53178_11 rfl (lv_at hl 0 rfl) ?_
    refine lv_iload_n hx hb dJ7_fill_53178_12 rfl (lv_at hl 3 rfl) ?_
    refine va_iast (i := i) (x := 0) hx hb hK hP hD hS 0 0 rfl rfl (by rw [vp_in_iff]; omega) dJ7_fill_53178_13 (fun H locs hP hD hS => ?_)
    generalize hf : upd f (Int32.toNatClampNeg i) 0 = f1 at hP hD
    obtain ⟨z, ez⟩ : ∃ y : Int32, y = i + Int32.ofInt 1 := ⟨_, rfl⟩
    refine lv_iinc (v := z) (lv' := [(2, .int z), (3, .int 256), (0, .ref c0), (1, .int 0)]) hx hb dJ7_fill_53178_14 hl (k := 0) rfl (by rw [ez]) (by decide) rfl (fun ls hl => ?_)
    refine lv_goto (tgt := 5) hx hb dJ7_fill_53178_17 (by decide) ?_
    have hz : z.toInt = i.toInt + 1 := by rw [ez]; exact nv_inc h0 (by omega)
    exact ih z f1 H locs ls (by omega) (by omega) hP hD hS hl
set_option maxHeartbeats 4000000 in
theorem k_J7_fill_53178 (l : Launch) (hlt : l.stackTraces = false) (dC : Nat → ClassId) (dI : Nat → Nat → Nat) (c0 : Nat) (c1 : ClassId)  (sz : Nat) : Met l yJ7_fill_53178 ow_k_J7_fill_53178 ({ frames := 0, cells := 0, slots := 0, locals := 0 }) (va_Pc [.ref c0, .int 0] (fun U => U.heap.size = sz ∧ va_P (dC, dI) vwCl [(c0, .inl (c1, 256, .inl (fun _ => 0)))] U.heap ∧ va_K (dC, dI) vwCl [(c1, .int)] U ∧ va_D (fun _ => True) [(c0, .inl (c1, 256, .inl (fun _ => 0)))] ∧ nv_E (va_A [(c0, .inl (c1, 256, .inl (fun _ => 0)))] sz) U)) (va_Qv (fun _ => True) (fun (_ : Unit) t => ∃ (f1 : Nat → Int32), va_P (dC, dI) vwCl [(c0, .inl (c1, 256, .inl f1))] t.heap ∧ va_K (dC, dI) vwCl [(c1, .int)] t ∧ va_D (va_A [(c0, .inl (c1, 256, .inl (fun _ => 0)))] sz) [(c0, .inl (c1, 256, .inl f1))]) (va_A [(c0, .inl (c1, 256, .inl (fun _ => 0)))] sz)) 0 0 (va_A [(c0, .inl (c1, 256, .inl (fun _ => 0)))] sz) := by
  refine Met.ofW (cc := cJ7_fill_53178) (maxL := 4) (ret := none) (by decide) rfl ?_
  intro p e s m args below meth c s₁ B hml hv
  obtain ⟨rfl, hsz, hP, hK, hD0, hN⟩ := hv
  have hx := B.exec
  have hb := B.bytes
  have hr := B.returns
  have hlocks := B.notSynchronized
  subst hsz
  have hD := hD0.self (sz := s.heap.size)
  generalize hAe : va_A [(c0, .inl (c1, 256, .inl (fun _ => 0)))] s.heap.size = A at hD hN ⊢
  have hS : va_S A s.heap s.heap [] := va_S.rf
  have hl := lv_entry ([.ref c0, .int 0]) (n := 4) (Nat.le_of_ble_eq_true rfl)
  rw [lg_entry_eq]
  generalize (lg_sl ([.ref c0, .int 0]) ++ List.replicate (4 - (lg_sl ([.ref c0, .int 0])).length) Slot.unset).toArray = ls at hl ⊢
  have hl : lv_has ls 4 [(0, .ref c0), (1, .int 0)] := hl
  refine lv_iconst (v := 0) hx hb dJ7_fill_53178_0 (by decide) ?_
  refine lv_istore_n (lv' := [(2, .int 0), (0, .ref c0), (1, .int 0)]) hx hb dJ7_fill_53178_1 rfl hl (by decide) rfl (fun ls hl => ?_)
  refine lv_aload_n hx hb dJ7_fill_53178_2 rfl (lv_at hl 1 rfl) ?_
  refine va_alen (v := 256) hx hb hK hP 0 0 rfl rfl (by decide) dJ7_fill_53178_3 ?_
  refine lv_istore_n (lv' := [(3, .int 256), (2, .int 0), (0, .ref c0), (1, .int 0)]) hx hb dJ7_fill_53178_4 rfl hl (by decide) rfl (fun ls hl => ?_)
  refine k_J7_fill_53178_loop dC dI c0 c1 hx hb hK (fun f1 H locs ls hP hD hS => ?_) 256 0 (fun _ => 0) s.heap [] ls (by decide) (by decide) hP hD hS (lv_sub hl [1, 0, 2, 3] rfl)
  exact W.vret hx hb hr (fun t ht hW => ⟨⟨(), rfl, trivial, f1, by rw [ht]; exact hP, va_K.moved hW.alike hK, hD⟩, hS.F ht⟩) hS.2.2 dJ7_fill_53178_20
def ow_k_J7_fill_53178_v1 : List Cond := .code yJ7_fill_53178 cJ7_fill_53178 4 none :: ([] ++ [])
theorem gd_k_J7_fill_53178_v1 : ∀ w ∈ ow_k_J7_fill_53178_v1, (w.onTables && w.keeps) = true ∨ ∃ ty, w = Cond.arrayClass ty := List.forall_mem_cons.mpr ⟨good_of_word rfl, List.forall_mem_append.mpr ⟨fun w h => good_of_word (List.all_eq_true.mp (by decide +kernel) w h), fun _ h => nomatch h⟩⟩
set_option maxHeartbeats 4000000 in
theorem k_J7_fill_53178_v1_loop {p : Program} {l : Launch} {e : Env} {s : State} {m : MethodId} {args : Array Value} {below : List Frame} {meth : Method} {c : Code} {Q : State → Prop} {A : Nat → Prop} (dC : Nat → ClassId) (dI : Nat → Nat → Nat) (c0 : Nat) (c1 : ClassId) (hx : p.tables.exec = Jvm.exec) (hb : c.code = cJ7_fill_53178) (hK : va_K (dC, dI) vwCl [(c1, .int)] s)
    (kk : ∀ (f : Nat → Int32) (H : Heap) (locs : List Loc) (ls : Array Slot), va_P (dC, dI) vwCl [(c0, .inl (c1, 20, .inl f))] H → va_D A [(c0, .inl (c1, 20, .inl f))] → va_S A s.heap H locs → W p l e (headSpec ow_k_J7_fill_53178_v1 ({ frames := 0, cells := 0, slots := 0, locals := 0 })).room s m args below meth c H locs 0 0 Q (F0 m 20 ls [])) :
    ∀ (k : Nat) (i : Int32) (f : Nat → Int32) (H : Heap) (locs : List Loc) (ls : Array Slot), 0 ≤ i.toInt → i.toInt + k = 20 → va_P (dC, dI) vwCl [(c0, .inl (c1, 20, .inl f))] H → va_D A [(c0, .inl (c1, 20, .inl f))] → va_S A s.heap H locs → lv_has ls 4 [(2, .int i), (3, .int 20), (0, .ref c0), (1, .int 0)] → W p l e (headSpec ow_k_J7_fill_53178_v1 ({ frames := 0, cells := 0, slots := 0, locals := 0 })).room s m args below meth c H locs 0 0 Q (F0 m 5 ls []) := by
  have hNN : (20 : Int32).toInt = 20 := by decide
  intro k
  induction k with
  | zero =>
    intro i f H locs ls h0 hk hP hD hS hl
    refine lv_iload_n hx hb dJ7_fill_53178_5 rfl (lv_at hl 0 rfl) ?_
    refine lv_iload_n hx hb dJ7_fill_53178_6 rfl (lv_at hl 1 rfl) ?_
    refine lv_icmp_ge (tgt := 20) hx hb dJ7_fill_53178_7 (by decide) (fun _ => ?_) (fun h9 => absurd (Int32.le_iff_toInt_le.mpr (by rw [hNN]; omega)) h9)
    exact kk f H locs ls hP hD hS
  | succ k ih =>
    intro i f H locs ls h0 hk hP hD hS hl
    refine lv_iload_n hx hb dJ7_fill_53178_5 rfl (lv_at hl 0 rfl) ?_
    refine lv_iload_n hx hb dJ7_fill_53178_6 rfl (lv_at hl 1 rfl) ?_
    refine lv_icmp_ge (tgt := 20) hx hb dJ7_fill_53178_7 (by decide) (fun h9 => absurd (Int32.le_iff_toInt_le.mp h9) (by rw [hNN]; omega)) (fun _ => ?_)
    refine lv_aload_n hx hb dJ7_fill_53178_10 rfl (lv_at hl 2 rfl) ?_
    refine lv_iload_n hx hb dJ7_fill_53178_11 rfl (lv_at hl 0 rfl) ?_
    refine lv_iload_n hx hb dJ7_fill_53178_12 rfl (lv_at hl 3 rfl) ?_
    refine va_iast (i := i) (x := 0) hx hb hK hP hD hS 0 0 rfl rfl (by rw [vp_in_iff]; omega) dJ7_fill_53178_13 (fun H locs hP hD hS => ?_)
    generalize hf : upd f (Int32.toNatClampNeg i) 0 = f1 at hP hD
    obtain ⟨z, ez⟩ : ∃ y : Int32, y = i + Int32.ofInt 1 := ⟨_, rfl⟩
    refine lv_iinc (v := z) (lv' := [(2, .int z), (3, .int 20), (0, .ref c0), (1, .int 0)]) hx hb dJ7_fill_53178_14 hl (k := 0) rfl (by rw [ez]) (by decide) rfl (fun ls hl => ?_)
    refine lv_goto (tgt := 5) hx hb dJ7_fill_53178_17 (by decide) ?_
    have hz : z.toInt = i.toInt + 1 := by rw [ez]; exact nv_inc h0 (by omega)
    exact ih z f1 H locs ls (by omega) (by omega) hP hD hS hl
set_option maxHeartbeats 4000000 in
theorem k_J7_fill_53178_v1 (l : Launch) (hlt : l.stackTraces = false) (dC : Nat → ClassId) (dI : Nat → Nat → Nat) (c0 : Nat) (c1 : ClassId)  (sz : Nat) : Met l yJ7_fill_53178 ow_k_J7_fill_53178_v1 ({ frames := 0, cells := 0, slots := 0, locals := 0 }) (va_Pc [.ref c0, .int 0] (fun U => U.heap.size = sz ∧ va_P (dC, dI) vwCl [(c0, .inl (c1, 20, .inl (fun _ => 0)))] U.heap ∧ va_K (dC, dI) vwCl [(c1, .int)] U ∧ va_D (fun _ => True) [(c0, .inl (c1, 20, .inl (fun _ => 0)))] ∧ nv_E (va_A [(c0, .inl (c1, 20, .inl (fun _ => 0)))] sz) U)) (va_Qv (fun _ => True) (fun (_ : Unit) t => ∃ (f1 : Nat → Int32), va_P (dC, dI) vwCl [(c0, .inl (c1, 20, .inl f1))] t.heap ∧ va_K (dC, dI) vwCl [(c1, .int)] t ∧ va_D (va_A [(c0, .inl (c1, 20, .inl (fun _ => 0)))] sz) [(c0, .inl (c1, 20, .inl f1))]) (va_A [(c0, .inl (c1, 20, .inl (fun _ => 0)))] sz)) 0 0 (va_A [(c0, .inl (c1, 20, .inl (fun _ => 0)))] sz) := by
  refine Met.ofW (cc := cJ7_fill_53178) (maxL := 4) (ret := none) (by decide) rfl ?_
  intro p e s m args below meth c s₁ B hml hv
  obtain ⟨rfl, hsz, hP, hK, hD0, hN⟩ := hv
  have hx := B.exec
  have hb := B.bytes
  have hr := B.returns
  have hlocks := B.notSynchronized
  subst hsz
  have hD := hD0.self (sz := s.heap.size)
  generalize hAe : va_A [(c0, .inl (c1, 20, .inl (fun _ => 0)))] s.heap.size = A at hD hN ⊢
  have hS : va_S A s.heap s.heap [] := va_S.rf
  have hl := lv_entry ([.ref c0, .int 0]) (n := 4) (Nat.le_of_ble_eq_true rfl)
  rw [lg_entry_eq]
  generalize (lg_sl ([.ref c0, .int 0]) ++ List.replicate (4 - (lg_sl ([.ref c0, .int 0])).length) Slot.unset).toArray = ls at hl ⊢
  have hl : lv_has ls 4 [(0, .ref c0), (1, .int 0)] := hl
  refine lv_iconst (v := 0) hx hb dJ7_fill_53178_0 (by decide) ?_
  refine lv_istore_n (lv' := [(2, .int 0), (0, .ref c0), (1, .int 0)]) hx hb dJ7_fill_53178_1 rfl hl (by decide) rfl (fun ls hl => ?_)
  refine lv_aload_n hx hb dJ7_fill_53178_2 rfl (lv_at hl 1 rfl) ?_
  refine va_alen (v := 20) hx hb hK hP 0 0 rfl rfl (by decide) dJ7_fill_53178_3 ?_
  refine lv_istore_n (lv' := [(3, .int 20), (2, .int 0), (0, .ref c0), (1, .int 0)]) hx hb dJ7_fill_53178_4 rfl hl (by decide) rfl (fun ls hl => ?_)
  refine k_J7_fill_53178_v1_loop dC dI c0 c1 hx hb hK (fun f1 H locs ls hP hD hS => ?_) 20 0 (fun _ => 0) s.heap [] ls (by decide) (by decide) hP hD hS (lv_sub hl [1, 0, 2, 3] rfl)
  exact W.vret hx hb hr (fun t ht hW => ⟨⟨(), rfl, trivial, f1, by rw [ht]; exact hP, va_K.moved hW.alike hK, hD⟩, hS.F ht⟩) hS.2.2 dJ7_fill_53178_20
def ow_k_X9_open : List Cond := .code yX9_open cX9_open 2 none :: ([.fieldLink RX9 9 "TimeMachine$Reader" "source" "[B", .fieldLink RX9 39 "TimeMachine$Reader" "codes" "I", .fieldLink RX9 43 "TimeMachine$Reader" "names" "I", .fieldLink RX9 46 "TimeMachine$Reader" "labels" "I", .fieldLink RX9 30 "TimeMachine$Reader" "bucket" "[I", .methodLink RX9 49 yJ7_fill_53178, .static yJ7_fill_53178, .initialized RJ7, .fieldLink RX9 33 "TimeMachine$Reader" "near" "[I"] ++ (u_ws RX9 TX9 20 ++ (ow_k_J7_fill_53178 ++ (ow_k_J7_fill_53178_v1 ++ []))))
theorem gd_k_X9_open : ∀ w ∈ ow_k_X9_open, (w.onTables && w.keeps) = true ∨ ∃ ty, w = Cond.arrayClass ty := List.forall_mem_cons.mpr ⟨good_of_word rfl, List.forall_mem_append.mpr ⟨fun w h => good_of_word (List.all_eq_true.mp (by decide +kernel) w h), List.forall_mem_append.mpr ⟨gu_X9, List.forall_mem_append.mpr ⟨gd_k_J7_fill_53178, List.forall_mem_append.mpr ⟨gd_k_J7_fill_53178_v1, fun _ h => nomatch h⟩⟩⟩⟩⟩
theorem hi_k_X9_open_X9 : ∀ w ∈ u_ws RX9 TX9 20, w ∈ ow_k_X9_open := fun w h => List.mem_cons_of_mem _ (List.mem_append_right _ (List.mem_append_left _ h))
theorem gi_k_X9_open_0 : GoodIn ow_k_X9_open (va_wsS RX9 49 yJ7_fill_53178 ow_k_J7_fill_53178) := goodIn_app (goodIn_of _ (by decide +kernel)) (fun w h => ⟨List.mem_cons_of_mem _ (List.mem_append_right _ (List.mem_append_right _ (List.mem_append_left _ h))), gd_k_J7_fill_53178 w h⟩)
theorem gi_k_X9_open_1 : GoodIn ow_k_X9_open (va_wsS RX9 49 yJ7_fill_53178 ow_k_J7_fill_53178_v1) := goodIn_app (goodIn_of _ (by decide +kernel)) (fun w h => ⟨List.mem_cons_of_mem _ (List.mem_append_right _ (List.mem_append_right _ (List.mem_append_right _ (List.mem_append_left _ h)))), gd_k_J7_fill_53178_v1 w h⟩)
set_option maxHeartbeats 40000000 in
set_option maxRecDepth 100000 in
theorem k_X9_open (l : Launch) (hlt : l.stackTraces = false) (dC : Nat → ClassId) (dI : Nat → Nat → Nat) (c0 : Nat) (c1 : Nat) (c2 : ClassId) (c3 : Nat) (c4 : ClassId) (c5 : Nat) (c6 : Nat) (c7 : Nat) (c8 : Nat) (c9 : Nat) (c10 : Nat) (c11 : Nat) (sz : Nat) : Met l yX9_open ow_k_X9_open ({ frames := 1, cells := 0, slots := 0, locals := 23 }) (va_Pc [.ref c0, .ref c5] (fun U => U.heap.size = sz ∧ va_P (dC, dI) vwCl [(c0, .inr (10, [.ref c6, .int 0, .int 0, .int 0, .int 0, .int 0, .ref c7, .ref c8, .int 0, .ref c9, .int 0, .int 0, .ref c10, .int 0, .ref c1, .ref c3, .ref c11, .int 0, .int 0, .int 0])), (c1, .inl (c2, 256, .inl (fun _ => 0))), (c3, .inl (c4, 20, .inl (fun _ => 0)))] U.heap ∧ va_K (dC, dI) vwCl [(c2, .int), (c4, .int)] U ∧ va_D (fun _ => True) [(c0, .inr (10, [.ref c6, .int 0, .int 0, .int 0, .int 0, .int 0, .ref c7, .ref c8, .int 0, .ref c9, .int 0, .int 0, .ref c10, .int 0, .ref c1, .ref c3, .ref c11, .int 0, .int 0, .int 0])), (c1, .inl (c2, 256, .inl (fun _ => 0))), (c3, .inl (c4, 20, .inl (fun _ => 0)))] ∧ nv_E (va_A [(c0, .inr (10, [.ref c6, .int 0, .int 0, .int 0, .int 0, .int 0, .ref c7, .ref c8, .int 0, .ref c9, .int 0, .int 0, .ref c10, .int 0, .ref c1, .ref c3, .ref c11, .int 0, .int 0, .int 0])), (c1, .inl (c2, 256, .inl (fun _ => 0))), (c3, .inl (c4, 20, .inl (fun _ => 0)))] sz) U)) (va_Qv (fun _ => True) (fun (_ : Unit) t => ∃ (f1 : Nat → Int32) (f3 : Nat → Int32), va_P (dC, dI) vwCl [(c0, .inr (10, [.ref c5, .int 0, .int 0, .int 0, .int 0, .int 0, .ref c7, .ref c8, .int 0, .ref c9, .int 0, .int 0, .ref c10, .int 0, .ref c1, .ref c3, .ref c11, .int 0, .int 0, .int 0])), (c1, .inl (c2, 256, .inl f1)), (c3, .inl (c4, 20, .inl f3))] t.heap ∧ va_K (dC, dI) vwCl [(c2, .int), (c4, .int)] t ∧ va_D (va_A [(c0, .inr (10, [.ref c6, .int 0, .int 0, .int 0, .int 0, .int 0, .ref c7, .ref c8, .int 0, .ref c9, .int 0, .int 0, .ref c10, .int 0, .ref c1, .ref c3, .ref c11, .int 0, .int 0, .int 0])), (c1, .inl (c2, 256, .inl (fun _ => 0))), (c3, .inl (c4, 20, .inl (fun _ => 0)))] sz) [(c0, .inr (10, [.ref c5, .int 0, .int 0, .int 0, .int 0, .int 0, .ref c7, .ref c8, .int 0, .ref c9, .int 0, .int 0, .ref c10, .int 0, .ref c1, .ref c3, .ref c11, .int 0, .int 0, .int 0])), (c1, .inl (c2, 256, .inl f1)), (c3, .inl (c4, 20, .inl f3))]) (va_A [(c0, .inr (10, [.ref c6, .int 0, .int 0, .int 0, .int 0, .int 0, .ref c7, .ref c8, .int 0, .ref c9, .int 0, .int 0, .ref c10, .int 0, .ref c1, .ref c3, .ref c11, .int 0, .int 0, .int 0])), (c1, .inl (c2, 256, .inl (fun _ => 0))), (c3, .inl (c4, 20, .inl (fun _ => 0)))] sz)) 0 0 (va_A [(c0, .inr (10, [.ref c6, .int 0, .int 0, .int 0, .int 0, .int 0, .ref c7, .ref c8, .int 0, .ref c9, .int 0, .int 0, .ref c10, .int 0, .ref c1, .ref c3, .ref c11, .int 0, .int 0, .int 0])), (c1, .inl (c2, 256, .inl (fun _ => 0))), (c3, .inl (c4, 20, .inl (fun _ => 0)))] sz) := by
  refine Met.ofW (cc := cX9_open) (maxL := 2) (ret := none) (by decide) rfl ?_
  intro p e s m args below meth c s₁ B hml hv
  obtain ⟨rfl, hsz, hP, hK, hD0, hN⟩ := hv
  have hx := B.exec
  have hb := B.bytes
  have hr := B.returns
  have hts := atoms_spec (ws := ow_k_X9_open) B.pre
  have hown : s.vm.findClass RX9 = some m.cls := findClass_of_methodNamed B.named
  have hlocks := B.notSynchronized
  subst hsz
  have hD := hD0.self (sz := s.heap.size)
  generalize hAe : va_A [(c0, .inr (10, [.ref c6, .int 0, .int 0, .int 0, .int 0, .int 0, .ref c7, .ref c8, .int 0, .ref c9, .int 0, .int 0, .ref c10, .int 0, .ref c1, .ref c3, .ref c11, .int 0, .int 0, .int 0])), (c1, .inl (c2, 256, .inl (fun _ => 0))), (c3, .inl (c4, 20, .inl (fun _ => 0)))] s.heap.size = A at hD hN ⊢
  have hA : ∀ q : Nat, s.heap.size ≤ q → A q := fun q h => by rw [← hAe]; exact Or.inr h
  have hS : va_S A s.heap s.heap [] := va_S.rf
  have hl := lv_entry ([.ref c0, .ref c5]) (n := 2) (Nat.le_of_ble_eq_true rfl)
  rw [lg_entry_eq]
  generalize (lg_sl ([.ref c0, .ref c5]) ++ List.replicate (2 - (lg_sl ([.ref c0, .ref c5])).length) Slot.unset).toArray = ls at hl ⊢
  have hl : lv_has ls 2 [(0, .ref c0), (1, .ref c5)] := hl
  refine lv_aload_n hx hb dX9_open_0 rfl (lv_at hl 0 rfl) ?_
  refine lv_aload_n hx hb dX9_open_1 rfl (lv_at hl 1 rfl) ?_
  refine va_put (D := (dC, dI)) (ci := 10) (v := .ref c5) (ty := .array .byte) (C := RX9) (T := TX9) (N := 20) hx hb hts hi_k_X9_open_X9 tyX9 tyX9_ok nmX9 hown hK hP hD hS 0 rfl rfl 0 (by decide) (hts (.fieldLink RX9 9 "TimeMachine$Reader" "source" "[B") (List.mem_of_getElem? (i := 1) rfl)) (fun _ h9 => h9) rfl (by decide +kernel) rfl rfl (Nat.le_of_ble_eq_true rfl) dX9_open_2 (fun H locs hP hD hS => ?_)
  have hP : va_P (dC, dI) vwCl [(c0, .inr (10, [.ref c5, .int 0, .int 0, .int 0, .int 0, .int 0, .ref c7, .ref c8, .int 0, .ref c9, .int 0, .int 0, .ref c10, .int 0, .ref c1, .ref c3, .ref c11, .int 0, .int 0, .int 0])), (c1, .inl (c2, 256, .inl (fun _ => 0))), (c3, .inl (c4, 20, .inl (fun _ => 0)))] H := hP
  have hD : va_D A [(c0, .inr (10, [.ref c5, .int 0, .int 0, .int 0, .int 0, .int 0, .ref c7, .ref c8, .int 0, .ref c9, .int 0, .int 0, .ref c10, .int 0, .ref c1, .ref c3, .ref c11, .int 0, .int 0, .int 0])), (c1, .inl (c2, 256, .inl (fun _ => 0))), (c3, .inl (c4, 20, .inl (fun _ => 0)))] := hD
  refine lv_aload_n hx hb dX9_open_5 rfl (lv_at hl 0 rfl) ?_
  refine lv_iconst (v := 0) hx hb dX9_open_6 (by decide) ?_
  refine va_put (D := (dC, dI)) (ci := 10) (v := .int 0) (ty := .int) (C := RX9) (T := TX9) (N := 20) hx hb hts hi_k_X9_open_X9 tyX9 tyX9_ok nmX9 hown hK hP hD hS 0 rfl rfl 8 (by decide) (hts (.fieldLink RX9 39 "TimeMachine$Reader" "codes" "I") (List.mem_of_getElem? (i := 2) rfl)) (fun _ h9 => h9) rfl (by decide +kernel) rfl rfl (Nat.le_of_ble_eq_true rfl) dX9_open_7 (fun H locs hP hD hS => ?_)
  have hP : va_P (dC, dI) vwCl [(c0, .inr (10, [.ref c5, .int 0, .int 0, .int 0, .int 0, .int 0, .ref c7, .ref c8, .int 0, .ref c9, .int 0, .int 0, .ref c10, .int 0, .ref c1, .ref c3, .ref c11, .int 0, .int 0, .int 0])), (c1, .inl (c2, 256, .inl (fun _ => 0))), (c3, .inl (c4, 20, .inl (fun _ => 0)))] H := hP
  have hD : va_D A [(c0, .inr (10, [.ref c5, .int 0, .int 0, .int 0, .int 0, .int 0, .ref c7, .ref c8, .int 0, .ref c9, .int 0, .int 0, .ref c10, .int 0, .ref c1, .ref c3, .ref c11, .int 0, .int 0, .int 0])), (c1, .inl (c2, 256, .inl (fun _ => 0))), (c3, .inl (c4, 20, .inl (fun _ => 0)))] := hD
  refine lv_aload_n hx hb dX9_open_10 rfl (lv_at hl 0 rfl) ?_
  refine lv_iconst (v := 0) hx hb dX9_open_11 (by decide) ?_
  refine va_put (D := (dC, dI)) (ci := 10) (v := .int 0) (ty := .int) (C := RX9) (T := TX9) (N := 20) hx hb hts hi_k_X9_open_X9 tyX9 tyX9_ok nmX9 hown hK hP hD hS 0 rfl rfl 13 (by decide) (hts (.fieldLink RX9 43 "TimeMachine$Reader" "names" "I") (List.mem_of_getElem? (i := 3) rfl)) (fun _ h9 => h9) rfl (by decide +kernel) rfl rfl (Nat.le_of_ble_eq_true rfl) dX9_open_12 (fun H locs hP hD hS => ?_)
  have hP : va_P (dC, dI) vwCl [(c0, .inr (10, [.ref c5, .int 0, .int 0, .int 0, .int 0, .int 0, .ref c7, .ref c8, .int 0, .ref c9, .int 0, .int 0, .ref c10, .int 0, .ref c1, .ref c3, .ref c11, .int 0, .int 0, .int 0])), (c1, .inl (c2, 256, .inl (fun _ => 0))), (c3, .inl (c4, 20, .inl (fun _ => 0)))] H := hP
  have hD : va_D A [(c0, .inr (10, [.ref c5, .int 0, .int 0, .int 0, .int 0, .int 0, .ref c7, .ref c8, .int 0, .ref c9, .int 0, .int 0, .ref c10, .int 0, .ref c1, .ref c3, .ref c11, .int 0, .int 0, .int 0])), (c1, .inl (c2, 256, .inl (fun _ => 0))), (c3, .inl (c4, 20, .inl (fun _ => 0)))] := hD
  refine lv_aload_n hx hb dX9_open_15 rfl (lv_at hl 0 rfl) ?_
  refine lv_iconst (v := 0) hx hb dX9_open_16 (by decide) ?_
  refine va_put (D := (dC, dI)) (ci := 10) (v := .int 0) (ty := .int) (C := RX9) (T := TX9) (N := 20) hx hb hts hi_k_X9_open_X9 tyX9 tyX9_ok nmX9 hown hK hP hD hS 0 rfl rfl 17 (by decide) (hts (.fieldLink RX9 46 "TimeMachine$Reader" "labels" "I") (List.mem_of_getElem? (i := 4) rfl)) (fun _ h9 => h9) rfl (by decide +kernel) rfl rfl (Nat.le_of_ble_eq_true rfl) dX9_open_17 (fun H locs hP hD hS => ?_)
  have hP : va_P (dC, dI) vwCl [(c0, .inr (10, [.ref c5, .int 0, .int 0, .int 0, .int 0, .int 0, .ref c7, .ref c8, .int 0, .ref c9, .int 0, .int 0, .ref c10, .int 0, .ref c1, .ref c3, .ref c11, .int 0, .int 0, .int 0])), (c1, .inl (c2, 256, .inl (fun _ => 0))), (c3, .inl (c4, 20, .inl (fun _ => 0)))] H := hP
  have hD : va_D A [(c0, .inr (10, [.ref c5, .int 0, .int 0, .int 0, .int 0, .int 0, .ref c7, .ref c8, .int 0, .ref c9, .int 0, .int 0, .ref c10, .int 0, .ref c1, .ref c3, .ref c11, .int 0, .int 0, .int 0])), (c1, .inl (c2, 256, .inl (fun _ => 0))), (c3, .inl (c4, 20, .inl (fun _ => 0)))] := hD
  refine lv_aload_n hx hb dX9_open_20 rfl (lv_at hl 0 rfl) ?_
  refine va_get (D := (dC, dI)) (ci := 10) (v := .ref c1) (C := RX9) (T := TX9) (N := 20) hx hb hts hi_k_X9_open_X9 hown hK hP 0 rfl rfl 14 (by decide) (hts (.fieldLink RX9 30 "TimeMachine$Reader" "bucket" "[I") (List.mem_of_getElem? (i := 5) rfl)) (fun _ h9 => h9) rfl dX9_open_21 ?_
  refine lv_iconst (v := 0) hx hb dX9_open_24 (by decide) ?_
  have hPc := hP.sub (ws' := [(c1, .inl (c2, 256, .inl (fun _ => 0)))]) [1] rfl
  have hDc := hD.sub (ws' := [(c1, .inl (c2, 256, .inl (fun _ => 0)))]) [1] (by decide) rfl
  have hKc := hK.sub (tys' := [(c2, .int)]) [0] rfl
  have hFc := va_free (wc := [(c1, .inl (c2, 256, .inl (fun _ => 0)))]) hD hS hA [1] rfl
  refine va_callv (va_runS (As := [.ref c1, .int 0]) (rest := []) ⟨hx, hb, hml, hown, hts⟩ (k_J7_fill_53178 l hlt dC dI c1 c2  H.size) (va_cwS 2 hts gi_k_X9_open_0 rfl rfl rfl (by decide +kernel) ⟨Nat.le_of_ble_eq_true rfl, Nat.le_of_ble_eq_true rfl⟩) ⟨fun a U g mk q => by obtain ⟨q0, q1, qP, qK, qD, qN⟩ := q; exact ⟨q0, q1, qP, va_K.moved (u := U) (U := U.calling g mk a) (Vm.Alike.refl U.vm) qK, qD, nv_same rfl rfl qN⟩, fun U hU hW => ⟨rfl, by rw [hU], by rw [hU]; exact hPc, va_K.moved hW.alike hKc, hDc.weaken (fun _ _ _ _ => trivial), nv_call hS hFc hU hW hN⟩⟩ rfl rfl hl.1 rfl (lv_room (Nat.le_of_ble_eq_true rfl)) dX9_open_25 ⟨by decide +kernel, by decide +kernel⟩) hS (fun q _ h => hFc q h) hFc (fun u t H1 locs ht hvm hw hB hz1 hk1 hS => ?_)
  obtain ⟨f1, hP1, hK1, hD1⟩ := hB
  rw [ht] at hP1
  have hK1 := va_K.moved hvm.symm hK1
  obtain ⟨hP, hD⟩ := va_join (wr := [(c0, .inr (10, [.ref c5, .int 0, .int 0, .int 0, .int 0, .int 0, .ref c7, .ref c8, .int 0, .ref c9, .int 0, .int 0, .ref c10, .int 0, .ref c1, .ref c3, .ref c11, .int 0, .int 0, .int 0])), (c3, .inl (c4, 20, .inl (fun _ => 0)))]) (w1 := [(c1, .inl (c2, 256, .inl f1))]) hP hD [1] [0, 2] rfl rfl (by decide) (by decide) hk1 hFc hP1 hD1
  have hK := (hK.sub (tys' := [(c4, .int)]) [1] rfl).app hK1
  generalize H1 = H at hP hS ⊢
  have hP : va_P (dC, dI) vwCl [(c0, .inr (10, [.ref c5, .int 0, .int 0, .int 0, .int 0, .int 0, .ref c7, .ref c8, .int 0, .ref c9, .int 0, .int 0, .ref c10, .int 0, .ref c1, .ref c3, .ref c11, .int 0, .int 0, .int 0])), (c3, .inl (c4, 20, .inl (fun _ => 0))), (c1, .inl (c2, 256, .inl f1))] H := hP
  have hD : va_D A [(c0, .inr (10, [.ref c5, .int 0, .int 0, .int 0, .int 0, .int 0, .ref c7, .ref c8, .int 0, .ref c9, .int 0, .int 0, .ref c10, .int 0, .ref c1, .ref c3, .ref c11, .int 0, .int 0, .int 0])), (c3, .inl (c4, 20, .inl (fun _ => 0))), (c1, .inl (c2, 256, .inl f1))] := hD
  have hK : va_K (dC, dI) vwCl [(c4, .int), (c2, .int)] s := hK
  refine W.widen (k := 0) (n := 0) (by decide +kernel) (by decide +kernel) ?_
  refine lv_aload_n hx hb dX9_open_28 rfl (lv_at hl 0 rfl) ?_
  refine va_get (D := (dC, dI)) (ci := 10) (v := .ref c3) (C := RX9) (T := TX9) (N := 20) hx hb hts hi_k_X9_open_X9 hown hK hP 0 rfl rfl 15 (by decide) (hts (.fieldLink RX9 33 "TimeMachine$Reader" "near" "[I") (List.mem_of_getElem? (i := 9) rfl)) (fun _ h9 => h9) rfl dX9_open_29 ?_
  refine lv_iconst (v := 0) hx hb dX9_open_32 (by decide) ?_
  have hPc := hP.sub (ws' := [(c3, .inl (c4, 20, .inl (fun _ => 0)))]) [1] rfl
  have hDc := hD.sub (ws' := [(c3, .inl (c4, 20, .inl (fun _ => 0)))]) [1] (by decide) rfl
  have hKc := hK.sub (tys' := [(c4, .int)]) [0] rfl
  have hFc := va_free (wc := [(c3, .inl (c4, 20, .inl (fun _ => 0)))]) hD hS hA [1] rfl
  refine va_callv (va_runS (As := [.ref c3, .int 0]) (rest := []) ⟨hx, hb, hml, hown, hts⟩ (k_J7_fill_53178_v1 l hlt dC dI c3 c4  H.size) (va_cwS 2 hts gi_k_X9_open_1 rfl rfl rfl (by decide +kernel) ⟨Nat.le_of_ble_eq_true rfl, Nat.le_of_ble_eq_true rfl⟩) ⟨fun a U g mk q => by obtain ⟨q0, q1, qP, qK, qD, qN⟩ := q; exact ⟨q0, q1, qP, va_K.moved (u := U) (U := U.calling g mk a) (Vm.Alike.refl U.vm) qK, qD, nv_same rfl rfl qN⟩, fun U hU hW => ⟨rfl, by rw [hU], by rw [hU]; exact hPc, va_K.moved hW.alike hKc, hDc.weaken (fun _ _ _ _ => trivial), nv_call hS hFc hU hW hN⟩⟩ rfl rfl hl.1 rfl (lv_room (Nat.le_of_ble_eq_true rfl)) dX9_open_33 ⟨by decide +kernel, by decide +kernel⟩) hS (fun q _ h => hFc q h) hFc (fun u t H1 locs ht hvm hw hB hz1 hk1 hS => ?_)
  obtain ⟨f3, hP1, hK1, hD1⟩ := hB
  rw [ht] at hP1
  have hK1 := va_K.moved hvm.symm hK1
  obtain ⟨hP, hD⟩ := va_join (wr := [(c0, .inr (10, [.ref c5, .int 0, .int 0, .int 0, .int 0, .int 0, .ref c7, .ref c8, .int 0, .ref c9, .int 0, .int 0, .ref c10, .int 0, .ref c1, .ref c3, .ref c11, .int 0, .int 0, .int 0])), (c1, .inl (c2, 256, .inl f1))]) (w1 := [(c3, .inl (c4, 20, .inl f3))]) hP hD [1] [0, 2] rfl rfl (by decide) (by decide) hk1 hFc hP1 hD1
  have hK := (hK.sub (tys' := [(c2, .int)]) [1] rfl).app hK1
  generalize H1 = H at hP hS ⊢
  have hP : va_P (dC, dI) vwCl [(c0, .inr (10, [.ref c5, .int 0, .int 0, .int 0, .int 0, .int 0, .ref c7, .ref c8, .int 0, .ref c9, .int 0, .int 0, .ref c10, .int 0, .ref c1, .ref c3, .ref c11, .int 0, .int 0, .int 0])), (c1, .inl (c2, 256, .inl f1)), (c3, .inl (c4, 20, .inl f3))] H := hP
  have hD : va_D A [(c0, .inr (10, [.ref c5, .int 0, .int 0, .int 0, .int 0, .int 0, .ref c7, .ref c8, .int 0, .ref c9, .int 0, .int 0, .ref c10, .int 0, .ref c1, .ref c3, .ref c11, .int 0, .int 0, .int 0])), (c1, .inl (c2, 256, .inl f1)), (c3, .inl (c4, 20, .inl f3))] := hD
  have hK : va_K (dC, dI) vwCl [(c2, .int), (c4, .int)] s := hK
  refine W.widen (k := 0) (n := 0) (by decide +kernel) (by decide +kernel) ?_
  have hP9 := hP.sub (ws' := [(c0, .inr (10, [.ref c5, .int 0, .int 0, .int 0, .int 0, .int 0, .ref c7, .ref c8, .int 0, .ref c9, .int 0, .int 0, .ref c10, .int 0, .ref c1, .ref c3, .ref c11, .int 0, .int 0, .int 0])), (c1, .inl (c2, 256, .inl f1)), (c3, .inl (c4, 20, .inl f3))]) [0, 1, 2] rfl
  have hD9 := hD.sub (ws' := [(c0, .inr (10, [.ref c5, .int 0, .int 0, .int 0, .int 0, .int 0, .ref c7, .ref c8, .int 0, .ref c9, .int 0, .int 0, .ref c10, .int 0, .ref c1, .ref c3, .ref c11, .int 0, .int 0, .int 0])), (c1, .inl (c2, 256, .inl f1)), (c3, .inl (c4, 20, .inl f3))]) [0, 1, 2] (by decide) rfl
  have hK9 := hK.sub (tys' := [(c2, .int), (c4, .int)]) [0, 1] rfl
  refine W.widen (k := 0) (n := 0) (by decide +kernel) (by decide +kernel) ?_
  exact W.vret hx hb hr (fun t ht hW => ⟨⟨(), rfl, trivial, f1, f3, by rw [ht]; exact hP9, va_K.moved hW.alike hK9, hD9⟩, hS.F ht⟩) hS.2.2 dX9_open_36
def ow_k_X1_start : List Cond := .code yX1_start cX1_start 6 none :: ([.fieldLink RX1 12 "TimeMachine$Assembler" "reader" "LTimeMachine$Reader;", .methodLink RX1 61 yX9_open, .instanceMethod yX9_open, .selects RX9 yX9_open yX9_open, .initialized RX9, .fieldLink RX1 65 "TimeMachine$Assembler" "statements" "I", .fieldLink RX1 68 "TimeMachine$Assembler" "lettersUsed" "I", .fieldLink RX1 32 "TimeMachine$Assembler" "fault" "I", .fieldLink RX1 36 "TimeMachine$Assembler" "line" "I", .fieldLink RX1 71 "TimeMachine$Assembler" "section" "I", .fieldLink RX1 74 "TimeMachine$Assembler" "constants" "I"] ++ (u_ws RX1 TX1 13 ++ (ow_k_X9_open ++ [])))
theorem gd_k_X1_start : ∀ w ∈ ow_k_X1_start, (w.onTables && w.keeps) = true ∨ ∃ ty, w = Cond.arrayClass ty := List.forall_mem_cons.mpr ⟨good_of_word rfl, List.forall_mem_append.mpr ⟨fun w h => good_of_word (List.all_eq_true.mp (by decide +kernel) w h), List.forall_mem_append.mpr ⟨gu_X1, List.forall_mem_append.mpr ⟨gd_k_X9_open, fun _ h => nomatch h⟩⟩⟩⟩
theorem hi_k_X1_start_X1 : ∀ w ∈ u_ws RX1 TX1 13, w ∈ ow_k_X1_start := fun w h => List.mem_cons_of_mem _ (List.mem_append_right _ (List.mem_append_left _ h))
theorem gi_k_X1_start_0 : GoodIn ow_k_X1_start (wsV RX1 61 RX9 yX9_open ow_k_X9_open) := goodIn_app (goodIn_of _ (by decide +kernel)) (fun w h => ⟨List.mem_cons_of_mem _ (List.mem_append_right _ (List.mem_append_right _ (List.mem_append_left _ h))), gd_k_X9_open w h⟩)
set_option maxHeartbeats 40000000 in
set_option maxRecDepth 100000 in
theorem k_X1_start (l : Launch) (hlt : l.stackTraces = false) (dC : Nat → ClassId) (dI : Nat → Nat → Nat) (c0 : Nat) (c1 : Nat) (c2 : Nat) (c3 : ClassId) (c4 : Nat) (c5 : ClassId) (c6 : Nat) (c7 : Nat) (c8 : Nat) (c9 : Nat) (c10 : Nat) (c11 : Nat) (c12 : Nat) (c13 : Nat) (c14 : Nat) (sz : Nat) : Met l yX1_start ow_k_X1_start ({ frames := 2, cells := 0, slots := 0, locals := 44 }) (va_Pc [.ref c0, .ref c6, .int 0] (fun U => U.heap.size = sz ∧ va_P (dC, dI) vwCl [(c0, .inr (2, [.ref c1, .ref c7, .int 0, .ref c8, .int 0, .int 0, .int 0, .int 0, .int 0, .int 0, .int 0, .int 0, .int 0])), (c1, .inr (10, [.ref c9, .int 0, .int 0, .int 0, .int 0, .int 0, .ref c10, .ref c11, .int 0, .ref c12, .int 0, .int 0, .ref c13, .int 0, .ref c2, .ref c4, .ref c14, .int 0, .int 0, .int 0])), (c2, .inl (c3, 256, .inl (fun _ => 0))), (c4, .inl (c5, 20, .inl (fun _ => 0)))] U.heap ∧ va_K (dC, dI) vwCl [(c3, .int), (c5, .int)] U ∧ va_D (fun _ => True) [(c0, .inr (2, [.ref c1, .ref c7, .int 0, .ref c8, .int 0, .int 0, .int 0, .int 0, .int 0, .int 0, .int 0, .int 0, .int 0])), (c1, .inr (10, [.ref c9, .int 0, .int 0, .int 0, .int 0, .int 0, .ref c10, .ref c11, .int 0, .ref c12, .int 0, .int 0, .ref c13, .int 0, .ref c2, .ref c4, .ref c14, .int 0, .int 0, .int 0])), (c2, .inl (c3, 256, .inl (fun _ => 0))), (c4, .inl (c5, 20, .inl (fun _ => 0)))] ∧ nv_E (va_A [(c0, .inr (2, [.ref c1, .ref c7, .int 0, .ref c8, .int 0, .int 0, .int 0, .int 0, .int 0, .int 0, .int 0, .int 0, .int 0])), (c1, .inr (10, [.ref c9, .int 0, .int 0, .int 0, .int 0, .int 0, .ref c10, .ref c11, .int 0, .ref c12, .int 0, .int 0, .ref c13, .int 0, .ref c2, .ref c4, .ref c14, .int 0, .int 0, .int 0])), (c2, .inl (c3, 256, .inl (fun _ => 0))), (c4, .inl (c5, 20, .inl (fun _ => 0)))] sz) U)) (va_Qv (fun _ => True) (fun (_ : Unit) t => ∃ (f1 : Nat → Int32) (f2 : Nat → Int32), va_P (dC, dI) vwCl [(c0, .inr (2, [.ref c1, .ref c7, .int 0, .ref c8, .int 0, .int 0, .int 0, .int 0, .int 0, .int 0, .int 0, .int 0, .int 0])), (c1, .inr (10, [.ref c6, .int 0, .int 0, .int 0, .int 0, .int 0, .ref c10, .ref c11, .int 0, .ref c12, .int 0, .int 0, .ref c13, .int 0, .ref c2, .ref c4, .ref c14, .int 0, .int 0, .int 0])), (c2, .inl (c3, 256, .inl f1)), (c4, .inl (c5, 20, .inl f2))] t.heap ∧ va_K (dC, dI) vwCl [(c3, .int), (c5, .int)] t ∧ va_D (va_A [(c0, .inr (2, [.ref c1, .ref c7, .int 0, .ref c8, .int 0, .int 0, .int 0, .int 0, .int 0, .int 0, .int 0, .int 0, .int 0])), (c1, .inr (10, [.ref c9, .int 0, .int 0, .int 0, .int 0, .int 0, .ref c10, .ref c11, .int 0, .ref c12, .int 0, .int 0, .ref c13, .int 0, .ref c2, .ref c4, .ref c14, .int 0, .int 0, .int 0])), (c2, .inl (c3, 256, .inl (fun _ => 0))), (c4, .inl (c5, 20, .inl (fun _ => 0)))] sz) [(c0, .inr (2, [.ref c1, .ref c7, .int 0, .ref c8, .int 0, .int 0, .int 0, .int 0, .int 0, .int 0, .int 0, .int 0, .int 0])), (c1, .inr (10, [.ref c6, .int 0, .int 0, .int 0, .int 0, .int 0, .ref c10, .ref c11, .int 0, .ref c12, .int 0, .int 0, .ref c13, .int 0, .ref c2, .ref c4, .ref c14, .int 0, .int 0, .int 0])), (c2, .inl (c3, 256, .inl f1)), (c4, .inl (c5, 20, .inl f2))]) (va_A [(c0, .inr (2, [.ref c1, .ref c7, .int 0, .ref c8, .int 0, .int 0, .int 0, .int 0, .int 0, .int 0, .int 0, .int 0, .int 0])), (c1, .inr (10, [.ref c9, .int 0, .int 0, .int 0, .int 0, .int 0, .ref c10, .ref c11, .int 0, .ref c12, .int 0, .int 0, .ref c13, .int 0, .ref c2, .ref c4, .ref c14, .int 0, .int 0, .int 0])), (c2, .inl (c3, 256, .inl (fun _ => 0))), (c4, .inl (c5, 20, .inl (fun _ => 0)))] sz)) 0 0 (va_A [(c0, .inr (2, [.ref c1, .ref c7, .int 0, .ref c8, .int 0, .int 0, .int 0, .int 0, .int 0, .int 0, .int 0, .int 0, .int 0])), (c1, .inr (10, [.ref c9, .int 0, .int 0, .int 0, .int 0, .int 0, .ref c10, .ref c11, .int 0, .ref c12, .int 0, .int 0, .ref c13, .int 0, .ref c2, .ref c4, .ref c14, .int 0, .int 0, .int 0])), (c2, .inl (c3, 256, .inl (fun _ => 0))), (c4, .inl (c5, 20, .inl (fun _ => 0)))] sz) := by
  refine Met.ofW (cc := cX1_start) (maxL := 6) (ret := none) (by decide) rfl ?_
  intro p e s m args below meth c s₁ B hml hv
  obtain ⟨rfl, hsz, hP, hK, hD0, hN⟩ := hv
  have hx := B.exec
  have hb := B.bytes
  have hr := B.returns
  have hts := atoms_spec (ws := ow_k_X1_start) B.pre
  have hown : s.vm.findClass RX1 = some m.cls := findClass_of_methodNamed B.named
  have hlocks := B.notSynchronized
  subst hsz
  have hD := hD0.self (sz := s.heap.size)
  generalize hAe : va_A [(c0, .inr (2, [.ref c1, .ref c7, .int 0, .ref c8, .int 0, .int 0, .int 0, .int 0, .int 0, .int 0, .int 0, .int 0, .int 0])), (c1, .inr (10, [.ref c9, .int 0, .int 0, .int 0, .int 0, .int 0, .ref c10, .ref c11, .int 0, .ref c12, .int 0, .int 0, .ref c13, .int 0, .ref c2, .ref c4, .ref c14, .int 0, .int 0, .int 0])), (c2, .inl (c3, 256, .inl (fun _ => 0))), (c4, .inl (c5, 20, .inl (fun _ => 0)))] s.heap.size = A at hD hN ⊢
  have hA : ∀ q : Nat, s.heap.size ≤ q → A q := fun q h => by rw [← hAe]; exact Or.inr h
  have hS : va_S A s.heap s.heap [] := va_S.rf
  have hl := lv_entry ([.ref c0, .ref c6, .int 0]) (n := 6) (Nat.le_of_ble_eq_true rfl)
  rw [lg_entry_eq]
  generalize (lg_sl ([.ref c0, .ref c6, .int 0]) ++ List.replicate (6 - (lg_sl ([.ref c0, .ref c6, .int 0])).length) Slot.unset).toArray = ls at hl ⊢
  have hl : lv_has ls 6 [(0, .ref c0), (1, .ref c6), (2, .int 0)] := hl
  refine lv_aload_n hx hb dX1_start_0 rfl (lv_at hl 0 rfl) ?_
  refine va_get (D := (dC, dI)) (ci := 2) (v := .ref c1) (C := RX1) (T := TX1) (N := 13) hx hb hts hi_k_X1_start_X1 hown hK hP 0 rfl rfl 0 (by decide) (hts (.fieldLink RX1 12 "TimeMachine$Assembler" "reader" "LTimeMachine$Reader;") (List.mem_of_getElem? (i := 1) rfl)) (fun _ h9 => h9) rfl dX1_start_1 ?_
  refine lv_aload_n hx hb dX1_start_4 rfl (lv_at hl 1 rfl) ?_
  have hPc := hP.sub (ws' := [(c1, .inr (10, [.ref c9, .int 0, .int 0, .int 0, .int 0, .int 0, .ref c10, .ref c11, .int 0, .ref c12, .int 0, .int 0, .ref c13, .int 0, .ref c2, .ref c4, .ref c14, .int 0, .int 0, .int 0])), (c2, .inl (c3, 256, .inl (fun _ => 0))), (c4, .inl (c5, 20, .inl (fun _ => 0)))]) [1, 2, 3] rfl
  have hDc := hD.sub (ws' := [(c1, .inr (10, [.ref c9, .int 0, .int 0, .int 0, .int 0, .int 0, .ref c10, .ref c11, .int 0, .ref c12, .int 0, .int 0, .ref c13, .int 0, .ref c2, .ref c4, .ref c14, .int 0, .int 0, .int 0])), (c2, .inl (c3, 256, .inl (fun _ => 0))), (c4, .inl (c5, 20, .inl (fun _ => 0)))]) [1, 2, 3] (by decide) rfl
  have hKc := hK.sub (tys' := [(c3, .int), (c5, .int)]) [0, 1] rfl
  have hFc := va_free (wc := [(c1, .inr (10, [.ref c9, .int 0, .int 0, .int 0, .int 0, .int 0, .ref c10, .ref c11, .int 0, .ref c12, .int 0, .int 0, .ref c13, .int 0, .ref c2, .ref c4, .ref c14, .int 0, .int 0, .int 0])), (c2, .inl (c3, 256, .inl (fun _ => 0))), (c4, .inl (c5, 20, .inl (fun _ => 0)))]) hD hS hA [1, 2, 3] rfl
  refine va_callv (va_runV (As := [.ref c6]) (rest := []) ⟨hx, hb, hml, hown, hts⟩ (k_X9_open l hlt dC dI c1 c2 c3 c4 c5 c6 c9 c10 c11 c12 c13 c14  s.heap.size) (cwV 1 hts gi_k_X1_start_0 rfl rfl rfl (by decide +kernel) ⟨Nat.le_of_ble_eq_true rfl, Nat.le_of_ble_eq_true rfl⟩) ⟨fun a U g mk q => by obtain ⟨q0, q1, qP, qK, qD, qN⟩ := q; exact ⟨q0, q1, qP, va_K.moved (u := U) (U := U.calling g mk a) (Vm.Alike.refl U.vm) qK, qD, nv_same rfl rfl qN⟩, va_recv hKc hPc (ci := 10) (q0 := 0) rfl rfl, fun U hU hW => ⟨rfl, by rw [hU], by rw [hU]; exact hPc, va_K.moved hW.alike hKc, hDc.weaken (fun _ _ _ _ => trivial), nv_call hS hFc hU hW hN⟩⟩ rfl rfl hl.1 rfl (lv_room (Nat.le_of_ble_eq_true rfl)) dX1_start_5 ⟨by decide +kernel, by decide +kernel⟩) hS (fun q _ h => hFc q h) hFc (fun u t H1 locs ht hvm hw hB hz1 hk1 hS => ?_)
  obtain ⟨f1, f2, hP1, hK1, hD1⟩ := hB
  rw [ht] at hP1
  have hK1 := va_K.moved hvm.symm hK1
  obtain ⟨hP, hD⟩ := va_join (wr := [(c0, .inr (2, [.ref c1, .ref c7, .int 0, .ref c8, .int 0, .int 0, .int 0, .int 0, .int 0, .int 0, .int 0, .int 0, .int 0]))]) (w1 := [(c1, .inr (10, [.ref c6, .int 0, .int 0, .int 0, .int 0, .int 0, .ref c10, .ref c11, .int 0, .ref c12, .int 0, .int 0, .ref c13, .int 0, .ref c2, .ref c4, .ref c14, .int 0, .int 0, .int 0])), (c2, .inl (c3, 256, .inl f1)), (c4, .inl (c5, 20, .inl f2))]) hP hD [1, 2, 3] [0] rfl rfl (by decide) (by decide) hk1 hFc hP1 hD1
  have hK := (hK.sub (tys' := []) [] rfl).app hK1
  generalize H1 = H at hP hS ⊢
  have hP : va_P (dC, dI) vwCl [(c0, .inr (2, [.ref c1, .ref c7, .int 0, .ref c8, .int 0, .int 0, .int 0, .int 0, .int 0, .int 0, .int 0, .int 0, .int 0])), (c1, .inr (10, [.ref c6, .int 0, .int 0, .int 0, .int 0, .int 0, .ref c10, .ref c11, .int 0, .ref c12, .int 0, .int 0, .ref c13, .int 0, .ref c2, .ref c4, .ref c14, .int 0, .int 0, .int 0])), (c2, .inl (c3, 256, .inl f1)), (c4, .inl (c5, 20, .inl f2))] H := hP
  have hD : va_D A [(c0, .inr (2, [.ref c1, .ref c7, .int 0, .ref c8, .int 0, .int 0, .int 0, .int 0, .int 0, .int 0, .int 0, .int 0, .int 0])), (c1, .inr (10, [.ref c6, .int 0, .int 0, .int 0, .int 0, .int 0, .ref c10, .ref c11, .int 0, .ref c12, .int 0, .int 0, .ref c13, .int 0, .ref c2, .ref c4, .ref c14, .int 0, .int 0, .int 0])), (c2, .inl (c3, 256, .inl f1)), (c4, .inl (c5, 20, .inl f2))] := hD
  have hK : va_K (dC, dI) vwCl [(c3, .int), (c5, .int)] s := hK
  refine W.widen (k := 0) (n := 0) (by decide +kernel) (by decide +kernel) ?_
  refine lv_aload_n hx hb dX1_start_8 rfl (lv_at hl 0 rfl) ?_
  refine lv_iconst (v := 0) hx hb dX1_start_9 (by decide) ?_
  refine va_put (D := (dC, dI)) (ci := 2) (v := .int 0) (ty := .int) (C := RX1) (T := TX1) (N := 13) hx hb hts hi_k_X1_start_X1 tyX1 tyX1_ok nmX1 hown hK hP hD hS 0 rfl rfl 2 (by decide) (hts (.fieldLink RX1 65 "TimeMachine$Assembler" "statements" "I") (List.mem_of_getElem? (i := 6) rfl)) (fun _ h9 => h9) rfl (by decide +kernel) rfl rfl (Nat.le_of_ble_eq_true rfl) dX1_start_10 (fun H locs hP hD hS => ?_)
  have hP : va_P (dC, dI) vwCl [(c0, .inr (2, [.ref c1, .ref c7, .int 0, .ref c8, .int 0, .int 0, .int 0, .int 0, .int 0, .int 0, .int 0, .int 0, .int 0])), (c1, .inr (10, [.ref c6, .int 0, .int 0, .int 0, .int 0, .int 0, .ref c10, .ref c11, .int 0, .ref c12, .int 0, .int 0, .ref c13, .int 0, .ref c2, .ref c4, .ref c14, .int 0, .int 0, .int 0])), (c2, .inl (c3, 256, .inl f1)), (c4, .inl (c5, 20, .inl f2))] H := hP
  have hD : va_D A [(c0, .inr (2, [.ref c1, .ref c7, .int 0, .ref c8, .int 0, .int 0, .int 0, .int 0, .int 0, .int 0, .int 0, .int 0, .int 0])), (c1, .inr (10, [.ref c6, .int 0, .int 0, .int 0, .int 0, .int 0, .ref c10, .ref c11, .int 0, .ref c12, .int 0, .int 0, .ref c13, .int 0, .ref c2, .ref c4, .ref c14, .int 0, .int 0, .int 0])), (c2, .inl (c3, 256, .inl f1)), (c4, .inl (c5, 20, .inl f2))] := hD
  refine lv_aload_n hx hb dX1_start_13 rfl (lv_at hl 0 rfl) ?_
  refine lv_iconst (v := 0) hx hb dX1_start_14 (by decide) ?_
  refine va_put (D := (dC, dI)) (ci := 2) (v := .int 0) (ty := .int) (C := RX1) (T := TX1) (N := 13) hx hb hts hi_k_X1_start_X1 tyX1 tyX1_ok nmX1 hown hK hP hD hS 0 rfl rfl 4 (by decide) (hts (.fieldLink RX1 68 "TimeMachine$Assembler" "lettersUsed" "I") (List.mem_of_getElem? (i := 7) rfl)) (fun _ h9 => h9) rfl (by decide +kernel) rfl rfl (Nat.le_of_ble_eq_true rfl) dX1_start_15 (fun H locs hP hD hS => ?_)
  have hP : va_P (dC, dI) vwCl [(c0, .inr (2, [.ref c1, .ref c7, .int 0, .ref c8, .int 0, .int 0, .int 0, .int 0, .int 0, .int 0, .int 0, .int 0, .int 0])), (c1, .inr (10, [.ref c6, .int 0, .int 0, .int 0, .int 0, .int 0, .ref c10, .ref c11, .int 0, .ref c12, .int 0, .int 0, .ref c13, .int 0, .ref c2, .ref c4, .ref c14, .int 0, .int 0, .int 0])), (c2, .inl (c3, 256, .inl f1)), (c4, .inl (c5, 20, .inl f2))] H := hP
  have hD : va_D A [(c0, .inr (2, [.ref c1, .ref c7, .int 0, .ref c8, .int 0, .int 0, .int 0, .int 0, .int 0, .int 0, .int 0, .int 0, .int 0])), (c1, .inr (10, [.ref c6, .int 0, .int 0, .int 0, .int 0, .int 0, .ref c10, .ref c11, .int 0, .ref c12, .int 0, .int 0, .ref c13, .int 0, .ref c2, .ref c4, .ref c14, .int 0, .int 0, .int 0])), (c2, .inl (c3, 256, .inl f1)), (c4, .inl (c5, 20, .inl f2))] := hD
  refine lv_aload_n hx hb dX1_start_18 rfl (lv_at hl 0 rfl) ?_
  refine lv_iconst (v := 0) hx hb dX1_start_19 (by decide) ?_
  refine va_put (D := (dC, dI)) (ci := 2) (v := .int 0) (ty := .int) (C := RX1) (T := TX1) (N := 13) hx hb hts hi_k_X1_start_X1 tyX1 tyX1_ok nmX1 hown hK hP hD hS 0 rfl rfl 5 (by decide) (hts (.fieldLink RX1 32 "TimeMachine$Assembler" "fault" "I") (List.mem_of_getElem? (i := 8) rfl)) (fun _ h9 => h9) rfl (by decide +kernel) rfl rfl (Nat.le_of_ble_eq_true rfl) dX1_start_20 (fun H locs hP hD hS => ?_)
  have hP : va_P (dC, dI) vwCl [(c0, .inr (2, [.ref c1, .ref c7, .int 0, .ref c8, .int 0, .int 0, .int 0, .int 0, .int 0, .int 0, .int 0, .int 0, .int 0])), (c1, .inr (10, [.ref c6, .int 0, .int 0, .int 0, .int 0, .int 0, .ref c10, .ref c11, .int 0, .ref c12, .int 0, .int 0, .ref c13, .int 0, .ref c2, .ref c4, .ref c14, .int 0, .int 0, .int 0])), (c2, .inl (c3, 256, .inl f1)), (c4, .inl (c5, 20, .inl f2))] H := hP
  have hD : va_D A [(c0, .inr (2, [.ref c1, .ref c7, .int 0, .ref c8, .int 0, .int 0, .int 0, .int 0, .int 0, .int 0, .int 0, .int 0, .int 0])), (c1, .inr (10, [.ref c6, .int 0, .int 0, .int 0, .int 0, .int 0, .ref c10, .ref c11, .int 0, .ref c12, .int 0, .int 0, .ref c13, .int 0, .ref c2, .ref c4, .ref c14, .int 0, .int 0, .int 0])), (c2, .inl (c3, 256, .inl f1)), (c4, .inl (c5, 20, .inl f2))] := hD
  refine lv_aload_n hx hb dX1_start_23 rfl (lv_at hl 0 rfl) ?_
  refine lv_iconst (v := 0) hx hb dX1_start_24 (by decide) ?_
  refine va_put (D := (dC, dI)) (ci := 2) (v := .int 0) (ty := .int) (C := RX1) (T := TX1) (N := 13) hx hb hts hi_k_X1_start_X1 tyX1 tyX1_ok nmX1 hown hK hP hD hS 0 rfl rfl 6 (by decide) (hts (.fieldLink RX1 36 "TimeMachine$Assembler" "line" "I") (List.mem_of_getElem? (i := 9) rfl)) (fun _ h9 => h9) rfl (by decide +kernel) rfl rfl (Nat.le_of_ble_eq_true rfl) dX1_start_25 (fun H locs hP hD hS => ?_)
  have hP : va_P (dC, dI) vwCl [(c0, .inr (2, [.ref c1, .ref c7, .int 0, .ref c8, .int 0, .int 0, .int 0, .int 0, .int 0, .int 0, .int 0, .int 0, .int 0])), (c1, .inr (10, [.ref c6, .int 0, .int 0, .int 0, .int 0, .int 0, .ref c10, .ref c11, .int 0, .ref c12, .int 0, .int 0, .ref c13, .int 0, .ref c2, .ref c4, .ref c14, .int 0, .int 0, .int 0])), (c2, .inl (c3, 256, .inl f1)), (c4, .inl (c5, 20, .inl f2))] H := hP
  have hD : va_D A [(c0, .inr (2, [.ref c1, .ref c7, .int 0, .ref c8, .int 0, .int 0, .int 0, .int 0, .int 0, .int 0, .int 0, .int 0, .int 0])), (c1, .inr (10, [.ref c6, .int 0, .int 0, .int 0, .int 0, .int 0, .ref c10, .ref c11, .int 0, .ref c12, .int 0, .int 0, .ref c13, .int 0, .ref c2, .ref c4, .ref c14, .int 0, .int 0, .int 0])), (c2, .inl (c3, 256, .inl f1)), (c4, .inl (c5, 20, .inl f2))] := hD
  refine lv_aload_n hx hb dX1_start_28 rfl (lv_at hl 0 rfl) ?_
  refine lv_iconst (v := 0) hx hb dX1_start_29 (by decide) ?_
  refine va_put (D := (dC, dI)) (ci := 2) (v := .int 0) (ty := .int) (C := RX1) (T := TX1) (N := 13) hx hb hts hi_k_X1_start_X1 tyX1 tyX1_ok nmX1 hown hK hP hD hS 0 rfl rfl 7 (by decide) (hts (.fieldLink RX1 71 "TimeMachine$Assembler" "section" "I") (List.mem_of_getElem? (i := 10) rfl)) (fun _ h9 => h9) rfl (by decide +kernel) rfl rfl (Nat.le_of_ble_eq_true rfl) dX1_start_30 (fun H locs hP hD hS => ?_)
  have hP : va_P (dC, dI) vwCl [(c0, .inr (2, [.ref c1, .ref c7, .int 0, .ref c8, .int 0, .int 0, .int 0, .int 0, .int 0, .int 0, .int 0, .int 0, .int 0])), (c1, .inr (10, [.ref c6, .int 0, .int 0, .int 0, .int 0, .int 0, .ref c10, .ref c11, .int 0, .ref c12, .int 0, .int 0, .ref c13, .int 0, .ref c2, .ref c4, .ref c14, .int 0, .int 0, .int 0])), (c2, .inl (c3, 256, .inl f1)), (c4, .inl (c5, 20, .inl f2))] H := hP
  have hD : va_D A [(c0, .inr (2, [.ref c1, .ref c7, .int 0, .ref c8, .int 0, .int 0, .int 0, .int 0, .int 0, .int 0, .int 0, .int 0, .int 0])), (c1, .inr (10, [.ref c6, .int 0, .int 0, .int 0, .int 0, .int 0, .ref c10, .ref c11, .int 0, .ref c12, .int 0, .int 0, .ref c13, .int 0, .ref c2, .ref c4, .ref c14, .int 0, .int 0, .int 0])), (c2, .inl (c3, 256, .inl f1)), (c4, .inl (c5, 20, .inl f2))] := hD
  refine lv_aload_n hx hb dX1_start_33 rfl (lv_at hl 0 rfl) ?_
  refine lv_iconst (v := 0) hx hb dX1_start_34 (by decide) ?_
  refine va_put (D := (dC, dI)) (ci := 2) (v := .int 0) (ty := .int) (C := RX1) (T := TX1) (N := 13) hx hb hts hi_k_X1_start_X1 tyX1 tyX1_ok nmX1 hown hK hP hD hS 0 rfl rfl 9 (by decide) (hts (.fieldLink RX1 74 "TimeMachine$Assembler" "constants" "I") (List.mem_of_getElem? (i := 11) rfl)) (fun _ h9 => h9) rfl (by decide +kernel) rfl rfl (Nat.le_of_ble_eq_true rfl) dX1_start_35 (fun H locs hP hD hS => ?_)
  have hP : va_P (dC, dI) vwCl [(c0, .inr (2, [.ref c1, .ref c7, .int 0, .ref c8, .int 0, .int 0, .int 0, .int 0, .int 0, .int 0, .int 0, .int 0, .int 0])), (c1, .inr (10, [.ref c6, .int 0, .int 0, .int 0, .int 0, .int 0, .ref c10, .ref c11, .int 0, .ref c12, .int 0, .int 0, .ref c13, .int 0, .ref c2, .ref c4, .ref c14, .int 0, .int 0, .int 0])), (c2, .inl (c3, 256, .inl f1)), (c4, .inl (c5, 20, .inl f2))] H := hP
  have hD : va_D A [(c0, .inr (2, [.ref c1, .ref c7, .int 0, .ref c8, .int 0, .int 0, .int 0, .int 0, .int 0, .int 0, .int 0, .int 0, .int 0])), (c1, .inr (10, [.ref c6, .int 0, .int 0, .int 0, .int 0, .int 0, .ref c10, .ref c11, .int 0, .ref c12, .int 0, .int 0, .ref c13, .int 0, .ref c2, .ref c4, .ref c14, .int 0, .int 0, .int 0])), (c2, .inl (c3, 256, .inl f1)), (c4, .inl (c5, 20, .inl f2))] := hD
  refine lv_iconst (v := 1) hx hb dX1_start_38 (by decide) ?_
  refine lv_istore_n (lv' := [(3, .int 1), (0, .ref c0), (1, .ref c6), (2, .int 0)]) hx hb dX1_start_39 rfl hl (by decide) rfl (fun ls hl => ?_)
  refine lv_iconst (v := 0) hx hb dX1_start_40 (by decide) ?_
  refine lv_istore (lv' := [(4, .int 0), (3, .int 1), (0, .ref c0), (1, .ref c6), (2, .int 0)]) hx hb dX1_start_41 hl (by decide) rfl (fun ls hl => ?_)
  refine lv_iload hx hb dX1_start_43 (lv_at hl 0 rfl) ?_
  refine lv_iload_n hx hb dX1_start_45 rfl (lv_at hl 4 rfl) ?_
  refine lv_icmp_ge (tgt := 112) hx hb dX1_start_46 (by decide) (fun _ => ?_) (fun h9 => absurd (by decide) h9)
  have hP9 := hP.sub (ws' := [(c0, .inr (2, [.ref c1, .ref c7, .int 0, .ref c8, .int 0, .int 0, .int 0, .int 0, .int 0, .int 0, .int 0, .int 0, .int 0])), (c1, .inr (10, [.ref c6, .int 0, .int 0, .int 0, .int 0, .int 0, .ref c10, .ref c11, .int 0, .ref c12, .int 0, .int 0, .ref c13, .int 0, .ref c2, .ref c4, .ref c14, .int 0, .int 0, .int 0])), (c2, .inl (c3, 256, .inl f1)), (c4, .inl (c5, 20, .inl f2))]) [0, 1, 2, 3] rfl
  have hD9 := hD.sub (ws' := [(c0, .inr (2, [.ref c1, .ref c7, .int 0, .ref c8, .int 0, .int 0, .int 0, .int 0, .int 0, .int 0, .int 0, .int 0, .int 0])), (c1, .inr (10, [.ref c6, .int 0, .int 0, .int 0, .int 0, .int 0, .ref c10, .ref c11, .int 0, .ref c12, .int 0, .int 0, .ref c13, .int 0, .ref c2, .ref c4, .ref c14, .int 0, .int 0, .int 0])), (c2, .inl (c3, 256, .inl f1)), (c4, .inl (c5, 20, .inl f2))]) [0, 1, 2, 3] (by decide) rfl
  have hK9 := hK.sub (tys' := [(c3, .int), (c5, .int)]) [0, 1] rfl
  refine W.widen (k := 0) (n := 0) (by decide +kernel) (by decide +kernel) ?_
  exact W.vret hx hb hr (fun t ht hW => ⟨⟨(), rfl, trivial, f1, f2, by rw [ht]; exact hP9, va_K.moved hW.alike hK9, hD9⟩, hS.F ht⟩) hS.2.2 dX1_start_112
def ow_k_X9_next : List Cond := .code yX9_next cX9_next 2 none :: ([.fieldLink RX9 55 "TimeMachine$Reader" "at" "I", .fieldLink RX9 64 "TimeMachine$Reader" "stop" "I", .fieldLink RX9 70 "TimeMachine$Reader" "from" "I", .fieldLink RX9 73 "TimeMachine$Reader" "kind" "I"] ++ (u_ws RX9 TX9 20 ++ []))
theorem gd_k_X9_next : ∀ w ∈ ow_k_X9_next, (w.onTables && w.keeps) = true ∨ ∃ ty, w = Cond.arrayClass ty := List.forall_mem_cons.mpr ⟨good_of_word rfl, List.forall_mem_append.mpr ⟨fun w h => good_of_word (List.all_eq_true.mp (by decide +kernel) w h), List.forall_mem_append.mpr ⟨gu_X9, fun _ h => nomatch h⟩⟩⟩
theorem hi_k_X9_next_X9 : ∀ w ∈ u_ws RX9 TX9 20, w ∈ ow_k_X9_next := fun w h => List.mem_cons_of_mem _ (List.mem_append_right _ (List.mem_append_left _ h))
set_option maxHeartbeats 40000000 in
set_option maxRecDepth 100000 in
theorem k_X9_next (l : Launch) (hlt : l.stackTraces = false) (dC : Nat → ClassId) (dI : Nat → Nat → Nat) (c0 : Nat) (c1 : Nat) (c2 : Nat) (c3 : Nat) (c4 : Nat) (c5 : Nat) (c6 : Nat) (c7 : Nat) (c8 : Nat) (sz : Nat) : Met l yX9_next ow_k_X9_next ({ frames := 0, cells := 0, slots := 0, locals := 0 }) (va_Pc [.ref c0] (fun U => U.heap.size = sz ∧ va_P (dC, dI) vwCl [(c0, .inr (10, [.ref c1, .int 0, .int 0, .int 0, .int 0, .int 0, .ref c2, .ref c3, .int 0, .ref c4, .int 0, .int 0, .ref c5, .int 0, .ref c6, .ref c7, .ref c8, .int 0, .int 0, .int 0]))] U.heap ∧ va_K (dC, dI) vwCl [] U ∧ va_D (fun _ => True) [(c0, .inr (10, [.ref c1, .int 0, .int 0, .int 0, .int 0, .int 0, .ref c2, .ref c3, .int 0, .ref c4, .int 0, .int 0, .ref c5, .int 0, .ref c6, .ref c7, .ref c8, .int 0, .int 0, .int 0]))] ∧ nv_E (va_A [(c0, .inr (10, [.ref c1, .int 0, .int 0, .int 0, .int 0, .int 0, .ref c2, .ref c3, .int 0, .ref c4, .int 0, .int 0, .ref c5, .int 0, .ref c6, .ref c7, .ref c8, .int 0, .int 0, .int 0]))] sz) U)) (va_Qv (fun _ => True) (fun (_ : Unit) t => va_P (dC, dI) vwCl [(c0, .inr (10, [.ref c1, .int 0, .int 0, .int 0, .int 0, .int 0, .ref c2, .ref c3, .int 0, .ref c4, .int 0, .int 0, .ref c5, .int 0, .ref c6, .ref c7, .ref c8, .int 0, .int 0, .int 0]))] t.heap ∧ va_K (dC, dI) vwCl [] t ∧ va_D (va_A [(c0, .inr (10, [.ref c1, .int 0, .int 0, .int 0, .int 0, .int 0, .ref c2, .ref c3, .int 0, .ref c4, .int 0, .int 0, .ref c5, .int 0, .ref c6, .ref c7, .ref c8, .int 0, .int 0, .int 0]))] sz) [(c0, .inr (10, [.ref c1, .int 0, .int 0, .int 0, .int 0, .int 0, .ref c2, .ref c3, .int 0, .ref c4, .int 0, .int 0, .ref c5, .int 0, .ref c6, .ref c7, .ref c8, .int 0, .int 0, .int 0]))]) (va_A [(c0, .inr (10, [.ref c1, .int 0, .int 0, .int 0, .int 0, .int 0, .ref c2, .ref c3, .int 0, .ref c4, .int 0, .int 0, .ref c5, .int 0, .ref c6, .ref c7, .ref c8, .int 0, .int 0, .int 0]))] sz)) 0 0 (va_A [(c0, .inr (10, [.ref c1, .int 0, .int 0, .int 0, .int 0, .int 0, .ref c2, .ref c3, .int 0, .ref c4, .int 0, .int 0, .ref c5, .int 0, .ref c6, .ref c7, .ref c8, .int 0, .int 0, .int 0]))] sz) := by
  refine Met.ofW (cc := cX9_next) (maxL := 2) (ret := none) (by decide) rfl ?_
  intro p e s m args below meth c s₁ B hml hv
  obtain ⟨rfl, hsz, hP, hK, hD0, hN⟩ := hv
  have hx := B.exec
  have hb := B.bytes
  have hr := B.returns
  have hts := atoms_spec (ws := ow_k_X9_next) B.pre
  have hown : s.vm.findClass RX9 = some m.cls := findClass_of_methodNamed B.named
  have hlocks := B.notSynchronized
  subst hsz
  have hD := hD0.self (sz := s.heap.size)
  generalize hAe : va_A [(c0, .inr (10, [.ref c1, .int 0, .int 0, .int 0, .int 0, .int 0, .ref c2, .ref c3, .int 0, .ref c4, .int 0, .int 0, .ref c5, .int 0, .ref c6, .ref c7, .ref c8, .int 0, .int 0, .int 0]))] s.heap.size = A at hD hN ⊢
  have hA : ∀ q : Nat, s.heap.size ≤ q → A q := fun q h => by rw [← hAe]; exact Or.inr h
  have hS : va_S A s.heap s.heap [] := va_S.rf
  have hl := lv_entry ([.ref c0]) (n := 2) (Nat.le_of_ble_eq_true rfl)
  rw [lg_entry_eq]
  generalize (lg_sl ([.ref c0]) ++ List.replicate (2 - (lg_sl ([.ref c0])).length) Slot.unset).toArray = ls at hl ⊢
  have hl : lv_has ls 2 [(0, .ref c0)] := hl
  refine lv_aload_n hx hb dX9_next_0 rfl (lv_at hl 0 rfl) ?_
  refine va_get (D := (dC, dI)) (ci := 10) (v := .int 0) (C := RX9) (T := TX9) (N := 20) hx hb hts hi_k_X9_next_X9 hown hK hP 0 rfl rfl 1 (by decide) (hts (.fieldLink RX9 55 "TimeMachine$Reader" "at" "I") (List.mem_of_getElem? (i := 1) rfl)) (fun _ h9 => h9) rfl dX9_next_1 ?_
  refine lv_aload_n hx hb dX9_next_4 rfl (lv_at hl 0 rfl) ?_
  refine va_get (D := (dC, dI)) (ci := 10) (v := .int 0) (C := RX9) (T := TX9) (N := 20) hx hb hts hi_k_X9_next_X9 hown hK hP 0 rfl rfl 2 (by decide) (hts (.fieldLink RX9 64 "TimeMachine$Reader" "stop" "I") (List.mem_of_getElem? (i := 2) rfl)) (fun _ h9 => h9) rfl dX9_next_5 ?_
  refine lv_icmp_ge (tgt := 52) hx hb dX9_next_8 (by decide) (fun _ => ?_) (fun h9 => absurd (by decide) h9)
  refine lv_aload_n hx hb dX9_next_52 rfl (lv_at hl 0 rfl) ?_
  refine lv_aload_n hx hb dX9_next_53 rfl (lv_at hl 0 rfl) ?_
  refine va_get (D := (dC, dI)) (ci := 10) (v := .int 0) (C := RX9) (T := TX9) (N := 20) hx hb hts hi_k_X9_next_X9 hown hK hP 0 rfl rfl 1 (by decide) (hts (.fieldLink RX9 55 "TimeMachine$Reader" "at" "I") (List.mem_of_getElem? (i := 1) rfl)) (fun _ h9 => h9) rfl dX9_next_54 ?_
  refine va_put (D := (dC, dI)) (ci := 10) (v := .int 0) (ty := .int) (C := RX9) (T := TX9) (N := 20) hx hb hts hi_k_X9_next_X9 tyX9 tyX9_ok nmX9 hown hK hP hD hS 0 rfl rfl 4 (by decide) (hts (.fieldLink RX9 70 "TimeMachine$Reader" "from" "I") (List.mem_of_getElem? (i := 3) rfl)) (fun _ h9 => h9) rfl (by decide +kernel) rfl rfl (Nat.le_of_ble_eq_true rfl) dX9_next_57 (fun H locs hP hD hS => ?_)
  have hP : va_P (dC, dI) vwCl [(c0, .inr (10, [.ref c1, .int 0, .int 0, .int 0, .int 0, .int 0, .ref c2, .ref c3, .int 0, .ref c4, .int 0, .int 0, .ref c5, .int 0, .ref c6, .ref c7, .ref c8, .int 0, .int 0, .int 0]))] H := hP
  have hD : va_D A [(c0, .inr (10, [.ref c1, .int 0, .int 0, .int 0, .int 0, .int 0, .ref c2, .ref c3, .int 0, .ref c4, .int 0, .int 0, .ref c5, .int 0, .ref c6, .ref c7, .ref c8, .int 0, .int 0, .int 0]))] := hD
  refine lv_aload_n hx hb dX9_next_60 rfl (lv_at hl 0 rfl) ?_
  refine va_get (D := (dC, dI)) (ci := 10) (v := .int 0) (C := RX9) (T := TX9) (N := 20) hx hb hts hi_k_X9_next_X9 hown hK hP 0 rfl rfl 1 (by decide) (hts (.fieldLink RX9 55 "TimeMachine$Reader" "at" "I") (List.mem_of_getElem? (i := 1) rfl)) (fun _ h9 => h9) rfl dX9_next_61 ?_
  refine lv_aload_n hx hb dX9_next_64 rfl (lv_at hl 0 rfl) ?_
  refine va_get (D := (dC, dI)) (ci := 10) (v := .int 0) (C := RX9) (T := TX9) (N := 20) hx hb hts hi_k_X9_next_X9 hown hK hP 0 rfl rfl 2 (by decide) (hts (.fieldLink RX9 64 "TimeMachine$Reader" "stop" "I") (List.mem_of_getElem? (i := 2) rfl)) (fun _ h9 => h9) rfl dX9_next_65 ?_
  refine lv_icmp_ge (tgt := 85) hx hb dX9_next_68 (by decide) (fun _ => ?_) (fun h9 => absurd (by decide) h9)
  refine lv_aload_n hx hb dX9_next_85 rfl (lv_at hl 0 rfl) ?_
  refine lv_iconst (v := 0) hx hb dX9_next_86 (by decide) ?_
  refine va_put (D := (dC, dI)) (ci := 10) (v := .int 0) (ty := .int) (C := RX9) (T := TX9) (N := 20) hx hb hts hi_k_X9_next_X9 tyX9 tyX9_ok nmX9 hown hK hP hD hS 0 rfl rfl 3 (by decide) (hts (.fieldLink RX9 73 "TimeMachine$Reader" "kind" "I") (List.mem_of_getElem? (i := 4) rfl)) (fun _ h9 => h9) rfl (by decide +kernel) rfl rfl (Nat.le_of_ble_eq_true rfl) dX9_next_87 (fun H locs hP hD hS => ?_)
  have hP : va_P (dC, dI) vwCl [(c0, .inr (10, [.ref c1, .int 0, .int 0, .int 0, .int 0, .int 0, .ref c2, .ref c3, .int 0, .ref c4, .int 0, .int 0, .ref c5, .int 0, .ref c6, .ref c7, .ref c8, .int 0, .int 0, .int 0]))] H := hP
  have hD : va_D A [(c0, .inr (10, [.ref c1, .int 0, .int 0, .int 0, .int 0, .int 0, .ref c2, .ref c3, .int 0, .ref c4, .int 0, .int 0, .ref c5, .int 0, .ref c6, .ref c7, .ref c8, .int 0, .int 0, .int 0]))] := hD
  have hP9 := hP.sub (ws' := [(c0, .inr (10, [.ref c1, .int 0, .int 0, .int 0, .int 0, .int 0, .ref c2, .ref c3, .int 0, .ref c4, .int 0, .int 0, .ref c5, .int 0, .ref c6, .ref c7, .ref c8, .int 0, .int 0, .int 0]))]) [0] rfl
  have hD9 := hD.sub (ws' := [(c0, .inr (10, [.ref c1, .int 0, .int 0, .int 0, .int 0, .int 0, .ref c2, .ref c3, .int 0, .ref c4, .int 0, .int 0, .ref c5, .int 0, .ref c6, .ref c7, .ref c8, .int 0, .int 0, .int 0]))]) [0] (by decide) rfl
  have hK9 := hK.sub (tys' := []) [] rfl
  refine W.widen (k := 0) (n := 0) (by decide +kernel) (by decide +kernel) ?_
  exact W.vret hx hb hr (fun t ht hW => ⟨⟨(), rfl, trivial, by rw [ht]; exact hP9, va_K.moved hW.alike hK9, hD9⟩, hS.F ht⟩) hS.2.2 dX9_next_90
def ow_k_X9_startLine : List Cond := .code yX9_startLine cX9_startLine 3 none :: ([.fieldLink RX9 55 "TimeMachine$Reader" "at" "I", .fieldLink RX9 9 "TimeMachine$Reader" "source" "[B", .methodLink RX9 58 Lib.Math.min.name, .static Lib.Math.min.name, .initialized "java/lang/Math", .code Lib.Math.min.name Lib.Math.min.code 2 (some .int), .fieldLink RX9 64 "TimeMachine$Reader" "stop" "I", .methodLink RX9 67 yX9_next, .instanceMethod yX9_next, .selects RX9 yX9_next yX9_next, .initialized RX9] ++ (u_ws RX9 TX9 20 ++ (ow_k_X9_next ++ [])))
theorem gd_k_X9_startLine : ∀ w ∈ ow_k_X9_startLine, (w.onTables && w.keeps) = true ∨ ∃ ty, w = Cond.arrayClass ty := List.forall_mem_cons.mpr ⟨good_of_word rfl, List.forall_mem_append.mpr ⟨fun w h => good_of_word (List.all_eq_true.mp (by decide +kernel) w h), List.forall_mem_append.mpr ⟨gu_X9, List.forall_mem_append.mpr ⟨gd_k_X9_next, fun _ h => nomatch h⟩⟩⟩⟩
theorem hi_k_X9_startLine_X9 : ∀ w ∈ u_ws RX9 TX9 20, w ∈ ow_k_X9_startLine := fun w h => List.mem_cons_of_mem _ (List.mem_append_right _ (List.mem_append_left _ h))
theorem gi_k_X9_startLine_0 : GoodIn ow_k_X9_startLine (wsV RX9 67 RX9 yX9_next ow_k_X9_next) := goodIn_app (goodIn_of _ (by decide +kernel)) (fun w h => ⟨List.mem_cons_of_mem _ (List.mem_append_right _ (List.mem_append_right _ (List.mem_append_left _ h))), gd_k_X9_next w h⟩)
set_option maxHeartbeats 40000000 in
set_option maxRecDepth 100000 in
theorem k_X9_startLine (l : Launch) (hlt : l.stackTraces = false) (dC : Nat → ClassId) (dI : Nat → Nat → Nat) (c0 : Nat) (c1 : ClassId) (c2 : Nat) (c3 : Nat) (c4 : Nat) (c5 : Nat) (c6 : Nat) (c7 : Nat) (c8 : Nat) (c9 : Nat) (sz : Nat) : Met l yX9_startLine ow_k_X9_startLine ({ frames := 1, cells := 0, slots := 0, locals := 21 }) (va_Pc [.ref c2, .int 0, .int 0] (fun U => U.heap.size = sz ∧ va_P (dC, dI) vwCl [(c0, .inl (c1, 32768, .inl (fun _ => 0))), (c2, .inr (10, [.ref c0, .int 0, .int 0, .int 0, .int 0, .int 0, .ref c3, .ref c4, .int 0, .ref c5, .int 0, .int 0, .ref c6, .int 0, .ref c7, .ref c8, .ref c9, .int 0, .int 0, .int 0]))] U.heap ∧ va_K (dC, dI) vwCl [(c1, .byte)] U ∧ va_D (fun _ => True) [(c0, .inl (c1, 32768, .inl (fun _ => 0))), (c2, .inr (10, [.ref c0, .int 0, .int 0, .int 0, .int 0, .int 0, .ref c3, .ref c4, .int 0, .ref c5, .int 0, .int 0, .ref c6, .int 0, .ref c7, .ref c8, .ref c9, .int 0, .int 0, .int 0]))] ∧ nv_E (va_A [(c0, .inl (c1, 32768, .inl (fun _ => 0))), (c2, .inr (10, [.ref c0, .int 0, .int 0, .int 0, .int 0, .int 0, .ref c3, .ref c4, .int 0, .ref c5, .int 0, .int 0, .ref c6, .int 0, .ref c7, .ref c8, .ref c9, .int 0, .int 0, .int 0]))] sz) U)) (va_Qv (fun _ => True) (fun (_ : Unit) t => va_P (dC, dI) vwCl [(c0, .inl (c1, 32768, .inl (fun _ => 0))), (c2, .inr (10, [.ref c0, .int 0, .int 0, .int 0, .int 0, .int 0, .ref c3, .ref c4, .int 0, .ref c5, .int 0, .int 0, .ref c6, .int 0, .ref c7, .ref c8, .ref c9, .int 0, .int 0, .int 0]))] t.heap ∧ va_K (dC, dI) vwCl [(c1, .byte)] t ∧ va_D (va_A [(c0, .inl (c1, 32768, .inl (fun _ => 0))), (c2, .inr (10, [.ref c0, .int 0, .int 0, .int 0, .int 0, .int 0, .ref c3, .ref c4, .int 0, .ref c5, .int 0, .int 0, .ref c6, .int 0, .ref c7, .ref c8, .ref c9, .int 0, .int 0, .int 0]))] sz) [(c0, .inl (c1, 32768, .inl (fun _ => 0))), (c2, .inr (10, [.ref c0, .int 0, .int 0, .int 0, .int 0, .int 0, .ref c3, .ref c4, .int 0, .ref c5, .int 0, .int 0, .ref c6, .int 0, .ref c7, .ref c8, .ref c9, .int 0, .int 0, .int 0]))]) (va_A [(c0, .inl (c1, 32768, .inl (fun _ => 0))), (c2, .inr (10, [.ref c0, .int 0, .int 0, .int 0, .int 0, .int 0, .ref c3, .ref c4, .int 0, .ref c5, .int 0, .int 0, .ref c6, .int 0, .ref c7, .ref c8, .ref c9, .int 0, .int 0, .int 0]))] sz)) 0 0 (va_A [(c0, .inl (c1, 32768, .inl (fun _ => 0))), (c2, .inr (10, [.ref c0, .int 0, .int 0, .int 0, .int 0, .int 0, .ref c3, .ref c4, .int 0, .ref c5, .int 0, .int 0, .ref c6, .int 0, .ref c7, .ref c8, .ref c9, .int 0, .int 0, .int 0]))] sz) := by
  refine Met.ofW (cc := cX9_startLine) (maxL := 3) (ret := none) (by decide) rfl ?_
  intro p e s m args below meth c s₁ B hml hv
  obtain ⟨rfl, hsz, hP, hK, hD0, hN⟩ := hv
  have hx := B.exec
  have hb := B.bytes
  have hr := B.returns
  have hts := atoms_spec (ws := ow_k_X9_startLine) B.pre
  have hown : s.vm.findClass RX9 = some m.cls := findClass_of_methodNamed B.named
  have hlocks := B.notSynchronized
  subst hsz
  have hD := hD0.self (sz := s.heap.size)
  generalize hAe : va_A [(c0, .inl (c1, 32768, .inl (fun _ => 0))), (c2, .inr (10, [.ref c0, .int 0, .int 0, .int 0, .int 0, .int 0, .ref c3, .ref c4, .int 0, .ref c5, .int 0, .int 0, .ref c6, .int 0, .ref c7, .ref c8, .ref c9, .int 0, .int 0, .int 0]))] s.heap.size = A at hD hN ⊢
  have hA : ∀ q : Nat, s.heap.size ≤ q → A q := fun q h => by rw [← hAe]; exact Or.inr h
  have hS : va_S A s.heap s.heap [] := va_S.rf
  have hl := lv_entry ([.ref c2, .int 0, .int 0]) (n := 3) (Nat.le_of_ble_eq_true rfl)
  rw [lg_entry_eq]
  generalize (lg_sl ([.ref c2, .int 0, .int 0]) ++ List.replicate (3 - (lg_sl ([.ref c2, .int 0, .int 0])).length) Slot.unset).toArray = ls at hl ⊢
  have hl : lv_has ls 3 [(0, .ref c2), (1, .int 0), (2, .int 0)] := hl
  refine lv_aload_n hx hb dX9_startLine_0 rfl (lv_at hl 0 rfl) ?_
  refine lv_iload_n hx hb dX9_startLine_1 rfl (lv_at hl 1 rfl) ?_
  refine va_put (D := (dC, dI)) (ci := 10) (v := .int 0) (ty := .int) (C := RX9) (T := TX9) (N := 20) hx hb hts hi_k_X9_startLine_X9 tyX9 tyX9_ok nmX9 hown hK hP hD hS 1 rfl rfl 1 (by decide) (hts (.fieldLink RX9 55 "TimeMachine$Reader" "at" "I") (List.mem_of_getElem? (i := 1) rfl)) (fun _ h9 => h9) rfl (by decide +kernel) rfl rfl (Nat.le_of_ble_eq_true rfl) dX9_startLine_2 (fun H locs hP hD hS => ?_)
  have hP : va_P (dC, dI) vwCl [(c0, .inl (c1, 32768, .inl (fun _ => 0))), (c2, .inr (10, [.ref c0, .int 0, .int 0, .int 0, .int 0, .int 0, .ref c3, .ref c4, .int 0, .ref c5, .int 0, .int 0, .ref c6, .int 0, .ref c7, .ref c8, .ref c9, .int 0, .int 0, .int 0]))] H := hP
  have hD : va_D A [(c0, .inl (c1, 32768, .inl (fun _ => 0))), (c2, .inr (10, [.ref c0, .int 0, .int 0, .int 0, .int 0, .int 0, .ref c3, .ref c4, .int 0, .ref c5, .int 0, .int 0, .ref c6, .int 0, .ref c7, .ref c8, .ref c9, .int 0, .int 0, .int 0]))] := hD
  refine lv_aload_n hx hb dX9_startLine_5 rfl (lv_at hl 0 rfl) ?_
  refine lv_iload_n hx hb dX9_startLine_6 rfl (lv_at hl 2 rfl) ?_
  refine lv_aload_n hx hb dX9_startLine_7 rfl (lv_at hl 0 rfl) ?_
  refine va_get (D := (dC, dI)) (ci := 10) (v := .ref c0) (C := RX9) (T := TX9) (N := 20) hx hb hts hi_k_X9_startLine_X9 hown hK hP 1 rfl rfl 0 (by decide) (hts (.fieldLink RX9 9 "TimeMachine$Reader" "source" "[B") (List.mem_of_getElem? (i := 2) rfl)) (fun _ h9 => h9) rfl dX9_startLine_8 ?_
  refine va_alen (v := 32768) hx hb hK hP 0 0 rfl rfl (show Int32.ofNat 32768 = 32768 by decide) dX9_startLine_11 ?_
  refine va_mmin hx hb (by rw [hml]; exact hl.1.symm) hown (hts (.methodLink RX9 58 Lib.Math.min.name) (List.mem_of_getElem? (i := 3) rfl)) (hts (.static Lib.Math.min.name) (List.mem_of_getElem? (i := 4) rfl)) (hts (.initialized "java/lang/Math") (List.mem_of_getElem? (i := 5) rfl)) (hts (.code Lib.Math.min.name Lib.Math.min.code 2 (some .int)) (List.mem_of_getElem? (i := 6) rfl)) (Nat.le_of_ble_eq_true rfl) (Nat.le_of_ble_eq_true rfl) (by decide +kernel) (by decide +kernel) dX9_startLine_12 ?_
  refine lv_topi (fun z1 ez1 => ?_)
  obtain rfl : z1 = 0 := ez1.trans (by decide)
  refine va_put (D := (dC, dI)) (ci := 10) (v := .int 0) (ty := .int) (C := RX9) (T := TX9) (N := 20) hx hb hts hi_k_X9_startLine_X9 tyX9 tyX9_ok nmX9 hown hK hP hD hS 1 rfl rfl 2 (by decide) (hts (.fieldLink RX9 64 "TimeMachine$Reader" "stop" "I") (List.mem_of_getElem? (i := 7) rfl)) (fun _ h9 => h9) rfl (by decide +kernel) rfl rfl (Nat.le_of_ble_eq_true rfl) dX9_startLine_15 (fun H locs hP hD hS => ?_)
  have hP : va_P (dC, dI) vwCl [(c0, .inl (c1, 32768, .inl (fun _ => 0))), (c2, .inr (10, [.ref c0, .int 0, .int 0, .int 0, .int 0, .int 0, .ref c3, .ref c4, .int 0, .ref c5, .int 0, .int 0, .ref c6, .int 0, .ref c7, .ref c8, .ref c9, .int 0, .int 0, .int 0]))] H := hP
  have hD : va_D A [(c0, .inl (c1, 32768, .inl (fun _ => 0))), (c2, .inr (10, [.ref c0, .int 0, .int 0, .int 0, .int 0, .int 0, .ref c3, .ref c4, .int 0, .ref c5, .int 0, .int 0, .ref c6, .int 0, .ref c7, .ref c8, .ref c9, .int 0, .int 0, .int 0]))] := hD
  refine lv_aload_n hx hb dX9_startLine_18 rfl (lv_at hl 0 rfl) ?_
  have hPc := hP.sub (ws' := [(c2, .inr (10, [.ref c0, .int 0, .int 0, .int 0, .int 0, .int 0, .ref c3, .ref c4, .int 0, .ref c5, .int 0, .int 0, .ref c6, .int 0, .ref c7, .ref c8, .ref c9, .int 0, .int 0, .int 0]))]) [1] rfl
  have hDc := hD.sub (ws' := [(c2, .inr (10, [.ref c0, .int 0, .int 0, .int 0, .int 0, .int 0, .ref c3, .ref c4, .int 0, .ref c5, .int 0, .int 0, .ref c6, .int 0, .ref c7, .ref c8, .ref c9, .int 0, .int 0, .int 0]))]) [1] (by decide) rfl
  have hKc := hK.sub (tys' := []) [] rfl
  have hFc := va_free (wc := [(c2, .inr (10, [.ref c0, .int 0, .int 0, .int 0, .int 0, .int 0, .ref c3, .ref c4, .int 0, .ref c5, .int 0, .int 0, .ref c6, .int 0, .ref c7, .ref c8, .ref c9, .int 0, .int 0, .int 0]))]) hD hS hA [1] rfl
  refine va_callv (va_runV (As := []) (rest := []) ⟨hx, hb, hml, hown, hts⟩ (k_X9_next l hlt dC dI c2 c0 c3 c4 c5 c6 c7 c8 c9  H.size) (cwV 0 hts gi_k_X9_startLine_0 rfl rfl rfl (by decide +kernel) ⟨Nat.le_of_ble_eq_true rfl, Nat.le_of_ble_eq_true rfl⟩) ⟨fun a U g mk q => by obtain ⟨q0, q1, qP, qK, qD, qN⟩ := q; exact ⟨q0, q1, qP, va_K.moved (u := U) (U := U.calling g mk a) (Vm.Alike.refl U.vm) qK, qD, nv_same rfl rfl qN⟩, va_recv hKc hPc (ci := 10) (q0 := 0) rfl rfl, fun U hU hW => ⟨rfl, by rw [hU], by rw [hU]; exact hPc, va_K.moved hW.alike hKc, hDc.weaken (fun _ _ _ _ => trivial), nv_call hS hFc hU hW hN⟩⟩ rfl rfl hl.1 rfl (lv_room (Nat.le_of_ble_eq_true rfl)) dX9_startLine_19 ⟨by decide +kernel, by decide +kernel⟩) hS (fun q _ h => hFc q h) hFc (fun u t H1 locs ht hvm hw hB hz1 hk1 hS => ?_)
  obtain ⟨hP1, hK1, hD1⟩ := hB
  rw [ht] at hP1
  have hK1 := va_K.moved hvm.symm hK1
  obtain ⟨hP, hD⟩ := va_join (wr := [(c0, .inl (c1, 32768, .inl (fun _ => 0)))]) (w1 := [(c2, .inr (10, [.ref c0, .int 0, .int 0, .int 0, .int 0, .int 0, .ref c3, .ref c4, .int 0, .ref c5, .int 0, .int 0, .ref c6, .int 0, .ref c7, .ref c8, .ref c9, .int 0, .int 0, .int 0]))]) hP hD [1] [0] rfl rfl (by decide) (by decide) hk1 hFc hP1 hD1
  have hK := (hK.sub (tys' := [(c1, .byte)]) [0] rfl).app hK1
  generalize H1 = H at hP hS ⊢
  have hP : va_P (dC, dI) vwCl [(c0, .inl (c1, 32768, .inl (fun _ => 0))), (c2, .inr (10, [.ref c0, .int 0, .int 0, .int 0, .int 0, .int 0, .ref c3, .ref c4, .int 0, .ref c5, .int 0, .int 0, .ref c6, .int 0, .ref c7, .ref c8, .ref c9, .int 0, .int 0, .int 0]))] H := hP
  have hD : va_D A [(c0, .inl (c1, 32768, .inl (fun _ => 0))), (c2, .inr (10, [.ref c0, .int 0, .int 0, .int 0, .int 0, .int 0, .ref c3, .ref c4, .int 0, .ref c5, .int 0, .int 0, .ref c6, .int 0, .ref c7, .ref c8, .ref c9, .int 0, .int 0, .int 0]))] := hD
  have hK : va_K (dC, dI) vwCl [(c1, .byte)] s := hK
  refine W.widen (k := 0) (n := 0) (by decide +kernel) (by decide +kernel) ?_
  have hP9 := hP.sub (ws' := [(c0, .inl (c1, 32768, .inl (fun _ => 0))), (c2, .inr (10, [.ref c0, .int 0, .int 0, .int 0, .int 0, .int 0, .ref c3, .ref c4, .int 0, .ref c5, .int 0, .int 0, .ref c6, .int 0, .ref c7, .ref c8, .ref c9, .int 0, .int 0, .int 0]))]) [0, 1] rfl
  have hD9 := hD.sub (ws' := [(c0, .inl (c1, 32768, .inl (fun _ => 0))), (c2, .inr (10, [.ref c0, .int 0, .int 0, .int 0, .int 0, .int 0, .ref c3, .ref c4, .int 0, .ref c5, .int 0, .int 0, .ref c6, .int 0, .ref c7, .ref c8, .ref c9, .int 0, .int 0, .int 0]))]) [0, 1] (by decide) rfl
  have hK9 := hK.sub (tys' := [(c1, .byte)]) [0] rfl
  refine W.widen (k := 0) (n := 0) (by decide +kernel) (by decide +kernel) ?_
  exact W.vret hx hb hr (fun t ht hW => ⟨⟨(), rfl, trivial, by rw [ht]; exact hP9, va_K.moved hW.alike hK9, hD9⟩, hS.F ht⟩) hS.2.2 dX9_startLine_22
def ow_k_X1_readLine : List Cond := .code yX1_readLine cX1_readLine 8 (some (.object "TimeMachine$Op")) :: ([.fieldLink RX1 12 "TimeMachine$Assembler" "reader" "LTimeMachine$Reader;", .methodLink RX1 81 yX9_startLine, .instanceMethod yX9_startLine, .selects RX9 yX9_startLine yX9_startLine, .initialized RX9, .fieldLink RX1 32 "TimeMachine$Assembler" "fault" "I", .fieldLink RX1 85 "TimeMachine$Reader" "kind" "I"] ++ (u_ws RX1 TX1 13 ++ (u_ws RX9 TX9 20 ++ (ow_k_X9_startLine ++ []))))
theorem gd_k_X1_readLine : ∀ w ∈ ow_k_X1_readLine, (w.onTables && w.keeps) = true ∨ ∃ ty, w = Cond.arrayClass ty := List.forall_mem_cons.mpr ⟨good_of_word rfl, List.forall_mem_append.mpr ⟨fun w h => good_of_word (List.all_eq_true.mp (by decide +kernel) w h), List.forall_mem_append.mpr ⟨gu_X1, List.forall_mem_append.mpr ⟨gu_X9, List.forall_mem_append.mpr ⟨gd_k_X9_startLine, fun _ h => nomatch h⟩⟩⟩⟩⟩
theorem hi_k_X1_readLine_X1 : ∀ w ∈ u_ws RX1 TX1 13, w ∈ ow_k_X1_readLine := fun w h => List.mem_cons_of_mem _ (List.mem_append_right _ (List.mem_append_left _ h))
theorem hi_k_X1_readLine_X9 : ∀ w ∈ u_ws RX9 TX9 20, w ∈ ow_k_X1_readLine := fun w h => List.mem_cons_of_mem _ (List.mem_append_right _ (List.mem_append_right _ (List.mem_append_left _ h)))
theorem gi_k_X1_readLine_0 : GoodIn ow_k_X1_readLine (wsV RX1 81 RX9 yX9_startLine ow_k_X9_startLine) := goodIn_app (goodIn_of _ (by decide +kernel)) (fun w h => ⟨List.mem_cons_of_mem _ (List.mem_append_right _ (List.mem_append_right _ (List.mem_append_right _ (List.mem_append_left _ h)))), gd_k_X9_startLine w h⟩)
set_option maxHeartbeats 40000000 in
set_option maxRecDepth 100000 in
theorem k_X1_readLine (l : Launch) (hlt : l.stackTraces = false) (dC : Nat → ClassId) (dI : Nat → Nat → Nat) (c0 : Nat) (c1 : ClassId) (c2 : Nat) (c3 : Nat) (c4 : Nat) (c5 : Nat) (c6 : Nat) (c7 : Nat) (c8 : Nat) (c9 : Nat) (c10 : Nat) (c11 : Nat) (c12 : Nat) (sz : Nat) : Met l yX1_readLine ow_k_X1_readLine ({ frames := 2, cells := 0, slots := 0, locals := 43 }) (va_Pc [.ref c2, .int 0, .int 0] (fun U => U.heap.size = sz ∧ va_P (dC, dI) vwCl [(c0, .inl (c1, 32768, .inl (fun _ => 0))), (c2, .inr (2, [.ref c3, .ref c4, .int 0, .ref c5, .int 0, .int 0, .int 1, .int 0, .int 0, .int 0, .int 0, .int 0, .int 0])), (c3, .inr (10, [.ref c0, .int 0, .int 0, .int 0, .int 0, .int 0, .ref c6, .ref c7, .int 0, .ref c8, .int 0, .int 0, .ref c9, .int 0, .ref c10, .ref c11, .ref c12, .int 0, .int 0, .int 0]))] U.heap ∧ va_K (dC, dI) vwCl [(c1, .byte)] U ∧ va_D (fun _ => True) [(c0, .inl (c1, 32768, .inl (fun _ => 0))), (c2, .inr (2, [.ref c3, .ref c4, .int 0, .ref c5, .int 0, .int 0, .int 1, .int 0, .int 0, .int 0, .int 0, .int 0, .int 0])), (c3, .inr (10, [.ref c0, .int 0, .int 0, .int 0, .int 0, .int 0, .ref c6, .ref c7, .int 0, .ref c8, .int 0, .int 0, .ref c9, .int 0, .ref c10, .ref c11, .ref c12, .int 0, .int 0, .int 0]))] ∧ nv_E (va_A [(c0, .inl (c1, 32768, .inl (fun _ => 0))), (c2, .inr (2, [.ref c3, .ref c4, .int 0, .ref c5, .int 0, .int 0, .int 1, .int 0, .int 0, .int 0, .int 0, .int 0, .int 0])), (c3, .inr (10, [.ref c0, .int 0, .int 0, .int 0, .int 0, .int 0, .ref c6, .ref c7, .int 0, .ref c8, .int 0, .int 0, .ref c9, .int 0, .ref c10, .ref c11, .ref c12, .int 0, .int 0, .int 0]))] sz) U)) (va_Qq (fun r _ => r = none) (fun (_ : Unit) t => va_P (dC, dI) vwCl [(c2, .inr (2, [.ref c3, .ref c4, .int 0, .ref c5, .int 0, .int 0, .int 1, .int 0, .int 0, .int 0, .int 0, .int 0, .int 0])), (c0, .inl (c1, 32768, .inl (fun _ => 0))), (c3, .inr (10, [.ref c0, .int 0, .int 0, .int 0, .int 0, .int 0, .ref c6, .ref c7, .int 0, .ref c8, .int 0, .int 0, .ref c9, .int 0, .ref c10, .ref c11, .ref c12, .int 0, .int 0, .int 0]))] t.heap ∧ va_K (dC, dI) vwCl [(c1, .byte)] t ∧ va_D (va_A [(c0, .inl (c1, 32768, .inl (fun _ => 0))), (c2, .inr (2, [.ref c3, .ref c4, .int 0, .ref c5, .int 0, .int 0, .int 1, .int 0, .int 0, .int 0, .int 0, .int 0, .int 0])), (c3, .inr (10, [.ref c0, .int 0, .int 0, .int 0, .int 0, .int 0, .ref c6, .ref c7, .int 0, .ref c8, .int 0, .int 0, .ref c9, .int 0, .ref c10, .ref c11, .ref c12, .int 0, .int 0, .int 0]))] sz) [(c2, .inr (2, [.ref c3, .ref c4, .int 0, .ref c5, .int 0, .int 0, .int 1, .int 0, .int 0, .int 0, .int 0, .int 0, .int 0])), (c0, .inl (c1, 32768, .inl (fun _ => 0))), (c3, .inr (10, [.ref c0, .int 0, .int 0, .int 0, .int 0, .int 0, .ref c6, .ref c7, .int 0, .ref c8, .int 0, .int 0, .ref c9, .int 0, .ref c10, .ref c11, .ref c12, .int 0, .int 0, .int 0]))]) (va_A [(c0, .inl (c1, 32768, .inl (fun _ => 0))), (c2, .inr (2, [.ref c3, .ref c4, .int 0, .ref c5, .int 0, .int 0, .int 1, .int 0, .int 0, .int 0, .int 0, .int 0, .int 0])), (c3, .inr (10, [.ref c0, .int 0, .int 0, .int 0, .int 0, .int 0, .ref c6, .ref c7, .int 0, .ref c8, .int 0, .int 0, .ref c9, .int 0, .ref c10, .ref c11, .ref c12, .int 0, .int 0, .int 0]))] sz)) 0 0 (va_A [(c0, .inl (c1, 32768, .inl (fun _ => 0))), (c2, .inr (2, [.ref c3, .ref c4, .int 0, .ref c5, .int 0, .int 0, .int 1, .int 0, .int 0, .int 0, .int 0, .int 0, .int 0])), (c3, .inr (10, [.ref c0, .int 0, .int 0, .int 0, .int 0, .int 0, .ref c6, .ref c7, .int 0, .ref c8, .int 0, .int 0, .ref c9, .int 0, .ref c10, .ref c11, .ref c12, .int 0, .int 0, .int 0]))] sz) := by
  refine Met.ofW (cc := cX1_readLine) (maxL := 8) (ret := (some (.object "TimeMachine$Op"))) (by decide) rfl ?_
  intro p e s m args below meth c s₁ B hml hv
  obtain ⟨rfl, hsz, hP, hK, hD0, hN⟩ := hv
  have hx := B.exec
  have hb := B.bytes
  have hr := B.returns
  have hts := atoms_spec (ws := ow_k_X1_readLine) B.pre
  have hown : s.vm.findClass RX1 = some m.cls := findClass_of_methodNamed B.named
  have hlocks := B.notSynchronized
  subst hsz
  have hD := hD0.self (sz := s.heap.size)
  generalize hAe : va_A [(c0, .inl (c1, 32768, .inl (fun _ => 0))), (c2, .inr (2, [.ref c3, .ref c4, .int 0, .ref c5, .int 0, .int 0, .int 1, .int 0, .int 0, .int 0, .int 0, .int 0, .int 0])), (c3, .inr (10, [.ref c0, .int 0, .int 0, .int 0, .int 0, .int 0, .ref c6, .ref c7, .int 0, .ref c8, .int 0, .int 0, .ref c9, .int 0, .ref c10, .ref c11, .ref c12, .int 0, .int 0, .int 0]))] s.heap.size = A at hD hN ⊢
  have hA : ∀ q : Nat, s.heap.size ≤ q → A q := fun q h => by rw [← hAe]; exact Or.inr h
  have hS : va_S A s.heap s.heap [] := va_S.rf
  have hl := lv_entry ([.ref c2, .int 0, .int 0]) (n := 8) (Nat.le_of_ble_eq_true rfl)
  rw [lg_entry_eq]
  generalize (lg_sl ([.ref c2, .int 0, .int 0]) ++ List.replicate (8 - (lg_sl ([.ref c2, .int 0, .int 0])).length) Slot.unset).toArray = ls at hl ⊢
  have hl : lv_has ls 8 [(0, .ref c2), (1, .int 0), (2, .int 0)] := hl
  refine lv_aload_n hx hb dX1_readLine_0 rfl (lv_at hl 0 rfl) ?_
  refine va_get (D := (dC, dI)) (ci := 2) (v := .ref c3) (C := RX1) (T := TX1) (N := 13) hx hb hts hi_k_X1_readLine_X1 hown hK hP 1 rfl rfl 0 (by decide) (hts (.fieldLink RX1 12 "TimeMachine$Assembler" "reader" "LTimeMachine$Reader;") (List.mem_of_getElem? (i := 1) rfl)) (fun _ h9 => h9) rfl dX1_readLine_1 ?_
  refine lv_iload_n hx hb dX1_readLine_4 rfl (lv_at hl 1 rfl) ?_
  refine lv_iload_n hx hb dX1_readLine_5 rfl (lv_at hl 2 rfl) ?_
  have hPc := hP.sub (ws' := [(c0, .inl (c1, 32768, .inl (fun _ => 0))), (c3, .inr (10, [.ref c0, .int 0, .int 0, .int 0, .int 0, .int 0, .ref c6, .ref c7, .int 0, .ref c8, .int 0, .int 0, .ref c9, .int 0, .ref c10, .ref c11, .ref c12, .int 0, .int 0, .int 0]))]) [0, 2] rfl
  have hDc := hD.sub (ws' := [(c0, .inl (c1, 32768, .inl (fun _ => 0))), (c3, .inr (10, [.ref c0, .int 0, .int 0, .int 0, .int 0, .int 0, .ref c6, .ref c7, .int 0, .ref c8, .int 0, .int 0, .ref c9, .int 0, .ref c10, .ref c11, .ref c12, .int 0, .int 0, .int 0]))]) [0, 2] (by decide) rfl
  have hKc := hK.sub (tys' := [(c1, .byte)]) [0] rfl
  have hFc := va_free (wc := [(c0, .inl (c1, 32768, .inl (fun _ => 0))), (c3, .inr (10, [.ref c0, .int 0, .int 0, .int 0, .int 0, .int 0, .ref c6, .ref c7, .int 0, .ref c8, .int 0, .int 0, .ref c9, .int 0, .ref c10, .ref c11, .ref c12, .int 0, .int 0, .int 0]))]) hD hS hA [0, 2] rfl
  refine va_callv (va_runV (As := [.int 0, .int 0]) (rest := []) ⟨hx, hb, hml, hown, hts⟩ (k_X9_startLine l hlt dC dI c0 c1 c3 c6 c7 c8 c9 c10 c11 c12  s.heap.size) (cwV 2 hts gi_k_X1_readLine_0 rfl rfl rfl (by decide +kernel) ⟨Nat.le_of_ble_eq_true rfl, Nat.le_of_ble_eq_true rfl⟩) ⟨fun a U g mk q => by obtain ⟨q0, q1, qP, qK, qD, qN⟩ := q; exact ⟨q0, q1, qP, va_K.moved (u := U) (U := U.calling g mk a) (Vm.Alike.refl U.vm) qK, qD, nv_same rfl rfl qN⟩, va_recv hKc hPc (ci := 10) (q0 := 1) rfl rfl, fun U hU hW => ⟨rfl, by rw [hU], by rw [hU]; exact hPc, va_K.moved hW.alike hKc, hDc.weaken (fun _ _ _ _ => trivial), nv_call hS hFc hU hW hN⟩⟩ rfl rfl hl.1 rfl (lv_room (Nat.le_of_ble_eq_true rfl)) dX1_readLine_6 ⟨by decide +kernel, by decide +kernel⟩) hS (fun q _ h => hFc q h) hFc (fun u t H1 locs ht hvm hw hB hz1 hk1 hS => ?_)
  obtain ⟨hP1, hK1, hD1⟩ := hB
  rw [ht] at hP1
  have hK1 := va_K.moved hvm.symm hK1
  obtain ⟨hP, hD⟩ := va_join (wr := [(c2, .inr (2, [.ref c3, .ref c4, .int 0, .ref c5, .int 0, .int 0, .int 1, .int 0, .int 0, .int 0, .int 0, .int 0, .int 0]))]) (w1 := [(c0, .inl (c1, 32768, .inl (fun _ => 0))), (c3, .inr (10, [.ref c0, .int 0, .int 0, .int 0, .int 0, .int 0, .ref c6, .ref c7, .int 0, .ref c8, .int 0, .int 0, .ref c9, .int 0, .ref c10, .ref c11, .ref c12, .int 0, .int 0, .int 0]))]) hP hD [0, 2] [1] rfl rfl (by decide) (by decide) hk1 hFc hP1 hD1
  have hK := (hK.sub (tys' := []) [] rfl).app hK1
  generalize H1 = H at hP hS ⊢
  have hP : va_P (dC, dI) vwCl [(c2, .inr (2, [.ref c3, .ref c4, .int 0, .ref c5, .int 0, .int 0, .int 1, .int 0, .int 0, .int 0, .int 0, .int 0, .int 0])), (c0, .inl (c1, 32768, .inl (fun _ => 0))), (c3, .inr (10, [.ref c0, .int 0, .int 0, .int 0, .int 0, .int 0, .ref c6, .ref c7, .int 0, .ref c8, .int 0, .int 0, .ref c9, .int 0, .ref c10, .ref c11, .ref c12, .int 0, .int 0, .int 0]))] H := hP
  have hD : va_D A [(c2, .inr (2, [.ref c3, .ref c4, .int 0, .ref c5, .int 0, .int 0, .int 1, .int 0, .int 0, .int 0, .int 0, .int 0, .int 0])), (c0, .inl (c1, 32768, .inl (fun _ => 0))), (c3, .inr (10, [.ref c0, .int 0, .int 0, .int 0, .int 0, .int 0, .ref c6, .ref c7, .int 0, .ref c8, .int 0, .int 0, .ref c9, .int 0, .ref c10, .ref c11, .ref c12, .int 0, .int 0, .int 0]))] := hD
  have hK : va_K (dC, dI) vwCl [(c1, .byte)] s := hK
  refine W.widen (k := 0) (n := 0) (by decide +kernel) (by decide +kernel) ?_
  refine lv_iload_n hx hb dX1_readLine_9 rfl (lv_at hl 2 rfl) ?_
  refine lv_iload_n hx hb dX1_readLine_10 rfl (lv_at hl 1 rfl) ?_
  refine lv_isub hx hb dX1_readLine_11 ?_
  refine lv_topi (fun z2 ez2 => ?_)
  obtain rfl : z2 = 0 := ez2.trans (by decide)
  refine lv_istore_n (lv' := [(3, .int 0), (0, .ref c2), (1, .int 0), (2, .int 0)]) hx hb dX1_readLine_12 rfl hl (by decide) rfl (fun ls hl => ?_)
  refine lv_iload_n hx hb dX1_readLine_13 rfl (lv_at hl 0 rfl) ?_
  refine lv_if_lt (tgt := 160) hx hb dX1_readLine_14 (by decide) (fun h9 => absurd h9 (by decide)) (fun _ => ?_)
  refine lv_aload_n hx hb dX1_readLine_17 rfl (lv_at hl 1 rfl) ?_
  refine va_get (D := (dC, dI)) (ci := 2) (v := .int 0) (C := RX1) (T := TX1) (N := 13) hx hb hts hi_k_X1_readLine_X1 hown hK hP 0 rfl rfl 5 (by decide) (hts (.fieldLink RX1 32 "TimeMachine$Assembler" "fault" "I") (List.mem_of_getElem? (i := 6) rfl)) (fun _ h9 => h9) rfl dX1_readLine_18 ?_
  refine lv_if_ne (tgt := 160) hx hb dX1_readLine_21 (by decide) (fun h9 => absurd h9 (by decide)) (fun _ => ?_)
  refine lv_aload_n hx hb dX1_readLine_24 rfl (lv_at hl 1 rfl) ?_
  refine va_get (D := (dC, dI)) (ci := 2) (v := .ref c3) (C := RX1) (T := TX1) (N := 13) hx hb hts hi_k_X1_readLine_X1 hown hK hP 0 rfl rfl 0 (by decide) (hts (.fieldLink RX1 12 "TimeMachine$Assembler" "reader" "LTimeMachine$Reader;") (List.mem_of_getElem? (i := 1) rfl)) (fun _ h9 => h9) rfl dX1_readLine_25 ?_
  refine va_get (D := (dC, dI)) (ci := 10) (v := .int 0) (C := RX9) (T := TX9) (N := 20) hx hb hts hi_k_X1_readLine_X9 hown hK hP 2 rfl rfl 3 (by decide) (hts (.fieldLink RX1 85 "TimeMachine$Reader" "kind" "I") (List.mem_of_getElem? (i := 7) rfl)) (fun _ h9 => h9) rfl dX1_readLine_28 ?_
  refine lv_if_eq (tgt := 160) hx hb dX1_readLine_31 (by decide) (fun _ => ?_) (fun h9 => absurd (by decide) h9)
  refine lv_null hx hb dX1_readLine_160 ?_
  have hP9 := hP.sub (ws' := [(c2, .inr (2, [.ref c3, .ref c4, .int 0, .ref c5, .int 0, .int 0, .int 1, .int 0, .int 0, .int 0, .int 0, .int 0, .int 0])), (c0, .inl (c1, 32768, .inl (fun _ => 0))), (c3, .inr (10, [.ref c0, .int 0, .int 0, .int 0, .int 0, .int 0, .ref c6, .ref c7, .int 0, .ref c8, .int 0, .int 0, .ref c9, .int 0, .ref c10, .ref c11, .ref c12, .int 0, .int 0, .int 0]))]) [0, 1, 2] rfl
  have hD9 := hD.sub (ws' := [(c2, .inr (2, [.ref c3, .ref c4, .int 0, .ref c5, .int 0, .int 0, .int 1, .int 0, .int 0, .int 0, .int 0, .int 0, .int 0])), (c0, .inl (c1, 32768, .inl (fun _ => 0))), (c3, .inr (10, [.ref c0, .int 0, .int 0, .int 0, .int 0, .int 0, .ref c6, .ref c7, .int 0, .ref c8, .int 0, .int 0, .ref c9, .int 0, .ref c10, .ref c11, .ref c12, .int 0, .int 0, .int 0]))]) [0, 1, 2] (by decide) rfl
  have hK9 := hK.sub (tys' := [(c1, .byte)]) [0] rfl
  refine W.widen (k := 0) (n := 0) (by decide +kernel) (by decide +kernel) ?_
  exact W.aret (v := .null) hx hb hr (by first | exact Or.inl ⟨_, rfl⟩ | exact Or.inr ⟨_, rfl⟩) (by first | exact Or.inl rfl | exact Or.inr ⟨_, rfl⟩) (fun t ht hW => ⟨⟨none, (), rfl, rfl, by rw [ht]; exact hP9, va_K.moved hW.alike hK9, hD9⟩, hS.F ht⟩) hS.2.2 dX1_readLine_161
def ow_k_X1_moveData : List Cond := .code yX1_moveData cX1_moveData 2 none :: ([.fieldLink RX1 65 "TimeMachine$Assembler" "statements" "I", .fieldLink RX1 12 "TimeMachine$Assembler" "reader" "LTimeMachine$Reader;", .fieldLink RX1 274 "TimeMachine$Reader" "labels" "I"] ++ (u_ws RX1 TX1 13 ++ (u_ws RX9 TX9 20 ++ [])))
theorem gd_k_X1_moveData : ∀ w ∈ ow_k_X1_moveData, (w.onTables && w.keeps) = true ∨ ∃ ty, w = Cond.arrayClass ty := List.forall_mem_cons.mpr ⟨good_of_word rfl, List.forall_mem_append.mpr ⟨fun w h => good_of_word (List.all_eq_true.mp (by decide +kernel) w h), List.forall_mem_append.mpr ⟨gu_X1, List.forall_mem_append.mpr ⟨gu_X9, fun _ h => nomatch h⟩⟩⟩⟩
theorem hi_k_X1_moveData_X1 : ∀ w ∈ u_ws RX1 TX1 13, w ∈ ow_k_X1_moveData := fun w h => List.mem_cons_of_mem _ (List.mem_append_right _ (List.mem_append_left _ h))
theorem hi_k_X1_moveData_X9 : ∀ w ∈ u_ws RX9 TX9 20, w ∈ ow_k_X1_moveData := fun w h => List.mem_cons_of_mem _ (List.mem_append_right _ (List.mem_append_right _ (List.mem_append_left _ h)))
set_option maxHeartbeats 40000000 in
set_option maxRecDepth 100000 in
theorem k_X1_moveData (l : Launch) (hlt : l.stackTraces = false) (dC : Nat → ClassId) (dI : Nat → Nat → Nat) (c0 : Nat) (c1 : Nat) (c2 : Nat) (c3 : Nat) (c4 : Nat) (c5 : Nat) (c6 : Nat) (c7 : Nat) (c8 : Nat) (c9 : Nat) (c10 : Nat) (c11 : Nat) (sz : Nat) : Met l yX1_moveData ow_k_X1_moveData ({ frames := 0, cells := 0, slots := 0, locals := 0 }) (va_Pc [.ref c0] (fun U => U.heap.size = sz ∧ va_P (dC, dI) vwCl [(c0, .inr (2, [.ref c1, .ref c2, .int 0, .ref c3, .int 0, .int 0, .int 1, .int 0, .int 0, .int 0, .int 0, .int 0, .int 0])), (c1, .inr (10, [.ref c4, .int 0, .int 0, .int 0, .int 0, .int 0, .ref c5, .ref c6, .int 0, .ref c7, .int 0, .int 0, .ref c8, .int 0, .ref c9, .ref c10, .ref c11, .int 0, .int 0, .int 0]))] U.heap ∧ va_K (dC, dI) vwCl [] U ∧ va_D (fun _ => True) [(c0, .inr (2, [.ref c1, .ref c2, .int 0, .ref c3, .int 0, .int 0, .int 1, .int 0, .int 0, .int 0, .int 0, .int 0, .int 0])), (c1, .inr (10, [.ref c4, .int 0, .int 0, .int 0, .int 0, .int 0, .ref c5, .ref c6, .int 0, .ref c7, .int 0, .int 0, .ref c8, .int 0, .ref c9, .ref c10, .ref c11, .int 0, .int 0, .int 0]))] ∧ nv_E (va_A [(c0, .inr (2, [.ref c1, .ref c2, .int 0, .ref c3, .int 0, .int 0, .int 1, .int 0, .int 0, .int 0, .int 0, .int 0, .int 0])), (c1, .inr (10, [.ref c4, .int 0, .int 0, .int 0, .int 0, .int 0, .ref c5, .ref c6, .int 0, .ref c7, .int 0, .int 0, .ref c8, .int 0, .ref c9, .ref c10, .ref c11, .int 0, .int 0, .int 0]))] sz) U)) (va_Qv (fun _ => True) (fun (_ : Unit) t => va_P (dC, dI) vwCl [(c0, .inr (2, [.ref c1, .ref c2, .int 0, .ref c3, .int 0, .int 0, .int 1, .int 0, .int 0, .int 0, .int 0, .int 0, .int 0])), (c1, .inr (10, [.ref c4, .int 0, .int 0, .int 0, .int 0, .int 0, .ref c5, .ref c6, .int 0, .ref c7, .int 0, .int 0, .ref c8, .int 0, .ref c9, .ref c10, .ref c11, .int 0, .int 0, .int 0]))] t.heap ∧ va_K (dC, dI) vwCl [] t ∧ va_D (va_A [(c0, .inr (2, [.ref c1, .ref c2, .int 0, .ref c3, .int 0, .int 0, .int 1, .int 0, .int 0, .int 0, .int 0, .int 0, .int 0])), (c1, .inr (10, [.ref c4, .int 0, .int 0, .int 0, .int 0, .int 0, .ref c5, .ref c6, .int 0, .ref c7, .int 0, .int 0, .ref c8, .int 0, .ref c9, .ref c10, .ref c11, .int 0, .int 0, .int 0]))] sz) [(c0, .inr (2, [.ref c1, .ref c2, .int 0, .ref c3, .int 0, .int 0, .int 1, .int 0, .int 0, .int 0, .int 0, .int 0, .int 0])), (c1, .inr (10, [.ref c4, .int 0, .int 0, .int 0, .int 0, .int 0, .ref c5, .ref c6, .int 0, .ref c7, .int 0, .int 0, .ref c8, .int 0, .ref c9, .ref c10, .ref c11, .int 0, .int 0, .int 0]))]) (va_A [(c0, .inr (2, [.ref c1, .ref c2, .int 0, .ref c3, .int 0, .int 0, .int 1, .int 0, .int 0, .int 0, .int 0, .int 0, .int 0])), (c1, .inr (10, [.ref c4, .int 0, .int 0, .int 0, .int 0, .int 0, .ref c5, .ref c6, .int 0, .ref c7, .int 0, .int 0, .ref c8, .int 0, .ref c9, .ref c10, .ref c11, .int 0, .int 0, .int 0]))] sz)) 0 0 (va_A [(c0, .inr (2, [.ref c1, .ref c2, .int 0, .ref c3, .int 0, .int 0, .int 1, .int 0, .int 0, .int 0, .int 0, .int 0, .int 0])), (c1, .inr (10, [.ref c4, .int 0, .int 0, .int 0, .int 0, .int 0, .ref c5, .ref c6, .int 0, .ref c7, .int 0, .int 0, .ref c8, .int 0, .ref c9, .ref c10, .ref c11, .int 0, .int 0, .int 0]))] sz) := by
  refine Met.ofW (cc := cX1_moveData) (maxL := 2) (ret := none) (by decide) rfl ?_
  intro p e s m args below meth c s₁ B hml hv
  obtain ⟨rfl, hsz, hP, hK, hD0, hN⟩ := hv
  have hx := B.exec
  have hb := B.bytes
  have hr := B.returns
  have hts := atoms_spec (ws := ow_k_X1_moveData) B.pre
  have hown : s.vm.findClass RX1 = some m.cls := findClass_of_methodNamed B.named
  have hlocks := B.notSynchronized
  subst hsz
  have hD := hD0.self (sz := s.heap.size)
  generalize hAe : va_A [(c0, .inr (2, [.ref c1, .ref c2, .int 0, .ref c3, .int 0, .int 0, .int 1, .int 0, .int 0, .int 0, .int 0, .int 0, .int 0])), (c1, .inr (10, [.ref c4, .int 0, .int 0, .int 0, .int 0, .int 0, .ref c5, .ref c6, .int 0, .ref c7, .int 0, .int 0, .ref c8, .int 0, .ref c9, .ref c10, .ref c11, .int 0, .int 0, .int 0]))] s.heap.size = A at hD hN ⊢
  have hA : ∀ q : Nat, s.heap.size ≤ q → A q := fun q h => by rw [← hAe]; exact Or.inr h
  have hS : va_S A s.heap s.heap [] := va_S.rf
  have hl := lv_entry ([.ref c0]) (n := 2) (Nat.le_of_ble_eq_true rfl)
  rw [lg_entry_eq]
  generalize (lg_sl ([.ref c0]) ++ List.replicate (2 - (lg_sl ([.ref c0])).length) Slot.unset).toArray = ls at hl ⊢
  have hl : lv_has ls 2 [(0, .ref c0)] := hl
  refine lv_iconst (v := 0) hx hb dX1_moveData_0 (by decide) ?_
  refine lv_istore_n (lv' := [(1, .int 0), (0, .ref c0)]) hx hb dX1_moveData_1 rfl hl (by decide) rfl (fun ls hl => ?_)
  refine lv_iload_n hx hb dX1_moveData_2 rfl (lv_at hl 0 rfl) ?_
  refine lv_aload_n hx hb dX1_moveData_3 rfl (lv_at hl 1 rfl) ?_
  refine va_get (D := (dC, dI)) (ci := 2) (v := .int 0) (C := RX1) (T := TX1) (N := 13) hx hb hts hi_k_X1_moveData_X1 hown hK hP 0 rfl rfl 2 (by decide) (hts (.fieldLink RX1 65 "TimeMachine$Assembler" "statements" "I") (List.mem_of_getElem? (i := 1) rfl)) (fun _ h9 => h9) rfl dX1_moveData_4 ?_
  refine lv_icmp_ge (tgt := 49) hx hb dX1_moveData_7 (by decide) (fun _ => ?_) (fun h9 => absurd (by decide) h9)
  refine lv_iconst (v := 0) hx hb dX1_moveData_49 (by decide) ?_
  refine lv_istore_n (lv' := [(1, .int 0), (0, .ref c0)]) hx hb dX1_moveData_50 rfl hl (by decide) rfl (fun ls hl => ?_)
  refine lv_iload_n hx hb dX1_moveData_51 rfl (lv_at hl 0 rfl) ?_
  refine lv_aload_n hx hb dX1_moveData_52 rfl (lv_at hl 1 rfl) ?_
  refine va_get (D := (dC, dI)) (ci := 2) (v := .ref c1) (C := RX1) (T := TX1) (N := 13) hx hb hts hi_k_X1_moveData_X1 hown hK hP 0 rfl rfl 0 (by decide) (hts (.fieldLink RX1 12 "TimeMachine$Assembler" "reader" "LTimeMachine$Reader;") (List.mem_of_getElem? (i := 2) rfl)) (fun _ h9 => h9) rfl dX1_moveData_53 ?_
  refine va_get (D := (dC, dI)) (ci := 10) (v := .int 0) (C := RX9) (T := TX9) (N := 20) hx hb hts hi_k_X1_moveData_X9 hown hK hP 1 rfl rfl 17 (by decide) (hts (.fieldLink RX1 274 "TimeMachine$Reader" "labels" "I") (List.mem_of_getElem? (i := 3) rfl)) (fun _ h9 => h9) rfl dX1_moveData_56 ?_
  refine lv_icmp_ge (tgt := 105) hx hb dX1_moveData_59 (by decide) (fun _ => ?_) (fun h9 => absurd (by decide) h9)
  have hP9 := hP.sub (ws' := [(c0, .inr (2, [.ref c1, .ref c2, .int 0, .ref c3, .int 0, .int 0, .int 1, .int 0, .int 0, .int 0, .int 0, .int 0, .int 0])), (c1, .inr (10, [.ref c4, .int 0, .int 0, .int 0, .int 0, .int 0, .ref c5, .ref c6, .int 0, .ref c7, .int 0, .int 0, .ref c8, .int 0, .ref c9, .ref c10, .ref c11, .int 0, .int 0, .int 0]))]) [0, 1] rfl
  have hD9 := hD.sub (ws' := [(c0, .inr (2, [.ref c1, .ref c2, .int 0, .ref c3, .int 0, .int 0, .int 1, .int 0, .int 0, .int 0, .int 0, .int 0, .int 0])), (c1, .inr (10, [.ref c4, .int 0, .int 0, .int 0, .int 0, .int 0, .ref c5, .ref c6, .int 0, .ref c7, .int 0, .int 0, .ref c8, .int 0, .ref c9, .ref c10, .ref c11, .int 0, .int 0, .int 0]))]) [0, 1] (by decide) rfl
  have hK9 := hK.sub (tys' := []) [] rfl
  refine W.widen (k := 0) (n := 0) (by decide +kernel) (by decide +kernel) ?_
  exact W.vret hx hb hr (fun t ht hW => ⟨⟨(), rfl, trivial, by rw [ht]; exact hP9, va_K.moved hW.alike hK9, hD9⟩, hS.F ht⟩) hS.2.2 dX1_moveData_105
def ow_k_X1_findAddresses : List Cond := .code yX1_findAddresses cX1_findAddresses 7 none :: ([.fieldLink RX1 65 "TimeMachine$Assembler" "statements" "I", .fieldLink RX1 12 "TimeMachine$Assembler" "reader" "LTimeMachine$Reader;", .fieldLink RX1 274 "TimeMachine$Reader" "labels" "I", .fieldLink RX1 284 "TimeMachine$Assembler" "textSize" "I", .fieldLink RX1 287 "TimeMachine$Assembler" "dataStart" "I", .fieldLink RX1 50 "TimeMachine$Assembler" "size" "I", .methodLink RX1 290 yX1_moveData, .instanceMethod yX1_moveData, .selects RX1 yX1_moveData yX1_moveData, .initialized RX1] ++ (u_ws RX1 TX1 13 ++ (u_ws RX9 TX9 20 ++ (ow_k_X1_moveData ++ []))))
theorem gd_k_X1_findAddresses : ∀ w ∈ ow_k_X1_findAddresses, (w.onTables && w.keeps) = true ∨ ∃ ty, w = Cond.arrayClass ty := List.forall_mem_cons.mpr ⟨good_of_word rfl, List.forall_mem_append.mpr ⟨fun w h => good_of_word (List.all_eq_true.mp (by decide +kernel) w h), List.forall_mem_append.mpr ⟨gu_X1, List.forall_mem_append.mpr ⟨gu_X9, List.forall_mem_append.mpr ⟨gd_k_X1_moveData, fun _ h => nomatch h⟩⟩⟩⟩⟩
theorem hi_k_X1_findAddresses_X1 : ∀ w ∈ u_ws RX1 TX1 13, w ∈ ow_k_X1_findAddresses := fun w h => List.mem_cons_of_mem _ (List.mem_append_right _ (List.mem_append_left _ h))
theorem hi_k_X1_findAddresses_X9 : ∀ w ∈ u_ws RX9 TX9 20, w ∈ ow_k_X1_findAddresses := fun w h => List.mem_cons_of_mem _ (List.mem_append_right _ (List.mem_append_right _ (List.mem_append_left _ h)))
theorem gi_k_X1_findAddresses_0 : GoodIn ow_k_X1_findAddresses (wsV RX1 290 RX1 yX1_moveData ow_k_X1_moveData) := goodIn_app (goodIn_of _ (by decide +kernel)) (fun w h => ⟨List.mem_cons_of_mem _ (List.mem_append_right _ (List.mem_append_right _ (List.mem_append_right _ (List.mem_append_left _ h)))), gd_k_X1_moveData w h⟩)
