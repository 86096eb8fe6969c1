theorem nc_34 {n : Nat} {v0 : Int32} {σ : St} (hc : sI σ 0 = 0) (h1 : 16 < v0.toInt) (h2 : v0.toInt ≤ 34) : df_J5_newCapacity_0f7a4 n 16 v0 σ = some (34, σ) := by
  have key : ∀ k : Fin 18, ∀ c : Int32, c = 0 → (nd_let (Int32.ofNat 16) (fun (z1 : Int32) => nd_let (((nI (17 + k.1) : Int32) <<< ((c : Int32) &&& 31))) (fun (z2 : Int32) => nd_let ((z2 - z1)) (fun (z3 : Int32) => nd_b2 (df_J8_newLength_cabcc 0 (z1) (z3) ((z1 + ((2 : Int32) <<< ((c : Int32) &&& 31)))) ()) (fun (q4 : Int32) (_ : Unit) => if q4 = 2147483647 then (none) else (some ((((q4 : Int32) >>> ((c : Int32) &&& 31)) : Int32))))))) : Option Int32) = some 34 := by
    intro k c e
    subst e
    revert k
    decide +kernel
  obtain ⟨k, hk⟩ : ∃ k : Fin 18, v0 = nI (17 + k.1) := ⟨⟨(v0.toInt - 17).toNat, by omega⟩, by
    apply Int32.toInt_inj.mp
    rw [nI_toInt (by show 17 + (v0.toInt - 17).toNat < 2147483648; omega)]
    show v0.toInt = ((17 + (v0.toInt - 17).toNat : Nat) : Int)
    omega⟩
  have h3 := key k (sI σ 0) hc
  rw [← hk] at h3
  unfold df_J5_newCapacity_0f7a4 df_J5_newCapacity_0f7a4_0
  simp only [nd_let] at h3 ⊢
  have e4 : ∀ (f : Int32) (g : Int32) (h : Int32), df_J8_newLength_cabcc n f g h () = df_J8_newLength_cabcc 0 f g h () := fun _ _ _ => rfl
  rw [e4]
  obtain ⟨q, w, h5, h6⟩ := nd_b2_e h3
  rw [h5]
  show (if q = 2147483647 then none else some (_, σ)) = some (34, σ)
  split at h6
  · exact nomatch h6
  · rename_i hq
    rw [if_neg hq, Option.some.inj h6]
def ow_dm_J7_copyOf_9075b : List Cond := Cond.code yJ7_copyOf_9075b cJ7_copyOf_9075b 3 (some (.array .byte)) :: ([Cond.methodLink RJ7 304 Lib.Math.min.name, Cond.static Lib.Math.min.name, Cond.initialized "java/lang/Math", Cond.code Lib.Math.min.name Lib.Math.min.code 2 (some .int), Cond.methodLink RJ7 150 arraycopyName, .native arraycopyName, Cond.static arraycopyName, Cond.initialized "java/lang/System"] ++ [Cond.arrayClass .byte])
theorem gd_dm_J7_copyOf_9075b : ∀ w ∈ ow_dm_J7_copyOf_9075b, (w.onTables && w.keeps) = true ∨ ∃ ty, w = Cond.arrayClass ty := List.forall_mem_cons.mpr ⟨good_of_word rfl, List.forall_mem_append.mpr ⟨fun w h => good_of_word (List.all_eq_true.mp (by decide +kernel) w h), fun w h => Or.inr ⟨.byte, List.mem_singleton.mp h⟩⟩⟩
def dw_cp (b : Nat) (cB : ClassId) (f : Nat → Int32) : va_W := [(b, .inl (cB, 16, .inl f))]
def dw_cq (b : Nat) (cB : ClassId) (f : Nat → Int32) (na : Nat) : va_W := [(b, .inl (cB, 16, .inl f)), (na, .inl (cB, 34, .inl (va_cpy f (fun _ => 0) 0 0 16)))]
set_option maxHeartbeats 40000000 in
set_option maxRecDepth 100000 in
theorem dm_J7_copyOf_9075b (l : Launch) (hlt : l.stackTraces = false) (dC : Nat → ClassId) (dI : Nat → Nat → Nat) (b : Nat) (cB : ClassId) (f : Nat → Int32) (hf : ∀ i, i < 16 → fits .byte (.int (f (0 + i))) = true) (sz : Nat) : Met l yJ7_copyOf_9075b ow_dm_J7_copyOf_9075b ({ frames := 1, cells := 1, slots := 34, locals := 60 }) (va_Pc [.ref b, .int 34] (fun U => U.heap.size = sz ∧ va_P (dC, dI) vwCl (dw_cp b cB f) U.heap ∧ va_K (dC, dI) vwCl [(cB, .byte)] U ∧ va_D (fun _ => True) (dw_cp b cB f) ∧ nv_E dI (va_A (dw_cp b cB f) sz) U)) (va_Qr (fun (_ : Unit) => True) (fun _ na t => va_P (dC, dI) vwCl (dw_cq b cB f na) t.heap ∧ va_K (dC, dI) vwCl [(cB, .byte)] t ∧ va_D (va_A (dw_cp b cB f) sz) (dw_cq b cB f na)) (va_A (dw_cp b cB f) sz)) 1 34 (va_A (dw_cp b cB f) sz) := by
  refine Met.ofW (cc := cJ7_copyOf_9075b) (maxL := 3) (ret := (some (.array .byte))) (by decide) rfl ?_
  intro p e s m args below meth c s₁ B hml hv
  obtain ⟨rfl, hsz, hP, hK, hD0, hN⟩ := hv
  have hx := B.exec
  have hb := B.bytes
  have hr := B.returns
  have hts := atoms_spec (ws := ow_dm_J7_copyOf_9075b) B.pre
  have hown : s.vm.findClass RJ7 = some m.cls := findClass_of_methodNamed B.named
  have hlocks := B.notSynchronized
  subst hsz
  have hD := hD0.self (sz := s.heap.size)
  generalize hAe : va_A (dw_cp b cB f) s.heap.size = A at hD hN ⊢
  have hA : ∀ q : Nat, s.heap.size ≤ q → A q := fun q h => by rw [← hAe]; exact Or.inr h
  have hS : va_S A s.heap s.heap [] := va_S.rf
  have hl := lv_entry ([.ref b, .int 34]) (n := 3) (Nat.le_of_ble_eq_true rfl)
  rw [lg_entry_eq]
  generalize (lg_sl ([.ref b, .int 34]) ++ List.replicate (3 - (lg_sl ([.ref b, .int 34])).length) Slot.unset).toArray = ls at hl ⊢
  have hl : lv_has ls 3 [(0, .ref b), (1, .int 34)] := hl
  refine lv_iload_n hx hb dJ7_copyOf_9075b_0 rfl (lv_at hl 1 rfl) ?_
  refine lv_aload_n hx hb dJ7_copyOf_9075b_1 rfl (lv_at hl 0 rfl) ?_
  refine va_alen (v := 16) hx hb hK hP 0 0 rfl rfl (show Int32.ofNat 16 = 16 by decide) dJ7_copyOf_9075b_2 ?_
  refine lv_icmp_ne (tgt := 14) hx hb dJ7_copyOf_9075b_3 (by decide) (fun _ => ?_) (fun c9 => absurd c9 (by decide))
  refine lv_iload_n hx hb dJ7_copyOf_9075b_14 rfl (lv_at hl 1 rfl) ?_
  refine va_newa (atype := .byte) (ty := .byte) (N' := 34) (a0 := (34, .inl (fun _ => 0))) hx hb (hts (.arrayClass .byte) (List.mem_of_getElem? (i := 9) rfl)) rfl hK hP hD hS hA (fun cA => vp_cell_i cA 34 (fun _ => 0)) (by decide) rfl (by decide) (Nat.le_of_ble_eq_true rfl) (Nat.le_of_ble_eq_true rfl) dJ7_copyOf_9075b_15 (fun na cA H hK2 hP hD hS => ?_)
  obtain rfl : cA = cB := Option.some.inj ((hK2.2 1 (cA, .byte) rfl).2.symm.trans (hK2.2 0 (cB, .byte) rfl).2)
  refine lv_astore_n (lv' := [(2, .ref na), (0, .ref b), (1, .int 34)]) hx hb dJ7_copyOf_9075b_17 rfl hl (by decide) rfl (fun ls hl => ?_)
  refine lv_aload_n hx hb dJ7_copyOf_9075b_18 rfl (lv_at hl 1 rfl) ?_
  refine lv_iconst (v := 0) hx hb dJ7_copyOf_9075b_19 (by decide) ?_
  refine lv_aload_n hx hb dJ7_copyOf_9075b_20 rfl (lv_at hl 0 rfl) ?_
  refine lv_iconst (v := 0) hx hb dJ7_copyOf_9075b_21 (by decide) ?_
  refine lv_aload_n hx hb dJ7_copyOf_9075b_22 rfl (lv_at hl 1 rfl) ?_
  refine va_alen (v := 16) hx hb hK2 hP 0 0 rfl rfl (show Int32.ofNat 16 = 16 by decide) dJ7_copyOf_9075b_23 ?_
  refine lv_iload_n hx hb dJ7_copyOf_9075b_24 rfl (lv_at hl 2 rfl) ?_
  refine va_mmin hx hb (by rw [hml]; exact hl.1.symm) hown (hts (.methodLink RJ7 304 Lib.Math.min.name) (List.mem_of_getElem? (i := 1) rfl)) (hts (.static Lib.Math.min.name) (List.mem_of_getElem? (i := 2) rfl)) (hts (.initialized "java/lang/Math") (List.mem_of_getElem? (i := 3) rfl)) (hts (.code Lib.Math.min.name Lib.Math.min.code 2 (some .int)) (List.mem_of_getElem? (i := 4) rfl)) (Nat.le_of_ble_eq_true rfl) (Nat.le_of_ble_eq_true rfl) (by decide +kernel) (by decide +kernel) dJ7_copyOf_9075b_25 ?_
  refine lv_topi (fun z ez => ?_)
  obtain rfl : z = 16 := ez.trans (by decide)
  refine va_copyi (sp := 0) (dp := 0) (n := 16) hx hb (by rw [hml]; exact hl.1.symm) hown (hts (.methodLink RJ7 150 arraycopyName) (List.mem_of_getElem? (i := 5) rfl)) (hts (.native arraycopyName) (List.mem_of_getElem? (i := 6) rfl)) (hts (.static arraycopyName) (List.mem_of_getElem? (i := 7) rfl)) (hts (.initialized "java/lang/System") (List.mem_of_getElem? (i := 8) rfl)) hK2 hP hD hS 0 1 0 1 rfl rfl rfl rfl rfl (by decide) (by decide) (by decide) (by decide) (by decide) hf (Nat.le_of_ble_eq_true rfl) (by decide +kernel) dJ7_copyOf_9075b_28 (fun H locs hP hD hS => ?_)
  refine lv_aload_n hx hb dJ7_copyOf_9075b_31 rfl (lv_at hl 0 rfl) ?_
  exact W.aret (v := .ref na) hx hb hr (by first | exact Or.inl ⟨_, rfl⟩ | exact Or.inr ⟨_, rfl⟩) (va_rf_or (some na)) (fun t ht hW => ⟨⟨(), na, rfl, trivial, by rw [ht]; exact hP, va_K.moved hW.alike hK, hD⟩, hS.F ht⟩) hS.2.2 dJ7_copyOf_9075b_32
def ow_dm_J5_ensureCapacityInternal_d00df : List Cond := Cond.code yJ5_ensureCapacityInternal_d00df cJ5_ensureCapacityInternal_d00df 3 none :: ([Cond.fieldLink RJ5 15 "java/lang/AbstractStringBuilder" "value" "[B", Cond.fieldLink RJ5 22 "java/lang/AbstractStringBuilder" "coder" "B", Cond.methodLink RJ5 104 ⟨"java/lang/AbstractStringBuilder", "newCapacity", "(I)I"⟩, .sameMethod "java/lang/AbstractStringBuilder" "java/lang/AbstractStringBuilder" "newCapacity" "(I)I", Cond.selects RJ4 ⟨"java/lang/AbstractStringBuilder", "newCapacity", "(I)I"⟩ yJ5_newCapacity_0f7a4, Cond.instanceMethod yJ5_newCapacity_0f7a4, Cond.initialized RJ5, Cond.methodLink RJ5 108 yJ7_copyOf_9075b, Cond.static yJ7_copyOf_9075b, Cond.initialized RJ7] ++ (u_ws RJ4 TJ4 4 ++ (ow_dm_J5_newCapacity_0f7a4 ++ (ow_dm_J7_copyOf_9075b ++ []))))
theorem gd_dm_J5_ensureCapacityInternal_d00df : ∀ w ∈ ow_dm_J5_ensureCapacityInternal_d00df, (w.onTables && w.keeps) = true ∨ ∃ ty, w = Cond.arrayClass ty := List.forall_mem_cons.mpr ⟨good_of_word rfl, List.forall_mem_append.mpr ⟨fun w h => good_of_word (List.all_eq_true.mp (by decide +kernel) w h), List.forall_mem_append.mpr ⟨gu_J4, List.forall_mem_append.mpr ⟨gd_dm_J5_newCapacity_0f7a4, List.forall_mem_append.mpr ⟨gd_dm_J7_copyOf_9075b, fun _ h => nomatch h⟩⟩⟩⟩⟩
theorem hi_dm_J5_ensureCapacityInternal_d00df_J4 : ∀ w ∈ u_ws RJ4 TJ4 4, w ∈ ow_dm_J5_ensureCapacityInternal_d00df := fun w h => List.mem_cons_of_mem _ (List.mem_append_right _ (List.mem_append_left _ h))
theorem gi_dm_J5_ensureCapacityInternal_d00df_0 : GoodIn ow_dm_J5_ensureCapacityInternal_d00df (va_wsU RJ5 104 RJ4 "java/lang/AbstractStringBuilder" ⟨"java/lang/AbstractStringBuilder", "newCapacity", "(I)I"⟩ yJ5_newCapacity_0f7a4 ow_dm_J5_newCapacity_0f7a4) := goodIn_app (goodIn_of _ (by decide +kernel)) (fun w h => ⟨List.mem_cons_of_mem _ (List.mem_append_right _ (List.mem_append_right _ (List.mem_append_left _ h))), gd_dm_J5_newCapacity_0f7a4 w h⟩)
theorem gi_dm_J5_ensureCapacityInternal_d00df_1 : GoodIn ow_dm_J5_ensureCapacityInternal_d00df (va_wsS RJ5 108 yJ7_copyOf_9075b ow_dm_J7_copyOf_9075b) := goodIn_app (goodIn_of _ (by decide +kernel)) (fun w h => ⟨List.mem_cons_of_mem _ (List.mem_append_right _ (List.mem_append_right _ (List.mem_append_right _ (List.mem_append_left _ h)))), gd_dm_J7_copyOf_9075b w h⟩)
set_option maxHeartbeats 40000000 in
set_option maxRecDepth 100000 in
theorem dm_J5_ensureCapacityInternal_d00df (l : Launch) (hlt : l.stackTraces = false) (dC : Nat → ClassId) (dI : Nat → Nat → Nat) (a : Nat → Nat) (ac : Nat → ClassId) (v0 : Nat) (n : Nat) (x : Int32) (s0 : Sb) {r : Sb} (h : df_J5_ensureCapacityInternal_d00df n x s0 = some r) {dd : Nat} (hd : r.2.1 = s0.2.1 + dd) (sz : Nat) : Met l yJ5_ensureCapacityInternal_d00df ow_dm_J5_ensureCapacityInternal_d00df ({ frames := 4, cells := dd, slots := 34 * dd, locals := 120 }) (va_Pc [.ref (a 0), .int x] (fun U => U.heap.size = sz ∧ va_P (dC, dI) vwCl (dw_SB a ac v0 s0) U.heap ∧ va_K (dC, dI) vwCl (dk_J4 ac) U ∧ va_D (fun _ => True) (dw_SB a ac v0 s0) ∧ nv_H dI (va_A (dw_SB a ac v0 s0) sz) U)) (va_Qv (fun (_ : Nat) => True) (fun (v : Nat) t => va_P (dC, dI) vwCl (dw_SB a ac v r) t.heap ∧ va_K (dC, dI) vwCl (dk_J4 ac) t ∧ va_D (va_A (dw_SB a ac v0 s0) sz) (dw_SB a ac v r)) (va_A (dw_SB a ac v0 s0) sz)) dd (34 * dd) (va_A (dw_SB a ac v0 s0) sz) := by
  refine Met.ofW (cc := cJ5_ensureCapacityInternal_d00df) (maxL := 3) (ret := none) (by decide) rfl ?_
  intro p e s m args below meth c s₁ B hml hv
  obtain ⟨rfl, hsz, hP, hK, hD0, hE⟩ := hv
  have hx := B.exec
  have hb := B.bytes
  have hr := B.returns
  have hts := atoms_spec (ws := ow_dm_J5_ensureCapacityInternal_d00df) B.pre
  have hown : s.vm.findClass RJ5 = some m.cls := findClass_of_methodNamed B.named
  have hlocks := B.notSynchronized
  subst hsz
  have hD := hD0.self (sz := s.heap.size)
  generalize hAe : va_A (dw_SB a ac v0 s0) s.heap.size = A at hD hE ⊢
  have hA : ∀ q : Nat, s.heap.size ≤ q → A q := fun q h => by rw [← hAe]; exact Or.inr h
  clear hAe
  have hN := hE.1
  have hS : va_S A s.heap s.heap [] := va_S.rf
  have hl := lv_entry ([.ref (a 0), .int x]) (n := 3) (Nat.le_of_ble_eq_true rfl)
  rw [lg_entry_eq]
  generalize (lg_sl ([.ref (a 0), .int x]) ++ List.replicate (3 - (lg_sl ([.ref (a 0), .int x])).length) Slot.unset).toArray = ls at hl ⊢
  have hl : lv_has ls 3 [(0, .ref (a 0)), (1, .int x)] := hl
  unfold df_J5_ensureCapacityInternal_d00df at h
  by_cases hc : sI s0.2.2 0 = 0
  · have h := nd_pos h hc
    refine lv_aload_n hx hb dJ5_ensureCapacityInternal_d00df_0 rfl (lv_at hl 0 rfl) ?_
    refine va_get (D := (dC, dI)) (ci := 1) (v := .ref v0) (C := RJ4) (T := TJ4) (N := 4) hx hb hts hi_dm_J5_ensureCapacityInternal_d00df_J4 hown hK hP 0 rfl rfl 0 (by decide) (hts (.fieldLink RJ5 15 "java/lang/AbstractStringBuilder" "value" "[B") (List.mem_of_getElem? (i := 1) rfl)) (fun _ h9 => h9) rfl dJ5_ensureCapacityInternal_d00df_1 ?_
    refine va_alen (v := Int32.ofNat s0.1) hx hb hK hP 1 0 rfl rfl rfl dJ5_ensureCapacityInternal_d00df_4 ?_
    refine lv_aload_n hx hb dJ5_ensureCapacityInternal_d00df_5 rfl (lv_at hl 0 rfl) ?_
    refine va_get (D := (dC, dI)) (ci := 1) (v := .int 0) (C := RJ4) (T := TJ4) (N := 4) hx hb hts hi_dm_J5_ensureCapacityInternal_d00df_J4 hown hK hP 0 rfl rfl 1 (by decide) (hts (.fieldLink RJ5 22 "java/lang/AbstractStringBuilder" "coder" "B") (List.mem_of_getElem? (i := 2) rfl)) (fun _ h9 => h9) (congrArg (fun z => some (Value.int z)) hc) dJ5_ensureCapacityInternal_d00df_6 ?_
    refine lv_ishr hx hb dJ5_ensureCapacityInternal_d00df_9 ?_
    refine lv_topi (fun z ez => ?_)
    obtain rfl : z = Int32.ofNat s0.1 := ez.trans (sb_shr0 _)
    refine lv_istore_n (lv' := [(2, .int (Int32.ofNat s0.1)), (0, .ref (a 0)), (1, .int x)]) hx hb dJ5_ensureCapacityInternal_d00df_10 rfl hl (by decide) rfl (fun ls hl => ?_)
    refine lv_iload_n hx hb dJ5_ensureCapacityInternal_d00df_11 rfl (lv_at hl 2 rfl) ?_
    refine lv_iload_n hx hb dJ5_ensureCapacityInternal_d00df_12 rfl (lv_at hl 0 rfl) ?_
    refine lv_isub hx hb dJ5_ensureCapacityInternal_d00df_13 ?_
    refine lv_if_le (tgt := 38) hx hb dJ5_ensureCapacityInternal_d00df_14 (by decide) (fun c1 => ?_) (fun c1 => ?_)
    · have h := nd_pos h c1
      obtain rfl : s0 = r := Option.some.inj h
      refine W.widen (k := dd) (n := 34 * dd) (Nat.zero_le _) (Nat.zero_le _) ?_
      exact W.vret hx hb hr (fun t ht hW => ⟨⟨v0, rfl, trivial, by rw [ht]; exact hP, va_K.moved hW.alike hK, hD⟩, hS.F ht⟩) hS.2.2 dJ5_ensureCapacityInternal_d00df_38
    · have h := nd_neg h c1
      by_cases hg : s0.1 = 16 ∧ s0.2.1 = 0 ∧ 16 < x.toInt ∧ x.toInt ≤ 34
      · have h := nd_pos h hg
        obtain ⟨hf, h⟩ := nd_fa_e h
        obtain rfl := (Option.some.inj h).symm
        obtain ⟨m0, w0, σ⟩ := s0
        obtain ⟨g1, g2, g3, g4⟩ := hg
        have g1 : m0 = 16 := g1
        have g2 : w0 = 0 := g2
        subst g1
        subst g2
        have hd1 : dd = 1 := by have hd : 1 = 0 + dd := hd; omega
        subst hd1
        refine lv_aload_n hx hb dJ5_ensureCapacityInternal_d00df_17 rfl (lv_at hl 1 rfl) ?_
        refine lv_aload_n hx hb dJ5_ensureCapacityInternal_d00df_18 rfl (lv_at hl 1 rfl) ?_
        refine va_get (D := (dC, dI)) (ci := 1) (v := .ref v0) (C := RJ4) (T := TJ4) (N := 4) hx hb hts hi_dm_J5_ensureCapacityInternal_d00df_J4 hown hK hP 0 rfl rfl 0 (by decide) (hts (.fieldLink RJ5 15 "java/lang/AbstractStringBuilder" "value" "[B") (List.mem_of_getElem? (i := 1) rfl)) (fun _ h9 => h9) rfl dJ5_ensureCapacityInternal_d00df_19 ?_
        refine lv_aload_n hx hb dJ5_ensureCapacityInternal_d00df_22 rfl (lv_at hl 1 rfl) ?_
        refine lv_iload_n hx hb dJ5_ensureCapacityInternal_d00df_23 rfl (lv_at hl 2 rfl) ?_
        have hq : df_J5_newCapacity_0f7a4 n 16 x σ = some (34, σ) := nc_34 hc g3 g4
        have hPc : va_P (dC, dI) vwCl (dw_J4 (nd_bv (a 0) v0 16) ac σ) s.heap := hP
        have hDc : va_D A (dw_J4 (nd_bv (a 0) v0 16) ac σ) := hD
        have hFc := nd_rs hD hS hA
        refine nd_gUi (E := nv_E dI) (As := [.int x]) (rest := [.ref v0, .ref (a 0)]) (q := 34) (w' := (fun (_ : Unit) => dw_J4 (nd_bv (a 0) v0 16) ac σ)) nv_same nv_call ⟨hx, hb, hml, hown, hts⟩ (fun sz => dm_J5_newCapacity_0f7a4 l hlt dC dI (nd_bv (a 0) v0 16) ac n x σ hq sz) (va_cwU 1 hts gi_dm_J5_ensureCapacityInternal_d00df_0 rfl rfl rfl rfl (by decide +kernel) ⟨Nat.le_of_ble_eq_true rfl, Nat.le_of_ble_eq_true rfl⟩) hPc hDc hK hS hA hN (va_recv hK hPc (ci := 1) (q0 := 0) rfl rfl) rfl hl.1 rfl (Nat.le_of_ble_eq_true rfl) dJ5_ensureCapacityInternal_d00df_24 ⟨Nat.zero_le _, Nat.zero_le _⟩ (fun _ H locs hP1 hD1 hk1 hS => ?_)
        have hP : va_P (dC, dI) vwCl (dw_SB a ac v0 (16, (0, σ))) H := hP1
        have hD : va_D A (dw_SB a ac v0 (16, (0, σ))) := hD1.weaken (fun k q _ h => hFc q.1 h)
        refine lv_aload_n hx hb dJ5_ensureCapacityInternal_d00df_27 rfl (lv_at hl 1 rfl) ?_
        refine va_get (D := (dC, dI)) (ci := 1) (v := .int 0) (C := RJ4) (T := TJ4) (N := 4) hx hb hts hi_dm_J5_ensureCapacityInternal_d00df_J4 hown hK hP 0 rfl rfl 1 (by decide) (hts (.fieldLink RJ5 22 "java/lang/AbstractStringBuilder" "coder" "B") (List.mem_of_getElem? (i := 2) rfl)) (fun _ h9 => h9) (congrArg (fun z => some (Value.int z)) hc) dJ5_ensureCapacityInternal_d00df_28 ?_
        refine lv_ishl hx hb dJ5_ensureCapacityInternal_d00df_31 ?_
        refine lv_topi (fun z ez => ?_)
        obtain rfl : z = 34 := ez.trans (by decide)
        have hPd : va_P (dC, dI) vwCl (dw_cp v0 (ac 1) (sR σ 0)) H := hP.sub [1] rfl
        have hDd : va_D A (dw_cp v0 (ac 1) (sR σ 0)) := hD.sub [1] (by decide) rfl
        have hzA : ∀ q : Nat, H.size ≤ q → A q := fun q h => hA q (Nat.le_trans hS.1 h)
        refine nd_hSr (E := nv_E dI) (As := [.ref v0, .int 34]) (rest := [.ref (a 0)]) (w' := dw_cq v0 (ac 1) (sR σ 0)) nv_same nv_call ⟨hx, hb, hml, hown, hts⟩ (fun sz => dm_J7_copyOf_9075b l hlt dC dI v0 (ac 1) (sR σ 0) hf sz) (va_cwS 2 hts gi_dm_J5_ensureCapacityInternal_d00df_1 rfl rfl rfl (by decide +kernel) ⟨Nat.le_of_ble_eq_true rfl, Nat.le_of_ble_eq_true rfl⟩) hPd hDd hK hS hA hN rfl hl.1 rfl (Nat.le_of_ble_eq_true rfl) dJ5_ensureCapacityInternal_d00df_32 ⟨Nat.le_of_ble_eq_true rfl, Nat.le_of_ble_eq_true rfl⟩ (fun na H1 locs hP1 hD1 hk1 hS => ?_)
        obtain ⟨hP, hD⟩ := va_join (wr := [(a 0, .inr (1, [.ref v0, .int (sI σ 0), .int (sI σ 1), .int (sI σ 2)]))]) hP hD [1] [0] rfl rfl (by decide) (by decide) hk1 (nd_rq hDd hzA) hP1 hD1
        refine va_put (D := (dC, dI)) (ci := 1) (v := .ref na) (ty := .array .byte) (C := RJ4) (T := TJ4) (N := 4) hx hb hts hi_dm_J5_ensureCapacityInternal_d00df_J4 tyJ4 tyJ4_ok nmJ4 hown hK hP hD hS 0 rfl rfl 0 (by decide) (hts (.fieldLink RJ5 15 "java/lang/AbstractStringBuilder" "value" "[B") (List.mem_of_getElem? (i := 1) rfl)) (fun _ h9 => h9) rfl (by decide +kernel) rfl rfl (Nat.le_of_ble_eq_true rfl) dJ5_ensureCapacityInternal_d00df_35 (fun H locs hP hD hS => ?_)
        have hP2 : va_P (dC, dI) vwCl (dw_SB a ac na (34, (1, pR σ 0 (va_cpy (sR σ 0) (fun _ => 0) 0 0 16)))) H := hP.sub [0, 2] rfl
        have hD2 : va_D A (dw_SB a ac na (34, (1, pR σ 0 (va_cpy (sR σ 0) (fun _ => 0) 0 0 16)))) := hD.sub [0, 2] (by decide) rfl
        exact W.vret hx hb hr (fun t ht hW => ⟨⟨na, rfl, trivial, by rw [ht]; exact hP2, va_K.moved hW.alike hK, hD2⟩, hS.F ht⟩) hS.2.2 dJ5_ensureCapacityInternal_d00df_38
      · exact nomatch (show (none : Option Sb) = some r from nd_neg h hg)
  · exact nomatch (show (none : Option Sb) = some r from nd_neg h hc)

def ow_dm_J5_append_cf1ce : List Cond := Cond.code yJ5_append_cf1ce cJ5_append_cf1ce 3 (some (.object "java/lang/AbstractStringBuilder")) :: ([Cond.methodLink RJ5 32 yJ0_length_8abf5, Cond.instanceMethod yJ0_length_8abf5, Cond.selects RJ0 yJ0_length_8abf5 yJ0_length_8abf5, Cond.initialized RJ0, Cond.fieldLink RJ5 79 "java/lang/AbstractStringBuilder" "count" "I", Cond.methodLink RJ5 100 ⟨"java/lang/AbstractStringBuilder", "ensureCapacityInternal", "(I)V"⟩, .sameMethod "java/lang/AbstractStringBuilder" "java/lang/AbstractStringBuilder" "ensureCapacityInternal" "(I)V", Cond.selects RJ4 ⟨"java/lang/AbstractStringBuilder", "ensureCapacityInternal", "(I)V"⟩ yJ5_ensureCapacityInternal_d00df, Cond.instanceMethod yJ5_ensureCapacityInternal_d00df, Cond.initialized RJ5, Cond.methodLink RJ5 208 ⟨"java/lang/AbstractStringBuilder", "putStringAt", "(ILjava/lang/String;)V"⟩, .sameMethod "java/lang/AbstractStringBuilder" "java/lang/AbstractStringBuilder" "putStringAt" "(ILjava/lang/String;)V", Cond.selects RJ4 ⟨"java/lang/AbstractStringBuilder", "putStringAt", "(ILjava/lang/String;)V"⟩ yJ5_putStringAt_47b60, Cond.instanceMethod yJ5_putStringAt_47b60] ++ (u_ws RJ4 TJ4 4 ++ (ow_dm_J0_length_8abf5 ++ (ow_dm_J5_ensureCapacityInternal_d00df ++ (ow_dm_J5_putStringAt_47b60 ++ [])))))
theorem gd_dm_J5_append_cf1ce : ∀ w ∈ ow_dm_J5_append_cf1ce, (w.onTables && w.keeps) = true ∨ ∃ ty, w = Cond.arrayClass ty := List.forall_mem_cons.mpr ⟨good_of_word rfl, List.forall_mem_append.mpr ⟨fun w h => good_of_word (List.all_eq_true.mp (by decide +kernel) w h), List.forall_mem_append.mpr ⟨gu_J4, List.forall_mem_append.mpr ⟨gd_dm_J0_length_8abf5, List.forall_mem_append.mpr ⟨gd_dm_J5_ensureCapacityInternal_d00df, List.forall_mem_append.mpr ⟨gd_dm_J5_putStringAt_47b60, fun _ h => nomatch h⟩⟩⟩⟩⟩⟩
theorem hi_dm_J5_append_cf1ce_J4 : ∀ w ∈ u_ws RJ4 TJ4 4, w ∈ ow_dm_J5_append_cf1ce := fun w h => List.mem_cons_of_mem _ (List.mem_append_right _ (List.mem_append_left _ h))
theorem gi_dm_J5_append_cf1ce_0 : GoodIn ow_dm_J5_append_cf1ce (wsV RJ5 32 RJ0 yJ0_length_8abf5 ow_dm_J0_length_8abf5) := goodIn_app (goodIn_of _ (by decide +kernel)) (fun w h => ⟨List.mem_cons_of_mem _ (List.mem_append_right _ (List.mem_append_right _ (List.mem_append_left _ h))), gd_dm_J0_length_8abf5 w h⟩)
theorem gi_dm_J5_append_cf1ce_1 : GoodIn ow_dm_J5_append_cf1ce (va_wsU RJ5 100 RJ4 "java/lang/AbstractStringBuilder" ⟨"java/lang/AbstractStringBuilder", "ensureCapacityInternal", "(I)V"⟩ yJ5_ensureCapacityInternal_d00df ow_dm_J5_ensureCapacityInternal_d00df) := goodIn_app (goodIn_of _ (by decide +kernel)) (fun w h => ⟨List.mem_cons_of_mem _ (List.mem_append_right _ (List.mem_append_right _ (List.mem_append_right _ (List.mem_append_left _ h)))), gd_dm_J5_ensureCapacityInternal_d00df w h⟩)
theorem gi_dm_J5_append_cf1ce_2 : GoodIn ow_dm_J5_append_cf1ce (va_wsU RJ5 208 RJ4 "java/lang/AbstractStringBuilder" ⟨"java/lang/AbstractStringBuilder", "putStringAt", "(ILjava/lang/String;)V"⟩ yJ5_putStringAt_47b60 ow_dm_J5_putStringAt_47b60) := goodIn_app (goodIn_of _ (by decide +kernel)) (fun w h => ⟨List.mem_cons_of_mem _ (List.mem_append_right _ (List.mem_append_right _ (List.mem_append_right _ (List.mem_append_right _ (List.mem_append_left _ h))))), gd_dm_J5_putStringAt_47b60 w h⟩)
def dj_J5_append_cf1ce_0 (p : Program) (l : Launch) (e : Env) (s : State) (m : MethodId) (args : Array Value) (below : List Frame) (meth : Method) (c : Code) (Q : State → Prop) (A : Nat → Prop) (dC : Nat → ClassId) (dI : Nat → Nat → Nat) (a : Nat → Nat) (ac : Nat → ClassId) (u0 dd : Nat) (g : Nat → (Sb) → Option (Sb)) (r : Sb) : Prop := ∀ (v0 : Nat) (s0 : Sb) (vv0 kk0 : Nat) (H : Heap) (locs : List Loc) (ls : Array Slot), s0.2.1 = u0 + kk0 → s0.2.1 ≤ r.2.1 → g v0 s0 = some r → va_P (dC, dI) vwCl (dw_SB a ac vv0 s0) H → va_D A (dw_SB a ac vv0 s0) → va_S A s.heap H locs → lv_has ls 3 [(0, .ref (a 0)), (1, .ref (dI 1000 v0))] → W p l e (headSpec ow_dm_J5_append_cf1ce ({ frames := 5, cells := dd, slots := 34 * dd, locals := 142 })).room s m args below meth c H locs kk0 (34 * kk0) Q (F0 m 0 ls [])
set_option maxHeartbeats 40000000 in
set_option maxRecDepth 100000 in
theorem db_J5_append_cf1ce_0 {p : Program} {l : Launch} {e : Env} {s : State} {m : MethodId} {args : Array Value} {below : List Frame} {meth : Method} {c : Code} {Q : State → Prop} {A : Nat → Prop} {dC : Nat → ClassId} {dI : Nat → Nat → Nat} {a : Nat → Nat} {ac : Nat → ClassId} {u0 dd : Nat} {n : Nat} {r : Sb} (C : nd_CH p l s m args c A (dC, dI) cJ5_append_cf1ce 3 RJ5 ow_dm_J5_append_cf1ce (dk_J4 ac)) (HR : r.2.1 ≤ u0 + dd) (K : nd_Sr p l e (headSpec ow_dm_J5_append_cf1ce ({ frames := 5, cells := dd, slots := 34 * dd, locals := 142 })).room s m args below meth c Q A (dC, dI) cJ5_append_cf1ce (dw_SB a ac) u0 r) : dj_J5_append_cf1ce_0 p l e s m args below meth c Q A dC dI a ac u0 dd (df_J5_append_cf1ce_0 n) r := by
  obtain ⟨hlt, hx, hb, hml, hown, hts, hE, hA, hK⟩ := id C
  have hN := hE.1
  intro v0 s0 vv0 kk0 H locs ls hk hm h hP hD hS hl
  unfold df_J5_append_cf1ce_0 at h
  refine lv_aload_n hx hb dJ5_append_cf1ce_0 rfl (lv_at hl 1 rfl) ?_
  refine lv_ifnonnull (tgt := 9) hx hb dJ5_append_cf1ce_1 (by decide) ?_
  refine lv_aload_n hx hb dJ5_append_cf1ce_9 rfl (lv_at hl 1 rfl) ?_
  obtain ⟨i3, h⟩ := nd_lt_e h
  obtain ⟨q2, s1, hq, h⟩ := nd_b2_e h
  have hPc : va_P (dC, dI) vwCl (dw_P a ac ()) H := nd_p0
  have hDc : va_D A (dw_P a ac ()) := nd_d0
  have hKc : va_K (dC, dI) vwCl (dk_P ac) s := nd_y0 hK
  refine nd_gVi (E := nv_E dI) (As := []) (rest := []) (q := q2) (w' := (fun (_ : Unit) => dw_P a ac s1)) nv_same nv_call ⟨hx, hb, hml, hown, hts⟩ (fun sz => dm_J0_length_8abf5 l hlt dC dI a ac n (v0) () hq sz) (cwV 0 hts gi_dm_J5_append_cf1ce_0 rfl rfl rfl (by decide +kernel) ⟨Nat.le_of_ble_eq_true rfl, Nat.le_of_ble_eq_true rfl⟩) hPc hDc hKc hS hA hN (nv_rcv hN.2.2.2.2.2.2.2.2.2.2.2 i3 hS) rfl hl.1 rfl (Nat.le_of_ble_eq_true rfl) dJ5_append_cf1ce_10 (nd_uP hk hm HR) (fun _ H locs hP1 hD1 hk1 hS => ?_)
  have hP := nd_n0 hP hk1
  refine lv_istore_n (lv' := [(2, .int q2), (0, .ref (a 0)), (1, .ref (dI 1000 v0))]) hx hb dJ5_append_cf1ce_13 rfl hl (by decide) rfl (fun ls hl => ?_)
  refine lv_aload_n hx hb dJ5_append_cf1ce_14 rfl (lv_at hl 1 rfl) ?_
  refine lv_aload_n hx hb dJ5_append_cf1ce_15 rfl (lv_at hl 1 rfl) ?_
  refine va_get (D := (dC, dI)) (ci := 1) (v := .int (sI s0.2.2 2)) (C := RJ4) (T := TJ4) (N := 4) hx hb hts hi_dm_J5_append_cf1ce_J4 hown hK hP 0 rfl rfl 3 (by decide) (hts (.fieldLink RJ5 79 "java/lang/AbstractStringBuilder" "count" "I") (List.mem_of_getElem? (i := 5) rfl)) (fun _ h9 => h9) rfl dJ5_append_cf1ce_16 ?_
  refine lv_iload_n hx hb dJ5_append_cf1ce_19 rfl (lv_at hl 0 rfl) ?_
  refine lv_iadd hx hb dJ5_append_cf1ce_20 ?_
  obtain ⟨s4, hq, h⟩ := nd_b1_e h
  have hPc := hP
  have hDc := hD
  have hKc := hK
  have hFc := nd_rs hD hS hA
  obtain ⟨ds4, es4, ls4⟩ := um_J5_ensureCapacityInternal_d00df hq
  have ms4 : s4.2.1 ≤ r.2.1 := uM_le (by repeat (with_reducible (first | refine uM_ite ?_ ?_ | refine uM_let (α := Sb) ?_ | refine uM_lg (fun _ => ?_) | exact uM_none | exact uM_some rfl | refine uM_c uc_J5_ensureCapacityInternal_d00df (fun _ => ?_) | refine uM_b1 (fun _ => ?_) | refine uM_b2 (fun _ _ => ?_) | refine uM_ck ?_ | refine uM_lt ?_))) h
  refine nd_gUv (E := nv_H dI) (As := [.int ((sI s0.2.2 2) + q2)]) (rest := []) (w' := (fun (v : Nat) => dw_SB a ac v s4)) nv_Hs nv_Hc ⟨hx, hb, hml, hown, hts⟩ (fun sz => dm_J5_ensureCapacityInternal_d00df l hlt dC dI a ac vv0 n (((sI s0.2.2 2) + q2)) s0 hq es4 sz) (va_cwU 1 hts gi_dm_J5_append_cf1ce_1 rfl rfl rfl rfl (by decide +kernel) ⟨Nat.le_of_ble_eq_true rfl, Nat.le_of_ble_eq_true rfl⟩) hPc hDc hKc hS hA hE (va_recv hKc hPc (ci := 1) (q0 := 0) rfl rfl) rfl hl.1 rfl (Nat.le_of_ble_eq_true rfl) dJ5_append_cf1ce_21 (nd_uX hk es4 ms4 HR) (fun vs4 H locs hP1 hD1 hk1 hS => ?_)
  refine nd_w34 ?_
  have hP := hP1
  have hD := hD1.weaken (fun k q _ h => hFc q.1 h)
  generalize eks4 : kk0 + ds4 = ks4
  have hk := nd_uN hk es4 eks4
  have hm := ms4
  refine lv_aload_n hx hb dJ5_append_cf1ce_24 rfl (lv_at hl 1 rfl) ?_
  refine lv_aload_n hx hb dJ5_append_cf1ce_25 rfl (lv_at hl 1 rfl) ?_
  refine va_get (D := (dC, dI)) (ci := 1) (v := .int (sI s4.2.2 2)) (C := RJ4) (T := TJ4) (N := 4) hx hb hts hi_dm_J5_append_cf1ce_J4 hown hK hP 0 rfl rfl 3 (by decide) (hts (.fieldLink RJ5 79 "java/lang/AbstractStringBuilder" "count" "I") (List.mem_of_getElem? (i := 5) rfl)) (fun _ h9 => h9) rfl dJ5_append_cf1ce_26 ?_
  refine lv_aload_n hx hb dJ5_append_cf1ce_29 rfl (lv_at hl 2 rfl) ?_
  obtain ⟨s6, hq, h⟩ := nd_b1_e h
  have hPc : va_P (dC, dI) vwCl (dw_J4 (nd_bv (a 0) vs4 s4.1) ac s4.2.2) H := hP
  have hDc : va_D A (dw_J4 (nd_bv (a 0) vs4 s4.1) ac s4.2.2) := hD
  have hKc := hK
  have hFc := nd_rs hD hS hA
  refine nd_gUv (E := nv_E dI) (As := [.int (sI s4.2.2 2), .ref (dI 1000 v0)]) (rest := []) (w' := (fun (_ : Unit) => dw_J4 (nd_bv (a 0) vs4 s4.1) ac s6)) nv_same nv_call ⟨hx, hb, hml, hown, hts⟩ (fun sz => dm_J5_putStringAt_47b60 l hlt dC dI (nd_bv (a 0) vs4 s4.1) ac n ((sI s4.2.2 2)) (v0) s4.2.2 hq sz) (va_cwU 2 hts gi_dm_J5_append_cf1ce_2 rfl rfl rfl rfl (by decide +kernel) ⟨Nat.le_of_ble_eq_true rfl, Nat.le_of_ble_eq_true rfl⟩) hPc hDc hKc hS hA hN (va_recv hKc hPc (ci := 1) (q0 := 0) rfl rfl) rfl hl.1 rfl (Nat.le_of_ble_eq_true rfl) dJ5_append_cf1ce_30 (nd_uP hk hm HR) (fun _ H locs hP1 hD1 hk1 hS => ?_)
  have hP : va_P (dC, dI) vwCl (dw_SB a ac vs4 (s4.1, (s4.2.1, s6))) H := hP1
  have hD : va_D A (dw_SB a ac vs4 (s4.1, (s4.2.1, s6))) := hD1.weaken (fun k q _ h => hFc q.1 h)
  obtain ⟨s8, es8, h⟩ := nd_let_e h
  have hP : va_P (dC, dI) vwCl (dw_SB a ac vs4 s8) H := by rw [es8]; exact hP
  have hD : va_D A (dw_SB a ac vs4 s8) := by rw [es8]; exact hD
  have hk : s8.2.1 = u0 + ks4 := by rw [es8]; exact hk
  have hm : s8.2.1 ≤ r.2.1 := by rw [es8]; exact hm
  refine lv_aload_n hx hb dJ5_append_cf1ce_33 rfl (lv_at hl 1 rfl) ?_
  refine lv_dup hx hb dJ5_append_cf1ce_34 rfl ?_
  refine va_get (D := (dC, dI)) (ci := 1) (v := .int (sI s8.2.2 2)) (C := RJ4) (T := TJ4) (N := 4) hx hb hts hi_dm_J5_append_cf1ce_J4 hown hK hP 0 rfl rfl 3 (by decide) (hts (.fieldLink RJ5 79 "java/lang/AbstractStringBuilder" "count" "I") (List.mem_of_getElem? (i := 5) rfl)) (fun _ h9 => h9) rfl dJ5_append_cf1ce_35 ?_
  refine lv_iload_n hx hb dJ5_append_cf1ce_38 rfl (lv_at hl 0 rfl) ?_
  refine lv_iadd hx hb dJ5_append_cf1ce_39 ?_
  refine va_put (D := (dC, dI)) (ci := 1) (v := .int ((sI s8.2.2 2) + q2)) (ty := .int) (C := RJ4) (T := TJ4) (N := 4) hx hb hts hi_dm_J5_append_cf1ce_J4 tyJ4 tyJ4_ok nmJ4 hown hK hP hD hS 0 rfl rfl 3 (by decide) (hts (.fieldLink RJ5 79 "java/lang/AbstractStringBuilder" "count" "I") (List.mem_of_getElem? (i := 5) rfl)) (fun _ h9 => h9) rfl (by decide +kernel) rfl rfl (Nat.le_of_ble_eq_true rfl) dJ5_append_cf1ce_40 (fun H locs hP hD hS => ?_)
  obtain ⟨s9, es9, h⟩ := nd_let_e h
  have hP : va_P (dC, dI) vwCl (dw_SB a ac vs4 s9) H := by rw [es9]; exact hP
  have hD : va_D A (dw_SB a ac vs4 s9) := by rw [es9]; exact hD
  have hk : s9.2.1 = u0 + ks4 := by rw [es9]; exact hk
  have hm : s9.2.1 ≤ r.2.1 := by rw [es9]; exact hm
  refine lv_aload_n hx hb dJ5_append_cf1ce_43 rfl (lv_at hl 1 rfl) ?_
  exact K _ _ _ _ _ _ _ _ dJ5_append_cf1ce_44 hk (Option.some.inj h).symm hP hD hS
set_option maxHeartbeats 40000000 in
set_option maxRecDepth 100000 in
theorem dm_J5_append_cf1ce (l : Launch) (hlt : l.stackTraces = false) (dC : Nat → ClassId) (dI : Nat → Nat → Nat) (a : Nat → Nat) (ac : Nat → ClassId) (vv0 : Nat) (n : Nat) (v0 : Nat) (s0 : Sb) {r : Sb} (h : df_J5_append_cf1ce n v0 s0 = some r) {dd : Nat} (hd : r.2.1 = s0.2.1 + dd) (sz : Nat) : Met l yJ5_append_cf1ce ow_dm_J5_append_cf1ce ({ frames := 5, cells := dd, slots := 34 * dd, locals := 142 }) (va_Pc [.ref (a 0), .ref (dI 1000 v0)] (fun U => U.heap.size = sz ∧ va_P (dC, dI) vwCl (dw_SB a ac vv0 s0) U.heap ∧ va_K (dC, dI) vwCl (dk_J4 ac) U ∧ va_D (fun _ => True) (dw_SB a ac vv0 s0) ∧ nv_H dI (va_A (dw_SB a ac vv0 s0) sz) U)) (va_Qr (fun (_ : Nat) => True) (fun (v : Nat) _ t => va_P (dC, dI) vwCl (dw_SB a ac v r) t.heap ∧ va_K (dC, dI) vwCl (dk_J4 ac) t ∧ va_D (va_A (dw_SB a ac vv0 s0) sz) (dw_SB a ac v r)) (va_A (dw_SB a ac vv0 s0) sz)) dd (34 * dd) (va_A (dw_SB a ac vv0 s0) sz) := by
  refine Met.ofW (cc := cJ5_append_cf1ce) (maxL := 3) (ret := (some (.object "java/lang/AbstractStringBuilder"))) (by decide) rfl ?_
  intro p e s m args below meth c s₁ B hml hv
  obtain ⟨rfl, hsz, hP, hK, hD0, hE⟩ := hv
  have hx := B.exec
  have hb := B.bytes
  have hr := B.returns
  have hts := atoms_spec (ws := ow_dm_J5_append_cf1ce) B.pre
  have hown : s.vm.findClass RJ5 = some m.cls := findClass_of_methodNamed B.named
  have hlocks := B.notSynchronized
  subst hsz
  have hD := hD0.self (sz := s.heap.size)
  generalize hAe : va_A (dw_SB a ac vv0 s0) s.heap.size = A at hD hE ⊢
  have hA : ∀ q : Nat, s.heap.size ≤ q → A q := fun q h => by rw [← hAe]; exact Or.inr h
  have hl := lv_entry ([.ref (a 0), .ref (dI 1000 v0)]) (n := 3) (Nat.le_of_ble_eq_true rfl)
  rw [lg_entry_eq]
  generalize (lg_sl ([.ref (a 0), .ref (dI 1000 v0)]) ++ List.replicate (3 - (lg_sl ([.ref (a 0), .ref (dI 1000 v0)])).length) Slot.unset).toArray = ls at hl ⊢
  have hl : lv_has ls 3 [(0, .ref (a 0)), (1, .ref (dI 1000 v0))] := hl
  exact db_J5_append_cf1ce_0 (dC := dC) (dI := dI) (a := a) (ac := ac) (u0 := s0.2.1) (n := n) (r := r) ⟨hlt, hx, hb, hml, hown, hts, hE, hA, hK⟩ (Nat.le_of_eq hd) (fun pc x τ v k H locs ls d hk er hP hD hS => by subst er; obtain ⟨z1, z2⟩ : k ≤ dd ∧ 34 * k ≤ 34 * dd := nd_uK hk hd; refine W.widen (k := dd) (n := 34 * dd) z1 z2 ?_; exact W.aret (v := .ref x) hx hb hr (by first | exact Or.inl ⟨_, rfl⟩ | exact Or.inr ⟨_, rfl⟩) (va_rf_or (some x)) (fun t ht hW => ⟨⟨v, x, rfl, trivial, by rw [ht]; exact hP, va_K.moved hW.alike hK, hD⟩, hS.F ht⟩) hS.2.2 d) v0 s0 vv0 0 _ _ _ rfl (hd ▸ Nat.le_add_right _ _) h hP hD va_S.rf (lv_sub hl [0, 1] rfl)
def ow_dm_J5_append_3fe6f : List Cond := Cond.code yJ5_append_3fe6f cJ5_append_3fe6f 2 (some (.object "java/lang/AbstractStringBuilder")) :: ([Cond.fieldLink RJ5 79 "java/lang/AbstractStringBuilder" "count" "I", Cond.methodLink RJ5 100 ⟨"java/lang/AbstractStringBuilder", "ensureCapacityInternal", "(I)V"⟩, .sameMethod "java/lang/AbstractStringBuilder" "java/lang/AbstractStringBuilder" "ensureCapacityInternal" "(I)V", Cond.selects RJ4 ⟨"java/lang/AbstractStringBuilder", "ensureCapacityInternal", "(I)V"⟩ yJ5_ensureCapacityInternal_d00df, Cond.instanceMethod yJ5_ensureCapacityInternal_d00df, Cond.initialized RJ5, Cond.methodLink RJ5 83 ⟨"java/lang/AbstractStringBuilder", "isLatin1", "()Z"⟩, .sameMethod "java/lang/AbstractStringBuilder" "java/lang/AbstractStringBuilder" "isLatin1" "()Z", Cond.selects RJ4 ⟨"java/lang/AbstractStringBuilder", "isLatin1", "()Z"⟩ yJ5_isLatin1_aae02, Cond.instanceMethod yJ5_isLatin1_aae02, Cond.methodLink RJ5 191 yJ1_canEncode_fc78d, Cond.static yJ1_canEncode_fc78d, Cond.initialized RJ1, Cond.fieldLink RJ5 15 "java/lang/AbstractStringBuilder" "value" "[B"] ++ (u_ws RJ4 TJ4 4 ++ (ow_dm_J5_ensureCapacityInternal_d00df ++ (ow_dm_J5_isLatin1_aae02 ++ (ow_dm_J1_canEncode_fc78d ++ [])))))
theorem gd_dm_J5_append_3fe6f : ∀ w ∈ ow_dm_J5_append_3fe6f, (w.onTables && w.keeps) = true ∨ ∃ ty, w = Cond.arrayClass ty := List.forall_mem_cons.mpr ⟨good_of_word rfl, List.forall_mem_append.mpr ⟨fun w h => good_of_word (List.all_eq_true.mp (by decide +kernel) w h), List.forall_mem_append.mpr ⟨gu_J4, List.forall_mem_append.mpr ⟨gd_dm_J5_ensureCapacityInternal_d00df, List.forall_mem_append.mpr ⟨gd_dm_J5_isLatin1_aae02, List.forall_mem_append.mpr ⟨gd_dm_J1_canEncode_fc78d, fun _ h => nomatch h⟩⟩⟩⟩⟩⟩
theorem hi_dm_J5_append_3fe6f_J4 : ∀ w ∈ u_ws RJ4 TJ4 4, w ∈ ow_dm_J5_append_3fe6f := fun w h => List.mem_cons_of_mem _ (List.mem_append_right _ (List.mem_append_left _ h))
theorem gi_dm_J5_append_3fe6f_0 : GoodIn ow_dm_J5_append_3fe6f (va_wsU RJ5 100 RJ4 "java/lang/AbstractStringBuilder" ⟨"java/lang/AbstractStringBuilder", "ensureCapacityInternal", "(I)V"⟩ yJ5_ensureCapacityInternal_d00df ow_dm_J5_ensureCapacityInternal_d00df) := goodIn_app (goodIn_of _ (by decide +kernel)) (fun w h => ⟨List.mem_cons_of_mem _ (List.mem_append_right _ (List.mem_append_right _ (List.mem_append_left _ h))), gd_dm_J5_ensureCapacityInternal_d00df w h⟩)
theorem gi_dm_J5_append_3fe6f_1 : GoodIn ow_dm_J5_append_3fe6f (va_wsU RJ5 83 RJ4 "java/lang/AbstractStringBuilder" ⟨"java/lang/AbstractStringBuilder", "isLatin1", "()Z"⟩ yJ5_isLatin1_aae02 ow_dm_J5_isLatin1_aae02) := goodIn_app (goodIn_of _ (by decide +kernel)) (fun w h => ⟨List.mem_cons_of_mem _ (List.mem_append_right _ (List.mem_append_right _ (List.mem_append_right _ (List.mem_append_left _ h)))), gd_dm_J5_isLatin1_aae02 w h⟩)
theorem gi_dm_J5_append_3fe6f_2 : GoodIn ow_dm_J5_append_3fe6f (va_wsS RJ5 191 yJ1_canEncode_fc78d ow_dm_J1_canEncode_fc78d) := goodIn_app (goodIn_of _ (by decide +kernel)) (fun w h => ⟨List.mem_cons_of_mem _ (List.mem_append_right _ (List.mem_append_right _ (List.mem_append_right _ (List.mem_append_right _ (List.mem_append_left _ h))))), gd_dm_J1_canEncode_fc78d w h⟩)
def dj_J5_append_3fe6f_75 (p : Program) (l : Launch) (e : Env) (s : State) (m : MethodId) (args : Array Value) (below : List Frame) (meth : Method) (c : Code) (Q : State → Prop) (A : Nat → Prop) (dC : Nat → ClassId) (dI : Nat → Nat → Nat) (a : Nat → Nat) (ac : Nat → ClassId) (u0 dd : Nat) (g : (Sb) → Option (Sb)) (r : Sb) : Prop := ∀ (s0 : Sb) (vv0 kk0 : Nat) (H : Heap) (locs : List Loc) (ls : Array Slot), s0.2.1 = u0 + kk0 → s0.2.1 ≤ r.2.1 → g s0 = some r → va_P (dC, dI) vwCl (dw_SB a ac vv0 s0) H → va_D A (dw_SB a ac vv0 s0) → va_S A s.heap H locs → lv_has ls 2 [(0, .ref (a 0))] → W p l e (headSpec ow_dm_J5_append_3fe6f ({ frames := 5, cells := dd, slots := 34 * dd, locals := 142 })).room s m args below meth c H locs kk0 (34 * kk0) Q (F0 m 75 ls [])
def dj_J5_append_3fe6f_0 (p : Program) (l : Launch) (e : Env) (s : State) (m : MethodId) (args : Array Value) (below : List Frame) (meth : Method) (c : Code) (Q : State → Prop) (A : Nat → Prop) (dC : Nat → ClassId) (dI : Nat → Nat → Nat) (a : Nat → Nat) (ac : Nat → ClassId) (u0 dd : Nat) (g : Int32 → (Sb) → Option (Sb)) (r : Sb) : Prop := ∀ (v0 : Int32) (s0 : Sb) (vv0 kk0 : Nat) (H : Heap) (locs : List Loc) (ls : Array Slot), s0.2.1 = u0 + kk0 → s0.2.1 ≤ r.2.1 → g v0 s0 = some r → va_P (dC, dI) vwCl (dw_SB a ac vv0 s0) H → va_D A (dw_SB a ac vv0 s0) → va_S A s.heap H locs → lv_has ls 2 [(0, .ref (a 0)), (1, .int v0)] → W p l e (headSpec ow_dm_J5_append_3fe6f ({ frames := 5, cells := dd, slots := 34 * dd, locals := 142 })).room s m args below meth c H locs kk0 (34 * kk0) Q (F0 m 0 ls [])
set_option maxHeartbeats 40000000 in
set_option maxRecDepth 100000 in
theorem db_J5_append_3fe6f_75 {p : Program} {l : Launch} {e : Env} {s : State} {m : MethodId} {args : Array Value} {below : List Frame} {meth : Method} {c : Code} {Q : State → Prop} {A : Nat → Prop} {dC : Nat → ClassId} {dI : Nat → Nat → Nat} {a : Nat → Nat} {ac : Nat → ClassId} {u0 dd : Nat} {n : Nat} {r : Sb} (C : nd_CH p l s m args c A (dC, dI) cJ5_append_3fe6f 2 RJ5 ow_dm_J5_append_3fe6f (dk_J4 ac)) (HR : r.2.1 ≤ u0 + dd) (K : nd_Sr p l e (headSpec ow_dm_J5_append_3fe6f ({ frames := 5, cells := dd, slots := 34 * dd, locals := 142 })).room s m args below meth c Q A (dC, dI) cJ5_append_3fe6f (dw_SB a ac) u0 r) : dj_J5_append_3fe6f_75 p l e s m args below meth c Q A dC dI a ac u0 dd (df_J5_append_3fe6f_75 n) r := by
  obtain ⟨hlt, hx, hb, hml, hown, hts, hE, hA, hK⟩ := id C
  have hN := hE.1
  intro s0 vv0 kk0 H locs ls hk hm h hP hD hS hl
  unfold df_J5_append_3fe6f_75 at h
  refine lv_aload_n hx hb dJ5_append_3fe6f_75 rfl (lv_at hl 0 rfl) ?_
  exact K _ _ _ _ _ _ _ _ dJ5_append_3fe6f_76 hk (Option.some.inj h).symm hP hD hS
set_option maxHeartbeats 40000000 in
set_option maxRecDepth 100000 in
theorem db_J5_append_3fe6f_0 {p : Program} {l : Launch} {e : Env} {s : State} {m : MethodId} {args : Array Value} {below : List Frame} {meth : Method} {c : Code} {Q : State → Prop} {A : Nat → Prop} {dC : Nat → ClassId} {dI : Nat → Nat → Nat} {a : Nat → Nat} {ac : Nat → ClassId} {u0 dd : Nat} {n : Nat} {r : Sb} (C : nd_CH p l s m args c A (dC, dI) cJ5_append_3fe6f 2 RJ5 ow_dm_J5_append_3fe6f (dk_J4 ac)) (HR : r.2.1 ≤ u0 + dd) (K : nd_Sr p l e (headSpec ow_dm_J5_append_3fe6f ({ frames := 5, cells := dd, slots := 34 * dd, locals := 142 })).room s m args below meth c Q A (dC, dI) cJ5_append_3fe6f (dw_SB a ac) u0 r) : dj_J5_append_3fe6f_0 p l e s m args below meth c Q A dC dI a ac u0 dd (df_J5_append_3fe6f_0 n) r := by
  obtain ⟨hlt, hx, hb, hml, hown, hts, hE, hA, hK⟩ := id C
  have hN := hE.1
  intro v0 s0 vv0 kk0 H locs ls hk hm h hP hD hS hl
  unfold df_J5_append_3fe6f_0 at h
  refine lv_aload_n hx hb dJ5_append_3fe6f_0 rfl (lv_at hl 0 rfl) ?_
  refine lv_aload_n hx hb dJ5_append_3fe6f_1 rfl (lv_at hl 0 rfl) ?_
  refine va_get (D := (dC, dI)) (ci := 1) (v := .int (sI s0.2.2 2)) (C := RJ4) (T := TJ4) (N := 4) hx hb hts hi_dm_J5_append_3fe6f_J4 hown hK hP 0 rfl rfl 3 (by decide) (hts (.fieldLink RJ5 79 "java/lang/AbstractStringBuilder" "count" "I") (List.mem_of_getElem? (i := 1) rfl)) (fun _ h9 => h9) rfl dJ5_append_3fe6f_2 ?_
  refine lv_iconst (v := 1) hx hb dJ5_append_3fe6f_5 (by decide) ?_
  refine lv_iadd hx hb dJ5_append_3fe6f_6 ?_
  obtain ⟨s1, hq, h⟩ := nd_b1_e h
  have hPc := hP
  have hDc := hD
  have hKc := hK
  have hFc := nd_rs hD hS hA
  obtain ⟨ds1, es1, ls1⟩ := um_J5_ensureCapacityInternal_d00df hq
  have ms1 : s1.2.1 ≤ r.2.1 := uM_le (by repeat (with_reducible (first | refine uM_ite ?_ ?_ | refine uM_let (α := Sb) ?_ | refine uM_lg (fun _ => ?_) | exact uM_none | exact uM_some rfl | exact uM_e (um_df_J5_append_3fe6f_75 _ _) rfl | refine uM_c uc_J5_ensureCapacityInternal_d00df (fun _ => ?_) | refine uM_c uc_J5_append_cf1ce (fun _ => ?_) | refine uM_b1 (fun _ => ?_) | refine uM_b2 (fun _ _ => ?_) | refine uM_ck ?_ | refine uM_lt ?_))) h
  refine nd_gUv (E := nv_H dI) (As := [.int ((sI s0.2.2 2) + 1)]) (rest := []) (w' := (fun (v : Nat) => dw_SB a ac v s1)) nv_Hs nv_Hc ⟨hx, hb, hml, hown, hts⟩ (fun sz => dm_J5_ensureCapacityInternal_d00df l hlt dC dI a ac vv0 n (((sI s0.2.2 2) + 1)) s0 hq es1 sz) (va_cwU 1 hts gi_dm_J5_append_3fe6f_0 rfl rfl rfl rfl (by decide +kernel) ⟨Nat.le_of_ble_eq_true rfl, Nat.le_of_ble_eq_true rfl⟩) hPc hDc hKc hS hA hE (va_recv hKc hPc (ci := 1) (q0 := 0) rfl rfl) rfl hl.1 rfl (Nat.le_of_ble_eq_true rfl) dJ5_append_3fe6f_7 (nd_uX hk es1 ms1 HR) (fun vs1 H locs hP1 hD1 hk1 hS => ?_)
  refine nd_w34 ?_
  have hP := hP1
  have hD := hD1.weaken (fun k q _ h => hFc q.1 h)
  generalize eks1 : kk0 + ds1 = ks1
  have hk := nd_uN hk es1 eks1
  have hm := ms1
  refine lv_aload_n hx hb dJ5_append_3fe6f_10 rfl (lv_at hl 0 rfl) ?_
  obtain ⟨q4, s3, hq, h⟩ := nd_b2_e h
  have hPc : va_P (dC, dI) vwCl (dw_J4 (nd_bv (a 0) vs1 s1.1) ac s1.2.2) H := hP
  have hDc : va_D A (dw_J4 (nd_bv (a 0) vs1 s1.1) ac s1.2.2) := hD
  have hKc := hK
  have hFc := nd_rs hD hS hA
  refine nd_gUi (E := nv_E dI) (As := []) (rest := []) (q := q4) (w' := (fun (_ : Unit) => dw_J4 (nd_bv (a 0) vs1 s1.1) ac s3)) nv_same nv_call ⟨hx, hb, hml, hown, hts⟩ (fun sz => dm_J5_isLatin1_aae02 l hlt dC dI (nd_bv (a 0) vs1 s1.1) ac n  s1.2.2 hq sz) (va_cwU 0 hts gi_dm_J5_append_3fe6f_1 rfl rfl rfl rfl (by decide +kernel) ⟨Nat.le_of_ble_eq_true rfl, Nat.le_of_ble_eq_true rfl⟩) hPc hDc hKc hS hA hN (va_recv hKc hPc (ci := 1) (q0 := 0) rfl rfl) rfl hl.1 rfl (Nat.le_of_ble_eq_true rfl) dJ5_append_3fe6f_11 (nd_uP hk hm HR) (fun _ H locs hP1 hD1 hk1 hS => ?_)
  have hP : va_P (dC, dI) vwCl (dw_SB a ac vs1 (s1.1, (s1.2.1, s3))) H := hP1
  have hD : va_D A (dw_SB a ac vs1 (s1.1, (s1.2.1, s3))) := hD1.weaken (fun k q _ h => hFc q.1 h)
  obtain ⟨s5, es5, h⟩ := nd_let_e h
  have hP : va_P (dC, dI) vwCl (dw_SB a ac vs1 s5) H := by rw [es5]; exact hP
  have hD : va_D A (dw_SB a ac vs1 s5) := by rw [es5]; exact hD
  have hk : s5.2.1 = u0 + ks1 := by rw [es5]; exact hk
  have hm : s5.2.1 ≤ r.2.1 := by rw [es5]; exact hm
  refine lv_if_eq (tgt := 45) hx hb dJ5_append_3fe6f_14 (by decide) (fun c6 => ?_) (fun c6 => ?_)
  · have h := nd_pos h c6
    exact nomatch (show (none : Option (Sb)) = some r from h)
  · have h := nd_neg h c6
    refine lv_iload_n hx hb dJ5_append_3fe6f_17 rfl (lv_at hl 1 rfl) ?_
    obtain ⟨q8, s7, hq, h⟩ := nd_b2_e h
    have hPc : va_P (dC, dI) vwCl (dw_P a ac ()) H := nd_p0
    have hDc : va_D A (dw_P a ac ()) := nd_d0
    have hKc : va_K (dC, dI) vwCl (dk_P ac) s := nd_y0 hK
    refine nd_gSi (E := nv_E dI) (As := [.int v0]) (rest := []) (q := q8) (w' := (fun (_ : Unit) => dw_P a ac s7)) nv_same nv_call ⟨hx, hb, hml, hown, hts⟩ (fun sz => dm_J1_canEncode_fc78d l hlt dC dI a ac n (v0) () hq sz) (va_cwS 1 hts gi_dm_J5_append_3fe6f_2 rfl rfl rfl (by decide +kernel) ⟨Nat.le_of_ble_eq_true rfl, Nat.le_of_ble_eq_true rfl⟩) hPc hDc hKc hS hA hN rfl hl.1 rfl (Nat.le_of_ble_eq_true rfl) dJ5_append_3fe6f_18 (nd_uP hk hm HR) (fun _ H locs hP1 hD1 hk1 hS => ?_)
    have hP := nd_n0 hP hk1
    refine lv_if_eq (tgt := 45) hx hb dJ5_append_3fe6f_21 (by decide) (fun c9 => ?_) (fun c9 => ?_)
    · have h := nd_pos h c9
      exact nomatch (show (none : Option (Sb)) = some r from h)
    · have h := nd_neg h c9
      refine lv_aload_n hx hb dJ5_append_3fe6f_24 rfl (lv_at hl 0 rfl) ?_
      refine va_get (D := (dC, dI)) (ci := 1) (v := .ref vs1) (C := RJ4) (T := TJ4) (N := 4) hx hb hts hi_dm_J5_append_3fe6f_J4 hown hK hP 0 rfl rfl 0 (by decide) (hts (.fieldLink RJ5 15 "java/lang/AbstractStringBuilder" "value" "[B") (List.mem_of_getElem? (i := 14) rfl)) (fun _ h9 => h9) rfl dJ5_append_3fe6f_25 ?_
      refine lv_aload_n hx hb dJ5_append_3fe6f_28 rfl (lv_at hl 0 rfl) ?_
      refine lv_dup hx hb dJ5_append_3fe6f_29 rfl ?_
      refine va_get (D := (dC, dI)) (ci := 1) (v := .int (sI s5.2.2 2)) (C := RJ4) (T := TJ4) (N := 4) hx hb hts hi_dm_J5_append_3fe6f_J4 hown hK hP 0 rfl rfl 3 (by decide) (hts (.fieldLink RJ5 79 "java/lang/AbstractStringBuilder" "count" "I") (List.mem_of_getElem? (i := 1) rfl)) (fun _ h9 => h9) rfl dJ5_append_3fe6f_30 ?_
      refine lv_topi (fun z10 ez10 => ?_)
      have h := nd_at h ez10
      refine lv_dup_x1 hx hb dJ5_append_3fe6f_33 rfl rfl ?_
      refine lv_iconst (v := 1) hx hb dJ5_append_3fe6f_34 (by decide) ?_
      refine lv_iadd hx hb dJ5_append_3fe6f_35 ?_
      refine va_put (D := (dC, dI)) (ci := 1) (v := .int (z10 + 1)) (ty := .int) (C := RJ4) (T := TJ4) (N := 4) hx hb hts hi_dm_J5_append_3fe6f_J4 tyJ4 tyJ4_ok nmJ4 hown hK hP hD hS 0 rfl rfl 3 (by decide) (hts (.fieldLink RJ5 79 "java/lang/AbstractStringBuilder" "count" "I") (List.mem_of_getElem? (i := 1) rfl)) (fun _ h9 => h9) rfl (by decide +kernel) rfl rfl (Nat.le_of_ble_eq_true rfl) dJ5_append_3fe6f_36 (fun H locs hP hD hS => ?_)
      obtain ⟨s11, es11, h⟩ := nd_let_e h
      have hP : va_P (dC, dI) vwCl (dw_SB a ac vs1 s11) H := by rw [es11]; exact hP
      have hD : va_D A (dw_SB a ac vs1 s11) := by rw [es11]; exact hD
      have hk : s11.2.1 = u0 + ks1 := by rw [es11]; exact hk
      have hm : s11.2.1 ≤ r.2.1 := by rw [es11]; exact hm
      refine lv_iload_n hx hb dJ5_append_3fe6f_39 rfl (lv_at hl 1 rfl) ?_
      refine lv_i2b hx hb dJ5_append_3fe6f_40 rfl ?_
      obtain ⟨i12, h⟩ := nd_ck_e h
      refine va_bast (i := z10) (x := (v0.toInt8.toInt32)) hx hb hK hP hD hS 1 0 rfl rfl i12 dJ5_append_3fe6f_41 (fun H locs hP hD hS => ?_)
      obtain ⟨s13, es13, h⟩ := nd_let_e h
      have hP : va_P (dC, dI) vwCl (dw_SB a ac vs1 s13) H := by rw [es13]; exact hP
      have hD : va_D A (dw_SB a ac vs1 s13) := by rw [es13]; exact hD
      have hk : s13.2.1 = u0 + ks1 := by rw [es13]; exact hk
      have hm : s13.2.1 ≤ r.2.1 := by rw [es13]; exact hm
      refine lv_goto (tgt := 75) hx hb dJ5_append_3fe6f_42 (by decide) ?_
      exact (db_J5_append_3fe6f_75 C HR K)  s13 vs1 ks1 _ _ _ hk hm h hP hD hS (lv_sub hl [0] rfl)
set_option maxHeartbeats 40000000 in
set_option maxRecDepth 100000 in
theorem dm_J5_append_3fe6f (l : Launch) (hlt : l.stackTraces = false) (dC : Nat → ClassId) (dI : Nat → Nat → Nat) (a : Nat → Nat) (ac : Nat → ClassId) (vv0 : Nat) (n : Nat) (v0 : Int32) (s0 : Sb) {r : Sb} (h : df_J5_append_3fe6f n v0 s0 = some r) {dd : Nat} (hd : r.2.1 = s0.2.1 + dd) (sz : Nat) : Met l yJ5_append_3fe6f ow_dm_J5_append_3fe6f ({ frames := 5, cells := dd, slots := 34 * dd, locals := 142 }) (va_Pc [.ref (a 0), .int v0] (fun U => U.heap.size = sz ∧ va_P (dC, dI) vwCl (dw_SB a ac vv0 s0) U.heap ∧ va_K (dC, dI) vwCl (dk_J4 ac) U ∧ va_D (fun _ => True) (dw_SB a ac vv0 s0) ∧ nv_H dI (va_A (dw_SB a ac vv0 s0) sz) U)) (va_Qr (fun (_ : Nat) => True) (fun (v : Nat) _ t => va_P (dC, dI) vwCl (dw_SB a ac v r) t.heap ∧ va_K (dC, dI) vwCl (dk_J4 ac) t ∧ va_D (va_A (dw_SB a ac vv0 s0) sz) (dw_SB a ac v r)) (va_A (dw_SB a ac vv0 s0) sz)) dd (34 * dd) (va_A (dw_SB a ac vv0 s0) sz) := by
  refine Met.ofW (cc := cJ5_append_3fe6f) (maxL := 2) (ret := (some (.object "java/lang/AbstractStringBuilder"))) (by decide) rfl ?_
  intro p e s m args below meth c s₁ B hml hv
  obtain ⟨rfl, hsz, hP, hK, hD0, hE⟩ := hv
  have hx := B.exec
  have hb := B.bytes
  have hr := B.returns
  have hts := atoms_spec (ws := ow_dm_J5_append_3fe6f) B.pre
  have hown : s.vm.findClass RJ5 = some m.cls := findClass_of_methodNamed B.named
  have hlocks := B.notSynchronized
  subst hsz
  have hD := hD0.self (sz := s.heap.size)
  generalize hAe : va_A (dw_SB a ac vv0 s0) s.heap.size = A at hD hE ⊢
  have hA : ∀ q : Nat, s.heap.size ≤ q → A q := fun q h => by rw [← hAe]; exact Or.inr h
  have hl := lv_entry ([.ref (a 0), .int v0]) (n := 2) (Nat.le_of_ble_eq_true rfl)
  rw [lg_entry_eq]
  generalize (lg_sl ([.ref (a 0), .int v0]) ++ List.replicate (2 - (lg_sl ([.ref (a 0), .int v0])).length) Slot.unset).toArray = ls at hl ⊢
  have hl : lv_has ls 2 [(0, .ref (a 0)), (1, .int v0)] := hl
  exact db_J5_append_3fe6f_0 (dC := dC) (dI := dI) (a := a) (ac := ac) (u0 := s0.2.1) (n := n) (r := r) ⟨hlt, hx, hb, hml, hown, hts, hE, hA, hK⟩ (Nat.le_of_eq hd) (fun pc x τ v k H locs ls d hk er hP hD hS => by subst er; obtain ⟨z1, z2⟩ : k ≤ dd ∧ 34 * k ≤ 34 * dd := nd_uK hk hd; refine W.widen (k := dd) (n := 34 * dd) z1 z2 ?_; exact W.aret (v := .ref x) hx hb hr (by first | exact Or.inl ⟨_, rfl⟩ | exact Or.inr ⟨_, rfl⟩) (va_rf_or (some x)) (fun t ht hW => ⟨⟨v, x, rfl, trivial, by rw [ht]; exact hP, va_K.moved hW.alike hK, hD⟩, hS.F ht⟩) hS.2.2 d) v0 s0 vv0 0 _ _ _ rfl (hd ▸ Nat.le_add_right _ _) h hP hD va_S.rf (lv_sub hl [0, 1] rfl)
def ow_dm_J5_append_c97b9 : List Cond := Cond.code yJ5_append_c97b9 cJ5_append_c97b9 4 (some (.object "java/lang/AbstractStringBuilder")) :: ([Cond.fieldLink RJ5 79 "java/lang/AbstractStringBuilder" "count" "I", Cond.methodLink RJ5 245 yJ6_stringSize_0f7a4, Cond.static yJ6_stringSize_0f7a4, Cond.initialized RJ6, Cond.methodLink RJ5 100 ⟨"java/lang/AbstractStringBuilder", "ensureCapacityInternal", "(I)V"⟩, .sameMethod "java/lang/AbstractStringBuilder" "java/lang/AbstractStringBuilder" "ensureCapacityInternal" "(I)V", Cond.selects RJ4 ⟨"java/lang/AbstractStringBuilder", "ensureCapacityInternal", "(I)V"⟩ yJ5_ensureCapacityInternal_d00df, Cond.instanceMethod yJ5_ensureCapacityInternal_d00df, Cond.initialized RJ5, Cond.methodLink RJ5 83 ⟨"java/lang/AbstractStringBuilder", "isLatin1", "()Z"⟩, .sameMethod "java/lang/AbstractStringBuilder" "java/lang/AbstractStringBuilder" "isLatin1" "()Z", Cond.selects RJ4 ⟨"java/lang/AbstractStringBuilder", "isLatin1", "()Z"⟩ yJ5_isLatin1_aae02, Cond.instanceMethod yJ5_isLatin1_aae02, Cond.fieldLink RJ5 15 "java/lang/AbstractStringBuilder" "value" "[B", Cond.methodLink RJ5 248 yJ6_getChars_ba4f3, Cond.static yJ6_getChars_ba4f3] ++ (u_ws RJ4 TJ4 4 ++ (ow_dm_J6_stringSize_0f7a4 ++ (ow_dm_J5_ensureCapacityInternal_d00df ++ (ow_dm_J5_isLatin1_aae02 ++ (ow_dm_J6_getChars_ba4f3 ++ []))))))
theorem gd_dm_J5_append_c97b9 : ∀ w ∈ ow_dm_J5_append_c97b9, (w.onTables && w.keeps) = true ∨ ∃ ty, w = Cond.arrayClass ty := List.forall_mem_cons.mpr ⟨good_of_word rfl, List.forall_mem_append.mpr ⟨fun w h => good_of_word (List.all_eq_true.mp (by decide +kernel) w h), List.forall_mem_append.mpr ⟨gu_J4, List.forall_mem_append.mpr ⟨gd_dm_J6_stringSize_0f7a4, List.forall_mem_append.mpr ⟨gd_dm_J5_ensureCapacityInternal_d00df, List.forall_mem_append.mpr ⟨gd_dm_J5_isLatin1_aae02, List.forall_mem_append.mpr ⟨gd_dm_J6_getChars_ba4f3, fun _ h => nomatch h⟩⟩⟩⟩⟩⟩⟩
theorem hi_dm_J5_append_c97b9_J4 : ∀ w ∈ u_ws RJ4 TJ4 4, w ∈ ow_dm_J5_append_c97b9 := fun w h => List.mem_cons_of_mem _ (List.mem_append_right _ (List.mem_append_left _ h))
theorem gi_dm_J5_append_c97b9_0 : GoodIn ow_dm_J5_append_c97b9 (va_wsS RJ5 245 yJ6_stringSize_0f7a4 ow_dm_J6_stringSize_0f7a4) := goodIn_app (goodIn_of _ (by decide +kernel)) (fun w h => ⟨List.mem_cons_of_mem _ (List.mem_append_right _ (List.mem_append_right _ (List.mem_append_left _ h))), gd_dm_J6_stringSize_0f7a4 w h⟩)
theorem gi_dm_J5_append_c97b9_1 : GoodIn ow_dm_J5_append_c97b9 (va_wsU RJ5 100 RJ4 "java/lang/AbstractStringBuilder" ⟨"java/lang/AbstractStringBuilder", "ensureCapacityInternal", "(I)V"⟩ yJ5_ensureCapacityInternal_d00df ow_dm_J5_ensureCapacityInternal_d00df) := goodIn_app (goodIn_of _ (by decide +kernel)) (fun w h => ⟨List.mem_cons_of_mem _ (List.mem_append_right _ (List.mem_append_right _ (List.mem_append_right _ (List.mem_append_left _ h)))), gd_dm_J5_ensureCapacityInternal_d00df w h⟩)
theorem gi_dm_J5_append_c97b9_2 : GoodIn ow_dm_J5_append_c97b9 (va_wsU RJ5 83 RJ4 "java/lang/AbstractStringBuilder" ⟨"java/lang/AbstractStringBuilder", "isLatin1", "()Z"⟩ yJ5_isLatin1_aae02 ow_dm_J5_isLatin1_aae02) := goodIn_app (goodIn_of _ (by decide +kernel)) (fun w h => ⟨List.mem_cons_of_mem _ (List.mem_append_right _ (List.mem_append_right _ (List.mem_append_right _ (List.mem_append_right _ (List.mem_append_left _ h))))), gd_dm_J5_isLatin1_aae02 w h⟩)
theorem gi_dm_J5_append_c97b9_3 : GoodIn ow_dm_J5_append_c97b9 (va_wsS RJ5 248 yJ6_getChars_ba4f3 ow_dm_J6_getChars_ba4f3) := goodIn_app (goodIn_of _ (by decide +kernel)) (fun w h => ⟨List.mem_cons_of_mem _ (List.mem_append_right _ (List.mem_append_right _ (List.mem_append_right _ (List.mem_append_right _ (List.mem_append_right _ (List.mem_append_left _ h)))))), gd_dm_J6_getChars_ba4f3 w h⟩)
def dj_J5_append_c97b9_48 (p : Program) (l : Launch) (e : Env) (s : State) (m : MethodId) (args : Array Value) (below : List Frame) (meth : Method) (c : Code) (Q : State → Prop) (A : Nat → Prop) (dC : Nat → ClassId) (dI : Nat → Nat → Nat) (a : Nat → Nat) (ac : Nat → ClassId) (u0 dd : Nat) (g : Int32 → (Sb) → Option (Sb)) (r : Sb) : Prop := ∀ (x3 : Int32) (s0 : Sb) (vv0 kk0 : Nat) (H : Heap) (locs : List Loc) (ls : Array Slot), s0.2.1 = u0 + kk0 → s0.2.1 ≤ r.2.1 → g x3 s0 = some r → va_P (dC, dI) vwCl (dw_SB a ac vv0 s0) H → va_D A (dw_SB a ac vv0 s0) → va_S A s.heap H locs → lv_has ls 4 [(0, .ref (a 0)), (3, .int x3)] → W p l e (headSpec ow_dm_J5_append_c97b9 ({ frames := 5, cells := dd, slots := 34 * dd, locals := 142 })).room s m args below meth c H locs kk0 (34 * kk0) Q (F0 m 48 ls [])
def dj_J5_append_c97b9_0 (p : Program) (l : Launch) (e : Env) (s : State) (m : MethodId) (args : Array Value) (below : List Frame) (meth : Method) (c : Code) (Q : State → Prop) (A : Nat → Prop) (dC : Nat → ClassId) (dI : Nat → Nat → Nat) (a : Nat → Nat) (ac : Nat → ClassId) (u0 dd : Nat) (g : Int32 → (Sb) → Option (Sb)) (r : Sb) : Prop := ∀ (v0 : Int32) (s0 : Sb) (vv0 kk0 : Nat) (H : Heap) (locs : List Loc) (ls : Array Slot), s0.2.1 = u0 + kk0 → s0.2.1 ≤ r.2.1 → g v0 s0 = some r → va_P (dC, dI) vwCl (dw_SB a ac vv0 s0) H → va_D A (dw_SB a ac vv0 s0) → va_S A s.heap H locs → lv_has ls 4 [(0, .ref (a 0)), (1, .int v0)] → W p l e (headSpec ow_dm_J5_append_c97b9 ({ frames := 5, cells := dd, slots := 34 * dd, locals := 142 })).room s m args below meth c H locs kk0 (34 * kk0) Q (F0 m 0 ls [])
set_option maxHeartbeats 40000000 in
set_option maxRecDepth 100000 in
theorem db_J5_append_c97b9_48 {p : Program} {l : Launch} {e : Env} {s : State} {m : MethodId} {args : Array Value} {below : List Frame} {meth : Method} {c : Code} {Q : State → Prop} {A : Nat → Prop} {dC : Nat → ClassId} {dI : Nat → Nat → Nat} {a : Nat → Nat} {ac : Nat → ClassId} {u0 dd : Nat} {n : Nat} {r : Sb} (C : nd_CH p l s m args c A (dC, dI) cJ5_append_c97b9 4 RJ5 ow_dm_J5_append_c97b9 (dk_J4 ac)) (HR : r.2.1 ≤ u0 + dd) (K : nd_Sr p l e (headSpec ow_dm_J5_append_c97b9 ({ frames := 5, cells := dd, slots := 34 * dd, locals := 142 })).room s m args below meth c Q A (dC, dI) cJ5_append_c97b9 (dw_SB a ac) u0 r) : dj_J5_append_c97b9_48 p l e s m args below meth c Q A dC dI a ac u0 dd (df_J5_append_c97b9_48 n) r := by
  obtain ⟨hlt, hx, hb, hml, hown, hts, hE, hA, hK⟩ := id C
  have hN := hE.1
  intro x3 s0 vv0 kk0 H locs ls hk hm h hP hD hS hl
  unfold df_J5_append_c97b9_48 at h
  refine lv_aload_n hx hb dJ5_append_c97b9_48 rfl (lv_at hl 0 rfl) ?_
  refine lv_iload_n hx hb dJ5_append_c97b9_49 rfl (lv_at hl 1 rfl) ?_
  refine va_put (D := (dC, dI)) (ci := 1) (v := .int x3) (ty := .int) (C := RJ4) (T := TJ4) (N := 4) hx hb hts hi_dm_J5_append_c97b9_J4 tyJ4 tyJ4_ok nmJ4 hown hK hP hD hS 0 rfl rfl 3 (by decide) (hts (.fieldLink RJ5 79 "java/lang/AbstractStringBuilder" "count" "I") (List.mem_of_getElem? (i := 1) rfl)) (fun _ h9 => h9) rfl (by decide +kernel) rfl rfl (Nat.le_of_ble_eq_true rfl) dJ5_append_c97b9_50 (fun H locs hP hD hS => ?_)
  obtain ⟨s14, es14, h⟩ := nd_let_e h
  have hP : va_P (dC, dI) vwCl (dw_SB a ac vv0 s14) H := by rw [es14]; exact hP
  have hD : va_D A (dw_SB a ac vv0 s14) := by rw [es14]; exact hD
  have hk : s14.2.1 = u0 + kk0 := by rw [es14]; exact hk
  have hm : s14.2.1 ≤ r.2.1 := by rw [es14]; exact hm
  refine lv_aload_n hx hb dJ5_append_c97b9_53 rfl (lv_at hl 0 rfl) ?_
  exact K _ _ _ _ _ _ _ _ dJ5_append_c97b9_54 hk (Option.some.inj h).symm hP hD hS
set_option maxHeartbeats 40000000 in
set_option maxRecDepth 100000 in
theorem db_J5_append_c97b9_0 {p : Program} {l : Launch} {e : Env} {s : State} {m : MethodId} {args : Array Value} {below : List Frame} {meth : Method} {c : Code} {Q : State → Prop} {A : Nat → Prop} {dC : Nat → ClassId} {dI : Nat → Nat → Nat} {a : Nat → Nat} {ac : Nat → ClassId} {u0 dd : Nat} {n : Nat} {r : Sb} (C : nd_CH p l s m args c A (dC, dI) cJ5_append_c97b9 4 RJ5 ow_dm_J5_append_c97b9 (dk_J4 ac)) (HR : r.2.1 ≤ u0 + dd) (K : nd_Sr p l e (headSpec ow_dm_J5_append_c97b9 ({ frames := 5, cells := dd, slots := 34 * dd, locals := 142 })).room s m args below meth c Q A (dC, dI) cJ5_append_c97b9 (dw_SB a ac) u0 r) : dj_J5_append_c97b9_0 p l e s m args below meth c Q A dC dI a ac u0 dd (df_J5_append_c97b9_0 n) r := by
  obtain ⟨hlt, hx, hb, hml, hown, hts, hE, hA, hK⟩ := id C
  have hN := hE.1
  intro v0 s0 vv0 kk0 H locs ls hk hm h hP hD hS hl
  unfold df_J5_append_c97b9_0 at h
  refine lv_aload_n hx hb dJ5_append_c97b9_0 rfl (lv_at hl 0 rfl) ?_
  refine va_get (D := (dC, dI)) (ci := 1) (v := .int (sI s0.2.2 2)) (C := RJ4) (T := TJ4) (N := 4) hx hb hts hi_dm_J5_append_c97b9_J4 hown hK hP 0 rfl rfl 3 (by decide) (hts (.fieldLink RJ5 79 "java/lang/AbstractStringBuilder" "count" "I") (List.mem_of_getElem? (i := 1) rfl)) (fun _ h9 => h9) rfl dJ5_append_c97b9_1 ?_
  refine lv_topi (fun z1 ez1 => ?_)
  have h := nd_at h ez1
  refine lv_istore_n (lv' := [(2, .int z1), (0, .ref (a 0)), (1, .int v0)]) hx hb dJ5_append_c97b9_4 rfl hl (by decide) rfl (fun ls hl => ?_)
  refine lv_iload_n hx hb dJ5_append_c97b9_5 rfl (lv_at hl 0 rfl) ?_
  refine lv_iload_n hx hb dJ5_append_c97b9_6 rfl (lv_at hl 2 rfl) ?_
  obtain ⟨q3, s2, hq, h⟩ := nd_b2_e h
  have hPc : va_P (dC, dI) vwCl (dw_P a ac ()) H := nd_p0
  have hDc : va_D A (dw_P a ac ()) := nd_d0
  have hKc : va_K (dC, dI) vwCl (dk_P ac) s := nd_y0 hK
  refine nd_gSi (E := nv_E dI) (As := [.int v0]) (rest := [.int z1]) (q := q3) (w' := (fun (_ : Unit) => dw_P a ac s2)) nv_same nv_call ⟨hx, hb, hml, hown, hts⟩ (fun sz => dm_J6_stringSize_0f7a4 l hlt dC dI a ac n (v0) () hq sz) (va_cwS 1 hts gi_dm_J5_append_c97b9_0 rfl rfl rfl (by decide +kernel) ⟨Nat.le_of_ble_eq_true rfl, Nat.le_of_ble_eq_true rfl⟩) hPc hDc hKc hS hA hN rfl hl.1 rfl (Nat.le_of_ble_eq_true rfl) dJ5_append_c97b9_7 (nd_uP hk hm HR) (fun _ H locs hP1 hD1 hk1 hS => ?_)
  have hP := nd_n0 hP hk1
  refine lv_iadd hx hb dJ5_append_c97b9_10 ?_
  refine lv_topi (fun z4 ez4 => ?_)
  have h := nd_at h ez4
  refine lv_istore_n (lv' := [(3, .int z4), (2, .int z1), (0, .ref (a 0)), (1, .int v0)]) hx hb dJ5_append_c97b9_11 rfl hl (by decide) rfl (fun ls hl => ?_)
  refine lv_aload_n hx hb dJ5_append_c97b9_12 rfl (lv_at hl 2 rfl) ?_
  refine lv_iload_n hx hb dJ5_append_c97b9_13 rfl (lv_at hl 0 rfl) ?_
  obtain ⟨s5, hq, h⟩ := nd_b1_e h
  have hPc := hP
  have hDc := hD
  have hKc := hK
  have hFc := nd_rs hD hS hA
  obtain ⟨ds5, es5, ls5⟩ := um_J5_ensureCapacityInternal_d00df hq
  have ms5 : s5.2.1 ≤ r.2.1 := uM_le (by repeat (with_reducible (first | refine uM_ite ?_ ?_ | refine uM_let (α := Sb) ?_ | refine uM_lg (fun _ => ?_) | exact uM_none | exact uM_some rfl | exact uM_e (um_df_J5_append_c97b9_48 _ _ _) rfl | refine uM_c uc_J5_ensureCapacityInternal_d00df (fun _ => ?_) | refine uM_c uc_J5_append_cf1ce (fun _ => ?_) | refine uM_c uc_J5_append_3fe6f (fun _ => ?_) | refine uM_b1 (fun _ => ?_) | refine uM_b2 (fun _ _ => ?_) | refine uM_ck ?_ | refine uM_lt ?_))) h
  refine nd_gUv (E := nv_H dI) (As := [.int z4]) (rest := []) (w' := (fun (v : Nat) => dw_SB a ac v s5)) nv_Hs nv_Hc ⟨hx, hb, hml, hown, hts⟩ (fun sz => dm_J5_ensureCapacityInternal_d00df l hlt dC dI a ac vv0 n (z4) s0 hq es5 sz) (va_cwU 1 hts gi_dm_J5_append_c97b9_1 rfl rfl rfl rfl (by decide +kernel) ⟨Nat.le_of_ble_eq_true rfl, Nat.le_of_ble_eq_true rfl⟩) hPc hDc hKc hS hA hE (va_recv hKc hPc (ci := 1) (q0 := 0) rfl rfl) rfl hl.1 rfl (Nat.le_of_ble_eq_true rfl) dJ5_append_c97b9_14 (nd_uX hk es5 ms5 HR) (fun vs5 H locs hP1 hD1 hk1 hS => ?_)
  refine nd_w34 ?_
  have hP := hP1
  have hD := hD1.weaken (fun k q _ h => hFc q.1 h)
  generalize eks5 : kk0 + ds5 = ks5
  have hk := nd_uN hk es5 eks5
  have hm := ms5
  refine lv_aload_n hx hb dJ5_append_c97b9_17 rfl (lv_at hl 2 rfl) ?_
  obtain ⟨q8, s7, hq, h⟩ := nd_b2_e h
  have hPc : va_P (dC, dI) vwCl (dw_J4 (nd_bv (a 0) vs5 s5.1) ac s5.2.2) H := hP
  have hDc : va_D A (dw_J4 (nd_bv (a 0) vs5 s5.1) ac s5.2.2) := hD
  have hKc := hK
  have hFc := nd_rs hD hS hA
  refine nd_gUi (E := nv_E dI) (As := []) (rest := []) (q := q8) (w' := (fun (_ : Unit) => dw_J4 (nd_bv (a 0) vs5 s5.1) ac s7)) nv_same nv_call ⟨hx, hb, hml, hown, hts⟩ (fun sz => dm_J5_isLatin1_aae02 l hlt dC dI (nd_bv (a 0) vs5 s5.1) ac n  s5.2.2 hq sz) (va_cwU 0 hts gi_dm_J5_append_c97b9_2 rfl rfl rfl rfl (by decide +kernel) ⟨Nat.le_of_ble_eq_true rfl, Nat.le_of_ble_eq_true rfl⟩) hPc hDc hKc hS hA hN (va_recv hKc hPc (ci := 1) (q0 := 0) rfl rfl) rfl hl.1 rfl (Nat.le_of_ble_eq_true rfl) dJ5_append_c97b9_18 (nd_uP hk hm HR) (fun _ H locs hP1 hD1 hk1 hS => ?_)
  have hP : va_P (dC, dI) vwCl (dw_SB a ac vs5 (s5.1, (s5.2.1, s7))) H := hP1
  have hD : va_D A (dw_SB a ac vs5 (s5.1, (s5.2.1, s7))) := hD1.weaken (fun k q _ h => hFc q.1 h)
  obtain ⟨s9, es9, h⟩ := nd_let_e h
  have hP : va_P (dC, dI) vwCl (dw_SB a ac vs5 s9) H := by rw [es9]; exact hP
  have hD : va_D A (dw_SB a ac vs5 s9) := by rw [es9]; exact hD
  have hk : s9.2.1 = u0 + ks5 := by rw [es9]; exact hk
  have hm : s9.2.1 ≤ r.2.1 := by rw [es9]; exact hm
  refine lv_if_eq (tgt := 37) hx hb dJ5_append_c97b9_21 (by decide) (fun c10 => ?_) (fun c10 => ?_)
  · have h := nd_pos h c10
    exact nomatch (show (none : Option (Sb)) = some r from h)
  · have h := nd_neg h c10
    refine lv_iload_n hx hb dJ5_append_c97b9_24 rfl (lv_at hl 3 rfl) ?_
    refine lv_iload_n hx hb dJ5_append_c97b9_25 rfl (lv_at hl 0 rfl) ?_
    refine lv_aload_n hx hb dJ5_append_c97b9_26 rfl (lv_at hl 2 rfl) ?_
    refine va_get (D := (dC, dI)) (ci := 1) (v := .ref vs5) (C := RJ4) (T := TJ4) (N := 4) hx hb hts hi_dm_J5_append_c97b9_J4 hown hK hP 0 rfl rfl 0 (by decide) (hts (.fieldLink RJ5 15 "java/lang/AbstractStringBuilder" "value" "[B") (List.mem_of_getElem? (i := 14) rfl)) (fun _ h9 => h9) rfl dJ5_append_c97b9_27 ?_
    obtain ⟨q12, s11, hq, h⟩ := nd_b2_e h
    have hPc := dp_vJ4_BYm_0 (a := (nd_bv (a 0) vs5 s9.1)) (ac := ac) (σ := s9.2.2) hP
    have hDc := dd_vJ4_BYm_0 (a := (nd_bv (a 0) vs5 s9.1)) (ac := ac) (σ := s9.2.2) hD
    have hKc := dy_vJ4_BYm_0 hK
    have hzA : ∀ q : Nat, H.size ≤ q → A q := fun q h => hA q (Nat.le_trans hS.1 h)
    refine nd_gSi (E := nv_H dI) (As := [.int v0, .int z4, .ref vs5]) (rest := []) (q := q12) (w' := (fun (_ : Unit) => dw_BYm (fun k => (nd_bv (a 0) vs5 s9.1) (nd_ix [1, 2] k)) (fun k => ac (nd_ix [1, 2] k)) s11)) nv_Hs nv_Hc ⟨hx, hb, hml, hown, hts⟩ (fun sz => dm_J6_getChars_ba4f3 l hlt dC dI (fun k => (nd_bv (a 0) vs5 s9.1) (nd_ix [1, 2] k)) (fun k => ac (nd_ix [1, 2] k)) n (v0) (z4) (pR nd_st0 0 (sR s9.2.2 0)) hq sz) (va_cwS 3 hts gi_dm_J5_append_c97b9_3 rfl rfl rfl (by decide +kernel) ⟨Nat.le_of_ble_eq_true rfl, Nat.le_of_ble_eq_true rfl⟩) hPc hDc hKc hS hA hE rfl hl.1 rfl (Nat.le_of_ble_eq_true rfl) dJ5_append_c97b9_30 (nd_uP hk hm HR) (fun _ H locs hP1 hD1 hk1 hS => ?_)
    obtain ⟨hP, hD⟩ := dn_vJ4_BYm_0 (a := (nd_bv (a 0) vs5 s9.1)) (ac := ac) (σ := s9.2.2) hP hD hzA hk1 hP1 hD1
    have hP : va_P (dC, dI) vwCl (dw_SB a ac vs5 (s9.1, (s9.2.1, (pR s9.2.2 0 (sR s11 0))))) H := hP
    have hD : va_D A (dw_SB a ac vs5 (s9.1, (s9.2.1, (pR s9.2.2 0 (sR s11 0))))) := hD
    obtain ⟨s13, es13, h⟩ := nd_let_e h
    have hP : va_P (dC, dI) vwCl (dw_SB a ac vs5 s13) H := by rw [es13]; exact hP
    have hD : va_D A (dw_SB a ac vs5 s13) := by rw [es13]; exact hD
    have hk : s13.2.1 = u0 + ks5 := by rw [es13]; exact hk
    have hm : s13.2.1 ≤ r.2.1 := by rw [es13]; exact hm
    refine lv_pop hx hb dJ5_append_c97b9_33 rfl ?_
    refine lv_goto (tgt := 48) hx hb dJ5_append_c97b9_34 (by decide) ?_
    exact (db_J5_append_c97b9_48 C HR K) (z4) s13 vs5 ks5 _ _ _ hk hm h hP hD hS (lv_sub hl [2, 0] rfl)
set_option maxHeartbeats 40000000 in
set_option maxRecDepth 100000 in
theorem dm_J5_append_c97b9 (l : Launch) (hlt : l.stackTraces = false) (dC : Nat → ClassId) (dI : Nat → Nat → Nat) (a : Nat → Nat) (ac : Nat → ClassId) (vv0 : Nat) (n : Nat) (v0 : Int32) (s0 : Sb) {r : Sb} (h : df_J5_append_c97b9 n v0 s0 = some r) {dd : Nat} (hd : r.2.1 = s0.2.1 + dd) (sz : Nat) : Met l yJ5_append_c97b9 ow_dm_J5_append_c97b9 ({ frames := 5, cells := dd, slots := 34 * dd, locals := 142 }) (va_Pc [.ref (a 0), .int v0] (fun U => U.heap.size = sz ∧ va_P (dC, dI) vwCl (dw_SB a ac vv0 s0) U.heap ∧ va_K (dC, dI) vwCl (dk_J4 ac) U ∧ va_D (fun _ => True) (dw_SB a ac vv0 s0) ∧ nv_H dI (va_A (dw_SB a ac vv0 s0) sz) U)) (va_Qr (fun (_ : Nat) => True) (fun (v : Nat) _ t => va_P (dC, dI) vwCl (dw_SB a ac v r) t.heap ∧ va_K (dC, dI) vwCl (dk_J4 ac) t ∧ va_D (va_A (dw_SB a ac vv0 s0) sz) (dw_SB a ac v r)) (va_A (dw_SB a ac vv0 s0) sz)) dd (34 * dd) (va_A (dw_SB a ac vv0 s0) sz) := by
  refine Met.ofW (cc := cJ5_append_c97b9) (maxL := 4) (ret := (some (.object "java/lang/AbstractStringBuilder"))) (by decide) rfl ?_
  intro p e s m args below meth c s₁ B hml hv
  obtain ⟨rfl, hsz, hP, hK, hD0, hE⟩ := hv
  have hx := B.exec
  have hb := B.bytes
  have hr := B.returns
  have hts := atoms_spec (ws := ow_dm_J5_append_c97b9) B.pre
  have hown : s.vm.findClass RJ5 = some m.cls := findClass_of_methodNamed B.named
  have hlocks := B.notSynchronized
  subst hsz
  have hD := hD0.self (sz := s.heap.size)
  generalize hAe : va_A (dw_SB a ac vv0 s0) s.heap.size = A at hD hE ⊢
  have hA : ∀ q : Nat, s.heap.size ≤ q → A q := fun q h => by rw [← hAe]; exact Or.inr h
  have hl := lv_entry ([.ref (a 0), .int v0]) (n := 4) (Nat.le_of_ble_eq_true rfl)
  rw [lg_entry_eq]
  generalize (lg_sl ([.ref (a 0), .int v0]) ++ List.replicate (4 - (lg_sl ([.ref (a 0), .int v0])).length) Slot.unset).toArray = ls at hl ⊢
  have hl : lv_has ls 4 [(0, .ref (a 0)), (1, .int v0)] := hl
  exact db_J5_append_c97b9_0 (dC := dC) (dI := dI) (a := a) (ac := ac) (u0 := s0.2.1) (n := n) (r := r) ⟨hlt, hx, hb, hml, hown, hts, hE, hA, hK⟩ (Nat.le_of_eq hd) (fun pc x τ v k H locs ls d hk er hP hD hS => by subst er; obtain ⟨z1, z2⟩ : k ≤ dd ∧ 34 * k ≤ 34 * dd := nd_uK hk hd; refine W.widen (k := dd) (n := 34 * dd) z1 z2 ?_; exact W.aret (v := .ref x) hx hb hr (by first | exact Or.inl ⟨_, rfl⟩ | exact Or.inr ⟨_, rfl⟩) (va_rf_or (some x)) (fun t ht hW => ⟨⟨v, x, rfl, trivial, by rw [ht]; exact hP, va_K.moved hW.alike hK, hD⟩, hS.F ht⟩) hS.2.2 d) v0 s0 vv0 0 _ _ _ rfl (hd ▸ Nat.le_add_right _ _) h hP hD va_S.rf (lv_sub hl [0, 1] rfl)
def ow_dm_J4_append_15ec4 : List Cond := Cond.code yJ4_append_15ec4 cJ4_append_15ec4 2 (some (.object "java/lang/StringBuilder")) :: ([Cond.methodLink RJ4 29 yJ5_append_cf1ce, .sameMethod "java/lang/AbstractStringBuilder" "java/lang/AbstractStringBuilder" "append" "(Ljava/lang/String;)Ljava/lang/AbstractStringBuilder;", .superclass RJ4 RJ5, Cond.instanceMethod yJ5_append_cf1ce, Cond.initialized RJ5] ++ (ow_dm_J5_append_cf1ce ++ []))
theorem gd_dm_J4_append_15ec4 : ∀ w ∈ ow_dm_J4_append_15ec4, (w.onTables && w.keeps) = true ∨ ∃ ty, w = Cond.arrayClass ty := List.forall_mem_cons.mpr ⟨good_of_word rfl, List.forall_mem_append.mpr ⟨fun w h => good_of_word (List.all_eq_true.mp (by decide +kernel) w h), List.forall_mem_append.mpr ⟨gd_dm_J5_append_cf1ce, fun _ h => nomatch h⟩⟩⟩
theorem gi_dm_J4_append_15ec4_0 : GoodIn ow_dm_J4_append_15ec4 (va_wsSU RJ4 29 yJ5_append_cf1ce ow_dm_J5_append_cf1ce) := goodIn_app (goodIn_of _ (by decide +kernel)) (fun w h => ⟨List.mem_cons_of_mem _ (List.mem_append_right _ (List.mem_append_left _ h)), gd_dm_J5_append_cf1ce w h⟩)
def dj_J4_append_15ec4_0 (p : Program) (l : Launch) (e : Env) (s : State) (m : MethodId) (args : Array Value) (below : List Frame) (meth : Method) (c : Code) (Q : State → Prop) (A : Nat → Prop) (dC : Nat → ClassId) (dI : Nat → Nat → Nat) (a : Nat → Nat) (ac : Nat → ClassId) (u0 dd : Nat) (g : Nat → (Sb) → Option (Sb)) (r : Sb) : Prop := ∀ (v0 : Nat) (s0 : Sb) (vv0 kk0 : Nat) (H : Heap) (locs : List Loc) (ls : Array Slot), s0.2.1 = u0 + kk0 → s0.2.1 ≤ r.2.1 → g v0 s0 = some r → va_P (dC, dI) vwCl (dw_SB a ac vv0 s0) H → va_D A (dw_SB a ac vv0 s0) → va_S A s.heap H locs → lv_has ls 2 [(0, .ref (a 0)), (1, .ref (dI 1000 v0))] → W p l e (headSpec ow_dm_J4_append_15ec4 ({ frames := 6, cells := dd, slots := 34 * dd, locals := 164 })).room s m args below meth c H locs kk0 (34 * kk0) Q (F0 m 0 ls [])
set_option maxHeartbeats 40000000 in
set_option maxRecDepth 100000 in
theorem db_J4_append_15ec4_0 {p : Program} {l : Launch} {e : Env} {s : State} {m : MethodId} {args : Array Value} {below : List Frame} {meth : Method} {c : Code} {Q : State → Prop} {A : Nat → Prop} {dC : Nat → ClassId} {dI : Nat → Nat → Nat} {a : Nat → Nat} {ac : Nat → ClassId} {u0 dd : Nat} {n : Nat} {r : Sb} (C : nd_CH p l s m args c A (dC, dI) cJ4_append_15ec4 2 RJ4 ow_dm_J4_append_15ec4 (dk_J4 ac)) (HR : r.2.1 ≤ u0 + dd) (K : nd_Sr p l e (headSpec ow_dm_J4_append_15ec4 ({ frames := 6, cells := dd, slots := 34 * dd, locals := 164 })).room s m args below meth c Q A (dC, dI) cJ4_append_15ec4 (dw_SB a ac) u0 r) : dj_J4_append_15ec4_0 p l e s m args below meth c Q A dC dI a ac u0 dd (df_J4_append_15ec4_0 n) r := by
  obtain ⟨hlt, hx, hb, hml, hown, hts, hE, hA, hK⟩ := id C
  have hN := hE.1
  intro v0 s0 vv0 kk0 H locs ls hk hm h hP hD hS hl
  unfold df_J4_append_15ec4_0 at h
  refine lv_aload_n hx hb dJ4_append_15ec4_0 rfl (lv_at hl 0 rfl) ?_
  refine lv_aload_n hx hb dJ4_append_15ec4_1 rfl (lv_at hl 1 rfl) ?_
  obtain ⟨s1, hq, h⟩ := nd_b1_e h
  have hPc := hP
  have hDc := hD
  have hKc := hK
  have hFc := nd_rs hD hS hA
  obtain ⟨ds1, es1, ls1⟩ := um_J5_append_cf1ce hq
  have ms1 : s1.2.1 ≤ r.2.1 := uM_le (by repeat (with_reducible (first | refine uM_ite ?_ ?_ | refine uM_let (α := Sb) ?_ | refine uM_lg (fun _ => ?_) | exact uM_none | exact uM_some rfl | refine uM_c uc_J5_ensureCapacityInternal_d00df (fun _ => ?_) | refine uM_c uc_J5_append_cf1ce (fun _ => ?_) | refine uM_c uc_J5_append_3fe6f (fun _ => ?_) | refine uM_c uc_J5_append_c97b9 (fun _ => ?_) | refine uM_b1 (fun _ => ?_) | refine uM_b2 (fun _ _ => ?_) | refine uM_ck ?_ | refine uM_lt ?_))) h
  refine nd_gWr (E := nv_H dI) (As := [.ref (dI 1000 v0)]) (rest := []) (w' := (fun (v : Nat) => dw_SB a ac v s1)) nv_Hs nv_Hc ((hK.1 1 _ rfl).2) ⟨hx, hb, hml, hown, hts⟩ (fun sz => dm_J5_append_cf1ce l hlt dC dI a ac vv0 n (v0) s0 hq es1 sz) (va_cwSU 1 hts gi_dm_J4_append_15ec4_0 rfl rfl rfl (by decide +kernel) ⟨Nat.le_of_ble_eq_true rfl, Nat.le_of_ble_eq_true rfl⟩) hPc hDc hKc hS hA hE (va_recv hKc hPc (ci := 1) (q0 := 0) rfl rfl) rfl hl.1 rfl (Nat.le_of_ble_eq_true rfl) dJ4_append_15ec4_2 (nd_uX hk es1 ms1 HR) (fun vs1 xs1 H locs hP1 hD1 hk1 hS => ?_)
  refine nd_w34 ?_
  have hP := hP1
  have hD := hD1.weaken (fun k q _ h => hFc q.1 h)
  generalize eks1 : kk0 + ds1 = ks1
  have hk := nd_uN hk es1 eks1
  have hm := ms1
  refine lv_pop hx hb dJ4_append_15ec4_5 rfl ?_
  refine lv_aload_n hx hb dJ4_append_15ec4_6 rfl (lv_at hl 0 rfl) ?_
  exact K _ _ _ _ _ _ _ _ dJ4_append_15ec4_7 hk (Option.some.inj h).symm hP hD hS
set_option maxHeartbeats 40000000 in
set_option maxRecDepth 100000 in
theorem dm_J4_append_15ec4 (l : Launch) (hlt : l.stackTraces = false) (dC : Nat → ClassId) (dI : Nat → Nat → Nat) (a : Nat → Nat) (ac : Nat → ClassId) (vv0 : Nat) (n : Nat) (v0 : Nat) (s0 : Sb) {r : Sb} (h : df_J4_append_15ec4 n v0 s0 = some r) {dd : Nat} (hd : r.2.1 = s0.2.1 + dd) (sz : Nat) : Met l yJ4_append_15ec4 ow_dm_J4_append_15ec4 ({ frames := 6, cells := dd, slots := 34 * dd, locals := 164 }) (va_Pc [.ref (a 0), .ref (dI 1000 v0)] (fun U => U.heap.size = sz ∧ va_P (dC, dI) vwCl (dw_SB a ac vv0 s0) U.heap ∧ va_K (dC, dI) vwCl (dk_J4 ac) U ∧ va_D (fun _ => True) (dw_SB a ac vv0 s0) ∧ nv_H dI (va_A (dw_SB a ac vv0 s0) sz) U)) (va_Qr (fun (_ : Nat) => True) (fun (v : Nat) _ t => va_P (dC, dI) vwCl (dw_SB a ac v r) t.heap ∧ va_K (dC, dI) vwCl (dk_J4 ac) t ∧ va_D (va_A (dw_SB a ac vv0 s0) sz) (dw_SB a ac v r)) (va_A (dw_SB a ac vv0 s0) sz)) dd (34 * dd) (va_A (dw_SB a ac vv0 s0) sz) := by
  refine Met.ofW (cc := cJ4_append_15ec4) (maxL := 2) (ret := (some (.object "java/lang/StringBuilder"))) (by decide) rfl ?_
  intro p e s m args below meth c s₁ B hml hv
  obtain ⟨rfl, hsz, hP, hK, hD0, hE⟩ := hv
  have hx := B.exec
  have hb := B.bytes
  have hr := B.returns
  have hts := atoms_spec (ws := ow_dm_J4_append_15ec4) B.pre
  have hown : s.vm.findClass RJ4 = some m.cls := findClass_of_methodNamed B.named
  have hlocks := B.notSynchronized
  subst hsz
  have hD := hD0.self (sz := s.heap.size)
  generalize hAe : va_A (dw_SB a ac vv0 s0) s.heap.size = A at hD hE ⊢
  have hA : ∀ q : Nat, s.heap.size ≤ q → A q := fun q h => by rw [← hAe]; exact Or.inr h
  have hl := lv_entry ([.ref (a 0), .ref (dI 1000 v0)]) (n := 2) (Nat.le_of_ble_eq_true rfl)
  rw [lg_entry_eq]
  generalize (lg_sl ([.ref (a 0), .ref (dI 1000 v0)]) ++ List.replicate (2 - (lg_sl ([.ref (a 0), .ref (dI 1000 v0)])).length) Slot.unset).toArray = ls at hl ⊢
  have hl : lv_has ls 2 [(0, .ref (a 0)), (1, .ref (dI 1000 v0))] := hl
  exact db_J4_append_15ec4_0 (dC := dC) (dI := dI) (a := a) (ac := ac) (u0 := s0.2.1) (n := n) (r := r) ⟨hlt, hx, hb, hml, hown, hts, hE, hA, hK⟩ (Nat.le_of_eq hd) (fun pc x τ v k H locs ls d hk er hP hD hS => by subst er; obtain ⟨z1, z2⟩ : k ≤ dd ∧ 34 * k ≤ 34 * dd := nd_uK hk hd; refine W.widen (k := dd) (n := 34 * dd) z1 z2 ?_; exact W.aret (v := .ref x) hx hb hr (by first | exact Or.inl ⟨_, rfl⟩ | exact Or.inr ⟨_, rfl⟩) (va_rf_or (some x)) (fun t ht hW => ⟨⟨v, x, rfl, trivial, by rw [ht]; exact hP, va_K.moved hW.alike hK, hD⟩, hS.F ht⟩) hS.2.2 d) v0 s0 vv0 0 _ _ _ rfl (hd ▸ Nat.le_add_right _ _) h hP hD va_S.rf (lv_sub hl [0, 1] rfl)
def ow_dm_J4_append_cf468 : List Cond := Cond.code yJ4_append_cf468 cJ4_append_cf468 2 (some (.object "java/lang/StringBuilder")) :: ([Cond.methodLink RJ4 50 yJ5_append_3fe6f, .sameMethod "java/lang/AbstractStringBuilder" "java/lang/AbstractStringBuilder" "append" "(C)Ljava/lang/AbstractStringBuilder;", .superclass RJ4 RJ5, Cond.instanceMethod yJ5_append_3fe6f, Cond.initialized RJ5] ++ (ow_dm_J5_append_3fe6f ++ []))
theorem gd_dm_J4_append_cf468 : ∀ w ∈ ow_dm_J4_append_cf468, (w.onTables && w.keeps) = true ∨ ∃ ty, w = Cond.arrayClass ty := List.forall_mem_cons.mpr ⟨good_of_word rfl, List.forall_mem_append.mpr ⟨fun w h => good_of_word (List.all_eq_true.mp (by decide +kernel) w h), List.forall_mem_append.mpr ⟨gd_dm_J5_append_3fe6f, fun _ h => nomatch h⟩⟩⟩
theorem gi_dm_J4_append_cf468_0 : GoodIn ow_dm_J4_append_cf468 (va_wsSU RJ4 50 yJ5_append_3fe6f ow_dm_J5_append_3fe6f) := goodIn_app (goodIn_of _ (by decide +kernel)) (fun w h => ⟨List.mem_cons_of_mem _ (List.mem_append_right _ (List.mem_append_left _ h)), gd_dm_J5_append_3fe6f w h⟩)
def dj_J4_append_cf468_0 (p : Program) (l : Launch) (e : Env) (s : State) (m : MethodId) (args : Array Value) (below : List Frame) (meth : Method) (c : Code) (Q : State → Prop) (A : Nat → Prop) (dC : Nat → ClassId) (dI : Nat → Nat → Nat) (a : Nat → Nat) (ac : Nat → ClassId) (u0 dd : Nat) (g : Int32 → (Sb) → Option (Sb)) (r : Sb) : Prop := ∀ (v0 : Int32) (s0 : Sb) (vv0 kk0 : Nat) (H : Heap) (locs : List Loc) (ls : Array Slot), s0.2.1 = u0 + kk0 → s0.2.1 ≤ r.2.1 → g v0 s0 = some r → va_P (dC, dI) vwCl (dw_SB a ac vv0 s0) H → va_D A (dw_SB a ac vv0 s0) → va_S A s.heap H locs → lv_has ls 2 [(0, .ref (a 0)), (1, .int v0)] → W p l e (headSpec ow_dm_J4_append_cf468 ({ frames := 6, cells := dd, slots := 34 * dd, locals := 163 })).room s m args below meth c H locs kk0 (34 * kk0) Q (F0 m 0 ls [])
set_option maxHeartbeats 40000000 in
set_option maxRecDepth 100000 in
theorem db_J4_append_cf468_0 {p : Program} {l : Launch} {e : Env} {s : State} {m : MethodId} {args : Array Value} {below : List Frame} {meth : Method} {c : Code} {Q : State → Prop} {A : Nat → Prop} {dC : Nat → ClassId} {dI : Nat → Nat → Nat} {a : Nat → Nat} {ac : Nat → ClassId} {u0 dd : Nat} {n : Nat} {r : Sb} (C : nd_CH p l s m args c A (dC, dI) cJ4_append_cf468 2 RJ4 ow_dm_J4_append_cf468 (dk_J4 ac)) (HR : r.2.1 ≤ u0 + dd) (K : nd_Sr p l e (headSpec ow_dm_J4_append_cf468 ({ frames := 6, cells := dd, slots := 34 * dd, locals := 163 })).room s m args below meth c Q A (dC, dI) cJ4_append_cf468 (dw_SB a ac) u0 r) : dj_J4_append_cf468_0 p l e s m args below meth c Q A dC dI a ac u0 dd (df_J4_append_cf468_0 n) r := by
  obtain ⟨hlt, hx, hb, hml, hown, hts, hE, hA, hK⟩ := id C
  have hN := hE.1
  intro v0 s0 vv0 kk0 H locs ls hk hm h hP hD hS hl
  unfold df_J4_append_cf468_0 at h
  refine lv_aload_n hx hb dJ4_append_cf468_0 rfl (lv_at hl 0 rfl) ?_
  refine lv_iload_n hx hb dJ4_append_cf468_1 rfl (lv_at hl 1 rfl) ?_
  obtain ⟨s1, hq, h⟩ := nd_b1_e h
  have hPc := hP
  have hDc := hD
  have hKc := hK
  have hFc := nd_rs hD hS hA
  obtain ⟨ds1, es1, ls1⟩ := um_J5_append_3fe6f hq
  have ms1 : s1.2.1 ≤ r.2.1 := uM_le (by repeat (with_reducible (first | refine uM_ite ?_ ?_ | refine uM_let (α := Sb) ?_ | refine uM_lg (fun _ => ?_) | exact uM_none | exact uM_some rfl | refine uM_c uc_J5_ensureCapacityInternal_d00df (fun _ => ?_) | refine uM_c uc_J5_append_cf1ce (fun _ => ?_) | refine uM_c uc_J5_append_3fe6f (fun _ => ?_) | refine uM_c uc_J5_append_c97b9 (fun _ => ?_) | refine uM_c uc_J4_append_15ec4 (fun _ => ?_) | refine uM_b1 (fun _ => ?_) | refine uM_b2 (fun _ _ => ?_) | refine uM_ck ?_ | refine uM_lt ?_))) h
  refine nd_gWr (E := nv_H dI) (As := [.int v0]) (rest := []) (w' := (fun (v : Nat) => dw_SB a ac v s1)) nv_Hs nv_Hc ((hK.1 1 _ rfl).2) ⟨hx, hb, hml, hown, hts⟩ (fun sz => dm_J5_append_3fe6f l hlt dC dI a ac vv0 n (v0) s0 hq es1 sz) (va_cwSU 1 hts gi_dm_J4_append_cf468_0 rfl rfl rfl (by decide +kernel) ⟨Nat.le_of_ble_eq_true rfl, Nat.le_of_ble_eq_true rfl⟩) hPc hDc hKc hS hA hE (va_recv hKc hPc (ci := 1) (q0 := 0) rfl rfl) rfl hl.1 rfl (Nat.le_of_ble_eq_true rfl) dJ4_append_cf468_2 (nd_uX hk es1 ms1 HR) (fun vs1 xs1 H locs hP1 hD1 hk1 hS => ?_)
  refine nd_w34 ?_
  have hP := hP1
  have hD := hD1.weaken (fun k q _ h => hFc q.1 h)
  generalize eks1 : kk0 + ds1 = ks1
  have hk := nd_uN hk es1 eks1
  have hm := ms1
  refine lv_pop hx hb dJ4_append_cf468_5 rfl ?_
  refine lv_aload_n hx hb dJ4_append_cf468_6 rfl (lv_at hl 0 rfl) ?_
  exact K _ _ _ _ _ _ _ _ dJ4_append_cf468_7 hk (Option.some.inj h).symm hP hD hS
set_option maxHeartbeats 40000000 in
set_option maxRecDepth 100000 in
theorem dm_J4_append_cf468 (l : Launch) (hlt : l.stackTraces = false) (dC : Nat → ClassId) (dI : Nat → Nat → Nat) (a : Nat → Nat) (ac : Nat → ClassId) (vv0 : Nat) (n : Nat) (v0 : Int32) (s0 : Sb) {r : Sb} (h : df_J4_append_cf468 n v0 s0 = some r) {dd : Nat} (hd : r.2.1 = s0.2.1 + dd) (sz : Nat) : Met l yJ4_append_cf468 ow_dm_J4_append_cf468 ({ frames := 6, cells := dd, slots := 34 * dd, locals := 163 }) (va_Pc [.ref (a 0), .int v0] (fun U => U.heap.size = sz ∧ va_P (dC, dI) vwCl (dw_SB a ac vv0 s0) U.heap ∧ va_K (dC, dI) vwCl (dk_J4 ac) U ∧ va_D (fun _ => True) (dw_SB a ac vv0 s0) ∧ nv_H dI (va_A (dw_SB a ac vv0 s0) sz) U)) (va_Qr (fun (_ : Nat) => True) (fun (v : Nat) _ t => va_P (dC, dI) vwCl (dw_SB a ac v r) t.heap ∧ va_K (dC, dI) vwCl (dk_J4 ac) t ∧ va_D (va_A (dw_SB a ac vv0 s0) sz) (dw_SB a ac v r)) (va_A (dw_SB a ac vv0 s0) sz)) dd (34 * dd) (va_A (dw_SB a ac vv0 s0) sz) := by
  refine Met.ofW (cc := cJ4_append_cf468) (maxL := 2) (ret := (some (.object "java/lang/StringBuilder"))) (by decide) rfl ?_
  intro p e s m args below meth c s₁ B hml hv
  obtain ⟨rfl, hsz, hP, hK, hD0, hE⟩ := hv
  have hx := B.exec
  have hb := B.bytes
  have hr := B.returns
  have hts := atoms_spec (ws := ow_dm_J4_append_cf468) B.pre
  have hown : s.vm.findClass RJ4 = some m.cls := findClass_of_methodNamed B.named
  have hlocks := B.notSynchronized
  subst hsz
  have hD := hD0.self (sz := s.heap.size)
  generalize hAe : va_A (dw_SB a ac vv0 s0) s.heap.size = A at hD hE ⊢
  have hA : ∀ q : Nat, s.heap.size ≤ q → A q := fun q h => by rw [← hAe]; exact Or.inr h
  have hl := lv_entry ([.ref (a 0), .int v0]) (n := 2) (Nat.le_of_ble_eq_true rfl)
  rw [lg_entry_eq]
  generalize (lg_sl ([.ref (a 0), .int v0]) ++ List.replicate (2 - (lg_sl ([.ref (a 0), .int v0])).length) Slot.unset).toArray = ls at hl ⊢
  have hl : lv_has ls 2 [(0, .ref (a 0)), (1, .int v0)] := hl
  exact db_J4_append_cf468_0 (dC := dC) (dI := dI) (a := a) (ac := ac) (u0 := s0.2.1) (n := n) (r := r) ⟨hlt, hx, hb, hml, hown, hts, hE, hA, hK⟩ (Nat.le_of_eq hd) (fun pc x τ v k H locs ls d hk er hP hD hS => by subst er; obtain ⟨z1, z2⟩ : k ≤ dd ∧ 34 * k ≤ 34 * dd := nd_uK hk hd; refine W.widen (k := dd) (n := 34 * dd) z1 z2 ?_; exact W.aret (v := .ref x) hx hb hr (by first | exact Or.inl ⟨_, rfl⟩ | exact Or.inr ⟨_, rfl⟩) (va_rf_or (some x)) (fun t ht hW => ⟨⟨v, x, rfl, trivial, by rw [ht]; exact hP, va_K.moved hW.alike hK, hD⟩, hS.F ht⟩) hS.2.2 d) v0 s0 vv0 0 _ _ _ rfl (hd ▸ Nat.le_add_right _ _) h hP hD va_S.rf (lv_sub hl [0, 1] rfl)
def ow_dm_J4_append_bf812 : List Cond := Cond.code yJ4_append_bf812 cJ4_append_bf812 2 (some (.object "java/lang/StringBuilder")) :: ([Cond.methodLink RJ4 53 yJ5_append_c97b9, .sameMethod "java/lang/AbstractStringBuilder" "java/lang/AbstractStringBuilder" "append" "(I)Ljava/lang/AbstractStringBuilder;", .superclass RJ4 RJ5, Cond.instanceMethod yJ5_append_c97b9, Cond.initialized RJ5] ++ (ow_dm_J5_append_c97b9 ++ []))
theorem gd_dm_J4_append_bf812 : ∀ w ∈ ow_dm_J4_append_bf812, (w.onTables && w.keeps) = true ∨ ∃ ty, w = Cond.arrayClass ty := List.forall_mem_cons.mpr ⟨good_of_word rfl, List.forall_mem_append.mpr ⟨fun w h => good_of_word (List.all_eq_true.mp (by decide +kernel) w h), List.forall_mem_append.mpr ⟨gd_dm_J5_append_c97b9, fun _ h => nomatch h⟩⟩⟩
theorem gi_dm_J4_append_bf812_0 : GoodIn ow_dm_J4_append_bf812 (va_wsSU RJ4 53 yJ5_append_c97b9 ow_dm_J5_append_c97b9) := goodIn_app (goodIn_of _ (by decide +kernel)) (fun w h => ⟨List.mem_cons_of_mem _ (List.mem_append_right _ (List.mem_append_left _ h)), gd_dm_J5_append_c97b9 w h⟩)
def dj_J4_append_bf812_0 (p : Program) (l : Launch) (e : Env) (s : State) (m : MethodId) (args : Array Value) (below : List Frame) (meth : Method) (c : Code) (Q : State → Prop) (A : Nat → Prop) (dC : Nat → ClassId) (dI : Nat → Nat → Nat) (a : Nat → Nat) (ac : Nat → ClassId) (u0 dd : Nat) (g : Int32 → (Sb) → Option (Sb)) (r : Sb) : Prop := ∀ (v0 : Int32) (s0 : Sb) (vv0 kk0 : Nat) (H : Heap) (locs : List Loc) (ls : Array Slot), s0.2.1 = u0 + kk0 → s0.2.1 ≤ r.2.1 → g v0 s0 = some r → va_P (dC, dI) vwCl (dw_SB a ac vv0 s0) H → va_D A (dw_SB a ac vv0 s0) → va_S A s.heap H locs → lv_has ls 2 [(0, .ref (a 0)), (1, .int v0)] → W p l e (headSpec ow_dm_J4_append_bf812 ({ frames := 6, cells := dd, slots := 34 * dd, locals := 165 })).room s m args below meth c H locs kk0 (34 * kk0) Q (F0 m 0 ls [])
set_option maxHeartbeats 40000000 in
set_option maxRecDepth 100000 in
theorem db_J4_append_bf812_0 {p : Program} {l : Launch} {e : Env} {s : State} {m : MethodId} {args : Array Value} {below : List Frame} {meth : Method} {c : Code} {Q : State → Prop} {A : Nat → Prop} {dC : Nat → ClassId} {dI : Nat → Nat → Nat} {a : Nat → Nat} {ac : Nat → ClassId} {u0 dd : Nat} {n : Nat} {r : Sb} (C : nd_CH p l s m args c A (dC, dI) cJ4_append_bf812 2 RJ4 ow_dm_J4_append_bf812 (dk_J4 ac)) (HR : r.2.1 ≤ u0 + dd) (K : nd_Sr p l e (headSpec ow_dm_J4_append_bf812 ({ frames := 6, cells := dd, slots := 34 * dd, locals := 165 })).room s m args below meth c Q A (dC, dI) cJ4_append_bf812 (dw_SB a ac) u0 r) : dj_J4_append_bf812_0 p l e s m args below meth c Q A dC dI a ac u0 dd (df_J4_append_bf812_0 n) r := by
  obtain ⟨hlt, hx, hb, hml, hown, hts, hE, hA, hK⟩ := id C
  have hN := hE.1
  intro v0 s0 vv0 kk0 H locs ls hk hm h hP hD hS hl
  unfold df_J4_append_bf812_0 at h
  refine lv_aload_n hx hb dJ4_append_bf812_0 rfl (lv_at hl 0 rfl) ?_
  refine lv_iload_n hx hb dJ4_append_bf812_1 rfl (lv_at hl 1 rfl) ?_
  obtain ⟨s1, hq, h⟩ := nd_b1_e h
  have hPc := hP
  have hDc := hD
  have hKc := hK
  have hFc := nd_rs hD hS hA
  obtain ⟨ds1, es1, ls1⟩ := um_J5_append_c97b9 hq
  have ms1 : s1.2.1 ≤ r.2.1 := uM_le (by repeat (with_reducible (first | refine uM_ite ?_ ?_ | refine uM_let (α := Sb) ?_ | refine uM_lg (fun _ => ?_) | exact uM_none | exact uM_some rfl | refine uM_c uc_J5_ensureCapacityInternal_d00df (fun _ => ?_) | refine uM_c uc_J5_append_cf1ce (fun _ => ?_) | refine uM_c uc_J5_append_3fe6f (fun _ => ?_) | refine uM_c uc_J5_append_c97b9 (fun _ => ?_) | refine uM_c uc_J4_append_15ec4 (fun _ => ?_) | refine uM_c uc_J4_append_cf468 (fun _ => ?_) | refine uM_b1 (fun _ => ?_) | refine uM_b2 (fun _ _ => ?_) | refine uM_ck ?_ | refine uM_lt ?_))) h
  refine nd_gWr (E := nv_H dI) (As := [.int v0]) (rest := []) (w' := (fun (v : Nat) => dw_SB a ac v s1)) nv_Hs nv_Hc ((hK.1 1 _ rfl).2) ⟨hx, hb, hml, hown, hts⟩ (fun sz => dm_J5_append_c97b9 l hlt dC dI a ac vv0 n (v0) s0 hq es1 sz) (va_cwSU 1 hts gi_dm_J4_append_bf812_0 rfl rfl rfl (by decide +kernel) ⟨Nat.le_of_ble_eq_true rfl, Nat.le_of_ble_eq_true rfl⟩) hPc hDc hKc hS hA hE (va_recv hKc hPc (ci := 1) (q0 := 0) rfl rfl) rfl hl.1 rfl (Nat.le_of_ble_eq_true rfl) dJ4_append_bf812_2 (nd_uX hk es1 ms1 HR) (fun vs1 xs1 H locs hP1 hD1 hk1 hS => ?_)
  refine nd_w34 ?_
  have hP := hP1
  have hD := hD1.weaken (fun k q _ h => hFc q.1 h)
  generalize eks1 : kk0 + ds1 = ks1
  have hk := nd_uN hk es1 eks1
  have hm := ms1
  refine lv_pop hx hb dJ4_append_bf812_5 rfl ?_
  refine lv_aload_n hx hb dJ4_append_bf812_6 rfl (lv_at hl 0 rfl) ?_
  exact K _ _ _ _ _ _ _ _ dJ4_append_bf812_7 hk (Option.some.inj h).symm hP hD hS
set_option maxHeartbeats 40000000 in
set_option maxRecDepth 100000 in
theorem dm_J4_append_bf812 (l : Launch) (hlt : l.stackTraces = false) (dC : Nat → ClassId) (dI : Nat → Nat → Nat) (a : Nat → Nat) (ac : Nat → ClassId) (vv0 : Nat) (n : Nat) (v0 : Int32) (s0 : Sb) {r : Sb} (h : df_J4_append_bf812 n v0 s0 = some r) {dd : Nat} (hd : r.2.1 = s0.2.1 + dd) (sz : Nat) : Met l yJ4_append_bf812 ow_dm_J4_append_bf812 ({ frames := 6, cells := dd, slots := 34 * dd, locals := 165 }) (va_Pc [.ref (a 0), .int v0] (fun U => U.heap.size = sz ∧ va_P (dC, dI) vwCl (dw_SB a ac vv0 s0) U.heap ∧ va_K (dC, dI) vwCl (dk_J4 ac) U ∧ va_D (fun _ => True) (dw_SB a ac vv0 s0) ∧ nv_H dI (va_A (dw_SB a ac vv0 s0) sz) U)) (va_Qr (fun (_ : Nat) => True) (fun (v : Nat) _ t => va_P (dC, dI) vwCl (dw_SB a ac v r) t.heap ∧ va_K (dC, dI) vwCl (dk_J4 ac) t ∧ va_D (va_A (dw_SB a ac vv0 s0) sz) (dw_SB a ac v r)) (va_A (dw_SB a ac vv0 s0) sz)) dd (34 * dd) (va_A (dw_SB a ac vv0 s0) sz) := by
  refine Met.ofW (cc := cJ4_append_bf812) (maxL := 2) (ret := (some (.object "java/lang/StringBuilder"))) (by decide) rfl ?_
  intro p e s m args below meth c s₁ B hml hv
  obtain ⟨rfl, hsz, hP, hK, hD0, hE⟩ := hv
  have hx := B.exec
  have hb := B.bytes
  have hr := B.returns
  have hts := atoms_spec (ws := ow_dm_J4_append_bf812) B.pre
  have hown : s.vm.findClass RJ4 = some m.cls := findClass_of_methodNamed B.named
  have hlocks := B.notSynchronized
  subst hsz
  have hD := hD0.self (sz := s.heap.size)
  generalize hAe : va_A (dw_SB a ac vv0 s0) s.heap.size = A at hD hE ⊢
  have hA : ∀ q : Nat, s.heap.size ≤ q → A q := fun q h => by rw [← hAe]; exact Or.inr h
  have hl := lv_entry ([.ref (a 0), .int v0]) (n := 2) (Nat.le_of_ble_eq_true rfl)
  rw [lg_entry_eq]
  generalize (lg_sl ([.ref (a 0), .int v0]) ++ List.replicate (2 - (lg_sl ([.ref (a 0), .int v0])).length) Slot.unset).toArray = ls at hl ⊢
  have hl : lv_has ls 2 [(0, .ref (a 0)), (1, .int v0)] := hl
  exact db_J4_append_bf812_0 (dC := dC) (dI := dI) (a := a) (ac := ac) (u0 := s0.2.1) (n := n) (r := r) ⟨hlt, hx, hb, hml, hown, hts, hE, hA, hK⟩ (Nat.le_of_eq hd) (fun pc x τ v k H locs ls d hk er hP hD hS => by subst er; obtain ⟨z1, z2⟩ : k ≤ dd ∧ 34 * k ≤ 34 * dd := nd_uK hk hd; refine W.widen (k := dd) (n := 34 * dd) z1 z2 ?_; exact W.aret (v := .ref x) hx hb hr (by first | exact Or.inl ⟨_, rfl⟩ | exact Or.inr ⟨_, rfl⟩) (va_rf_or (some x)) (fun t ht hW => ⟨⟨v, x, rfl, trivial, by rw [ht]; exact hP, va_K.moved hW.alike hK, hD⟩, hS.F ht⟩) hS.2.2 d) v0 s0 vv0 0 _ _ _ rfl (hd ▸ Nat.le_add_right _ _) h hP hD va_S.rf (lv_sub hl [0, 1] rfl)

def ow_dm_X7_writeRegister : List Cond := Cond.code yX7_writeRegister cX7_writeRegister 4 none :: ([Cond.methodLink RX7 436 yJ0_charAt_5068e, Cond.instanceMethod yJ0_charAt_5068e, Cond.selects RJ0 yJ0_charAt_5068e yJ0_charAt_5068e, Cond.initialized RJ0, Cond.methodLink RX7 514 yJ4_append_cf468, Cond.instanceMethod yJ4_append_cf468, Cond.selects RJ4 yJ4_append_cf468 yJ4_append_cf468, Cond.initialized RJ4, Cond.methodLink RX7 496 yJ4_append_15ec4, Cond.instanceMethod yJ4_append_15ec4, Cond.selects RJ4 yJ4_append_15ec4 yJ4_append_15ec4] ++ (ow_dm_J0_charAt_5068e ++ (ow_dm_J4_append_cf468 ++ (ow_dm_J4_append_15ec4 ++ []))))
theorem gd_dm_X7_writeRegister : ∀ w ∈ ow_dm_X7_writeRegister, (w.onTables && w.keeps) = true ∨ ∃ ty, w = Cond.arrayClass ty := List.forall_mem_cons.mpr ⟨good_of_word rfl, List.forall_mem_append.mpr ⟨fun w h => good_of_word (List.all_eq_true.mp (by decide +kernel) w h), List.forall_mem_append.mpr ⟨gd_dm_J0_charAt_5068e, List.forall_mem_append.mpr ⟨gd_dm_J4_append_cf468, List.forall_mem_append.mpr ⟨gd_dm_J4_append_15ec4, fun _ h => nomatch h⟩⟩⟩⟩⟩
theorem gi_dm_X7_writeRegister_0 : GoodIn ow_dm_X7_writeRegister (wsV RX7 436 RJ0 yJ0_charAt_5068e ow_dm_J0_charAt_5068e) := goodIn_app (goodIn_of _ (by decide +kernel)) (fun w h => ⟨List.mem_cons_of_mem _ (List.mem_append_right _ (List.mem_append_left _ h)), gd_dm_J0_charAt_5068e w h⟩)
theorem gi_dm_X7_writeRegister_1 : GoodIn ow_dm_X7_writeRegister (wsV RX7 514 RJ4 yJ4_append_cf468 ow_dm_J4_append_cf468) := goodIn_app (goodIn_of _ (by decide +kernel)) (fun w h => ⟨List.mem_cons_of_mem _ (List.mem_append_right _ (List.mem_append_right _ (List.mem_append_left _ h))), gd_dm_J4_append_cf468 w h⟩)
theorem gi_dm_X7_writeRegister_2 : GoodIn ow_dm_X7_writeRegister (wsV RX7 496 RJ4 yJ4_append_15ec4 ow_dm_J4_append_15ec4) := goodIn_app (goodIn_of _ (by decide +kernel)) (fun w h => ⟨List.mem_cons_of_mem _ (List.mem_append_right _ (List.mem_append_right _ (List.mem_append_right _ (List.mem_append_left _ h)))), gd_dm_J4_append_15ec4 w h⟩)
def dj_X7_writeRegister_61 (p : Program) (l : Launch) (e : Env) (s : State) (m : MethodId) (args : Array Value) (below : List Frame) (meth : Method) (c : Code) (Q : State → Prop) (A : Nat → Prop) (dC : Nat → ClassId) (dI : Nat → Nat → Nat) (a : Nat → Nat) (ac : Nat → ClassId) (u0 dd : Nat) (g : (Sb) → Option (Sb)) (r : Sb) : Prop := ∀ (s0 : Sb) (vv0 kk0 : Nat) (H : Heap) (locs : List Loc) (ls : Array Slot), s0.2.1 = u0 + kk0 → s0.2.1 ≤ r.2.1 → g s0 = some r → va_P (dC, dI) vwCl (dw_SB a ac vv0 s0) H → va_D A (dw_SB a ac vv0 s0) → va_S A s.heap H locs → lv_has ls 4 [] → W p l e (headSpec ow_dm_X7_writeRegister ({ frames := 7, cells := dd, slots := 34 * dd, locals := 185 })).room s m args below meth c H locs kk0 (34 * kk0) Q (F0 m 61 ls [])
def dj_X7_writeRegister_55 (p : Program) (l : Launch) (e : Env) (s : State) (m : MethodId) (args : Array Value) (below : List Frame) (meth : Method) (c : Code) (Q : State → Prop) (A : Nat → Prop) (dC : Nat → ClassId) (dI : Nat → Nat → Nat) (a : Nat → Nat) (ac : Nat → ClassId) (u0 dd : Nat) (g : Int32 → Int32 → (Sb) → Option (Sb)) (r : Sb) : Prop := ∀ (x1 : Int32) (x2 : Int32) (s0 : Sb) (vv0 kk0 : Nat) (H : Heap) (locs : List Loc) (ls : Array Slot), s0.2.1 = u0 + kk0 → s0.2.1 ≤ r.2.1 → g x1 x2 s0 = some r → va_P (dC, dI) vwCl (dw_SB a ac vv0 s0) H → va_D A (dw_SB a ac vv0 s0) → va_S A s.heap H locs → lv_has ls 4 [(0, .ref (a 0)), (1, .int x1), (2, .int x2)] → W p l e (headSpec ow_dm_X7_writeRegister ({ frames := 7, cells := dd, slots := 34 * dd, locals := 185 })).room s m args below meth c H locs kk0 (34 * kk0) Q (F0 m 55 ls [])
def dj_X7_writeRegister_14 (p : Program) (l : Launch) (e : Env) (s : State) (m : MethodId) (args : Array Value) (below : List Frame) (meth : Method) (c : Code) (Q : State → Prop) (A : Nat → Prop) (dC : Nat → ClassId) (dI : Nat → Nat → Nat) (a : Nat → Nat) (ac : Nat → ClassId) (u0 dd : Nat) (g : Int32 → Int32 → (Sb) → Option (Sb)) (r : Sb) : Prop := ∀ (x1 : Int32) (x2 : Int32) (s0 : Sb) (vv0 kk0 : Nat) (H : Heap) (locs : List Loc) (ls : Array Slot), s0.2.1 = u0 + kk0 → s0.2.1 ≤ r.2.1 → g x1 x2 s0 = some r → va_P (dC, dI) vwCl (dw_SB a ac vv0 s0) H → va_D A (dw_SB a ac vv0 s0) → va_S A s.heap H locs → lv_has ls 4 [(0, .ref (a 0)), (1, .int x1), (2, .int x2)] → W p l e (headSpec ow_dm_X7_writeRegister ({ frames := 7, cells := dd, slots := 34 * dd, locals := 185 })).room s m args below meth c H locs kk0 (34 * kk0) Q (F0 m 14 ls [])
def dj_X7_writeRegister_12 (p : Program) (l : Launch) (e : Env) (s : State) (m : MethodId) (args : Array Value) (below : List Frame) (meth : Method) (c : Code) (Q : State → Prop) (A : Nat → Prop) (dC : Nat → ClassId) (dI : Nat → Nat → Nat) (a : Nat → Nat) (ac : Nat → ClassId) (u0 dd : Nat) (g : Int32 → (Sb) → Option (Sb)) (r : Sb) : Prop := ∀ (x1 : Int32) (s0 : Sb) (vv0 kk0 : Nat) (H : Heap) (locs : List Loc) (ls : Array Slot), s0.2.1 = u0 + kk0 → s0.2.1 ≤ r.2.1 → g x1 s0 = some r → va_P (dC, dI) vwCl (dw_SB a ac vv0 s0) H → va_D A (dw_SB a ac vv0 s0) → va_S A s.heap H locs → lv_has ls 4 [(0, .ref (a 0)), (1, .int x1)] → W p l e (headSpec ow_dm_X7_writeRegister ({ frames := 7, cells := dd, slots := 34 * dd, locals := 185 })).room s m args below meth c H locs kk0 (34 * kk0) Q (F0 m 12 ls [])
def dj_X7_writeRegister_0 (p : Program) (l : Launch) (e : Env) (s : State) (m : MethodId) (args : Array Value) (below : List Frame) (meth : Method) (c : Code) (Q : State → Prop) (A : Nat → Prop) (dC : Nat → ClassId) (dI : Nat → Nat → Nat) (a : Nat → Nat) (ac : Nat → ClassId) (u0 dd : Nat) (g : Int32 → (Sb) → Option (Sb)) (r : Sb) : Prop := ∀ (v1 : Int32) (s0 : Sb) (vv0 kk0 : Nat) (H : Heap) (locs : List Loc) (ls : Array Slot), s0.2.1 = u0 + kk0 → s0.2.1 ≤ r.2.1 → g v1 s0 = some r → va_P (dC, dI) vwCl (dw_SB a ac vv0 s0) H → va_D A (dw_SB a ac vv0 s0) → va_S A s.heap H locs → lv_has ls 4 [(0, .ref (a 0)), (1, .int v1)] → W p l e (headSpec ow_dm_X7_writeRegister ({ frames := 7, cells := dd, slots := 34 * dd, locals := 185 })).room s m args below meth c H locs kk0 (34 * kk0) Q (F0 m 0 ls [])
set_option maxHeartbeats 40000000 in
set_option maxRecDepth 100000 in
theorem db_X7_writeRegister_61 {p : Program} {l : Launch} {e : Env} {s : State} {m : MethodId} {args : Array Value} {below : List Frame} {meth : Method} {c : Code} {Q : State → Prop} {A : Nat → Prop} {dC : Nat → ClassId} {dI : Nat → Nat → Nat} {a : Nat → Nat} {ac : Nat → ClassId} {u0 dd : Nat} {n : Nat} {r : Sb} (C : nd_CH p l s m args c A (dC, dI) cX7_writeRegister 4 RX7 ow_dm_X7_writeRegister (dk_J4 ac)) (HR : r.2.1 ≤ u0 + dd) (K : nd_Sv p l e (headSpec ow_dm_X7_writeRegister ({ frames := 7, cells := dd, slots := 34 * dd, locals := 185 })).room s m args below meth c Q A (dC, dI) cX7_writeRegister (dw_SB a ac) u0 r) : dj_X7_writeRegister_61 p l e s m args below meth c Q A dC dI a ac u0 dd (df_X7_writeRegister_61 n) r := by
  obtain ⟨hlt, hx, hb, hml, hown, hts, hE, hA, hK⟩ := id C
  have hN := hE.1
  intro s0 vv0 kk0 H locs ls hk hm h hP hD hS hl
  unfold df_X7_writeRegister_61 at h
  exact K _ _ _ _ _ _ _ dX7_writeRegister_61 hk (Option.some.inj h).symm hP hD hS
set_option maxHeartbeats 40000000 in
set_option maxRecDepth 100000 in
theorem db_X7_writeRegister_55 {p : Program} {l : Launch} {e : Env} {s : State} {m : MethodId} {args : Array Value} {below : List Frame} {meth : Method} {c : Code} {Q : State → Prop} {A : Nat → Prop} {dC : Nat → ClassId} {dI : Nat → Nat → Nat} {a : Nat → Nat} {ac : Nat → ClassId} {u0 dd : Nat} {n : Nat} {r : Sb} (C : nd_CH p l s m args c A (dC, dI) cX7_writeRegister 4 RX7 ow_dm_X7_writeRegister (dk_J4 ac)) (HR : r.2.1 ≤ u0 + dd) (K : nd_Sv p l e (headSpec ow_dm_X7_writeRegister ({ frames := 7, cells := dd, slots := 34 * dd, locals := 185 })).room s m args below meth c Q A (dC, dI) cX7_writeRegister (dw_SB a ac) u0 r) {g14 : Int32 → Int32 → (Sb) → Option (Sb)} (J14 : dj_X7_writeRegister_14 p l e s m args below meth c Q A dC dI a ac u0 dd g14 r) (G14 : ∀ (y0 : Int32) (y1 : Int32) (s : Sb), uM s.2.1 (g14 y0 y1 s)) : dj_X7_writeRegister_55 p l e s m args below meth c Q A dC dI a ac u0 dd (df_X7_writeRegister_55 n g14) r := by
  obtain ⟨hlt, hx, hb, hml, hown, hts, hE, hA, hK⟩ := id C
  have hN := hE.1
  intro x1 x2 s0 vv0 kk0 H locs ls hk hm h hP hD hS hl
  unfold df_X7_writeRegister_55 at h
  obtain ⟨z9, ez9, h⟩ := nd_let_e h
  refine lv_iinc (v := z9) (lv' := [(2, .int z9), (0, .ref (a 0)), (1, .int x1)]) hx hb dX7_writeRegister_55 hl (k := 2) rfl (by rw [ez9]) (by decide) rfl (fun ls hl => ?_)
  refine lv_goto (tgt := 14) hx hb dX7_writeRegister_58 (by decide) ?_
  exact (J14) (x1) (z9) s0 vv0 kk0 _ _ _ hk hm h hP hD hS (lv_sub hl [1, 2, 0] rfl)
set_option maxHeartbeats 40000000 in
set_option maxRecDepth 100000 in
theorem dB_X7_writeRegister_14 {p : Program} {l : Launch} {e : Env} {s : State} {m : MethodId} {args : Array Value} {below : List Frame} {meth : Method} {c : Code} {Q : State → Prop} {A : Nat → Prop} {dC : Nat → ClassId} {dI : Nat → Nat → Nat} {a : Nat → Nat} {ac : Nat → ClassId} {u0 dd : Nat} {n : Nat} {r : Sb} (C : nd_CH p l s m args c A (dC, dI) cX7_writeRegister 4 RX7 ow_dm_X7_writeRegister (dk_J4 ac)) (HR : r.2.1 ≤ u0 + dd) (K : nd_Sv p l e (headSpec ow_dm_X7_writeRegister ({ frames := 7, cells := dd, slots := 34 * dd, locals := 185 })).room s m args below meth c Q A (dC, dI) cX7_writeRegister (dw_SB a ac) u0 r) {g14 : Int32 → Int32 → (Sb) → Option (Sb)} (J14 : dj_X7_writeRegister_14 p l e s m args below meth c Q A dC dI a ac u0 dd g14 r) (G14 : ∀ (y0 : Int32) (y1 : Int32) (s : Sb), uM s.2.1 (g14 y0 y1 s)) : dj_X7_writeRegister_14 p l e s m args below meth c Q A dC dI a ac u0 dd (dF_X7_writeRegister_14 n g14) r := by
  obtain ⟨hlt, hx, hb, hml, hown, hts, hE, hA, hK⟩ := id C
  have hN := hE.1
  intro x1 x2 s0 vv0 kk0 H locs ls hk hm h hP hD hS hl
  unfold dF_X7_writeRegister_14 at h
  refine lv_iload_n hx hb dX7_writeRegister_14 rfl (lv_at hl 2 rfl) ?_
  refine lv_iconst (v := 3) hx hb dX7_writeRegister_15 (by decide) ?_
  refine lv_icmp_ge (tgt := 61) hx hb dX7_writeRegister_16 (by decide) (fun c2 => ?_) (fun c2 => ?_)
  · have h := nd_pos h c2
    exact (db_X7_writeRegister_61 C HR K)  s0 vv0 kk0 _ _ _ hk hm h hP hD hS (lv_sub hl [] rfl)
  · have h := nd_neg h c2
    refine lv_iload_n hx hb dX7_writeRegister_19 rfl (lv_at hl 1 rfl) ?_
    refine lv_if_le (tgt := 61) hx hb dX7_writeRegister_20 (by decide) (fun c3 => ?_) (fun c3 => ?_)
    · have h := nd_pos h c3
      exact (db_X7_writeRegister_61 C HR K)  s0 vv0 kk0 _ _ _ hk hm h hP hD hS (lv_sub hl [] rfl)
    · have h := nd_neg h c3
      refine lv_iload_n hx hb dX7_writeRegister_23 rfl (lv_at hl 1 rfl) ?_
      refine lv_bipush (v := 32) hx hb dX7_writeRegister_24 (by decide) ?_
      refine lv_icmp_ge (tgt := 61) hx hb dX7_writeRegister_26 (by decide) (fun c4 => ?_) (fun c4 => ?_)
      · have h := nd_pos h c4
        exact (db_X7_writeRegister_61 C HR K)  s0 vv0 kk0 _ _ _ hk hm h hP hD hS (lv_sub hl [] rfl)
      · have h := nd_neg h c4
        have z5 : vk_R RX7 461 "ra sp gp tp t0 t1 t2 s0 s1 a0 a1 a2 a3 a4 a5 a6 a7 s2 s3 s4 s5 s6 s7 s8 s9 s10s11t3 t4 t5 t6 " (dI 1000 11) s := hN.2.2.2.2.2.2.2.2.2.2.2.2.1 11 (by decide)
        refine nv_ldcw hx hb hown z5 dX7_writeRegister_29 ?_
        refine lv_iload_n hx hb dX7_writeRegister_32 rfl (lv_at hl 1 rfl) ?_
        refine lv_iconst (v := 1) hx hb dX7_writeRegister_33 (by decide) ?_
        refine lv_isub hx hb dX7_writeRegister_34 ?_
        refine lv_iconst (v := 3) hx hb dX7_writeRegister_35 (by decide) ?_
        refine lv_imul hx hb dX7_writeRegister_36 ?_
        refine lv_iload_n hx hb dX7_writeRegister_37 rfl (lv_at hl 2 rfl) ?_
        refine lv_iadd hx hb dX7_writeRegister_38 ?_
        obtain ⟨q7, s6, hq, h⟩ := nd_b2_e h
        have hPc : va_P (dC, dI) vwCl (dw_P a ac ()) H := nd_p0
        have hDc : va_D A (dw_P a ac ()) := nd_d0
        have hKc : va_K (dC, dI) vwCl (dk_P ac) s := nd_y0 hK
        refine nd_gVi (E := nv_E dI) (As := [.int (((x1 - 1) * 3) + x2)]) (rest := []) (q := q7) (w' := (fun (_ : Unit) => dw_P a ac s6)) nv_same nv_call ⟨hx, hb, hml, hown, hts⟩ (fun sz => dm_J0_charAt_5068e l hlt dC dI a ac n (11) ((((x1 - 1) * 3) + x2)) () hq sz) (cwV 1 hts gi_dm_X7_writeRegister_0 rfl rfl rfl (by decide +kernel) ⟨Nat.le_of_ble_eq_true rfl, Nat.le_of_ble_eq_true rfl⟩) hPc hDc hKc hS hA hN (nv_rcv hN.2.2.2.2.2.2.2.2.2.2.2 (by decide) hS) rfl hl.1 rfl (Nat.le_of_ble_eq_true rfl) dX7_writeRegister_39 (nd_uP hk hm HR) (fun _ H locs hP1 hD1 hk1 hS => ?_)
        have hP := nd_n0 hP hk1
        refine lv_istore_n (lv' := [(3, .int q7), (0, .ref (a 0)), (1, .int x1), (2, .int x2)]) hx hb dX7_writeRegister_42 rfl hl (by decide) rfl (fun ls hl => ?_)
        refine lv_iload_n hx hb dX7_writeRegister_43 rfl (lv_at hl 0 rfl) ?_
        refine lv_bipush (v := 32) hx hb dX7_writeRegister_44 (by decide) ?_
        refine lv_icmp_eq (tgt := 55) hx hb dX7_writeRegister_46 (by decide) (fun c8 => ?_) (fun c8 => ?_)
        · have h := nd_pos h c8
          exact (db_X7_writeRegister_55 C HR K J14 G14) (x1) (x2) s0 vv0 kk0 _ _ _ hk hm h hP hD hS (lv_sub hl [1, 2, 3] rfl)
        · have h := nd_neg h c8
          refine lv_aload_n hx hb dX7_writeRegister_49 rfl (lv_at hl 1 rfl) ?_
          refine lv_iload_n hx hb dX7_writeRegister_50 rfl (lv_at hl 0 rfl) ?_
          obtain ⟨s10, hq, h⟩ := nd_b1_e h
          have hPc := hP
          have hDc := hD
          have hKc := hK
          have hFc := nd_rs hD hS hA
          obtain ⟨ds10, es10, ls10⟩ := um_J4_append_cf468 hq
          have ms10 : s10.2.1 ≤ r.2.1 := uM_le (by repeat (with_reducible (first | refine uM_ite ?_ ?_ | refine uM_let (α := Sb) ?_ | refine uM_lg (fun _ => ?_) | exact uM_none | exact uM_some rfl | exact uM_e (G14 _ _ _) rfl | exact uM_e (um_df_X7_writeRegister_55 _ _ G14 _ _ _) rfl | exact uM_e (um_df_X7_writeRegister_12 _ _ _) rfl | refine uM_c uc_J5_ensureCapacityInternal_d00df (fun _ => ?_) | refine uM_c uc_J5_append_cf1ce (fun _ => ?_) | refine uM_c uc_J5_append_3fe6f (fun _ => ?_) | refine uM_c uc_J5_append_c97b9 (fun _ => ?_) | refine uM_c uc_J4_append_15ec4 (fun _ => ?_) | refine uM_c uc_J4_append_cf468 (fun _ => ?_) | refine uM_c uc_J4_append_bf812 (fun _ => ?_) | refine uM_b1 (fun _ => ?_) | refine uM_b2 (fun _ _ => ?_) | refine uM_ck ?_ | refine uM_lt ?_))) h
          refine nd_gVr (E := nv_H dI) (As := [.int q7]) (rest := []) (w' := (fun (v : Nat) => dw_SB a ac v s10)) nv_Hs nv_Hc ⟨hx, hb, hml, hown, hts⟩ (fun sz => dm_J4_append_cf468 l hlt dC dI a ac vv0 n (q7) s0 hq es10 sz) (cwV 1 hts gi_dm_X7_writeRegister_1 rfl rfl rfl (by decide +kernel) ⟨Nat.le_of_ble_eq_true rfl, Nat.le_of_ble_eq_true rfl⟩) hPc hDc hKc hS hA hE (va_recv hKc hPc (ci := 1) (q0 := 0) rfl rfl) rfl hl.1 rfl (Nat.le_of_ble_eq_true rfl) dX7_writeRegister_51 (nd_uX hk es10 ms10 HR) (fun vs10 xs10 H locs hP1 hD1 hk1 hS => ?_)
          refine nd_w34 ?_
          have hP := hP1
          have hD := hD1.weaken (fun k q _ h => hFc q.1 h)
          generalize eks10 : kk0 + ds10 = ks10
          have hk := nd_uN hk es10 eks10
          have hm := ms10
          refine lv_pop hx hb dX7_writeRegister_54 rfl ?_
          exact (db_X7_writeRegister_55 C HR K J14 G14) (x1) (x2) s10 vs10 ks10 _ _ _ hk hm h hP hD hS (lv_sub hl [1, 2, 3] rfl)
set_option maxHeartbeats 40000000 in
set_option maxRecDepth 100000 in
theorem db_X7_writeRegister_14 {p : Program} {l : Launch} {e : Env} {s : State} {m : MethodId} {args : Array Value} {below : List Frame} {meth : Method} {c : Code} {Q : State → Prop} {A : Nat → Prop} {dC : Nat → ClassId} {dI : Nat → Nat → Nat} {a : Nat → Nat} {ac : Nat → ClassId} {u0 dd : Nat} {n : Nat} {r : Sb} (C : nd_CH p l s m args c A (dC, dI) cX7_writeRegister 4 RX7 ow_dm_X7_writeRegister (dk_J4 ac)) (HR : r.2.1 ≤ u0 + dd) (K : nd_Sv p l e (headSpec ow_dm_X7_writeRegister ({ frames := 7, cells := dd, slots := 34 * dd, locals := 185 })).room s m args below meth c Q A (dC, dI) cX7_writeRegister (dw_SB a ac) u0 r) (k : Nat) : dj_X7_writeRegister_14 p l e s m args below meth c Q A dC dI a ac u0 dd (df_X7_writeRegister_14 n k) r := by
  induction k with
  | zero => intro x1 x2 s0 vv0 kk0 H locs ls hk hm h; exact nomatch (show (none : Option Sb) = some r from h)
  | succ k ih => exact dB_X7_writeRegister_14 C HR K ih (um_df_X7_writeRegister_14 n k)
set_option maxHeartbeats 40000000 in
set_option maxRecDepth 100000 in
theorem db_X7_writeRegister_12 {p : Program} {l : Launch} {e : Env} {s : State} {m : MethodId} {args : Array Value} {below : List Frame} {meth : Method} {c : Code} {Q : State → Prop} {A : Nat → Prop} {dC : Nat → ClassId} {dI : Nat → Nat → Nat} {a : Nat → Nat} {ac : Nat → ClassId} {u0 dd : Nat} {n : Nat} {r : Sb} (C : nd_CH p l s m args c A (dC, dI) cX7_writeRegister 4 RX7 ow_dm_X7_writeRegister (dk_J4 ac)) (HR : r.2.1 ≤ u0 + dd) (K : nd_Sv p l e (headSpec ow_dm_X7_writeRegister ({ frames := 7, cells := dd, slots := 34 * dd, locals := 185 })).room s m args below meth c Q A (dC, dI) cX7_writeRegister (dw_SB a ac) u0 r) : dj_X7_writeRegister_12 p l e s m args below meth c Q A dC dI a ac u0 dd (df_X7_writeRegister_12 n) r := by
  obtain ⟨hlt, hx, hb, hml, hown, hts, hE, hA, hK⟩ := id C
  have hN := hE.1
  intro x1 s0 vv0 kk0 H locs ls hk hm h hP hD hS hl
  unfold df_X7_writeRegister_12 at h
  refine lv_iconst (v := 0) hx hb dX7_writeRegister_12 (by decide) ?_
  refine lv_istore_n (lv' := [(2, .int 0), (0, .ref (a 0)), (1, .int x1)]) hx hb dX7_writeRegister_13 rfl hl (by decide) rfl (fun ls hl => ?_)
  exact (db_X7_writeRegister_14 C HR K n) (x1) (0) s0 vv0 kk0 _ _ _ hk hm h hP hD hS (lv_sub hl [1, 2, 0] rfl)
set_option maxHeartbeats 40000000 in
set_option maxRecDepth 100000 in
theorem db_X7_writeRegister_0 {p : Program} {l : Launch} {e : Env} {s : State} {m : MethodId} {args : Array Value} {below : List Frame} {meth : Method} {c : Code} {Q : State → Prop} {A : Nat → Prop} {dC : Nat → ClassId} {dI : Nat → Nat → Nat} {a : Nat → Nat} {ac : Nat → ClassId} {u0 dd : Nat} {n : Nat} {r : Sb} (C : nd_CH p l s m args c A (dC, dI) cX7_writeRegister 4 RX7 ow_dm_X7_writeRegister (dk_J4 ac)) (HR : r.2.1 ≤ u0 + dd) (K : nd_Sv p l e (headSpec ow_dm_X7_writeRegister ({ frames := 7, cells := dd, slots := 34 * dd, locals := 185 })).room s m args below meth c Q A (dC, dI) cX7_writeRegister (dw_SB a ac) u0 r) : dj_X7_writeRegister_0 p l e s m args below meth c Q A dC dI a ac u0 dd (df_X7_writeRegister_0 n) r := by
  obtain ⟨hlt, hx, hb, hml, hown, hts, hE, hA, hK⟩ := id C
  have hN := hE.1
  intro v1 s0 vv0 kk0 H locs ls hk hm h hP hD hS hl
  unfold df_X7_writeRegister_0 at h
  refine lv_iload_n hx hb dX7_writeRegister_0 rfl (lv_at hl 1 rfl) ?_
  refine lv_if_ne (tgt := 12) hx hb dX7_writeRegister_1 (by decide) (fun c1 => ?_) (fun c1 => ?_)
  · have h := nd_neg h c1
    exact (db_X7_writeRegister_12 C HR K) (v1) s0 vv0 kk0 _ _ _ hk hm h hP hD hS (lv_sub hl [0, 1] rfl)
  · have h := nd_pos h c1
    refine lv_aload_n hx hb dX7_writeRegister_4 rfl (lv_at hl 0 rfl) ?_
    have z12 : vk_R RX7 449 "zero" (dI 1000 10) s := hN.2.2.2.2.2.2.2.2.2.2.2.2.1 10 (by decide)
    refine nv_ldcw hx hb hown z12 dX7_writeRegister_5 ?_
    obtain ⟨s13, hq, h⟩ := nd_b1_e h
    have hPc := hP
    have hDc := hD
    have hKc := hK
    have hFc := nd_rs hD hS hA
    obtain ⟨ds13, es13, ls13⟩ := um_J4_append_15ec4 hq
    have ms13 : s13.2.1 ≤ r.2.1 := uM_le (by repeat (with_reducible (first | refine uM_ite ?_ ?_ | refine uM_let (α := Sb) ?_ | refine uM_lg (fun _ => ?_) | exact uM_none | exact uM_some rfl | exact uM_e (um_df_X7_writeRegister_55 _ _ G14 _ _ _) rfl | exact uM_e (um_df_X7_writeRegister_12 _ _ _) rfl | refine uM_c uc_J5_ensureCapacityInternal_d00df (fun _ => ?_) | refine uM_c uc_J5_append_cf1ce (fun _ => ?_) | refine uM_c uc_J5_append_3fe6f (fun _ => ?_) | refine uM_c uc_J5_append_c97b9 (fun _ => ?_) | refine uM_c uc_J4_append_15ec4 (fun _ => ?_) | refine uM_c uc_J4_append_cf468 (fun _ => ?_) | refine uM_c uc_J4_append_bf812 (fun _ => ?_) | refine uM_b1 (fun _ => ?_) | refine uM_b2 (fun _ _ => ?_) | refine uM_ck ?_ | refine uM_lt ?_))) h
    refine nd_gVr (E := nv_H dI) (As := [.ref (dI 1000 10)]) (rest := []) (w' := (fun (v : Nat) => dw_SB a ac v s13)) nv_Hs nv_Hc ⟨hx, hb, hml, hown, hts⟩ (fun sz => dm_J4_append_15ec4 l hlt dC dI a ac vv0 n (10) s0 hq es13 sz) (cwV 1 hts gi_dm_X7_writeRegister_2 rfl rfl rfl (by decide +kernel) ⟨Nat.le_of_ble_eq_true rfl, Nat.le_of_ble_eq_true rfl⟩) hPc hDc hKc hS hA hE (va_recv hKc hPc (ci := 1) (q0 := 0) rfl rfl) rfl hl.1 rfl (Nat.le_of_ble_eq_true rfl) dX7_writeRegister_8 (nd_uX hk es13 ms13 HR) (fun vs13 xs13 H locs hP1 hD1 hk1 hS => ?_)
    refine nd_w34 ?_
    have hP := hP1
    have hD := hD1.weaken (fun k q _ h => hFc q.1 h)
    generalize eks13 : kk0 + ds13 = ks13
    have hk := nd_uN hk es13 eks13
    have hm := ms13
    refine lv_pop hx hb dX7_writeRegister_11 rfl ?_
    exact (db_X7_writeRegister_12 C HR K) (v1) s13 vs13 ks13 _ _ _ hk hm h hP hD hS (lv_sub hl [0, 1] rfl)
set_option maxHeartbeats 40000000 in
set_option maxRecDepth 100000 in
theorem dm_X7_writeRegister (l : Launch) (hlt : l.stackTraces = false) (dC : Nat → ClassId) (dI : Nat → Nat → Nat) (a : Nat → Nat) (ac : Nat → ClassId) (vv0 : Nat) (n : Nat) (v1 : Int32) (s0 : Sb) {r : Sb} (h : df_X7_writeRegister n v1 s0 = some r) {dd : Nat} (hd : r.2.1 = s0.2.1 + dd) (sz : Nat) : Met l yX7_writeRegister ow_dm_X7_writeRegister ({ frames := 7, cells := dd, slots := 34 * dd, locals := 185 }) (va_Pc [.ref (a 0), .int v1] (fun U => U.heap.size = sz ∧ va_P (dC, dI) vwCl (dw_SB a ac vv0 s0) U.heap ∧ va_K (dC, dI) vwCl (dk_J4 ac) U ∧ va_D (fun _ => True) (dw_SB a ac vv0 s0) ∧ nv_H dI (va_A (dw_SB a ac vv0 s0) sz) U)) (va_Qv (fun (_ : Nat) => True) (fun (v : Nat) t => va_P (dC, dI) vwCl (dw_SB a ac v r) t.heap ∧ va_K (dC, dI) vwCl (dk_J4 ac) t ∧ va_D (va_A (dw_SB a ac vv0 s0) sz) (dw_SB a ac v r)) (va_A (dw_SB a ac vv0 s0) sz)) dd (34 * dd) (va_A (dw_SB a ac vv0 s0) sz) := by
  refine Met.ofW (cc := cX7_writeRegister) (maxL := 4) (ret := none) (by decide) rfl ?_
  intro p e s m args below meth c s₁ B hml hv
  obtain ⟨rfl, hsz, hP, hK, hD0, hE⟩ := hv
  have hx := B.exec
  have hb := B.bytes
  have hr := B.returns
  have hts := atoms_spec (ws := ow_dm_X7_writeRegister) B.pre
  have hown : s.vm.findClass RX7 = some m.cls := findClass_of_methodNamed B.named
  have hlocks := B.notSynchronized
  subst hsz
  have hD := hD0.self (sz := s.heap.size)
  generalize hAe : va_A (dw_SB a ac vv0 s0) s.heap.size = A at hD hE ⊢
  have hA : ∀ q : Nat, s.heap.size ≤ q → A q := fun q h => by rw [← hAe]; exact Or.inr h
  have hl := lv_entry ([.ref (a 0), .int v1]) (n := 4) (Nat.le_of_ble_eq_true rfl)
  rw [lg_entry_eq]
  generalize (lg_sl ([.ref (a 0), .int v1]) ++ List.replicate (4 - (lg_sl ([.ref (a 0), .int v1])).length) Slot.unset).toArray = ls at hl ⊢
  have hl : lv_has ls 4 [(0, .ref (a 0)), (1, .int v1)] := hl
  exact db_X7_writeRegister_0 (dC := dC) (dI := dI) (a := a) (ac := ac) (u0 := s0.2.1) (n := n) (r := r) ⟨hlt, hx, hb, hml, hown, hts, hE, hA, hK⟩ (Nat.le_of_eq hd) (fun pc τ v k H locs ls d hk er hP hD hS => by subst er; obtain ⟨z1, z2⟩ : k ≤ dd ∧ 34 * k ≤ 34 * dd := nd_uK hk hd; refine W.widen (k := dd) (n := 34 * dd) z1 z2 ?_; exact W.vret hx hb hr (fun t ht hW => ⟨⟨v, rfl, trivial, by rw [ht]; exact hP, va_K.moved hW.alike hK, hD⟩, hS.F ht⟩) hS.2.2 d) v1 s0 vv0 0 _ _ _ rfl (hd ▸ Nat.le_add_right _ _) h hP hD va_S.rf (lv_sub hl [0, 1] rfl)
def ow_dm_X7_write : List Cond := Cond.code yX7_write cX7_write 6 none :: ([Cond.fieldLink RX7 409 "TimeMachine$Op" "word" "Ljava/lang/String;", Cond.methodLink RX7 496 yJ4_append_15ec4, Cond.instanceMethod yJ4_append_15ec4, Cond.selects RJ4 yJ4_append_15ec4 yJ4_append_15ec4, Cond.initialized RJ4, Cond.fieldLink RX7 416 "TimeMachine$Op" "bits" "I", Cond.fieldLink RX7 413 "TimeMachine$Op" "form" "Ljava/lang/String;", Cond.methodLink RX7 430 yJ0_length_8abf5, Cond.instanceMethod yJ0_length_8abf5, Cond.selects RJ0 yJ0_length_8abf5 yJ0_length_8abf5, Cond.initialized RJ0, Cond.methodLink RX7 436 yJ0_charAt_5068e, Cond.instanceMethod yJ0_charAt_5068e, Cond.selects RJ0 yJ0_charAt_5068e yJ0_charAt_5068e, Cond.methodLink RX7 511 yX7_taken, Cond.static yX7_taken, Cond.initialized RX7, Cond.methodLink RX7 526 yX7_isTarget, Cond.static yX7_isTarget, Cond.methodLink RX7 508 yJ4_append_bf812, Cond.instanceMethod yJ4_append_bf812, Cond.selects RJ4 yJ4_append_bf812 yJ4_append_bf812, Cond.methodLink RX7 523 yX7_writeRegister, Cond.static yX7_writeRegister, Cond.methodLink RX7 514 yJ4_append_cf468, Cond.instanceMethod yJ4_append_cf468, Cond.selects RJ4 yJ4_append_cf468 yJ4_append_cf468, Cond.constant RX7 442 (100663296), Cond.constant RX7 448 (33554432), Cond.constant RX7 445 (67108864)] ++ (ow_dm_J4_append_15ec4 ++ (ow_dm_J0_length_8abf5 ++ (ow_dm_J0_charAt_5068e ++ (ow_dm_X7_taken ++ (ow_dm_X7_isTarget ++ (ow_dm_J4_append_bf812 ++ (ow_dm_X7_writeRegister ++ (ow_dm_J4_append_cf468 ++ [])))))))))
theorem gd_dm_X7_write : ∀ w ∈ ow_dm_X7_write, (w.onTables && w.keeps) = true ∨ ∃ ty, w = Cond.arrayClass ty := List.forall_mem_cons.mpr ⟨good_of_word rfl, List.forall_mem_append.mpr ⟨fun w h => good_of_word (List.all_eq_true.mp (by decide +kernel) w h), List.forall_mem_append.mpr ⟨gd_dm_J4_append_15ec4, List.forall_mem_append.mpr ⟨gd_dm_J0_length_8abf5, List.forall_mem_append.mpr ⟨gd_dm_J0_charAt_5068e, List.forall_mem_append.mpr ⟨gd_dm_X7_taken, List.forall_mem_append.mpr ⟨gd_dm_X7_isTarget, List.forall_mem_append.mpr ⟨gd_dm_J4_append_bf812, List.forall_mem_append.mpr ⟨gd_dm_X7_writeRegister, List.forall_mem_append.mpr ⟨gd_dm_J4_append_cf468, fun _ h => nomatch h⟩⟩⟩⟩⟩⟩⟩⟩⟩⟩
theorem gi_dm_X7_write_0 : GoodIn ow_dm_X7_write (wsV RX7 496 RJ4 yJ4_append_15ec4 ow_dm_J4_append_15ec4) := goodIn_app (goodIn_of _ (by decide +kernel)) (fun w h => ⟨List.mem_cons_of_mem _ (List.mem_append_right _ (List.mem_append_left _ h)), gd_dm_J4_append_15ec4 w h⟩)
theorem gi_dm_X7_write_1 : GoodIn ow_dm_X7_write (wsV RX7 430 RJ0 yJ0_length_8abf5 ow_dm_J0_length_8abf5) := goodIn_app (goodIn_of _ (by decide +kernel)) (fun w h => ⟨List.mem_cons_of_mem _ (List.mem_append_right _ (List.mem_append_right _ (List.mem_append_left _ h))), gd_dm_J0_length_8abf5 w h⟩)
theorem gi_dm_X7_write_2 : GoodIn ow_dm_X7_write (wsV RX7 436 RJ0 yJ0_charAt_5068e ow_dm_J0_charAt_5068e) := goodIn_app (goodIn_of _ (by decide +kernel)) (fun w h => ⟨List.mem_cons_of_mem _ (List.mem_append_right _ (List.mem_append_right _ (List.mem_append_right _ (List.mem_append_left _ h)))), gd_dm_J0_charAt_5068e w h⟩)
theorem gi_dm_X7_write_3 : GoodIn ow_dm_X7_write (wsS RX7 511 yX7_taken ow_dm_X7_taken) := goodIn_app (goodIn_of _ (by decide +kernel)) (fun w h => ⟨List.mem_cons_of_mem _ (List.mem_append_right _ (List.mem_append_right _ (List.mem_append_right _ (List.mem_append_right _ (List.mem_append_left _ h))))), gd_dm_X7_taken w h⟩)
theorem gi_dm_X7_write_4 : GoodIn ow_dm_X7_write (wsS RX7 526 yX7_isTarget ow_dm_X7_isTarget) := goodIn_app (goodIn_of _ (by decide +kernel)) (fun w h => ⟨List.mem_cons_of_mem _ (List.mem_append_right _ (List.mem_append_right _ (List.mem_append_right _ (List.mem_append_right _ (List.mem_append_right _ (List.mem_append_left _ h)))))), gd_dm_X7_isTarget w h⟩)
theorem gi_dm_X7_write_5 : GoodIn ow_dm_X7_write (wsV RX7 508 RJ4 yJ4_append_bf812 ow_dm_J4_append_bf812) := goodIn_app (goodIn_of _ (by decide +kernel)) (fun w h => ⟨List.mem_cons_of_mem _ (List.mem_append_right _ (List.mem_append_right _ (List.mem_append_right _ (List.mem_append_right _ (List.mem_append_right _ (List.mem_append_right _ (List.mem_append_left _ h))))))), gd_dm_J4_append_bf812 w h⟩)
theorem gi_dm_X7_write_6 : GoodIn ow_dm_X7_write (wsS RX7 523 yX7_writeRegister ow_dm_X7_writeRegister) := goodIn_app (goodIn_of _ (by decide +kernel)) (fun w h => ⟨List.mem_cons_of_mem _ (List.mem_append_right _ (List.mem_append_right _ (List.mem_append_right _ (List.mem_append_right _ (List.mem_append_right _ (List.mem_append_right _ (List.mem_append_right _ (List.mem_append_left _ h)))))))), gd_dm_X7_writeRegister w h⟩)
theorem gi_dm_X7_write_7 : GoodIn ow_dm_X7_write (wsV RX7 514 RJ4 yJ4_append_cf468 ow_dm_J4_append_cf468) := goodIn_app (goodIn_of _ (by decide +kernel)) (fun w h => ⟨List.mem_cons_of_mem _ (List.mem_append_right _ (List.mem_append_right _ (List.mem_append_right _ (List.mem_append_right _ (List.mem_append_right _ (List.mem_append_right _ (List.mem_append_right _ (List.mem_append_right _ (List.mem_append_left _ h))))))))), gd_dm_J4_append_cf468 w h⟩)
def dj_X7_write_211 (p : Program) (l : Launch) (e : Env) (s : State) (m : MethodId) (args : Array Value) (below : List Frame) (meth : Method) (c : Code) (Q : State → Prop) (A : Nat → Prop) (dC : Nat → ClassId) (dI : Nat → Nat → Nat) (a : Nat → Nat) (ac : Nat → ClassId) (u0 dd : Nat) (g : Nat → Int32 → Int32 → (Sb) → Option (Sb)) (r : Sb) : Prop := ∀ (x0 : Nat) (x2 : Int32) (x3 : Int32) (s0 : Sb) (vv0 kk0 : Nat) (H : Heap) (locs : List Loc) (ls : Array Slot), s0.2.1 = u0 + kk0 → s0.2.1 ≤ r.2.1 → g x0 x2 x3 s0 = some r → va_P (dC, dI) vwCl (dw_SB a ac vv0 s0) H → va_D A (dw_SB a ac vv0 s0) → va_S A s.heap H locs → lv_has ls 6 [(0, .ref (dI 1002 x0)), (1, .ref (a 0)), (2, .int x2), (3, .int x3)] → W p l e (headSpec ow_dm_X7_write ({ frames := 8, cells := dd, slots := 34 * dd, locals := 208 })).room s m args below meth c H locs kk0 (34 * kk0) Q (F0 m 211 ls [])
def dj_X7_write_200 (p : Program) (l : Launch) (e : Env) (s : State) (m : MethodId) (args : Array Value) (below : List Frame) (meth : Method) (c : Code) (Q : State → Prop) (A : Nat → Prop) (dC : Nat → ClassId) (dI : Nat → Nat → Nat) (a : Nat → Nat) (ac : Nat → ClassId) (u0 dd : Nat) (g : Nat → Int32 → Int32 → Int32 → Nat → (Sb) → Option (Sb)) (r : Sb) : Prop := ∀ (x0 : Nat) (x2 : Int32) (x3 : Int32) (x5 : Int32) (y1 : Nat) (s0 : Sb) (vv0 kk0 : Nat) (H : Heap) (locs : List Loc) (ls : Array Slot), s0.2.1 = u0 + kk0 → s0.2.1 ≤ r.2.1 → g x0 x2 x3 x5 y1 s0 = some r → va_P (dC, dI) vwCl (dw_SB a ac vv0 s0) H → va_D A (dw_SB a ac vv0 s0) → va_S A s.heap H locs → lv_has ls 6 [(0, .ref (dI 1002 x0)), (1, .ref (a 0)), (2, .int x2), (3, .int x3), (5, .int x5)] → W p l e (headSpec ow_dm_X7_write ({ frames := 8, cells := dd, slots := 34 * dd, locals := 208 })).room s m args below meth c H locs kk0 (34 * kk0) Q (F0 m 200 ls [.ref (dI 1000 y1), .ref (a 0)])
def dj_X7_write_136 (p : Program) (l : Launch) (e : Env) (s : State) (m : MethodId) (args : Array Value) (below : List Frame) (meth : Method) (c : Code) (Q : State → Prop) (A : Nat → Prop) (dC : Nat → ClassId) (dI : Nat → Nat → Nat) (a : Nat → Nat) (ac : Nat → ClassId) (u0 dd : Nat) (g : Nat → Int32 → Int32 → Nat → (Sb) → Option (Sb)) (r : Sb) : Prop := ∀ (x0 : Nat) (x2 : Int32) (x3 : Int32) (y1 : Nat) (s0 : Sb) (vv0 kk0 : Nat) (H : Heap) (locs : List Loc) (ls : Array Slot), s0.2.1 = u0 + kk0 → s0.2.1 ≤ r.2.1 → g x0 x2 x3 y1 s0 = some r → va_P (dC, dI) vwCl (dw_SB a ac vv0 s0) H → va_D A (dw_SB a ac vv0 s0) → va_S A s.heap H locs → lv_has ls 6 [(0, .ref (dI 1002 x0)), (1, .ref (a 0)), (2, .int x2), (3, .int x3)] → W p l e (headSpec ow_dm_X7_write ({ frames := 8, cells := dd, slots := 34 * dd, locals := 208 })).room s m args below meth c H locs kk0 (34 * kk0) Q (F0 m 136 ls [.ref (dI 1000 y1), .ref (a 0)])
def dj_X7_write_99 (p : Program) (l : Launch) (e : Env) (s : State) (m : MethodId) (args : Array Value) (below : List Frame) (meth : Method) (c : Code) (Q : State → Prop) (A : Nat → Prop) (dC : Nat → ClassId) (dI : Nat → Nat → Nat) (a : Nat → Nat) (ac : Nat → ClassId) (u0 dd : Nat) (g : Nat → Int32 → Int32 → Int32 → (Sb) → Option (Sb)) (r : Sb) : Prop := ∀ (x0 : Nat) (x2 : Int32) (x3 : Int32) (x4 : Int32) (s0 : Sb) (vv0 kk0 : Nat) (H : Heap) (locs : List Loc) (ls : Array Slot), s0.2.1 = u0 + kk0 → s0.2.1 ≤ r.2.1 → g x0 x2 x3 x4 s0 = some r → va_P (dC, dI) vwCl (dw_SB a ac vv0 s0) H → va_D A (dw_SB a ac vv0 s0) → va_S A s.heap H locs → lv_has ls 6 [(0, .ref (dI 1002 x0)), (1, .ref (a 0)), (2, .int x2), (3, .int x3), (4, .int x4)] → W p l e (headSpec ow_dm_X7_write ({ frames := 8, cells := dd, slots := 34 * dd, locals := 208 })).room s m args below meth c H locs kk0 (34 * kk0) Q (F0 m 99 ls [])
def dj_X7_write_67 (p : Program) (l : Launch) (e : Env) (s : State) (m : MethodId) (args : Array Value) (below : List Frame) (meth : Method) (c : Code) (Q : State → Prop) (A : Nat → Prop) (dC : Nat → ClassId) (dI : Nat → Nat → Nat) (a : Nat → Nat) (ac : Nat → ClassId) (u0 dd : Nat) (g : Nat → Int32 → Int32 → (Sb) → Option (Sb)) (r : Sb) : Prop := ∀ (x0 : Nat) (x2 : Int32) (x3 : Int32) (s0 : Sb) (vv0 kk0 : Nat) (H : Heap) (locs : List Loc) (ls : Array Slot), s0.2.1 = u0 + kk0 → s0.2.1 ≤ r.2.1 → g x0 x2 x3 s0 = some r → va_P (dC, dI) vwCl (dw_SB a ac vv0 s0) H → va_D A (dw_SB a ac vv0 s0) → va_S A s.heap H locs → lv_has ls 6 [(0, .ref (dI 1002 x0)), (1, .ref (a 0)), (2, .int x2), (3, .int x3)] → W p l e (headSpec ow_dm_X7_write ({ frames := 8, cells := dd, slots := 34 * dd, locals := 208 })).room s m args below meth c H locs kk0 (34 * kk0) Q (F0 m 67 ls [])
def dj_X7_write_65 (p : Program) (l : Launch) (e : Env) (s : State) (m : MethodId) (args : Array Value) (below : List Frame) (meth : Method) (c : Code) (Q : State → Prop) (A : Nat → Prop) (dC : Nat → ClassId) (dI : Nat → Nat → Nat) (a : Nat → Nat) (ac : Nat → ClassId) (u0 dd : Nat) (g : Nat → Int32 → (Sb) → Option (Sb)) (r : Sb) : Prop := ∀ (x0 : Nat) (x2 : Int32) (s0 : Sb) (vv0 kk0 : Nat) (H : Heap) (locs : List Loc) (ls : Array Slot), s0.2.1 = u0 + kk0 → s0.2.1 ≤ r.2.1 → g x0 x2 s0 = some r → va_P (dC, dI) vwCl (dw_SB a ac vv0 s0) H → va_D A (dw_SB a ac vv0 s0) → va_S A s.heap H locs → lv_has ls 6 [(0, .ref (dI 1002 x0)), (1, .ref (a 0)), (2, .int x2)] → W p l e (headSpec ow_dm_X7_write ({ frames := 8, cells := dd, slots := 34 * dd, locals := 208 })).room s m args below meth c H locs kk0 (34 * kk0) Q (F0 m 65 ls [])
def dj_X7_write_61 (p : Program) (l : Launch) (e : Env) (s : State) (m : MethodId) (args : Array Value) (below : List Frame) (meth : Method) (c : Code) (Q : State → Prop) (A : Nat → Prop) (dC : Nat → ClassId) (dI : Nat → Nat → Nat) (a : Nat → Nat) (ac : Nat → ClassId) (u0 dd : Nat) (g : Nat → Int32 → Nat → (Sb) → Option (Sb)) (r : Sb) : Prop := ∀ (x0 : Nat) (x2 : Int32) (y1 : Nat) (s0 : Sb) (vv0 kk0 : Nat) (H : Heap) (locs : List Loc) (ls : Array Slot), s0.2.1 = u0 + kk0 → s0.2.1 ≤ r.2.1 → g x0 x2 y1 s0 = some r → va_P (dC, dI) vwCl (dw_SB a ac vv0 s0) H → va_D A (dw_SB a ac vv0 s0) → va_S A s.heap H locs → lv_has ls 6 [(0, .ref (dI 1002 x0)), (1, .ref (a 0)), (2, .int x2)] → W p l e (headSpec ow_dm_X7_write ({ frames := 8, cells := dd, slots := 34 * dd, locals := 208 })).room s m args below meth c H locs kk0 (34 * kk0) Q (F0 m 61 ls [.ref (dI 1000 y1), .ref (a 0)])
def dj_X7_write_0 (p : Program) (l : Launch) (e : Env) (s : State) (m : MethodId) (args : Array Value) (below : List Frame) (meth : Method) (c : Code) (Q : State → Prop) (A : Nat → Prop) (dC : Nat → ClassId) (dI : Nat → Nat → Nat) (a : Nat → Nat) (ac : Nat → ClassId) (u0 dd : Nat) (g : Nat → Int32 → (Sb) → Option (Sb)) (r : Sb) : Prop := ∀ (vt : Nat) (v1 : Int32) (s0 : Sb) (vv0 kk0 : Nat) (H : Heap) (locs : List Loc) (ls : Array Slot), s0.2.1 = u0 + kk0 → s0.2.1 ≤ r.2.1 → g vt v1 s0 = some r → va_P (dC, dI) vwCl (dw_SB a ac vv0 s0) H → va_D A (dw_SB a ac vv0 s0) → va_S A s.heap H locs → lv_has ls 6 [(0, .ref (dI 1002 vt)), (1, .ref (a 0)), (2, .int v1)] → W p l e (headSpec ow_dm_X7_write ({ frames := 8, cells := dd, slots := 34 * dd, locals := 208 })).room s m args below meth c H locs kk0 (34 * kk0) Q (F0 m 0 ls [])
set_option maxHeartbeats 40000000 in
set_option maxRecDepth 100000 in
theorem db_X7_write_211 {p : Program} {l : Launch} {e : Env} {s : State} {m : MethodId} {args : Array Value} {below : List Frame} {meth : Method} {c : Code} {Q : State → Prop} {A : Nat → Prop} {dC : Nat → ClassId} {dI : Nat → Nat → Nat} {a : Nat → Nat} {ac : Nat → ClassId} {u0 dd : Nat} {n : Nat} {r : Sb} (C : nd_CH p l s m args c A (dC, dI) cX7_write 6 RX7 ow_dm_X7_write (dk_J4 ac)) (HR : r.2.1 ≤ u0 + dd) (K : nd_Sv p l e (headSpec ow_dm_X7_write ({ frames := 8, cells := dd, slots := 34 * dd, locals := 208 })).room s m args below meth c Q A (dC, dI) cX7_write (dw_SB a ac) u0 r) {g67 : Nat → Int32 → Int32 → (Sb) → Option (Sb)} (J67 : dj_X7_write_67 p l e s m args below meth c Q A dC dI a ac u0 dd g67 r) (G67 : ∀ (y0 : Nat) (y1 : Int32) (y2 : Int32) (s : Sb), uM s.2.1 (g67 y0 y1 y2 s)) : dj_X7_write_211 p l e s m args below meth c Q A dC dI a ac u0 dd (df_X7_write_211 n g67) r := by
  obtain ⟨hlt, hx, hb, hml, hown, hts, hE, hA, hK⟩ := id C
  have hN := hE.1
  intro x0 x2 x3 s0 vv0 kk0 H locs ls hk hm h hP hD hS hl
  unfold df_X7_write_211 at h
  obtain ⟨z29, ez29, h⟩ := nd_let_e h
  refine lv_iinc (v := z29) (lv' := [(3, .int z29), (0, .ref (dI 1002 x0)), (1, .ref (a 0)), (2, .int x2)]) hx hb dX7_write_211 hl (k := 3) rfl (by rw [ez29]) (by decide) rfl (fun ls hl => ?_)
  refine lv_goto (tgt := 67) hx hb dX7_write_214 (by decide) ?_
  exact (J67) (x0) (x2) (z29) s0 vv0 kk0 _ _ _ hk hm h hP hD hS (lv_sub hl [1, 2, 3, 0] rfl)
set_option maxHeartbeats 40000000 in
set_option maxRecDepth 100000 in
theorem db_X7_write_200 {p : Program} {l : Launch} {e : Env} {s : State} {m : MethodId} {args : Array Value} {below : List Frame} {meth : Method} {c : Code} {Q : State → Prop} {A : Nat → Prop} {dC : Nat → ClassId} {dI : Nat → Nat → Nat} {a : Nat → Nat} {ac : Nat → ClassId} {u0 dd : Nat} {n : Nat} {r : Sb} (C : nd_CH p l s m args c A (dC, dI) cX7_write 6 RX7 ow_dm_X7_write (dk_J4 ac)) (HR : r.2.1 ≤ u0 + dd) (K : nd_Sv p l e (headSpec ow_dm_X7_write ({ frames := 8, cells := dd, slots := 34 * dd, locals := 208 })).room s m args below meth c Q A (dC, dI) cX7_write (dw_SB a ac) u0 r) {g67 : Nat → Int32 → Int32 → (Sb) → Option (Sb)} (J67 : dj_X7_write_67 p l e s m args below meth c Q A dC dI a ac u0 dd g67 r) (G67 : ∀ (y0 : Nat) (y1 : Int32) (y2 : Int32) (s : Sb), uM s.2.1 (g67 y0 y1 y2 s)) : dj_X7_write_200 p l e s m args below meth c Q A dC dI a ac u0 dd (df_X7_write_200 n g67) r := by
  obtain ⟨hlt, hx, hb, hml, hown, hts, hE, hA, hK⟩ := id C
  have hN := hE.1
  intro x0 x2 x3 x5 y1 s0 vv0 kk0 H locs ls hk hm h hP hD hS hl
  unfold df_X7_write_200 at h
  obtain ⟨s25, hq, h⟩ := nd_b1_e h
  have hPc := hP
  have hDc := hD
  have hKc := hK
  have hFc := nd_rs hD hS hA
  obtain ⟨ds25, es25, ls25⟩ := um_J4_append_15ec4 hq
  have ms25 : s25.2.1 ≤ r.2.1 := uM_le (by repeat (with_reducible (first | refine uM_ite ?_ ?_ | refine uM_let (α := Sb) ?_ | refine uM_lg (fun _ => ?_) | exact uM_none | exact uM_some rfl | exact uM_e (G67 _ _ _ _) rfl | exact uM_e (um_df_X7_write_211 _ _ G67 _ _ _ _) rfl | exact uM_e (um_df_X7_write_200 _ _ G67 _ _ _ _ _ _) rfl | exact uM_e (um_df_X7_write_136 _ _ G67 _ _ _ _ _) rfl | exact uM_e (um_df_X7_write_99 _ _ G67 _ _ _ _ _) rfl | exact uM_e (um_df_X7_write_65 _ _ _ _) rfl | exact uM_e (um_df_X7_write_61 _ _ _ _ _) rfl | refine uM_c uc_J5_ensureCapacityInternal_d00df (fun _ => ?_) | refine uM_c uc_J5_append_cf1ce (fun _ => ?_) | refine uM_c uc_J5_append_3fe6f (fun _ => ?_) | refine uM_c uc_J5_append_c97b9 (fun _ => ?_) | refine uM_c uc_J4_append_15ec4 (fun _ => ?_) | refine uM_c uc_J4_append_cf468 (fun _ => ?_) | refine uM_c uc_J4_append_bf812 (fun _ => ?_) | refine uM_c uc_X7_writeRegister (fun _ => ?_) | refine uM_b1 (fun _ => ?_) | refine uM_b2 (fun _ _ => ?_) | refine uM_ck ?_ | refine uM_lt ?_))) h
  refine nd_gVr (E := nv_H dI) (As := [.ref (dI 1000 y1)]) (rest := []) (w' := (fun (v : Nat) => dw_SB a ac v s25)) nv_Hs nv_Hc ⟨hx, hb, hml, hown, hts⟩ (fun sz => dm_J4_append_15ec4 l hlt dC dI a ac vv0 n (y1) s0 hq es25 sz) (cwV 1 hts gi_dm_X7_write_0 rfl rfl rfl (by decide +kernel) ⟨Nat.le_of_ble_eq_true rfl, Nat.le_of_ble_eq_true rfl⟩) hPc hDc hKc hS hA hE (va_recv hKc hPc (ci := 1) (q0 := 0) rfl rfl) rfl hl.1 rfl (Nat.le_of_ble_eq_true rfl) dX7_write_200 (nd_uX hk es25 ms25 HR) (fun vs25 xs25 H locs hP1 hD1 hk1 hS => ?_)
  refine nd_w34 ?_
  have hP := hP1
  have hD := hD1.weaken (fun k q _ h => hFc q.1 h)
  generalize eks25 : kk0 + ds25 = ks25
  have hk := nd_uN hk es25 eks25
  have hm := ms25
  refine lv_pop hx hb dX7_write_203 rfl ?_
  refine lv_aload_n hx hb dX7_write_204 rfl (lv_at hl 1 rfl) ?_
  refine lv_iload hx hb dX7_write_205 (lv_at hl 4 rfl) ?_
  obtain ⟨s27, hq, h⟩ := nd_b1_e h
  have hPc := hP
  have hDc := hD
  have hKc := hK
  have hFc := nd_rs hD hS hA
  obtain ⟨ds27, es27, ls27⟩ := um_J4_append_bf812 hq
  have ms27 : s27.2.1 ≤ r.2.1 := uM_le (by repeat (with_reducible (first | refine uM_ite ?_ ?_ | refine uM_let (α := Sb) ?_ | refine uM_lg (fun _ => ?_) | exact uM_none | exact uM_some rfl | exact uM_e (G67 _ _ _ _) rfl | exact uM_e (um_df_X7_write_211 _ _ G67 _ _ _ _) rfl | exact uM_e (um_df_X7_write_200 _ _ G67 _ _ _ _ _ _) rfl | exact uM_e (um_df_X7_write_136 _ _ G67 _ _ _ _ _) rfl | exact uM_e (um_df_X7_write_99 _ _ G67 _ _ _ _ _) rfl | exact uM_e (um_df_X7_write_65 _ _ _ _) rfl | exact uM_e (um_df_X7_write_61 _ _ _ _ _) rfl | refine uM_c uc_J5_ensureCapacityInternal_d00df (fun _ => ?_) | refine uM_c uc_J5_append_cf1ce (fun _ => ?_) | refine uM_c uc_J5_append_3fe6f (fun _ => ?_) | refine uM_c uc_J5_append_c97b9 (fun _ => ?_) | refine uM_c uc_J4_append_15ec4 (fun _ => ?_) | refine uM_c uc_J4_append_cf468 (fun _ => ?_) | refine uM_c uc_J4_append_bf812 (fun _ => ?_) | refine uM_c uc_X7_writeRegister (fun _ => ?_) | refine uM_b1 (fun _ => ?_) | refine uM_b2 (fun _ _ => ?_) | refine uM_ck ?_ | refine uM_lt ?_))) h
  refine nd_gVr (E := nv_H dI) (As := [.int x5]) (rest := []) (w' := (fun (v : Nat) => dw_SB a ac v s27)) nv_Hs nv_Hc ⟨hx, hb, hml, hown, hts⟩ (fun sz => dm_J4_append_bf812 l hlt dC dI a ac vs25 n (x5) s25 hq es27 sz) (cwV 1 hts gi_dm_X7_write_5 rfl rfl rfl (by decide +kernel) ⟨Nat.le_of_ble_eq_true rfl, Nat.le_of_ble_eq_true rfl⟩) hPc hDc hKc hS hA hE (va_recv hKc hPc (ci := 1) (q0 := 0) rfl rfl) rfl hl.1 rfl (Nat.le_of_ble_eq_true rfl) dX7_write_207 (nd_uX hk es27 ms27 HR) (fun vs27 xs27 H locs hP1 hD1 hk1 hS => ?_)
  refine nd_w34 ?_
  have hP := hP1
  have hD := hD1.weaken (fun k q _ h => hFc q.1 h)
  generalize eks27 : ks25 + ds27 = ks27
  have hk := nd_uN hk es27 eks27
  have hm := ms27
  refine lv_pop hx hb dX7_write_210 rfl ?_
  exact (db_X7_write_211 C HR K J67 G67) (x0) (x2) (x3) s27 vs27 ks27 _ _ _ hk hm h hP hD hS (lv_sub hl [0, 1, 2, 3] rfl)
set_option maxHeartbeats 40000000 in
set_option maxRecDepth 100000 in
theorem db_X7_write_136 {p : Program} {l : Launch} {e : Env} {s : State} {m : MethodId} {args : Array Value} {below : List Frame} {meth : Method} {c : Code} {Q : State → Prop} {A : Nat → Prop} {dC : Nat → ClassId} {dI : Nat → Nat → Nat} {a : Nat → Nat} {ac : Nat → ClassId} {u0 dd : Nat} {n : Nat} {r : Sb} (C : nd_CH p l s m args c A (dC, dI) cX7_write 6 RX7 ow_dm_X7_write (dk_J4 ac)) (HR : r.2.1 ≤ u0 + dd) (K : nd_Sv p l e (headSpec ow_dm_X7_write ({ frames := 8, cells := dd, slots := 34 * dd, locals := 208 })).room s m args below meth c Q A (dC, dI) cX7_write (dw_SB a ac) u0 r) {g67 : Nat → Int32 → Int32 → (Sb) → Option (Sb)} (J67 : dj_X7_write_67 p l e s m args below meth c Q A dC dI a ac u0 dd g67 r) (G67 : ∀ (y0 : Nat) (y1 : Int32) (y2 : Int32) (s : Sb), uM s.2.1 (g67 y0 y1 y2 s)) : dj_X7_write_136 p l e s m args below meth c Q A dC dI a ac u0 dd (df_X7_write_136 n g67) r := by
  obtain ⟨hlt, hx, hb, hml, hown, hts, hE, hA, hK⟩ := id C
  have hN := hE.1
  intro x0 x2 x3 y1 s0 vv0 kk0 H locs ls hk hm h hP hD hS hl
  unfold df_X7_write_136 at h
  obtain ⟨s39, hq, h⟩ := nd_b1_e h
  have hPc := hP
  have hDc := hD
  have hKc := hK
  have hFc := nd_rs hD hS hA
  obtain ⟨ds39, es39, ls39⟩ := um_J4_append_15ec4 hq
  have ms39 : s39.2.1 ≤ r.2.1 := uM_le (by repeat (with_reducible (first | refine uM_ite ?_ ?_ | refine uM_let (α := Sb) ?_ | refine uM_lg (fun _ => ?_) | exact uM_none | exact uM_some rfl | exact uM_e (G67 _ _ _ _) rfl | exact uM_e (um_df_X7_write_211 _ _ G67 _ _ _ _) rfl | exact uM_e (um_df_X7_write_200 _ _ G67 _ _ _ _ _ _) rfl | exact uM_e (um_df_X7_write_136 _ _ G67 _ _ _ _ _) rfl | exact uM_e (um_df_X7_write_99 _ _ G67 _ _ _ _ _) rfl | exact uM_e (um_df_X7_write_65 _ _ _ _) rfl | exact uM_e (um_df_X7_write_61 _ _ _ _ _) rfl | refine uM_c uc_J5_ensureCapacityInternal_d00df (fun _ => ?_) | refine uM_c uc_J5_append_cf1ce (fun _ => ?_) | refine uM_c uc_J5_append_3fe6f (fun _ => ?_) | refine uM_c uc_J5_append_c97b9 (fun _ => ?_) | refine uM_c uc_J4_append_15ec4 (fun _ => ?_) | refine uM_c uc_J4_append_cf468 (fun _ => ?_) | refine uM_c uc_J4_append_bf812 (fun _ => ?_) | refine uM_c uc_X7_writeRegister (fun _ => ?_) | refine uM_b1 (fun _ => ?_) | refine uM_b2 (fun _ _ => ?_) | refine uM_ck ?_ | refine uM_lt ?_))) h
  refine nd_gVr (E := nv_H dI) (As := [.ref (dI 1000 y1)]) (rest := []) (w' := (fun (v : Nat) => dw_SB a ac v s39)) nv_Hs nv_Hc ⟨hx, hb, hml, hown, hts⟩ (fun sz => dm_J4_append_15ec4 l hlt dC dI a ac vv0 n (y1) s0 hq es39 sz) (cwV 1 hts gi_dm_X7_write_0 rfl rfl rfl (by decide +kernel) ⟨Nat.le_of_ble_eq_true rfl, Nat.le_of_ble_eq_true rfl⟩) hPc hDc hKc hS hA hE (va_recv hKc hPc (ci := 1) (q0 := 0) rfl rfl) rfl hl.1 rfl (Nat.le_of_ble_eq_true rfl) dX7_write_136 (nd_uX hk es39 ms39 HR) (fun vs39 xs39 H locs hP1 hD1 hk1 hS => ?_)
  refine nd_w34 ?_
  have hP := hP1
  have hD := hD1.weaken (fun k q _ h => hFc q.1 h)
  generalize eks39 : kk0 + ds39 = ks39
  have hk := nd_uN hk es39 eks39
  have hm := ms39
  refine lv_pop hx hb dX7_write_139 rfl ?_
  refine lv_goto (tgt := 211) hx hb dX7_write_140 (by decide) ?_
  exact (db_X7_write_211 C HR K J67 G67) (x0) (x2) (x3) s39 vs39 ks39 _ _ _ hk hm h hP hD hS (lv_sub hl [0, 1, 2, 3] rfl)
set_option maxHeartbeats 40000000 in
set_option maxRecDepth 100000 in
theorem db_X7_write_99 {p : Program} {l : Launch} {e : Env} {s : State} {m : MethodId} {args : Array Value} {below : List Frame} {meth : Method} {c : Code} {Q : State → Prop} {A : Nat → Prop} {dC : Nat → ClassId} {dI : Nat → Nat → Nat} {a : Nat → Nat} {ac : Nat → ClassId} {u0 dd : Nat} {n : Nat} {r : Sb} (C : nd_CH p l s m args c A (dC, dI) cX7_write 6 RX7 ow_dm_X7_write (dk_J4 ac)) (HR : r.2.1 ≤ u0 + dd) (K : nd_Sv p l e (headSpec ow_dm_X7_write ({ frames := 8, cells := dd, slots := 34 * dd, locals := 208 })).room s m args below meth c Q A (dC, dI) cX7_write (dw_SB a ac) u0 r) {g67 : Nat → Int32 → Int32 → (Sb) → Option (Sb)} (J67 : dj_X7_write_67 p l e s m args below meth c Q A dC dI a ac u0 dd g67 r) (G67 : ∀ (y0 : Nat) (y1 : Int32) (y2 : Int32) (s : Sb), uM s.2.1 (g67 y0 y1 y2 s)) : dj_X7_write_99 p l e s m args below meth c Q A dC dI a ac u0 dd (df_X7_write_99 n g67) r := by
  obtain ⟨hlt, hx, hb, hml, hown, hts, hE, hA, hK⟩ := id C
  have hN := hE.1
  intro x0 x2 x3 x4 s0 vv0 kk0 H locs ls hk hm h hP hD hS hl
  unfold df_X7_write_99 at h
  refine lv_iload hx hb dX7_write_99 (lv_at hl 4 rfl) ?_
  refine lv_bipush (v := 65) hx hb dX7_write_101 (by decide) ?_
  refine lv_icmp_ge (tgt := 143) hx hb dX7_write_103 (by decide) (fun c16 => ?_) (fun c16 => ?_)
  · have h := nd_pos h c16
    refine lv_iload hx hb dX7_write_143 (lv_at hl 4 rfl) ?_
    refine lv_bipush (v := 97) hx hb dX7_write_145 (by decide) ?_
    refine lv_icmp_lt (tgt := 163) hx hb dX7_write_147 (by decide) (fun c17 => ?_) (fun c17 => ?_)
    · have h := nd_pos h c17
      refine lv_iload hx hb dX7_write_163 (lv_at hl 4 rfl) ?_
      refine lv_iload_n hx hb dX7_write_165 rfl (lv_at hl 2 rfl) ?_
      obtain ⟨q19, s18, hq, h⟩ := nd_b2_e h
      have hPc : va_P (dC, dI) vwCl (dw_P a ac ()) H := nd_p0
      have hDc : va_D A (dw_P a ac ()) := nd_d0
      have hKc : va_K (dC, dI) vwCl (dk_P ac) s := nd_y0 hK
      refine nd_gSi (E := nv_E dI) (As := [.int x4, .int x2]) (rest := []) (q := q19) (w' := (fun (_ : Unit) => dw_P a ac s18)) nv_same nv_call ⟨hx, hb, hml, hown, hts⟩ (fun sz => dm_X7_taken l hlt dC dI a ac n (x4) (x2) () hq sz) (cwS 2 hts gi_dm_X7_write_3 rfl rfl rfl (by decide +kernel) ⟨Nat.le_of_ble_eq_true rfl, Nat.le_of_ble_eq_true rfl⟩) hPc hDc hKc hS hA hN rfl hl.1 rfl (Nat.le_of_ble_eq_true rfl) dX7_write_166 (nd_uP hk hm HR) (fun _ H locs hP1 hD1 hk1 hS => ?_)
      have hP := nd_n0 hP hk1
      refine lv_istore (lv' := [(5, .int q19), (0, .ref (dI 1002 x0)), (1, .ref (a 0)), (2, .int x2), (3, .int x3), (4, .int x4)]) hx hb dX7_write_169 hl (by decide) rfl (fun ls hl => ?_)
      refine lv_aload_n hx hb dX7_write_171 rfl (lv_at hl 2 rfl) ?_
      refine lv_iload hx hb dX7_write_172 (lv_at hl 5 rfl) ?_
      obtain ⟨q21, s20, hq, h⟩ := nd_b2_e h
      have hPc : va_P (dC, dI) vwCl (dw_P a ac ()) H := nd_p0
      have hDc : va_D A (dw_P a ac ()) := nd_d0
      have hKc : va_K (dC, dI) vwCl (dk_P ac) s := nd_y0 hK
      refine nd_gSi (E := nv_E dI) (As := [.int x4]) (rest := [.ref (a 0)]) (q := q21) (w' := (fun (_ : Unit) => dw_P a ac s20)) nv_same nv_call ⟨hx, hb, hml, hown, hts⟩ (fun sz => dm_X7_isTarget l hlt dC dI a ac n (x4) () hq sz) (cwS 1 hts gi_dm_X7_write_4 rfl rfl rfl (by decide +kernel) ⟨Nat.le_of_ble_eq_true rfl, Nat.le_of_ble_eq_true rfl⟩) hPc hDc hKc hS hA hN rfl hl.1 rfl (Nat.le_of_ble_eq_true rfl) dX7_write_174 (nd_uP hk hm HR) (fun _ H locs hP1 hD1 hk1 hS => ?_)
      have hP := nd_n0 hP hk1
      refine lv_if_ne (tgt := 186) hx hb dX7_write_177 (by decide) (fun c22 => ?_) (fun c22 => ?_)
      · have h := nd_neg h c22
        refine lv_iload hx hb dX7_write_186 (lv_at hl 0 rfl) ?_
        refine lv_if_ge (tgt := 197) hx hb dX7_write_188 (by decide) (fun c23 => ?_) (fun c23 => ?_)
        · have h := nd_pos h c23
          have z24 : vk_R RX7 534 ".+" (dI 1000 14) s := hN.2.2.2.2.2.2.2.2.2.2.2.2.1 14 (by decide)
          refine nv_ldcw hx hb hown z24 dX7_write_197 ?_
          exact (db_X7_write_200 C HR K J67 G67) (x0) (x2) (x3) (q19) (14) s0 vv0 kk0 _ _ _ hk hm h hP hD hS (lv_sub hl [1, 2, 3, 4, 0] rfl)
        · have h := nd_neg h c23
          have z30 : vk_R RX7 532 "." (dI 1000 13) s := hN.2.2.2.2.2.2.2.2.2.2.2.2.1 13 (by decide)
          refine nv_ldcw hx hb hown z30 dX7_write_191 ?_
          refine lv_goto (tgt := 200) hx hb dX7_write_194 (by decide) ?_
          exact (db_X7_write_200 C HR K J67 G67) (x0) (x2) (x3) (q19) (13) s0 vv0 kk0 _ _ _ hk hm h hP hD hS (lv_sub hl [1, 2, 3, 4, 0] rfl)
      · have h := nd_pos h c22
        have z31 : vk_R RX7 530 "" (dI 1000 12) s := hN.2.2.2.2.2.2.2.2.2.2.2.2.1 12 (by decide)
        refine nv_ldcw hx hb hown z31 dX7_write_180 ?_
        refine lv_goto (tgt := 200) hx hb dX7_write_183 (by decide) ?_
        exact (db_X7_write_200 C HR K J67 G67) (x0) (x2) (x3) (q19) (12) s0 vv0 kk0 _ _ _ hk hm h hP hD hS (lv_sub hl [1, 2, 3, 4, 0] rfl)
    · have h := nd_neg h c17
      refine lv_aload_n hx hb dX7_write_150 rfl (lv_at hl 1 rfl) ?_
      refine lv_iload hx hb dX7_write_151 (lv_at hl 4 rfl) ?_
      refine lv_iload_n hx hb dX7_write_153 rfl (lv_at hl 2 rfl) ?_
      obtain ⟨q33, s32, hq, h⟩ := nd_b2_e h
      have hPc : va_P (dC, dI) vwCl (dw_P a ac ()) H := nd_p0
      have hDc : va_D A (dw_P a ac ()) := nd_d0
      have hKc : va_K (dC, dI) vwCl (dk_P ac) s := nd_y0 hK
      refine nd_gSi (E := nv_E dI) (As := [.int x4, .int x2]) (rest := [.ref (a 0)]) (q := q33) (w' := (fun (_ : Unit) => dw_P a ac s32)) nv_same nv_call ⟨hx, hb, hml, hown, hts⟩ (fun sz => dm_X7_taken l hlt dC dI a ac n (x4) (x2) () hq sz) (cwS 2 hts gi_dm_X7_write_3 rfl rfl rfl (by decide +kernel) ⟨Nat.le_of_ble_eq_true rfl, Nat.le_of_ble_eq_true rfl⟩) hPc hDc hKc hS hA hN rfl hl.1 rfl (Nat.le_of_ble_eq_true rfl) dX7_write_154 (nd_uP hk hm HR) (fun _ H locs hP1 hD1 hk1 hS => ?_)
      have hP := nd_n0 hP hk1
      obtain ⟨s34, hq, h⟩ := nd_b1_e h
      have hPc := hP
      have hDc := hD
      have hKc := hK
      have hFc := nd_rs hD hS hA
      obtain ⟨ds34, es34, ls34⟩ := um_X7_writeRegister hq
      have ms34 : s34.2.1 ≤ r.2.1 := uM_le (by repeat (with_reducible (first | refine uM_ite ?_ ?_ | refine uM_let (α := Sb) ?_ | refine uM_lg (fun _ => ?_) | exact uM_none | exact uM_some rfl | exact uM_e (G67 _ _ _ _) rfl | exact uM_e (um_df_X7_write_211 _ _ G67 _ _ _ _) rfl | exact uM_e (um_df_X7_write_200 _ _ G67 _ _ _ _ _ _) rfl | exact uM_e (um_df_X7_write_136 _ _ G67 _ _ _ _ _) rfl | exact uM_e (um_df_X7_write_99 _ _ G67 _ _ _ _ _) rfl | exact uM_e (um_df_X7_write_65 _ _ _ _) rfl | exact uM_e (um_df_X7_write_61 _ _ _ _ _) rfl | refine uM_c uc_J5_ensureCapacityInternal_d00df (fun _ => ?_) | refine uM_c uc_J5_append_cf1ce (fun _ => ?_) | refine uM_c uc_J5_append_3fe6f (fun _ => ?_) | refine uM_c uc_J5_append_c97b9 (fun _ => ?_) | refine uM_c uc_J4_append_15ec4 (fun _ => ?_) | refine uM_c uc_J4_append_cf468 (fun _ => ?_) | refine uM_c uc_J4_append_bf812 (fun _ => ?_) | refine uM_c uc_X7_writeRegister (fun _ => ?_) | refine uM_b1 (fun _ => ?_) | refine uM_b2 (fun _ _ => ?_) | refine uM_ck ?_ | refine uM_lt ?_))) h
      refine nd_gSv (E := nv_H dI) (As := [.ref (a 0), .int q33]) (rest := []) (w' := (fun (v : Nat) => dw_SB a ac v s34)) nv_Hs nv_Hc ⟨hx, hb, hml, hown, hts⟩ (fun sz => dm_X7_writeRegister l hlt dC dI a ac vv0 n (q33) s0 hq es34 sz) (cwS 2 hts gi_dm_X7_write_6 rfl rfl rfl (by decide +kernel) ⟨Nat.le_of_ble_eq_true rfl, Nat.le_of_ble_eq_true rfl⟩) hPc hDc hKc hS hA hE rfl hl.1 rfl (Nat.le_of_ble_eq_true rfl) dX7_write_157 (nd_uX hk es34 ms34 HR) (fun vs34 H locs hP1 hD1 hk1 hS => ?_)
      refine nd_w34 ?_
      have hP := hP1
      have hD := hD1.weaken (fun k q _ h => hFc q.1 h)
      generalize eks34 : kk0 + ds34 = ks34
      have hk := nd_uN hk es34 eks34
      have hm := ms34
      refine lv_goto (tgt := 211) hx hb dX7_write_160 (by decide) ?_
      exact (db_X7_write_211 C HR K J67 G67) (x0) (x2) (x3) s34 vs34 ks34 _ _ _ hk hm h hP hD hS (lv_sub hl [0, 1, 2, 3] rfl)
  · have h := nd_neg h c16
    refine lv_aload_n hx hb dX7_write_106 rfl (lv_at hl 1 rfl) ?_
    refine lv_iload hx hb dX7_write_107 (lv_at hl 4 rfl) ?_
    refine lv_bipush (v := 44) hx hb dX7_write_109 (by decide) ?_
    refine lv_icmp_ne (tgt := 120) hx hb dX7_write_111 (by decide) (fun c36 => ?_) (fun c36 => ?_)
    · have h := nd_neg h c36
      refine lv_iload hx hb dX7_write_120 (lv_at hl 4 rfl) ?_
      refine lv_bipush (v := 40) hx hb dX7_write_122 (by decide) ?_
      refine lv_icmp_ne (tgt := 133) hx hb dX7_write_124 (by decide) (fun c37 => ?_) (fun c37 => ?_)
      · have h := nd_neg h c37
        have z38 : vk_R RX7 521 ")" (dI 1000 9) s := hN.2.2.2.2.2.2.2.2.2.2.2.2.1 9 (by decide)
        refine nv_ldcw hx hb hown z38 dX7_write_133 ?_
        exact (db_X7_write_136 C HR K J67 G67) (x0) (x2) (x3) (9) s0 vv0 kk0 _ _ _ hk hm h hP hD hS (lv_sub hl [0, 1, 2, 3] rfl)
      · have h := nd_pos h c37
        have z41 : vk_R RX7 519 "(" (dI 1000 8) s := hN.2.2.2.2.2.2.2.2.2.2.2.2.1 8 (by decide)
        refine nv_ldcw hx hb hown z41 dX7_write_127 ?_
        refine lv_goto (tgt := 136) hx hb dX7_write_130 (by decide) ?_
        exact (db_X7_write_136 C HR K J67 G67) (x0) (x2) (x3) (8) s0 vv0 kk0 _ _ _ hk hm h hP hD hS (lv_sub hl [0, 1, 2, 3] rfl)
    · have h := nd_pos h c36
      have z42 : vk_R RX7 517 ", " (dI 1000 7) s := hN.2.2.2.2.2.2.2.2.2.2.2.2.1 7 (by decide)
      refine nv_ldcw hx hb hown z42 dX7_write_114 ?_
      refine lv_goto (tgt := 136) hx hb dX7_write_117 (by decide) ?_
      exact (db_X7_write_136 C HR K J67 G67) (x0) (x2) (x3) (7) s0 vv0 kk0 _ _ _ hk hm h hP hD hS (lv_sub hl [0, 1, 2, 3] rfl)
set_option maxHeartbeats 40000000 in
set_option maxRecDepth 100000 in
theorem dB_X7_write_67 {p : Program} {l : Launch} {e : Env} {s : State} {m : MethodId} {args : Array Value} {below : List Frame} {meth : Method} {c : Code} {Q : State → Prop} {A : Nat → Prop} {dC : Nat → ClassId} {dI : Nat → Nat → Nat} {a : Nat → Nat} {ac : Nat → ClassId} {u0 dd : Nat} {n : Nat} {r : Sb} (C : nd_CH p l s m args c A (dC, dI) cX7_write 6 RX7 ow_dm_X7_write (dk_J4 ac)) (HR : r.2.1 ≤ u0 + dd) (K : nd_Sv p l e (headSpec ow_dm_X7_write ({ frames := 8, cells := dd, slots := 34 * dd, locals := 208 })).room s m args below meth c Q A (dC, dI) cX7_write (dw_SB a ac) u0 r) {g67 : Nat → Int32 → Int32 → (Sb) → Option (Sb)} (J67 : dj_X7_write_67 p l e s m args below meth c Q A dC dI a ac u0 dd g67 r) (G67 : ∀ (y0 : Nat) (y1 : Int32) (y2 : Int32) (s : Sb), uM s.2.1 (g67 y0 y1 y2 s)) : dj_X7_write_67 p l e s m args below meth c Q A dC dI a ac u0 dd (dF_X7_write_67 n g67) r := by
  obtain ⟨hlt, hx, hb, hml, hown, hts, hE, hA, hK⟩ := id C
  have hN := hE.1
  intro x0 x2 x3 s0 vv0 kk0 H locs ls hk hm h hP hD hS hl
  unfold dF_X7_write_67 at h
  refine lv_iload_n hx hb dX7_write_67 rfl (lv_at hl 3 rfl) ?_
  refine lv_aload_n hx hb dX7_write_68 rfl (lv_at hl 0 rfl) ?_
  obtain ⟨i6, h⟩ := nd_lt_e h
  refine vk_getf hx hb (hN.2.2.2.2.2.2.2.2.2.2.2.2.2.2.1 x0 i6).2.2.2.1 hS hown (hts (.fieldLink RX7 413 "TimeMachine$Op" "form" "Ljava/lang/String;") (List.mem_of_getElem? (i := 7) rfl)) (fun _ h9 => h9) dX7_write_69 ?_
  obtain ⟨i9, h⟩ := nd_lt_e h
  obtain ⟨q8, s7, hq, h⟩ := nd_b2_e h
  have hPc : va_P (dC, dI) vwCl (dw_P a ac ()) H := nd_p0
  have hDc : va_D A (dw_P a ac ()) := nd_d0
  have hKc : va_K (dC, dI) vwCl (dk_P ac) s := nd_y0 hK
  refine nd_gVi (E := nv_E dI) (As := []) (rest := [.int x3]) (q := q8) (w' := (fun (_ : Unit) => dw_P a ac s7)) nv_same nv_call ⟨hx, hb, hml, hown, hts⟩ (fun sz => dm_J0_length_8abf5 l hlt dC dI a ac n ((ko_f x0)) () hq sz) (cwV 0 hts gi_dm_X7_write_1 rfl rfl rfl (by decide +kernel) ⟨Nat.le_of_ble_eq_true rfl, Nat.le_of_ble_eq_true rfl⟩) hPc hDc hKc hS hA hN (nv_rcv hN.2.2.2.2.2.2.2.2.2.2.2 i9 hS) rfl hl.1 rfl (Nat.le_of_ble_eq_true rfl) dX7_write_72 (nd_uP hk hm HR) (fun _ H locs hP1 hD1 hk1 hS => ?_)
  have hP := nd_n0 hP hk1
  refine lv_icmp_ge (tgt := 217) hx hb dX7_write_75 (by decide) (fun c10 => ?_) (fun c10 => ?_)
  · have h := nd_pos h c10
    exact K _ _ _ _ _ _ _ dX7_write_217 hk (Option.some.inj h).symm hP hD hS
  · have h := nd_neg h c10
    refine lv_aload_n hx hb dX7_write_78 rfl (lv_at hl 0 rfl) ?_
    obtain ⟨i11, h⟩ := nd_lt_e h
    refine vk_getf hx hb (hN.2.2.2.2.2.2.2.2.2.2.2.2.2.2.1 x0 i11).2.2.2.1 hS hown (hts (.fieldLink RX7 413 "TimeMachine$Op" "form" "Ljava/lang/String;") (List.mem_of_getElem? (i := 7) rfl)) (fun _ h9 => h9) dX7_write_79 ?_
    refine lv_iload_n hx hb dX7_write_82 rfl (lv_at hl 3 rfl) ?_
    obtain ⟨i14, h⟩ := nd_lt_e h
    obtain ⟨q13, s12, hq, h⟩ := nd_b2_e h
    have hPc : va_P (dC, dI) vwCl (dw_P a ac ()) H := nd_p0
    have hDc : va_D A (dw_P a ac ()) := nd_d0
    have hKc : va_K (dC, dI) vwCl (dk_P ac) s := nd_y0 hK
    refine nd_gVi (E := nv_E dI) (As := [.int x3]) (rest := []) (q := q13) (w' := (fun (_ : Unit) => dw_P a ac s12)) nv_same nv_call ⟨hx, hb, hml, hown, hts⟩ (fun sz => dm_J0_charAt_5068e l hlt dC dI a ac n ((ko_f x0)) (x3) () hq sz) (cwV 1 hts gi_dm_X7_write_2 rfl rfl rfl (by decide +kernel) ⟨Nat.le_of_ble_eq_true rfl, Nat.le_of_ble_eq_true rfl⟩) hPc hDc hKc hS hA hN (nv_rcv hN.2.2.2.2.2.2.2.2.2.2.2 i14 hS) rfl hl.1 rfl (Nat.le_of_ble_eq_true rfl) dX7_write_83 (nd_uP hk hm HR) (fun _ H locs hP1 hD1 hk1 hS => ?_)
    have hP := nd_n0 hP hk1
    refine lv_istore (lv' := [(4, .int q13), (0, .ref (dI 1002 x0)), (1, .ref (a 0)), (2, .int x2), (3, .int x3)]) hx hb dX7_write_86 hl (by decide) rfl (fun ls hl => ?_)
    refine lv_iload_n hx hb dX7_write_88 rfl (lv_at hl 4 rfl) ?_
    refine lv_if_ne (tgt := 99) hx hb dX7_write_89 (by decide) (fun c15 => ?_) (fun c15 => ?_)
    · have h := nd_neg h c15
      exact (db_X7_write_99 C HR K J67 G67) (x0) (x2) (x3) (q13) s0 vv0 kk0 _ _ _ hk hm h hP hD hS (lv_sub hl [1, 2, 3, 4, 0] rfl)
    · have h := nd_pos h c15
      refine lv_aload_n hx hb dX7_write_92 rfl (lv_at hl 2 rfl) ?_
      refine lv_bipush (v := 32) hx hb dX7_write_93 (by decide) ?_
      obtain ⟨s43, hq, h⟩ := nd_b1_e h
      have hPc := hP
      have hDc := hD
      have hKc := hK
      have hFc := nd_rs hD hS hA
      obtain ⟨ds43, es43, ls43⟩ := um_J4_append_cf468 hq
      have ms43 : s43.2.1 ≤ r.2.1 := uM_le (by repeat (with_reducible (first | refine uM_ite ?_ ?_ | refine uM_let (α := Sb) ?_ | refine uM_lg (fun _ => ?_) | exact uM_none | exact uM_some rfl | exact uM_e (G67 _ _ _ _) rfl | exact uM_e (um_df_X7_write_211 _ _ G67 _ _ _ _) rfl | exact uM_e (um_df_X7_write_200 _ _ G67 _ _ _ _ _ _) rfl | exact uM_e (um_df_X7_write_136 _ _ G67 _ _ _ _ _) rfl | exact uM_e (um_df_X7_write_99 _ _ G67 _ _ _ _ _) rfl | exact uM_e (um_df_X7_write_65 _ _ _ _) rfl | exact uM_e (um_df_X7_write_61 _ _ _ _ _) rfl | refine uM_c uc_J5_ensureCapacityInternal_d00df (fun _ => ?_) | refine uM_c uc_J5_append_cf1ce (fun _ => ?_) | refine uM_c uc_J5_append_3fe6f (fun _ => ?_) | refine uM_c uc_J5_append_c97b9 (fun _ => ?_) | refine uM_c uc_J4_append_15ec4 (fun _ => ?_) | refine uM_c uc_J4_append_cf468 (fun _ => ?_) | refine uM_c uc_J4_append_bf812 (fun _ => ?_) | refine uM_c uc_X7_writeRegister (fun _ => ?_) | refine uM_b1 (fun _ => ?_) | refine uM_b2 (fun _ _ => ?_) | refine uM_ck ?_ | refine uM_lt ?_))) h
      refine nd_gVr (E := nv_H dI) (As := [.int 32]) (rest := []) (w' := (fun (v : Nat) => dw_SB a ac v s43)) nv_Hs nv_Hc ⟨hx, hb, hml, hown, hts⟩ (fun sz => dm_J4_append_cf468 l hlt dC dI a ac vv0 n (32) s0 hq es43 sz) (cwV 1 hts gi_dm_X7_write_7 rfl rfl rfl (by decide +kernel) ⟨Nat.le_of_ble_eq_true rfl, Nat.le_of_ble_eq_true rfl⟩) hPc hDc hKc hS hA hE (va_recv hKc hPc (ci := 1) (q0 := 0) rfl rfl) rfl hl.1 rfl (Nat.le_of_ble_eq_true rfl) dX7_write_95 (nd_uX hk es43 ms43 HR) (fun vs43 xs43 H locs hP1 hD1 hk1 hS => ?_)
      refine nd_w34 ?_
      have hP := hP1
      have hD := hD1.weaken (fun k q _ h => hFc q.1 h)
      generalize eks43 : kk0 + ds43 = ks43
      have hk := nd_uN hk es43 eks43
      have hm := ms43
      refine lv_pop hx hb dX7_write_98 rfl ?_
      exact (db_X7_write_99 C HR K J67 G67) (x0) (x2) (x3) (q13) s43 vs43 ks43 _ _ _ hk hm h hP hD hS (lv_sub hl [1, 2, 3, 4, 0] rfl)
set_option maxHeartbeats 40000000 in
set_option maxRecDepth 100000 in
theorem db_X7_write_67 {p : Program} {l : Launch} {e : Env} {s : State} {m : MethodId} {args : Array Value} {below : List Frame} {meth : Method} {c : Code} {Q : State → Prop} {A : Nat → Prop} {dC : Nat → ClassId} {dI : Nat → Nat → Nat} {a : Nat → Nat} {ac : Nat → ClassId} {u0 dd : Nat} {n : Nat} {r : Sb} (C : nd_CH p l s m args c A (dC, dI) cX7_write 6 RX7 ow_dm_X7_write (dk_J4 ac)) (HR : r.2.1 ≤ u0 + dd) (K : nd_Sv p l e (headSpec ow_dm_X7_write ({ frames := 8, cells := dd, slots := 34 * dd, locals := 208 })).room s m args below meth c Q A (dC, dI) cX7_write (dw_SB a ac) u0 r) (k : Nat) : dj_X7_write_67 p l e s m args below meth c Q A dC dI a ac u0 dd (df_X7_write_67 n k) r := by
  induction k with
  | zero => intro x0 x2 x3 s0 vv0 kk0 H locs ls hk hm h; exact nomatch (show (none : Option Sb) = some r from h)
  | succ k ih => exact dB_X7_write_67 C HR K ih (um_df_X7_write_67 n k)
set_option maxHeartbeats 40000000 in
set_option maxRecDepth 100000 in
theorem db_X7_write_65 {p : Program} {l : Launch} {e : Env} {s : State} {m : MethodId} {args : Array Value} {below : List Frame} {meth : Method} {c : Code} {Q : State → Prop} {A : Nat → Prop} {dC : Nat → ClassId} {dI : Nat → Nat → Nat} {a : Nat → Nat} {ac : Nat → ClassId} {u0 dd : Nat} {n : Nat} {r : Sb} (C : nd_CH p l s m args c A (dC, dI) cX7_write 6 RX7 ow_dm_X7_write (dk_J4 ac)) (HR : r.2.1 ≤ u0 + dd) (K : nd_Sv p l e (headSpec ow_dm_X7_write ({ frames := 8, cells := dd, slots := 34 * dd, locals := 208 })).room s m args below meth c Q A (dC, dI) cX7_write (dw_SB a ac) u0 r) : dj_X7_write_65 p l e s m args below meth c Q A dC dI a ac u0 dd (df_X7_write_65 n) r := by
  obtain ⟨hlt, hx, hb, hml, hown, hts, hE, hA, hK⟩ := id C
  have hN := hE.1
  intro x0 x2 s0 vv0 kk0 H locs ls hk hm h hP hD hS hl
  unfold df_X7_write_65 at h
  refine lv_iconst (v := 0) hx hb dX7_write_65 (by decide) ?_
  refine lv_istore_n (lv' := [(3, .int 0), (0, .ref (dI 1002 x0)), (1, .ref (a 0)), (2, .int x2)]) hx hb dX7_write_66 rfl hl (by decide) rfl (fun ls hl => ?_)
  exact (db_X7_write_67 C HR K n) (x0) (x2) (0) s0 vv0 kk0 _ _ _ hk hm h hP hD hS (lv_sub hl [1, 2, 3, 0] rfl)
set_option maxHeartbeats 40000000 in
set_option maxRecDepth 100000 in
theorem db_X7_write_61 {p : Program} {l : Launch} {e : Env} {s : State} {m : MethodId} {args : Array Value} {below : List Frame} {meth : Method} {c : Code} {Q : State → Prop} {A : Nat → Prop} {dC : Nat → ClassId} {dI : Nat → Nat → Nat} {a : Nat → Nat} {ac : Nat → ClassId} {u0 dd : Nat} {n : Nat} {r : Sb} (C : nd_CH p l s m args c A (dC, dI) cX7_write 6 RX7 ow_dm_X7_write (dk_J4 ac)) (HR : r.2.1 ≤ u0 + dd) (K : nd_Sv p l e (headSpec ow_dm_X7_write ({ frames := 8, cells := dd, slots := 34 * dd, locals := 208 })).room s m args below meth c Q A (dC, dI) cX7_write (dw_SB a ac) u0 r) : dj_X7_write_61 p l e s m args below meth c Q A dC dI a ac u0 dd (df_X7_write_61 n) r := by
  obtain ⟨hlt, hx, hb, hml, hown, hts, hE, hA, hK⟩ := id C
  have hN := hE.1
  intro x0 x2 y1 s0 vv0 kk0 H locs ls hk hm h hP hD hS hl
  unfold df_X7_write_61 at h
  obtain ⟨s49, hq, h⟩ := nd_b1_e h
  have hPc := hP
  have hDc := hD
  have hKc := hK
  have hFc := nd_rs hD hS hA
  obtain ⟨ds49, es49, ls49⟩ := um_J4_append_15ec4 hq
  have ms49 : s49.2.1 ≤ r.2.1 := uM_le (by repeat (with_reducible (first | refine uM_ite ?_ ?_ | refine uM_let (α := Sb) ?_ | refine uM_lg (fun _ => ?_) | exact uM_none | exact uM_some rfl | exact uM_e (um_df_X7_write_211 _ _ G67 _ _ _ _) rfl | exact uM_e (um_df_X7_write_200 _ _ G67 _ _ _ _ _ _) rfl | exact uM_e (um_df_X7_write_136 _ _ G67 _ _ _ _ _) rfl | exact uM_e (um_df_X7_write_99 _ _ G67 _ _ _ _ _) rfl | exact uM_e (um_df_X7_write_65 _ _ _ _) rfl | exact uM_e (um_df_X7_write_61 _ _ _ _ _) rfl | refine uM_c uc_J5_ensureCapacityInternal_d00df (fun _ => ?_) | refine uM_c uc_J5_append_cf1ce (fun _ => ?_) | refine uM_c uc_J5_append_3fe6f (fun _ => ?_) | refine uM_c uc_J5_append_c97b9 (fun _ => ?_) | refine uM_c uc_J4_append_15ec4 (fun _ => ?_) | refine uM_c uc_J4_append_cf468 (fun _ => ?_) | refine uM_c uc_J4_append_bf812 (fun _ => ?_) | refine uM_c uc_X7_writeRegister (fun _ => ?_) | refine uM_b1 (fun _ => ?_) | refine uM_b2 (fun _ _ => ?_) | refine uM_ck ?_ | refine uM_lt ?_))) h
  refine nd_gVr (E := nv_H dI) (As := [.ref (dI 1000 y1)]) (rest := []) (w' := (fun (v : Nat) => dw_SB a ac v s49)) nv_Hs nv_Hc ⟨hx, hb, hml, hown, hts⟩ (fun sz => dm_J4_append_15ec4 l hlt dC dI a ac vv0 n (y1) s0 hq es49 sz) (cwV 1 hts gi_dm_X7_write_0 rfl rfl rfl (by decide +kernel) ⟨Nat.le_of_ble_eq_true rfl, Nat.le_of_ble_eq_true rfl⟩) hPc hDc hKc hS hA hE (va_recv hKc hPc (ci := 1) (q0 := 0) rfl rfl) rfl hl.1 rfl (Nat.le_of_ble_eq_true rfl) dX7_write_61 (nd_uX hk es49 ms49 HR) (fun vs49 xs49 H locs hP1 hD1 hk1 hS => ?_)
  refine nd_w34 ?_
  have hP := hP1
  have hD := hD1.weaken (fun k q _ h => hFc q.1 h)
  generalize eks49 : kk0 + ds49 = ks49
  have hk := nd_uN hk es49 eks49
  have hm := ms49
  refine lv_pop hx hb dX7_write_64 rfl ?_
  exact (db_X7_write_65 C HR K) (x0) (x2) s49 vs49 ks49 _ _ _ hk hm h hP hD hS (lv_sub hl [0, 1, 2] rfl)
set_option maxHeartbeats 40000000 in
set_option maxRecDepth 100000 in
theorem db_X7_write_0 {p : Program} {l : Launch} {e : Env} {s : State} {m : MethodId} {args : Array Value} {below : List Frame} {meth : Method} {c : Code} {Q : State → Prop} {A : Nat → Prop} {dC : Nat → ClassId} {dI : Nat → Nat → Nat} {a : Nat → Nat} {ac : Nat → ClassId} {u0 dd : Nat} {n : Nat} {r : Sb} (C : nd_CH p l s m args c A (dC, dI) cX7_write 6 RX7 ow_dm_X7_write (dk_J4 ac)) (HR : r.2.1 ≤ u0 + dd) (K : nd_Sv p l e (headSpec ow_dm_X7_write ({ frames := 8, cells := dd, slots := 34 * dd, locals := 208 })).room s m args below meth c Q A (dC, dI) cX7_write (dw_SB a ac) u0 r) : dj_X7_write_0 p l e s m args below meth c Q A dC dI a ac u0 dd (df_X7_write_0 n) r := by
  obtain ⟨hlt, hx, hb, hml, hown, hts, hE, hA, hK⟩ := id C
  have hN := hE.1
  intro vt v1 s0 vv0 kk0 H locs ls hk hm h hP hD hS hl
  unfold df_X7_write_0 at h
  refine lv_aload_n hx hb dX7_write_0 rfl (lv_at hl 1 rfl) ?_
  refine lv_aload_n hx hb dX7_write_1 rfl (lv_at hl 0 rfl) ?_
  obtain ⟨i1, h⟩ := nd_lt_e h
  refine vk_getf hx hb (hN.2.2.2.2.2.2.2.2.2.2.2.2.2.2.1 vt i1).2.2.1 hS hown (hts (.fieldLink RX7 409 "TimeMachine$Op" "word" "Ljava/lang/String;") (List.mem_of_getElem? (i := 1) rfl)) (fun _ h9 => h9) dX7_write_2 ?_
  obtain ⟨s2, hq, h⟩ := nd_b1_e h
  have hPc := hP
  have hDc := hD
  have hKc := hK
  have hFc := nd_rs hD hS hA
  obtain ⟨ds2, es2, ls2⟩ := um_J4_append_15ec4 hq
  have ms2 : s2.2.1 ≤ r.2.1 := uM_le (by repeat (with_reducible (first | refine uM_ite ?_ ?_ | refine uM_let (α := Sb) ?_ | refine uM_lg (fun _ => ?_) | exact uM_none | exact uM_some rfl | exact uM_e (um_df_X7_write_211 _ _ G67 _ _ _ _) rfl | exact uM_e (um_df_X7_write_200 _ _ G67 _ _ _ _ _ _) rfl | exact uM_e (um_df_X7_write_136 _ _ G67 _ _ _ _ _) rfl | exact uM_e (um_df_X7_write_99 _ _ G67 _ _ _ _ _) rfl | exact uM_e (um_df_X7_write_65 _ _ _ _) rfl | exact uM_e (um_df_X7_write_61 _ _ _ _ _) rfl | refine uM_c uc_J5_ensureCapacityInternal_d00df (fun _ => ?_) | refine uM_c uc_J5_append_cf1ce (fun _ => ?_) | refine uM_c uc_J5_append_3fe6f (fun _ => ?_) | refine uM_c uc_J5_append_c97b9 (fun _ => ?_) | refine uM_c uc_J4_append_15ec4 (fun _ => ?_) | refine uM_c uc_J4_append_cf468 (fun _ => ?_) | refine uM_c uc_J4_append_bf812 (fun _ => ?_) | refine uM_c uc_X7_writeRegister (fun _ => ?_) | refine uM_b1 (fun _ => ?_) | refine uM_b2 (fun _ _ => ?_) | refine uM_ck ?_ | refine uM_lt ?_))) h
  refine nd_gVr (E := nv_H dI) (As := [.ref (dI 1000 (ko_w vt))]) (rest := []) (w' := (fun (v : Nat) => dw_SB a ac v s2)) nv_Hs nv_Hc ⟨hx, hb, hml, hown, hts⟩ (fun sz => dm_J4_append_15ec4 l hlt dC dI a ac vv0 n ((ko_w vt)) s0 hq es2 sz) (cwV 1 hts gi_dm_X7_write_0 rfl rfl rfl (by decide +kernel) ⟨Nat.le_of_ble_eq_true rfl, Nat.le_of_ble_eq_true rfl⟩) hPc hDc hKc hS hA hE (va_recv hKc hPc (ci := 1) (q0 := 0) rfl rfl) rfl hl.1 rfl (Nat.le_of_ble_eq_true rfl) dX7_write_5 (nd_uX hk es2 ms2 HR) (fun vs2 xs2 H locs hP1 hD1 hk1 hS => ?_)
  refine nd_w34 ?_
  have hP := hP1
  have hD := hD1.weaken (fun k q _ h => hFc q.1 h)
  generalize eks2 : kk0 + ds2 = ks2
  have hk := nd_uN hk es2 eks2
  have hm := ms2
  refine lv_pop hx hb dX7_write_8 rfl ?_
  refine lv_aload_n hx hb dX7_write_9 rfl (lv_at hl 0 rfl) ?_
  obtain ⟨i4, h⟩ := nd_lt_e h
  refine vk_getf hx hb (hN.2.2.2.2.2.2.2.2.2.2.2.2.2.2.1 vt i4).2.2.2.2.1 hS hown (hts (.fieldLink RX7 416 "TimeMachine$Op" "bits" "I") (List.mem_of_getElem? (i := 6) rfl)) (fun _ h9 => h9) dX7_write_10 ?_
  refine lv_bipush (v := 127) hx hb dX7_write_13 (by decide) ?_
  refine lv_iand hx hb dX7_write_15 ?_
  refine lv_bipush (v := 47) hx hb dX7_write_16 (by decide) ?_
  refine lv_icmp_ne (tgt := 65) hx hb dX7_write_18 (by decide) (fun c5 => ?_) (fun c5 => ?_)
  · have h := nd_neg h c5
    exact (db_X7_write_65 C HR K) (vt) (v1) s2 vs2 ks2 _ _ _ hk hm h hP hD hS (lv_sub hl [0, 1, 2] rfl)
  · have h := nd_pos h c5
    refine lv_iload_n hx hb dX7_write_21 rfl (lv_at hl 2 rfl) ?_
    refine lv_ldcw hx hb hown (hts (.constant RX7 442 (100663296)) (List.mem_of_getElem? (i := 28) rfl)) dX7_write_22 ?_
    refine lv_iand hx hb dX7_write_25 ?_
    refine lv_if_eq (tgt := 65) hx hb dX7_write_26 (by decide) (fun c45 => ?_) (fun c45 => ?_)
    · have h := nd_pos h c45
      exact (db_X7_write_65 C HR K) (vt) (v1) s2 vs2 ks2 _ _ _ hk hm h hP hD hS (lv_sub hl [0, 1, 2] rfl)
    · have h := nd_neg h c45
      refine lv_aload_n hx hb dX7_write_29 rfl (lv_at hl 1 rfl) ?_
      refine lv_iload_n hx hb dX7_write_30 rfl (lv_at hl 2 rfl) ?_
      refine lv_ldcw hx hb hown (hts (.constant RX7 448 (33554432)) (List.mem_of_getElem? (i := 29) rfl)) dX7_write_31 ?_
      refine lv_iand hx hb dX7_write_34 ?_
      refine lv_if_ne (tgt := 44) hx hb dX7_write_35 (by decide) (fun c46 => ?_) (fun c46 => ?_)
      · have h := nd_neg h c46
        refine lv_iload_n hx hb dX7_write_44 rfl (lv_at hl 2 rfl) ?_
        refine lv_ldcw hx hb hown (hts (.constant RX7 445 (67108864)) (List.mem_of_getElem? (i := 30) rfl)) dX7_write_45 ?_
        refine lv_iand hx hb dX7_write_48 ?_
        refine lv_if_ne (tgt := 58) hx hb dX7_write_49 (by decide) (fun c47 => ?_) (fun c47 => ?_)
        · have h := nd_neg h c47
          have z48 : vk_R RX7 440 ".aqrl" (dI 1000 6) s := hN.2.2.2.2.2.2.2.2.2.2.2.2.1 6 (by decide)
          refine nv_ldcw hx hb hown z48 dX7_write_58 ?_
          exact (db_X7_write_61 C HR K) (vt) (v1) (6) s2 vs2 ks2 _ _ _ hk hm h hP hD hS (lv_sub hl [0, 1, 2] rfl)
        · have h := nd_pos h c47
          have z51 : vk_R RX7 446 ".rl" (dI 1000 5) s := hN.2.2.2.2.2.2.2.2.2.2.2.2.1 5 (by decide)
          refine nv_ldcw hx hb hown z51 dX7_write_52 ?_
          refine lv_goto (tgt := 61) hx hb dX7_write_55 (by decide) ?_
          exact (db_X7_write_61 C HR K) (vt) (v1) (5) s2 vs2 ks2 _ _ _ hk hm h hP hD hS (lv_sub hl [0, 1, 2] rfl)
      · have h := nd_pos h c46
        have z52 : vk_R RX7 443 ".aq" (dI 1000 4) s := hN.2.2.2.2.2.2.2.2.2.2.2.2.1 4 (by decide)
        refine nv_ldcw hx hb hown z52 dX7_write_38 ?_
        refine lv_goto (tgt := 61) hx hb dX7_write_41 (by decide) ?_
        exact (db_X7_write_61 C HR K) (vt) (v1) (4) s2 vs2 ks2 _ _ _ hk hm h hP hD hS (lv_sub hl [0, 1, 2] rfl)
set_option maxHeartbeats 40000000 in
set_option maxRecDepth 100000 in
theorem dm_X7_write (l : Launch) (hlt : l.stackTraces = false) (dC : Nat → ClassId) (dI : Nat → Nat → Nat) (a : Nat → Nat) (ac : Nat → ClassId) (vv0 : Nat) (n : Nat) (vt : Nat) (v1 : Int32) (s0 : Sb) {r : Sb} (h : df_X7_write n vt v1 s0 = some r) {dd : Nat} (hd : r.2.1 = s0.2.1 + dd) (sz : Nat) : Met l yX7_write ow_dm_X7_write ({ frames := 8, cells := dd, slots := 34 * dd, locals := 208 }) (va_Pc [.ref (dI 1002 vt), .ref (a 0), .int v1] (fun U => U.heap.size = sz ∧ va_P (dC, dI) vwCl (dw_SB a ac vv0 s0) U.heap ∧ va_K (dC, dI) vwCl (dk_J4 ac) U ∧ va_D (fun _ => True) (dw_SB a ac vv0 s0) ∧ nv_H dI (va_A (dw_SB a ac vv0 s0) sz) U)) (va_Qv (fun (_ : Nat) => True) (fun (v : Nat) t => va_P (dC, dI) vwCl (dw_SB a ac v r) t.heap ∧ va_K (dC, dI) vwCl (dk_J4 ac) t ∧ va_D (va_A (dw_SB a ac vv0 s0) sz) (dw_SB a ac v r)) (va_A (dw_SB a ac vv0 s0) sz)) dd (34 * dd) (va_A (dw_SB a ac vv0 s0) sz) := by
  refine Met.ofW (cc := cX7_write) (maxL := 6) (ret := none) (by decide) rfl ?_
  intro p e s m args below meth c s₁ B hml hv
  obtain ⟨rfl, hsz, hP, hK, hD0, hE⟩ := hv
  have hx := B.exec
  have hb := B.bytes
  have hr := B.returns
  have hts := atoms_spec (ws := ow_dm_X7_write) B.pre
  have hown : s.vm.findClass RX7 = some m.cls := findClass_of_methodNamed B.named
  have hlocks := B.notSynchronized
  subst hsz
  have hD := hD0.self (sz := s.heap.size)
  generalize hAe : va_A (dw_SB a ac vv0 s0) s.heap.size = A at hD hE ⊢
  have hA : ∀ q : Nat, s.heap.size ≤ q → A q := fun q h => by rw [← hAe]; exact Or.inr h
  have hl := lv_entry ([.ref (dI 1002 vt), .ref (a 0), .int v1]) (n := 6) (Nat.le_of_ble_eq_true rfl)
  rw [lg_entry_eq]
  generalize (lg_sl ([.ref (dI 1002 vt), .ref (a 0), .int v1]) ++ List.replicate (6 - (lg_sl ([.ref (dI 1002 vt), .ref (a 0), .int v1])).length) Slot.unset).toArray = ls at hl ⊢
  have hl : lv_has ls 6 [(0, .ref (dI 1002 vt)), (1, .ref (a 0)), (2, .int v1)] := hl
  exact db_X7_write_0 (dC := dC) (dI := dI) (a := a) (ac := ac) (u0 := s0.2.1) (n := n) (r := r) ⟨hlt, hx, hb, hml, hown, hts, hE, hA, hK⟩ (Nat.le_of_eq hd) (fun pc τ v k H locs ls d hk er hP hD hS => by subst er; obtain ⟨z1, z2⟩ : k ≤ dd ∧ 34 * k ≤ 34 * dd := nd_uK hk hd; refine W.widen (k := dd) (n := 34 * dd) z1 z2 ?_; exact W.vret hx hb hr (fun t ht hW => ⟨⟨v, rfl, trivial, by rw [ht]; exact hP, va_K.moved hW.alike hK, hD⟩, hS.F ht⟩) hS.2.2 d) vt v1 s0 vv0 0 _ _ _ rfl (hd ▸ Nat.le_add_right _ _) h hP hD va_S.rf (lv_sub hl [0, 1, 2] rfl)
def ow_dm_X7_spell : List Cond := Cond.code yX7_spell cX7_spell 4 none :: ([Cond.fieldLink RX7 423 "TimeMachine$Op" "ALL" "[LTimeMachine$Op;", Cond.methodLink RX7 496 yJ4_append_15ec4, Cond.instanceMethod yJ4_append_15ec4, Cond.selects RJ4 yJ4_append_15ec4 yJ4_append_15ec4, Cond.initialized RJ4, Cond.constantLong RX7 502 (4294967295), Cond.constantLong RX7 504 (9), Cond.constantLong RX7 506 (10), Cond.methodLink RX7 508 yJ4_append_bf812, Cond.instanceMethod yJ4_append_bf812, Cond.selects RJ4 yJ4_append_bf812 yJ4_append_bf812, Cond.fieldLink RX7 420 "TimeMachine$Op" "sort" "I", Cond.methodLink RX7 484 yX7_makes, Cond.instanceMethod yX7_makes, Cond.selects RX7 yX7_makes yX7_makes, Cond.initialized RX7, Cond.methodLink RX7 488 yX7_write, Cond.instanceMethod yX7_write, Cond.selects RX7 yX7_write yX7_write] ++ (ow_dm_J4_append_15ec4 ++ (ow_dm_J4_append_bf812 ++ (ow_dm_X7_makes ++ (ow_dm_X7_write ++ [])))))
theorem gd_dm_X7_spell : ∀ w ∈ ow_dm_X7_spell, (w.onTables && w.keeps) = true ∨ ∃ ty, w = Cond.arrayClass ty := List.forall_mem_cons.mpr ⟨good_of_word rfl, List.forall_mem_append.mpr ⟨fun w h => good_of_word (List.all_eq_true.mp (by decide +kernel) w h), List.forall_mem_append.mpr ⟨gd_dm_J4_append_15ec4, List.forall_mem_append.mpr ⟨gd_dm_J4_append_bf812, List.forall_mem_append.mpr ⟨gd_dm_X7_makes, List.forall_mem_append.mpr ⟨gd_dm_X7_write, fun _ h => nomatch h⟩⟩⟩⟩⟩⟩
theorem gi_dm_X7_spell_0 : GoodIn ow_dm_X7_spell (wsV RX7 496 RJ4 yJ4_append_15ec4 ow_dm_J4_append_15ec4) := goodIn_app (goodIn_of _ (by decide +kernel)) (fun w h => ⟨List.mem_cons_of_mem _ (List.mem_append_right _ (List.mem_append_left _ h)), gd_dm_J4_append_15ec4 w h⟩)
theorem gi_dm_X7_spell_1 : GoodIn ow_dm_X7_spell (wsV RX7 508 RJ4 yJ4_append_bf812 ow_dm_J4_append_bf812) := goodIn_app (goodIn_of _ (by decide +kernel)) (fun w h => ⟨List.mem_cons_of_mem _ (List.mem_append_right _ (List.mem_append_right _ (List.mem_append_left _ h))), gd_dm_J4_append_bf812 w h⟩)
theorem gi_dm_X7_spell_2 : GoodIn ow_dm_X7_spell (wsV RX7 484 RX7 yX7_makes ow_dm_X7_makes) := goodIn_app (goodIn_of _ (by decide +kernel)) (fun w h => ⟨List.mem_cons_of_mem _ (List.mem_append_right _ (List.mem_append_right _ (List.mem_append_right _ (List.mem_append_left _ h)))), gd_dm_X7_makes w h⟩)
theorem gi_dm_X7_spell_3 : GoodIn ow_dm_X7_spell (wsV RX7 488 RX7 yX7_write ow_dm_X7_write) := goodIn_app (goodIn_of _ (by decide +kernel)) (fun w h => ⟨List.mem_cons_of_mem _ (List.mem_append_right _ (List.mem_append_right _ (List.mem_append_right _ (List.mem_append_right _ (List.mem_append_left _ h))))), gd_dm_X7_write w h⟩)
def dj_X7_spell_99 (p : Program) (l : Launch) (e : Env) (s : State) (m : MethodId) (args : Array Value) (below : List Frame) (meth : Method) (c : Code) (Q : State → Prop) (A : Nat → Prop) (dC : Nat → ClassId) (dI : Nat → Nat → Nat) (a : Nat → Nat) (ac : Nat → ClassId) (u0 : Nat) (g : Int64 → (Sb) → Option (Sb)) (r : Sb) : Prop := ∀ (x2 : Int64) (s0 : Sb) (vv0 kk0 : Nat) (H : Heap) (locs : List Loc) (ls : Array Slot), s0.2.1 = u0 + kk0 → s0.2.1 ≤ 1 → g x2 s0 = some r → va_P (dC, dI) vwCl (dw_SB a ac vv0 s0) H → va_D A (dw_SB a ac vv0 s0) → va_S A s.heap H locs → lv_has ls 4 [(0, .ref (a 0)), (2, .long x2)] → W p l e (headSpec ow_dm_X7_spell ({ frames := 9, cells := 1, slots := 34, locals := 233 })).room s m args below meth c H locs kk0 (34 * kk0) Q (F0 m 99 ls [])
def dj_X7_spell_69 (p : Program) (l : Launch) (e : Env) (s : State) (m : MethodId) (args : Array Value) (below : List Frame) (meth : Method) (c : Code) (Q : State → Prop) (A : Nat → Prop) (dC : Nat → ClassId) (dI : Nat → Nat → Nat) (a : Nat → Nat) (ac : Nat → ClassId) (u0 : Nat) (g : Int32 → Nat → (Sb) → Option (Sb)) (r : Sb) : Prop := ∀ (x1 : Int32) (y1 : Nat) (s0 : Sb) (vv0 kk0 : Nat) (H : Heap) (locs : List Loc) (ls : Array Slot), s0.2.1 = u0 + kk0 → s0.2.1 ≤ 1 → g x1 y1 s0 = some r → va_P (dC, dI) vwCl (dw_SB a ac vv0 s0) H → va_D A (dw_SB a ac vv0 s0) → va_S A s.heap H locs → lv_has ls 4 [(0, .ref (a 0)), (1, .int x1)] → W p l e (headSpec ow_dm_X7_spell ({ frames := 9, cells := 1, slots := 34, locals := 233 })).room s m args below meth c H locs kk0 (34 * kk0) Q (F0 m 69 ls [.ref (dI 1000 y1), .ref (a 0)])
def dj_X7_spell_46 (p : Program) (l : Launch) (e : Env) (s : State) (m : MethodId) (args : Array Value) (below : List Frame) (meth : Method) (c : Code) (Q : State → Prop) (A : Nat → Prop) (dC : Nat → ClassId) (dI : Nat → Nat → Nat) (a : Nat → Nat) (ac : Nat → ClassId) (u0 : Nat) (g : Int32 → Int32 → (Sb) → Option (Sb)) (r : Sb) : Prop := ∀ (x1 : Int32) (x2 : Int32) (s0 : Sb) (vv0 kk0 : Nat) (H : Heap) (locs : List Loc) (ls : Array Slot), s0.2.1 = u0 + kk0 → s0.2.1 ≤ 1 → g x1 x2 s0 = some r → va_P (dC, dI) vwCl (dw_SB a ac vv0 s0) H → va_D A (dw_SB a ac vv0 s0) → va_S A s.heap H locs → lv_has ls 4 [(0, .ref (a 0)), (1, .int x1), (2, .int x2)] → W p l e (headSpec ow_dm_X7_spell ({ frames := 9, cells := 1, slots := 34, locals := 233 })).room s m args below meth c H locs kk0 (34 * kk0) Q (F0 m 46 ls [])
def dj_X7_spell_2 (p : Program) (l : Launch) (e : Env) (s : State) (m : MethodId) (args : Array Value) (below : List Frame) (meth : Method) (c : Code) (Q : State → Prop) (A : Nat → Prop) (dC : Nat → ClassId) (dI : Nat → Nat → Nat) (a : Nat → Nat) (ac : Nat → ClassId) (u0 : Nat) (g : Int32 → Int32 → (Sb) → Option (Sb)) (r : Sb) : Prop := ∀ (x1 : Int32) (x2 : Int32) (s0 : Sb) (vv0 kk0 : Nat) (H : Heap) (locs : List Loc) (ls : Array Slot), s0.2.1 = u0 + kk0 → s0.2.1 ≤ 1 → g x1 x2 s0 = some r → va_P (dC, dI) vwCl (dw_SB a ac vv0 s0) H → va_D A (dw_SB a ac vv0 s0) → va_S A s.heap H locs → lv_has ls 4 [(0, .ref (a 0)), (1, .int x1), (2, .int x2)] → W p l e (headSpec ow_dm_X7_spell ({ frames := 9, cells := 1, slots := 34, locals := 233 })).room s m args below meth c H locs kk0 (34 * kk0) Q (F0 m 2 ls [])
def dj_X7_spell_0 (p : Program) (l : Launch) (e : Env) (s : State) (m : MethodId) (args : Array Value) (below : List Frame) (meth : Method) (c : Code) (Q : State → Prop) (A : Nat → Prop) (dC : Nat → ClassId) (dI : Nat → Nat → Nat) (a : Nat → Nat) (ac : Nat → ClassId) (u0 : Nat) (g : Int32 → (Sb) → Option (Sb)) (r : Sb) : Prop := ∀ (v1 : Int32) (s0 : Sb) (vv0 kk0 : Nat) (H : Heap) (locs : List Loc) (ls : Array Slot), s0.2.1 = u0 + kk0 → s0.2.1 ≤ 1 → g v1 s0 = some r → va_P (dC, dI) vwCl (dw_SB a ac vv0 s0) H → va_D A (dw_SB a ac vv0 s0) → va_S A s.heap H locs → lv_has ls 4 [(0, .ref (a 0)), (1, .int v1)] → W p l e (headSpec ow_dm_X7_spell ({ frames := 9, cells := 1, slots := 34, locals := 233 })).room s m args below meth c H locs kk0 (34 * kk0) Q (F0 m 0 ls [])
set_option maxHeartbeats 40000000 in
set_option maxRecDepth 100000 in
theorem db_X7_spell_99 {p : Program} {l : Launch} {e : Env} {s : State} {m : MethodId} {args : Array Value} {below : List Frame} {meth : Method} {c : Code} {Q : State → Prop} {A : Nat → Prop} {dC : Nat → ClassId} {dI : Nat → Nat → Nat} {a : Nat → Nat} {ac : Nat → ClassId} {u0 : Nat} {n : Nat} {r : Sb} (C : nd_CH p l s m args c A (dC, dI) cX7_spell 4 RX7 ow_dm_X7_spell (dk_J4 ac)) (HR : 1 ≤ u0 + 1) (K : nd_Sv p l e (headSpec ow_dm_X7_spell ({ frames := 9, cells := 1, slots := 34, locals := 233 })).room s m args below meth c Q A (dC, dI) cX7_spell (dw_SB a ac) u0 r) : dj_X7_spell_99 p l e s m args below meth c Q A dC dI a ac u0 (df_X7_spell_99 n) r := by
  obtain ⟨hlt, hx, hb, hml, hown, hts, hE, hA, hK⟩ := id C
  have hN := hE.1
  intro x2 s0 vv0 kk0 H locs ls hk hm h hP hD hS hl
  unfold df_X7_spell_99 at h
  refine lv_aload_n hx hb dX7_spell_99 rfl (lv_at hl 0 rfl) ?_
  refine lv_lload_n hx hb dX7_spell_100 rfl (lv_at hl 1 rfl) ?_
  refine lv_ldc2 hx hb hown (hts (.constantLong RX7 506 (10)) (List.mem_of_getElem? (i := 8) rfl)) dX7_spell_101 ?_
  refine lv_lrem hx hb dX7_spell_104 (by decide) ?_
  refine lv_l2i hx hb dX7_spell_105 rfl ?_
  obtain ⟨s9, hq, h⟩ := nd_b1_e h
  have hPc := hP
  have hDc := hD
  have hKc := hK
  have hFc := nd_rs hD hS hA
  obtain ⟨ds9, es9, ls9⟩ := um_J4_append_bf812 hq
  have ms9 : s9.2.1 ≤ 1 := ls9 hm
  refine nd_gVr (E := nv_H dI) (As := [.int (((x2 : Int64) - x2 / 10 * 10).toInt32)]) (rest := []) (w' := (fun (v : Nat) => dw_SB a ac v s9)) nv_Hs nv_Hc ⟨hx, hb, hml, hown, hts⟩ (fun sz => dm_J4_append_bf812 l hlt dC dI a ac vv0 n ((((x2 : Int64) - x2 / 10 * 10).toInt32)) s0 hq es9 sz) (cwV 1 hts gi_dm_X7_spell_1 rfl rfl rfl (by decide +kernel) ⟨Nat.le_of_ble_eq_true rfl, Nat.le_of_ble_eq_true rfl⟩) hPc hDc hKc hS hA hE (va_recv hKc hPc (ci := 1) (q0 := 0) rfl rfl) rfl hl.1 rfl (Nat.le_of_ble_eq_true rfl) dX7_spell_106 (nd_uX hk es9 ms9 HR) (fun vs9 xs9 H locs hP1 hD1 hk1 hS => ?_)
  refine nd_w34 ?_
  have hP := hP1
  have hD := hD1.weaken (fun k q _ h => hFc q.1 h)
  generalize eks9 : kk0 + ds9 = ks9
  have hk := nd_uN hk es9 eks9
  have hm := ms9
  refine lv_pop hx hb dX7_spell_109 rfl ?_
  exact K _ _ _ _ _ _ _ dX7_spell_110 hk (Option.some.inj h).symm hP hD hS
set_option maxHeartbeats 40000000 in
set_option maxRecDepth 100000 in
theorem db_X7_spell_69 {p : Program} {l : Launch} {e : Env} {s : State} {m : MethodId} {args : Array Value} {below : List Frame} {meth : Method} {c : Code} {Q : State → Prop} {A : Nat → Prop} {dC : Nat → ClassId} {dI : Nat → Nat → Nat} {a : Nat → Nat} {ac : Nat → ClassId} {u0 : Nat} {n : Nat} {r : Sb} (C : nd_CH p l s m args c A (dC, dI) cX7_spell 4 RX7 ow_dm_X7_spell (dk_J4 ac)) (HR : 1 ≤ u0 + 1) (K : nd_Sv p l e (headSpec ow_dm_X7_spell ({ frames := 9, cells := 1, slots := 34, locals := 233 })).room s m args below meth c Q A (dC, dI) cX7_spell (dw_SB a ac) u0 r) : dj_X7_spell_69 p l e s m args below meth c Q A dC dI a ac u0 (df_X7_spell_69 n) r := by
  obtain ⟨hlt, hx, hb, hml, hown, hts, hE, hA, hK⟩ := id C
  have hN := hE.1
  intro x1 y1 s0 vv0 kk0 H locs ls hk hm h hP hD hS hl
  unfold df_X7_spell_69 at h
  obtain ⟨s5, hq, h⟩ := nd_b1_e h
  have hPc := hP
  have hDc := hD
  have hKc := hK
  have hFc := nd_rs hD hS hA
  obtain ⟨ds5, es5, ls5⟩ := um_J4_append_15ec4 hq
  have ms5 : s5.2.1 ≤ 1 := ls5 hm
  refine nd_gVr (E := nv_H dI) (As := [.ref (dI 1000 y1)]) (rest := []) (w' := (fun (v : Nat) => dw_SB a ac v s5)) nv_Hs nv_Hc ⟨hx, hb, hml, hown, hts⟩ (fun sz => dm_J4_append_15ec4 l hlt dC dI a ac vv0 n (y1) s0 hq es5 sz) (cwV 1 hts gi_dm_X7_spell_0 rfl rfl rfl (by decide +kernel) ⟨Nat.le_of_ble_eq_true rfl, Nat.le_of_ble_eq_true rfl⟩) hPc hDc hKc hS hA hE (va_recv hKc hPc (ci := 1) (q0 := 0) rfl rfl) rfl hl.1 rfl (Nat.le_of_ble_eq_true rfl) dX7_spell_69 (nd_uX hk es5 ms5 HR) (fun vs5 xs5 H locs hP1 hD1 hk1 hS => ?_)
  refine nd_w34 ?_
  have hP := hP1
  have hD := hD1.weaken (fun k q _ h => hFc q.1 h)
  generalize eks5 : kk0 + ds5 = ks5
  have hk := nd_uN hk es5 eks5
  have hm := ms5
  refine lv_pop hx hb dX7_spell_72 rfl ?_
  refine lv_iload_n hx hb dX7_spell_73 rfl (lv_at hl 1 rfl) ?_
  refine lv_i2l hx hb dX7_spell_74 rfl ?_
  refine lv_ldc2 hx hb hown (hts (.constantLong RX7 502 (4294967295)) (List.mem_of_getElem? (i := 6) rfl)) dX7_spell_75 ?_
  refine lv_land hx hb dX7_spell_78 ?_
  refine lv_topl (fun z7 ez7 => ?_)
  have h := nd_at h ez7
  refine lv_lstore_n (lv' := [(2, .long z7), (0, .ref (a 0)), (1, .int x1)]) hx hb dX7_spell_79 rfl hl (by decide) rfl (fun ls hl => ?_)
  refine lv_lload_n hx hb dX7_spell_80 rfl (lv_at hl 0 rfl) ?_
  refine lv_ldc2 hx hb hown (hts (.constantLong RX7 504 (9)) (List.mem_of_getElem? (i := 7) rfl)) dX7_spell_81 ?_
  refine W.lcmp hx hb dX7_spell_84 ?_
  refine lv_if_le (tgt := 99) hx hb dX7_spell_85 (by decide) (fun c8 => ?_) (fun c8 => ?_)
  · have h := nd_pos h c8
    exact (db_X7_spell_99 C HR K) (z7) s5 vs5 ks5 _ _ _ hk hm h hP hD hS (lv_sub hl [1, 0] rfl)
  · have h := nd_neg h c8
    refine lv_aload_n hx hb dX7_spell_88 rfl (lv_at hl 1 rfl) ?_
    refine lv_lload_n hx hb dX7_spell_89 rfl (lv_at hl 0 rfl) ?_
    refine lv_ldc2 hx hb hown (hts (.constantLong RX7 506 (10)) (List.mem_of_getElem? (i := 8) rfl)) dX7_spell_90 ?_
    refine lv_ldiv hx hb dX7_spell_93 (by decide) ?_
    refine lv_l2i hx hb dX7_spell_94 rfl ?_
    obtain ⟨s11, hq, h⟩ := nd_b1_e h
    have hPc := hP
    have hDc := hD
    have hKc := hK
    have hFc := nd_rs hD hS hA
    obtain ⟨ds11, es11, ls11⟩ := um_J4_append_bf812 hq
    have ms11 : s11.2.1 ≤ 1 := ls11 hm
    refine nd_gVr (E := nv_H dI) (As := [.int (((z7 : Int64) / 10).toInt32)]) (rest := []) (w' := (fun (v : Nat) => dw_SB a ac v s11)) nv_Hs nv_Hc ⟨hx, hb, hml, hown, hts⟩ (fun sz => dm_J4_append_bf812 l hlt dC dI a ac vs5 n ((((z7 : Int64) / 10).toInt32)) s5 hq es11 sz) (cwV 1 hts gi_dm_X7_spell_1 rfl rfl rfl (by decide +kernel) ⟨Nat.le_of_ble_eq_true rfl, Nat.le_of_ble_eq_true rfl⟩) hPc hDc hKc hS hA hE (va_recv hKc hPc (ci := 1) (q0 := 0) rfl rfl) rfl hl.1 rfl (Nat.le_of_ble_eq_true rfl) dX7_spell_95 (nd_uX hk es11 ms11 HR) (fun vs11 xs11 H locs hP1 hD1 hk1 hS => ?_)
    refine nd_w34 ?_
    have hP := hP1
    have hD := hD1.weaken (fun k q _ h => hFc q.1 h)
    generalize eks11 : ks5 + ds11 = ks11
    have hk := nd_uN hk es11 eks11
    have hm := ms11
    refine lv_pop hx hb dX7_spell_98 rfl ?_
    exact (db_X7_spell_99 C HR K) (z7) s11 vs11 ks11 _ _ _ hk hm h hP hD hS (lv_sub hl [1, 0] rfl)
set_option maxHeartbeats 40000000 in
set_option maxRecDepth 100000 in
theorem db_X7_spell_46 {p : Program} {l : Launch} {e : Env} {s : State} {m : MethodId} {args : Array Value} {below : List Frame} {meth : Method} {c : Code} {Q : State → Prop} {A : Nat → Prop} {dC : Nat → ClassId} {dI : Nat → Nat → Nat} {a : Nat → Nat} {ac : Nat → ClassId} {u0 : Nat} {n : Nat} {r : Sb} (C : nd_CH p l s m args c A (dC, dI) cX7_spell 4 RX7 ow_dm_X7_spell (dk_J4 ac)) (HR : 1 ≤ u0 + 1) (K : nd_Sv p l e (headSpec ow_dm_X7_spell ({ frames := 9, cells := 1, slots := 34, locals := 233 })).room s m args below meth c Q A (dC, dI) cX7_spell (dw_SB a ac) u0 r) {g2 : Int32 → Int32 → (Sb) → Option (Sb)} (J2 : dj_X7_spell_2 p l e s m args below meth c Q A dC dI a ac u0 g2 r) : dj_X7_spell_46 p l e s m args below meth c Q A dC dI a ac u0 (df_X7_spell_46 n g2) r := by
  obtain ⟨hlt, hx, hb, hml, hown, hts, hE, hA, hK⟩ := id C
  have hN := hE.1
  intro x1 x2 s0 vv0 kk0 H locs ls hk hm h hP hD hS hl
  unfold df_X7_spell_46 at h
  obtain ⟨z18, ez18, h⟩ := nd_let_e h
  refine lv_iinc (v := z18) (lv' := [(2, .int z18), (0, .ref (a 0)), (1, .int x1)]) hx hb dX7_spell_46 hl (k := 2) rfl (by rw [ez18]) (by decide) rfl (fun ls hl => ?_)
  refine lv_goto (tgt := 2) hx hb dX7_spell_49 (by decide) ?_
  exact (J2) (x1) (z18) s0 vv0 kk0 _ _ _ hk hm h hP hD hS (lv_sub hl [1, 2, 0] rfl)
set_option maxHeartbeats 40000000 in
set_option maxRecDepth 100000 in
theorem dB_X7_spell_2 {p : Program} {l : Launch} {e : Env} {s : State} {m : MethodId} {args : Array Value} {below : List Frame} {meth : Method} {c : Code} {Q : State → Prop} {A : Nat → Prop} {dC : Nat → ClassId} {dI : Nat → Nat → Nat} {a : Nat → Nat} {ac : Nat → ClassId} {u0 : Nat} {n : Nat} {r : Sb} (C : nd_CH p l s m args c A (dC, dI) cX7_spell 4 RX7 ow_dm_X7_spell (dk_J4 ac)) (HR : 1 ≤ u0 + 1) (K : nd_Sv p l e (headSpec ow_dm_X7_spell ({ frames := 9, cells := 1, slots := 34, locals := 233 })).room s m args below meth c Q A (dC, dI) cX7_spell (dw_SB a ac) u0 r) {g2 : Int32 → Int32 → (Sb) → Option (Sb)} (J2 : dj_X7_spell_2 p l e s m args below meth c Q A dC dI a ac u0 g2 r) : dj_X7_spell_2 p l e s m args below meth c Q A dC dI a ac u0 (dF_X7_spell_2 n g2) r := by
  obtain ⟨hlt, hx, hb, hml, hown, hts, hE, hA, hK⟩ := id C
  have hN := hE.1
  intro x1 x2 s0 vv0 kk0 H locs ls hk hm h hP hD hS hl
  unfold dF_X7_spell_2 at h
  refine lv_iload_n hx hb dX7_spell_2 rfl (lv_at hl 2 rfl) ?_
  obtain ⟨b1, zb1, tb1⟩ := hN.2.2.2.2.2.2.2.2.2.2.2.2.2.2.2.2.1
  refine va_gets hx hb zb1 hS hown (hts (.fieldLink RX7 423 "TimeMachine$Op" "ALL" "[LTimeMachine$Op;") (List.mem_of_getElem? (i := 1) rfl)) (fun _ h9 => h9) dX7_spell_3 ?_
  refine va_tlen (v := 128) hx hb tb1 hS (show Int32.ofNat 128 = 128 by decide) dX7_spell_6 ?_
  refine lv_icmp_ge (tgt := 52) hx hb dX7_spell_7 (by decide) (fun c2 => ?_) (fun c2 => ?_)
  · have h := nd_pos h c2
    refine lv_aload_n hx hb dX7_spell_52 rfl (lv_at hl 0 rfl) ?_
    refine lv_iload_n hx hb dX7_spell_53 rfl (lv_at hl 1 rfl) ?_
    refine lv_iconst (v := 3) hx hb dX7_spell_54 (by decide) ?_
    refine lv_iand hx hb dX7_spell_55 ?_
    refine lv_iconst (v := 3) hx hb dX7_spell_56 (by decide) ?_
    refine lv_icmp_ne (tgt := 66) hx hb dX7_spell_57 (by decide) (fun c3 => ?_) (fun c3 => ?_)
    · have h := nd_neg h c3
      have z4 : vk_R RX7 494 ".half " (dI 1000 16) s := hN.2.2.2.2.2.2.2.2.2.2.2.2.1 16 (by decide)
      refine nv_ldcw hx hb hown z4 dX7_spell_66 ?_
      exact (db_X7_spell_69 C HR K) (x1) (16) s0 vv0 kk0 _ _ _ hk hm h hP hD hS (lv_sub hl [0, 1] rfl)
    · have h := nd_pos h c3
      have z13 : vk_R RX7 492 ".word " (dI 1000 15) s := hN.2.2.2.2.2.2.2.2.2.2.2.2.1 15 (by decide)
      refine nv_ldcw hx hb hown z13 dX7_spell_60 ?_
      refine lv_goto (tgt := 69) hx hb dX7_spell_63 (by decide) ?_
      exact (db_X7_spell_69 C HR K) (x1) (15) s0 vv0 kk0 _ _ _ hk hm h hP hD hS (lv_sub hl [0, 1] rfl)
  · have h := nd_neg h c2
    obtain ⟨b14, zb14, tb14⟩ := hN.2.2.2.2.2.2.2.2.2.2.2.2.2.2.2.2.1
    refine va_gets hx hb zb14 hS hown (hts (.fieldLink RX7 423 "TimeMachine$Op" "ALL" "[LTimeMachine$Op;") (List.mem_of_getElem? (i := 1) rfl)) (fun _ h9 => h9) dX7_spell_10 ?_
    refine lv_iload_n hx hb dX7_spell_13 rfl (lv_at hl 2 rfl) ?_
    obtain ⟨i15, h⟩ := nd_ck_e h
    refine vb_tq (i := x2) hx hb tb14 hS i15 rfl dX7_spell_14 ?_
    obtain ⟨i16, h⟩ := nd_lt_e h
    refine vk_getf hx hb (hN.2.2.2.2.2.2.2.2.2.2.2.2.2.2.1 (Int32.toNatClampNeg x2) i16).2.2.2.2.2 hS hown (hts (.fieldLink RX7 420 "TimeMachine$Op" "sort" "I") (List.mem_of_getElem? (i := 12) rfl)) (fun _ h9 => h9) dX7_spell_15 ?_
    refine lv_iconst (v := 1) hx hb dX7_spell_18 (by decide) ?_
    refine lv_iand hx hb dX7_spell_19 ?_
    refine lv_if_eq (tgt := 46) hx hb dX7_spell_20 (by decide) (fun c17 => ?_) (fun c17 => ?_)
    · have h := nd_pos h c17
      exact (db_X7_spell_46 C HR K J2) (x1) (x2) s0 vv0 kk0 _ _ _ hk hm h hP hD hS (lv_sub hl [0, 1, 2] rfl)
    · have h := nd_neg h c17
      obtain ⟨b19, zb19, tb19⟩ := hN.2.2.2.2.2.2.2.2.2.2.2.2.2.2.2.2.1
      refine va_gets hx hb zb19 hS hown (hts (.fieldLink RX7 423 "TimeMachine$Op" "ALL" "[LTimeMachine$Op;") (List.mem_of_getElem? (i := 1) rfl)) (fun _ h9 => h9) dX7_spell_23 ?_
      refine lv_iload_n hx hb dX7_spell_26 rfl (lv_at hl 2 rfl) ?_
      obtain ⟨i20, h⟩ := nd_ck_e h
      refine vb_tq (i := x2) hx hb tb19 hS i20 rfl dX7_spell_27 ?_
      refine lv_iload_n hx hb dX7_spell_28 rfl (lv_at hl 1 rfl) ?_
      obtain ⟨i23, h⟩ := nd_lt_e h
      obtain ⟨q22, s21, hq, h⟩ := nd_b2_e h
      have hPc : va_P (dC, dI) vwCl (dw_P a ac ()) H := nd_p0
      have hDc : va_D A (dw_P a ac ()) := nd_d0
      have hKc : va_K (dC, dI) vwCl (dk_P ac) s := nd_y0 hK
      refine nd_gVi (E := nv_E dI) (As := [.int x1]) (rest := []) (q := q22) (w' := (fun (_ : Unit) => dw_P a ac s21)) nv_same nv_call ⟨hx, hb, hml, hown, hts⟩ (fun sz => dm_X7_makes l hlt dC dI a ac n ((Int32.toNatClampNeg x2)) (x1) () hq sz) (cwV 1 hts gi_dm_X7_spell_2 rfl rfl rfl (by decide +kernel) ⟨Nat.le_of_ble_eq_true rfl, Nat.le_of_ble_eq_true rfl⟩) hPc hDc hKc hS hA hN (nv_rcO hN.2.2.2.2.2.2.2.2.2.2.2 i23 hS) rfl hl.1 rfl (Nat.le_of_ble_eq_true rfl) dX7_spell_29 (nd_uP hk hm HR) (fun _ H locs hP1 hD1 hk1 hS => ?_)
      have hP := nd_n0 hP hk1
      refine lv_if_eq (tgt := 46) hx hb dX7_spell_32 (by decide) (fun c24 => ?_) (fun c24 => ?_)
      · have h := nd_pos h c24
        exact (db_X7_spell_46 C HR K J2) (x1) (x2) s0 vv0 kk0 _ _ _ hk hm h hP hD hS (lv_sub hl [0, 1, 2] rfl)
      · have h := nd_neg h c24
        obtain ⟨b25, zb25, tb25⟩ := hN.2.2.2.2.2.2.2.2.2.2.2.2.2.2.2.2.1
        refine va_gets hx hb zb25 hS hown (hts (.fieldLink RX7 423 "TimeMachine$Op" "ALL" "[LTimeMachine$Op;") (List.mem_of_getElem? (i := 1) rfl)) (fun _ h9 => h9) dX7_spell_35 ?_
        refine lv_iload_n hx hb dX7_spell_38 rfl (lv_at hl 2 rfl) ?_
        obtain ⟨i26, h⟩ := nd_ck_e h
        refine vb_tq (i := x2) hx hb tb25 hS i26 rfl dX7_spell_39 ?_
        refine lv_aload_n hx hb dX7_spell_40 rfl (lv_at hl 0 rfl) ?_
        refine lv_iload_n hx hb dX7_spell_41 rfl (lv_at hl 1 rfl) ?_
        obtain ⟨i29, h⟩ := nd_lt_e h
        obtain ⟨s27, hq, h⟩ := nd_b1_e h
        have hPc := hP
        have hDc := hD
        have hKc := hK
        have hFc := nd_rs hD hS hA
        obtain ⟨ds27, es27, ls27⟩ := um_X7_write hq
        have ms27 : s27.2.1 ≤ 1 := ls27 hm
        refine nd_gVv (E := nv_H dI) (As := [.ref (a 0), .int x1]) (rest := []) (w' := (fun (v : Nat) => dw_SB a ac v s27)) nv_Hs nv_Hc ⟨hx, hb, hml, hown, hts⟩ (fun sz => dm_X7_write l hlt dC dI a ac vv0 n ((Int32.toNatClampNeg x2)) (x1) s0 hq es27 sz) (cwV 2 hts gi_dm_X7_spell_3 rfl rfl rfl (by decide +kernel) ⟨Nat.le_of_ble_eq_true rfl, Nat.le_of_ble_eq_true rfl⟩) hPc hDc hKc hS hA hE (nv_rcO hN.2.2.2.2.2.2.2.2.2.2.2 i29 hS) rfl hl.1 rfl (Nat.le_of_ble_eq_true rfl) dX7_spell_42 (nd_uX hk es27 ms27 HR) (fun vs27 H locs hP1 hD1 hk1 hS => ?_)
        refine nd_w34 ?_
        have hP := hP1
        have hD := hD1.weaken (fun k q _ h => hFc q.1 h)
        generalize eks27 : kk0 + ds27 = ks27
        have hk := nd_uN hk es27 eks27
        have hm := ms27
        exact K _ _ _ _ _ _ _ dX7_spell_45 hk (Option.some.inj h).symm hP hD hS
set_option maxHeartbeats 40000000 in
set_option maxRecDepth 100000 in
theorem db_X7_spell_2 {p : Program} {l : Launch} {e : Env} {s : State} {m : MethodId} {args : Array Value} {below : List Frame} {meth : Method} {c : Code} {Q : State → Prop} {A : Nat → Prop} {dC : Nat → ClassId} {dI : Nat → Nat → Nat} {a : Nat → Nat} {ac : Nat → ClassId} {u0 : Nat} {n : Nat} {r : Sb} (C : nd_CH p l s m args c A (dC, dI) cX7_spell 4 RX7 ow_dm_X7_spell (dk_J4 ac)) (HR : 1 ≤ u0 + 1) (K : nd_Sv p l e (headSpec ow_dm_X7_spell ({ frames := 9, cells := 1, slots := 34, locals := 233 })).room s m args below meth c Q A (dC, dI) cX7_spell (dw_SB a ac) u0 r) (k : Nat) : dj_X7_spell_2 p l e s m args below meth c Q A dC dI a ac u0 (df_X7_spell_2 n k) r := by
  induction k with
  | zero => intro x1 x2 s0 vv0 kk0 H locs ls hk hm h; exact nomatch (show (none : Option Sb) = some r from h)
  | succ k ih => exact dB_X7_spell_2 C HR K ih
set_option maxHeartbeats 40000000 in
set_option maxRecDepth 100000 in
theorem db_X7_spell_0 {p : Program} {l : Launch} {e : Env} {s : State} {m : MethodId} {args : Array Value} {below : List Frame} {meth : Method} {c : Code} {Q : State → Prop} {A : Nat → Prop} {dC : Nat → ClassId} {dI : Nat → Nat → Nat} {a : Nat → Nat} {ac : Nat → ClassId} {u0 : Nat} {n : Nat} {r : Sb} (C : nd_CH p l s m args c A (dC, dI) cX7_spell 4 RX7 ow_dm_X7_spell (dk_J4 ac)) (HR : 1 ≤ u0 + 1) (K : nd_Sv p l e (headSpec ow_dm_X7_spell ({ frames := 9, cells := 1, slots := 34, locals := 233 })).room s m args below meth c Q A (dC, dI) cX7_spell (dw_SB a ac) u0 r) : dj_X7_spell_0 p l e s m args below meth c Q A dC dI a ac u0 (df_X7_spell_0 n) r := by
  obtain ⟨hlt, hx, hb, hml, hown, hts, hE, hA, hK⟩ := id C
  have hN := hE.1
  intro v1 s0 vv0 kk0 H locs ls hk hm h hP hD hS hl
  unfold df_X7_spell_0 at h
  refine lv_iconst (v := 0) hx hb dX7_spell_0 (by decide) ?_
  refine lv_istore_n (lv' := [(2, .int 0), (0, .ref (a 0)), (1, .int v1)]) hx hb dX7_spell_1 rfl hl (by decide) rfl (fun ls hl => ?_)
  exact (db_X7_spell_2 C HR K n) (v1) (0) s0 vv0 kk0 _ _ _ hk hm h hP hD hS (lv_sub hl [1, 2, 0] rfl)
set_option maxHeartbeats 40000000 in
set_option maxRecDepth 100000 in
theorem dm_X7_spell (l : Launch) (hlt : l.stackTraces = false) (dC : Nat → ClassId) (dI : Nat → Nat → Nat) (a : Nat → Nat) (ac : Nat → ClassId) (vv0 : Nat) (n : Nat) (v1 : Int32) (s0 : Sb) {r : Sb} (h : df_X7_spell n v1 s0 = some r) (hu : s0.2.1 ≤ 1) (sz : Nat) : Met l yX7_spell ow_dm_X7_spell ({ frames := 9, cells := 1, slots := 34, locals := 233 }) (va_Pc [.ref (a 0), .int v1] (fun U => U.heap.size = sz ∧ va_P (dC, dI) vwCl (dw_SB a ac vv0 s0) U.heap ∧ va_K (dC, dI) vwCl (dk_J4 ac) U ∧ va_D (fun _ => True) (dw_SB a ac vv0 s0) ∧ nv_H dI (va_A (dw_SB a ac vv0 s0) sz) U)) (va_Qv (fun (_ : Nat) => True) (fun (v : Nat) t => va_P (dC, dI) vwCl (dw_SB a ac v r) t.heap ∧ va_K (dC, dI) vwCl (dk_J4 ac) t ∧ va_D (va_A (dw_SB a ac vv0 s0) sz) (dw_SB a ac v r)) (va_A (dw_SB a ac vv0 s0) sz)) 1 (34) (va_A (dw_SB a ac vv0 s0) sz) := by
  refine Met.ofW (cc := cX7_spell) (maxL := 4) (ret := none) (by decide) rfl ?_
  intro p e s m args below meth c s₁ B hml hv
  obtain ⟨rfl, hsz, hP, hK, hD0, hE⟩ := hv
  have hx := B.exec
  have hb := B.bytes
  have hr := B.returns
  have hts := atoms_spec (ws := ow_dm_X7_spell) B.pre
  have hown : s.vm.findClass RX7 = some m.cls := findClass_of_methodNamed B.named
  have hlocks := B.notSynchronized
  subst hsz
  have hD := hD0.self (sz := s.heap.size)
  generalize hAe : va_A (dw_SB a ac vv0 s0) s.heap.size = A at hD hE ⊢
  have hA : ∀ q : Nat, s.heap.size ≤ q → A q := fun q h => by rw [← hAe]; exact Or.inr h
  have hl := lv_entry ([.ref (a 0), .int v1]) (n := 4) (Nat.le_of_ble_eq_true rfl)
  rw [lg_entry_eq]
  generalize (lg_sl ([.ref (a 0), .int v1]) ++ List.replicate (4 - (lg_sl ([.ref (a 0), .int v1])).length) Slot.unset).toArray = ls at hl ⊢
  have hl : lv_has ls 4 [(0, .ref (a 0)), (1, .int v1)] := hl
  obtain ⟨du, eu, lu⟩ := um_X7_spell h
  have hr1 := lu hu
  exact db_X7_spell_0 (dC := dC) (dI := dI) (a := a) (ac := ac) (u0 := s0.2.1) (n := n) (r := r) ⟨hlt, hx, hb, hml, hown, hts, hE, hA, hK⟩ (Nat.le_add_left _ _) (fun pc τ v k H locs ls d hk er hP hD hS => by subst er; obtain ⟨z1, z2⟩ : k ≤ 1 ∧ 34 * k ≤ 34 := ⟨by omega, by omega⟩; refine W.widen (k := 1) (n := 34) z1 z2 ?_; exact W.vret hx hb hr (fun t ht hW => ⟨⟨v, rfl, trivial, by rw [ht]; exact hP, va_K.moved hW.alike hK, hD⟩, hS.F ht⟩) hS.2.2 d) v1 s0 vv0 0 _ _ _ rfl hu h hP hD va_S.rf (lv_sub hl [0, 1] rfl)

