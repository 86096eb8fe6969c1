/-- the name of a statement, in both -/
def hdR (n : Nat) (s5 : St) : Option St := nd_b2 (df_X13_suffix n  s5) (fun (q7 : Int32) (s8 : St) => nd_b2 (df_X13_named n ((sI s8 9)) ((sI s8 10)) s8) (fun (q10 : Int32) (s11 : St) => if 0 ≤ q10 then (df_X13_statement_136 n (q10) (0) s11) else (if q7 ≤ 0 then (df_X13_statement_136 n (q10) (0) s11) else (nd_b2 (df_X13_named n ((sI s11 9)) (((sI s11 10) - q7)) s11) (fun (q63 : Int32) (s64 : St) => if q7 = 5 then (df_X13_statement_102 n (q63) (100663296) s64) else (nd_ck (((sI s64 10) - 1)) 32772 (if ((sR s64 2 (Int32.toNatClampNeg ((sI s64 10) - 1))) : Int32) = 113 then (df_X13_statement_102 n (q63) (67108864) s64) else (df_X13_statement_102 n (q63) (33554432) s64))))))))
theorem stm_0 (n : Nat) (v0 v1 : Int32) (s0 : St) : df_X13_statement n v0 v1 s0 = nd_b1 (df_X13_scan n (pI (pI (pI s0 15 v1) 7 v0) 18 0)) (fun (s5 : St) => hdR n s5) := rfl
/-- the rows of names in the reference -/
def cstS (S : St) : Prop := ∀ k : Nat, k < 128 → sQ S 0 k = nmT k ∧ sR S 0 k = shT k ∧ sR S 1 k = ptT k
theorem atm : ∀ y : Fin 128, ((ko_b y.1 &&& 127 = 47 ∧ ko_s y.1 = 1) ↔ (shT (sgm y.1) = 9 ∨ shT (sgm y.1) = 10)) := by decide +kernel
theorem sgm_l {y : Nat} (h : y < 128) : sgm y < 128 := (sgm_1 ⟨y, h⟩).2.2.1
def odK (od : Int32) : Prop := od = 0 ∨ od = 33554432 ∨ od = 67108864 ∨ od = 100663296
theorem od_4 (c : Nat → Nat) (z l : Nat) : odK (odO c z l) ∧ (odO c z l = 0 ↔ sfO c z l = 0) ∧ (sfO c z l = 5 → odO c z l = 100663296) ∧ (sfO c z l = 3 → odO c z l = if c (z - 1) = 113 then 67108864 else 33554432) ∧ (sfO c z l = 0 ∨ (sfO c z l = 3 ∧ 3 < l) ∨ (sfO c z l = 5 ∧ 5 < l)) := by
  have s : sfO c z l = 0 ∨ (sfO c z l = 3 ∧ 3 < l) ∨ (sfO c z l = 5 ∧ 5 < l) := by
    unfold sfO s3O
    split
    · rename_i h; exact Or.inr (Or.inr ⟨rfl, h.1⟩)
    · split
      · rename_i h; exact Or.inr (Or.inl ⟨rfl, h.1⟩)
      · exact Or.inl rfl
  unfold odO odK
  rcases s with s | s | s
  · rw [s, if_neg (by decide), if_neg (by decide)]
    exact ⟨Or.inl rfl, ⟨fun _ => rfl, fun _ => rfl⟩, fun u => absurd u (by decide), fun u => absurd u (by decide), Or.inl rfl⟩
  · rw [s.1, if_neg (by decide), if_pos rfl]
    refine ⟨?_, ?_, fun u => absurd u (by decide), fun _ => rfl, Or.inr (Or.inl ⟨rfl, s.2⟩)⟩
    · split
      · exact Or.inr (Or.inr (Or.inl rfl))
      · exact Or.inr (Or.inl rfl)
    · split <;> decide
  · rw [s.1, if_pos rfl]
    exact ⟨Or.inr (Or.inr (Or.inr rfl)), by decide, fun _ => rfl, fun u => absurd u (by decide), Or.inr (Or.inr ⟨rfl, s.2⟩)⟩
/-- what the class finds -/
def clN (n q l : Nat) (s2 : St) (y : Nat) (od : Int32) : Prop := ∀ s1 : St, df_X1_statementNamed n (nI q) (nI l) (-1) (s1, s2) = some (some y, (pI s1 5 od, s2))
def clZ (n q l : Nat) (s2 : St) : Prop := ∀ s1 : St, sI s1 2 = 0 → ∃ od : Int32, df_X1_statementNamed n (nI q) (nI l) (-1) (s1, s2) = some (none, (pI (pI s1 5 od) 2 2, s2))
theorem nme_1 {n L : Nat} {c : Nat → Nat} (hn : 70000 < n) (hL : L ≤ 32768) (h127 : ∀ i : Nat, c i < 127) (q l : Nat) (hl : 1 ≤ l) (hq : q + l ≤ L) (hP : ∀ i : Nat, i < l → aP (c (q + i)) = true) {s2 : St} (hO : sO s2 0 = some 8) (hC : ∀ i : Nat, i < L → sR s2 7 i = nI (c i)) : (∃ (y : Nat) (od : Int32), y < 128 ∧ odK od ∧ (¬ od = 0 → shT (sgm y) = 9 ∨ shT (sgm y) = 10) ∧ clN n q l s2 y od ∧ (∃ l2 : Nat, l2 ≤ l ∧ ks_n (ko_w y) = l2) ∧ ∀ S : St, cstS S → (∀ i : Nat, i < L → sR S 2 i = nI (c i)) → sI S 9 = nI q → sI S 10 = nI (q + l) → hdR n S = df_X13_statement_136 n (nI (sgm y)) od S) ∨ (clZ n q l s2 ∧ ∀ S : St, cstS S → (∀ i : Nat, i < L → sR S 2 i = nI (c i)) → sI S 9 = nI q → sI S 10 = nI (q + l) → ∃ od : Int32, hdR n S = df_X13_statement_136 n (-1) od S) := by
  have o8' : ∀ {α : Type} (x : Option α), nd_o (sO s2 0) 8 x = x := fun x => o8S hO
  have st0 : pR s2 7 (sR (pR nd_st0 0 (sR s2 7)) 0) = s2 := nm_r0 s2 7
  have hR : ∀ i : Nat, i < L → sR (pR nd_st0 0 (sR s2 7)) 0 i = nI (c i) := hC
  have cn : ∀ k : Nat, k ≤ l → df_X7_named n (nI q) (nI k) (pR nd_st0 0 (sR s2 7)) = some (if fN (opA q k (sR s2 7)) 0 128 < 128 then some (fN (opA q k (sR s2 7)) 0 128) else none, pR nd_st0 0 (sR s2 7)) := fun k hk => cn_1 n q k (by omega) (by omega) (by omega)
  have rn : ∀ (k : Nat) (S : St), k ≤ l → cstS S → (∀ i : Nat, i < L → sR S 2 i = nI (c i)) → df_X13_named n (nI q) (nI (q + k)) S = some (if fN (opB (pkO c q k)) 0 128 < 128 then nI (fN (opB (pkO c q k)) 0 128) else -1, S) := fun k S hk h1 h2 => rn_1 n q k (by omega) h127 (by omega) (fun i hi => ⟨hP i (by omega), h2 _ (by omega)⟩) (fun j hj => (h1 j hj).1)
  have nm2 := fun (k : Nat) (hk : k ≤ l) => nam_2 (c := c) q k (R := sR s2 7) h127 (fun i hi => hC _ (by omega))
  obtain ⟨d1, d2, d3, d4, d5⟩ := od_4 c (q + l) l
  have oc := ord_C n (B := pR nd_st0 0 (sR s2 7)) (q := q) (l := l) (by omega) h127 (by omega) (fun i hi => hC _ (by omega))
  have len : ∀ k : Nat, fN (opA q k (sR s2 7)) 0 128 < 128 → ks_n (ko_w (fN (opA q k (sR s2 7)) 0 128)) = k := fun k hk => by
    have := (fN_le (opA q k (sR s2 7)) 128 0).2.2.1 (by omega)
    exact (opA_t.mp this).1
  by_cases y0 : fN (opA q l (sR s2 7)) 0 128 < 128
  · refine Or.inl ⟨fN (opA q l (sR s2 7)) 0 128, 0, y0, Or.inl rfl, fun u => absurd rfl u, fun s1 => ?_, ⟨l, Nat.le_refl l, len l y0⟩, fun S c1 c2 c3 c4 => ?_⟩
    · unfold df_X1_statementNamed df_X1_statementNamed_0 df_X1_statementNamed_130
      rw [if_pos (show (-1 : Int32) < 0 by decide), nb_let, o8', cn l (Nat.le_refl l), nb_b2, st0, nb_let, if_pos y0, nb_mS, nb_mS]
    · have sg := (nm2 l (Nat.le_refl l)).1 y0
      have sl := sgm_l y0
      unfold hdR
      rw [suf_R n h127 (by omega) c3 c4 (fun i hi => c2 _ (by omega)), nb_b2, c3, c4, rn l S (Nat.le_refl l) c1 c2, nb_b2, sg, if_pos sl, if_pos (show (0 : Int32) ≤ nI (sgm _) from zle (a := 0) (Nat.zero_le _) (by omega))]
  · have r0 := (nm2 l (Nat.le_refl l)).2 y0
    -- the class: no such name, its end
    have cl0 : ∀ s1 : St, df_X1_statementNamed n (nI q) (nI l) (-1) (s1, s2) = (if odO c (q + l) l = 100663296 then df_X1_statementNamed_65 n (nI q) (nI l) 5 (pI s1 5 (odO c (q + l) l), s2) else df_X1_statementNamed_65 n (nI q) (nI l) 3 (pI s1 5 (odO c (q + l) l), s2)) := fun s1 => by
      unfold df_X1_statementNamed df_X1_statementNamed_0
      rw [if_pos (show (-1 : Int32) < 0 by decide), nb_let, o8', cn l (Nat.le_refl l), nb_b2, st0, nb_let, if_neg y0, nb_mN, o8', oc, nb_b2, st0, nb_let, nm_ii, nb_let]
      rfl
    have z65 : ∀ (s1 : St) (e : Int32), df_X1_statementNamed_65 n (nI q) (nI l) e (pI s1 5 0, s2) = df_X1_statementNamed_93 n none (pI s1 5 0, s2) := fun s1 e => by
      unfold df_X1_statementNamed_65
      rw [if_pos (show sI (pI s1 5 0, s2).1 5 = 0 from rfl)]
    have z93 : ∀ s1 : St, sI s1 2 = 0 → df_X1_statementNamed_93 n none (s1, s2) = some (none, (pI s1 2 2, s2)) := fun s1 h => by
      unfold df_X1_statementNamed_93 df_X1_statementNamed_122 df_X1_statementNamed_130
      rw [nb_mN, bl_X1 2 h, nb_b1, nb_mN]
    rcases d5 with s | s
    · have o0 := d2.mpr s
      refine Or.inr ⟨fun s1 h => ⟨0, ?_⟩, fun S c1 c2 c3 c4 => ⟨0, ?_⟩⟩
      · rw [cl0, o0, if_neg (by decide), z65, z93 (pI s1 5 0) h]
      · unfold hdR
        rw [suf_R n h127 (by omega) c3 c4 (fun i hi => c2 _ (by omega)), nb_b2, c3, c4, rn l S (Nat.le_refl l) c1 c2, nb_b2, r0, if_neg (Nat.lt_irrefl 128), if_neg (show ¬ (0 : Int32) ≤ -1 by decide), s, if_pos (show nI 0 ≤ (0 : Int32) by decide)]
    · obtain ⟨t, ht1, ht2, ht3⟩ : ∃ t : Nat, sfO c (q + l) l = t ∧ (t = 3 ∨ t = 5) ∧ t < l := ⟨sfO c (q + l) l, rfl, by omega, by omega⟩
      have on : ¬ odO c (q + l) l = 0 := fun u => by have := d2.mp u; omega
      have cl1 : ∀ s1 : St, df_X1_statementNamed n (nI q) (nI l) (-1) (s1, s2) = nd_m (if fN (opA q (l - t) (sR s2 7)) 0 128 < 128 then some (fN (opA q (l - t) (sR s2 7)) 0 128) else none) (df_X1_statementNamed_93 n none (pI s1 5 (odO c (q + l) l), s2)) (fun (j22 : Nat) => df_X1_statementNamed_93 n (some j22) (pI s1 5 (odO c (q + l) l), s2)) := fun s1 => by
        have k65 : ∀ e : Nat, e = t → df_X1_statementNamed_65 n (nI q) (nI l) (nI e) (pI s1 5 (odO c (q + l) l), s2) = nd_m (if fN (opA q (l - t) (sR s2 7)) 0 128 < 128 then some (fN (opA q (l - t) (sR s2 7)) 0 128) else none) (df_X1_statementNamed_93 n none (pI s1 5 (odO c (q + l) l), s2)) (fun (j22 : Nat) => df_X1_statementNamed_93 n (some j22) (pI s1 5 (odO c (q + l) l), s2)) := fun e he => by
          subst he
          unfold df_X1_statementNamed_65
          rw [if_neg (show ¬ sI (pI s1 5 (odO c (q + l) l), s2).1 5 = 0 from on), o8', pk_sub (by omega), cn (l - e) (by omega), nb_b2, st0, nb_let]
        rw [cl0]
        rcases s with s | s
        · have o3 := d4 s.1
          rw [if_neg (by rw [o3]; split <;> decide)]
          exact k65 3 (by omega)
        · rw [if_pos (d3 s.1)]
          exact k65 5 (by omega)
      have rf : ∀ S : St, cstS S → (∀ i : Nat, i < L → sR S 2 i = nI (c i)) → sI S 9 = nI q → sI S 10 = nI (q + l) → hdR n S = df_X13_statement_102 n (if fN (opB (pkO c q (l - t))) 0 128 < 128 then nI (fN (opB (pkO c q (l - t))) 0 128) else -1) (odO c (q + l) l) S := fun S c1 c2 c3 c4 => by
        unfold hdR
        rw [suf_R n h127 (by omega) c3 c4 (fun i hi => c2 _ (by omega)), nb_b2, c3, c4, rn l S (Nat.le_refl l) c1 c2, nb_b2, r0, if_neg (Nat.lt_irrefl 128), if_neg (show ¬ (0 : Int32) ≤ -1 by decide), ht1, if_neg (show ¬ nI t ≤ (0 : Int32) from znle (b := 0) (by omega) (by omega)), c3, c4, show nI (q + l) - nI t = nI (q + (l - t)) from (pk_sub (by omega)).trans (congrArg nI (by omega)), rn (l - t) S (by omega) c1 c2, nb_b2]
        rcases s with s | s
        · have h1 := h127 (q + (l - 1))
          rw [if_neg (show ¬ nI t = (5 : Int32) from zne (b := 5) (by omega) (by omega) (by omega)), c4, show nI (q + l) - (1 : Int32) = nI (q + (l - 1)) from (pk_sub (b := 1) (by omega)).trans (congrArg nI (by omega)), nm_ck (by omega) (by omega), nI_clamp (by omega), c2 _ (by omega), d4 s.1, show q + l - 1 = q + (l - 1) by omega]
          by_cases w : c (q + (l - 1)) = 113
          · rw [if_pos (show nI (c (q + (l - 1))) = (113 : Int32) from congrArg nI w), if_pos w]
          · rw [if_neg (show ¬ nI (c (q + (l - 1))) = (113 : Int32) from zne (b := 113) w (by omega) (by omega)), if_neg w]
        · rw [if_pos (show nI t = (5 : Int32) from congrArg nI (show t = 5 by omega)), d3 s.1]
      by_cases y1 : fN (opA q (l - t) (sR s2 7)) 0 128 < 128
      · have sg := (nm2 (l - t) (by omega)).1 y1
        have sl := sgm_l y1
        have le1 := len (l - t) y1
        generalize hy : fN (opA q (l - t) (sR s2 7)) 0 128 = y at *
        have am := atm ⟨y, y1⟩
        have am : (ko_b y &&& 127 = 47 ∧ ko_s y = 1) ↔ (shT (sgm y) = 9 ∨ shT (sgm y) = 10) := am
        have r102 : ∀ S : St, cstS S → df_X13_statement_102 n (nI (sgm y)) (odO c (q + l) l) S = if shT (sgm y) = 9 ∨ shT (sgm y) = 10 then df_X13_statement_136 n (nI (sgm y)) (odO c (q + l) l) S else df_X13_statement_136 n (-1) (odO c (q + l) l) S := fun S c1 => by
          unfold df_X13_statement_102
          rw [if_neg (show ¬ nI (sgm y) < (0 : Int32) from znl (b := 0) (Nat.zero_le _) (by omega)), nm_ck (by omega) (by omega), nm_ck (by omega) (by omega), nI_clamp (by omega), (c1 _ sl).2.1]
          by_cases u1 : shT (sgm y) = 9
          · rw [if_pos u1, if_pos (Or.inl u1)]
          · rw [if_neg u1]
            by_cases u2 : shT (sgm y) = 10
            · rw [if_pos u2, if_pos (Or.inr u2)]
            · rw [if_neg u2, if_neg (fun z => by rcases z with z | z; exact u1 z; exact u2 z)]
        by_cases ua : shT (sgm y) = 9 ∨ shT (sgm y) = 10
        · obtain ⟨u1, u2⟩ := am.mpr ua
          refine Or.inl ⟨y, odO c (q + l) l, y1, d1, fun _ => ua, fun s1 => ?_, ⟨l - t, by omega, le1⟩, fun S c1 c2 c3 c4 => ?_⟩
          · rw [cl1, if_pos y1, nb_mS]
            unfold df_X1_statementNamed_93 df_X1_statementNamed_130
            rw [nb_mS, lt_y y1, if_pos u1, lt_y y1, if_pos u2, nb_mS]
          · rw [rf S c1 c2 c3 c4, sg, if_pos sl, r102 S c1, if_pos ua]
        · refine Or.inr ⟨fun s1 h => ⟨odO c (q + l) l, ?_⟩, fun S c1 c2 c3 c4 => ⟨odO c (q + l) l, ?_⟩⟩
          · rw [cl1, if_pos y1, nb_mS]
            unfold df_X1_statementNamed_93 df_X1_statementNamed_122 df_X1_statementNamed_130
            rw [nb_mS, lt_y y1, lt_y y1, bl_X1 2 (show sI (pI s1 5 (odO c (q + l) l)) 2 = 0 from h), nb_b1, nb_mN]
            by_cases u1 : ko_b y &&& 127 = 47
            · rw [if_pos u1, if_neg (fun u2 => ua (am.mp ⟨u1, u2⟩))]
            · rw [if_neg u1]
          · rw [rf S c1 c2 c3 c4, sg, if_pos sl, r102 S c1, if_neg ua]
      · have sg := (nm2 (l - t) (by omega)).2 y1
        refine Or.inr ⟨fun s1 h => ⟨odO c (q + l) l, ?_⟩, fun S c1 c2 c3 c4 => ⟨odO c (q + l) l, ?_⟩⟩
        · rw [cl1, if_neg y1, nb_mN, z93 (pI s1 5 (odO c (q + l) l)) h]
        · rw [rf S c1 c2 c3 c4, sg, if_neg (Nat.lt_irrefl 128)]
          unfold df_X13_statement_102
          rw [if_pos (show (-1 : Int32) < 0 by decide)]
