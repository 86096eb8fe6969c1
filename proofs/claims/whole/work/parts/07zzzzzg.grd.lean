theorem gR_un {d : Dn} {os ro f l j0 j1 o k : Nat} {K P : Nat → Int32} {N : Nat → Int64} {pos : Nat → Nat} (hok : o = 19 ∧ k = 28 ∨ o = 20 ∧ k = 24 ∨ o = 21 ∧ k = 29) (hi : gR d os ro (f + 1) l j0 j1 K P N pos) (ho : 19 ≤ os) (hK : K f = nI k) : gR (dnU o d) 19 0 f l j0 j1 K P N pos := by
  refine gR_sub hi (by omega) (Nat.le_refl _) hi.2.1 (Nat.le_refl _) (Nat.le_refl _) (k := k) (by omega) hK (by omega) 19 (by omega) ?_ ?_ ?_ ?_
  · intro n β e g Y X fo hp he he2 hfo hg
    have h1 := hi.1
    obtain ⟨m, rfl⟩ : ∃ m : Nat, g = m + 1 := ⟨g - 1, by omega⟩
    have q := ls_tok n m e (β + f) k (r := foI fo) (X := X) (by omega) he2 ((hp f (by omega) (by omega)).1.trans hK) (by omega) (by omega) (by omega)
    rw [if_neg (by omega)] at q
    obtain ⟨g', a1, a2⟩ := hi.2.2.2.2.2.1 n β e m Y X fo (plc_w hp (by omega) (Nat.le_refl _)) he he2 hfo (by omega)
    rw [uP_h ho] at a2
    rw [uP_h (by omega)]
    exact ⟨g', by omega, q.trans a2⟩
  · intro n β X Y d' hp hb hd e9 e7 hl
    exact eb_u n d' (β + f) (β + l) k (by omega) hd (by have := hi.1; omega) hb (by have := hi.1; omega) e9 e7 hl
  · intro n β X E w Y d' v hE hb hd hw e8 e10 e3 e7 hd2 hv
    refine ⟨fun u z => ?_, fun z => ?_⟩
    · rw [jo_un n d' (β + f) o k hok hd (by have := hi.1; omega) e8 e10 e3 e7]
      unfold dnU at z
      rw [hd2] at z
      have z : some (uV o v) = some u := z
      injection z with z
      rw [← z, hv]
    · unfold dnU at z
      rw [hd2] at z
      exact nomatch z
  · intro E w z
    unfold dnU
    rw [z]
    rfl
theorem gR_m1 {d : Dn} {os ro f q j0 j1 : Nat} {K P : Nat → Int32} {N : Nat → Int64} {pos : Nat → Nat} (hi : gR d os ro (f + 1) q j0 j1 K P N pos) (hq : q < 120) (hK : K f = nI 32) (hP : P f = nI q) : gR (dnM 25 d) 20 0 f (q + 1) j0 j1 K P N pos := by
  refine gR_sub hi (by omega) (by omega) (by omega) (Nat.le_refl _) (Nat.le_refl _) (k := 32) (by omega) hK (by omega) 20 (by omega) ?_ ?_ ?_ ?_
  · intro n β e g Y X fo hp he he2 hfo hg
    have h1 := hi.1
    obtain ⟨m, rfl⟩ : ∃ m : Nat, g = m + 1 := ⟨g - 1, by omega⟩
    have c := hp f (by omega) (by omega)
    rw [uP_h (by omega)]
    exact ⟨m, by omega, ls_opn n m e (β + f) (β + q) (by omega) he2 (Or.inr (c.1.trans hK)) (c.2.2 q (by omega) hP) (by omega)⟩
  · intro n β X Y d' hp hb hd e9 e7 hl
    exact eb_m n d' (β + f) (β + (q + 1)) 32 rfl hd (by have := hi.1; omega) hb (by have := hi.1; omega) e9 e7 hl
  · intro n β X E w Y d' v hE hb hd hw e8 e10 e3 e7 hd2 hv
    have ac := hE.2.2.2 25 32 v Y (Or.inl ⟨rfl, rfl⟩)
    refine ⟨fun u z => ?_, fun z => ?_⟩
    · unfold dnM at z
      rw [hd2] at z
      have z : E.2.2.2 25 v = some u := z
      rw [z] at ac
      exact jo_mem n d' (β + f) (β + f) 32 (Or.inl rfl) hd (by have := hi.1; omega) (by have := hi.1; omega) e8 e10 e3 (by rw [hv]; exact ac.trans (gv_1 n d' (by omega) e7))
    · unfold dnM at z
      rw [hd2] at z
      have z : E.2.2.2 25 v = none := z
      rw [z] at ac
      exact jo_mem n d' (β + f) (β + f) 32 (Or.inl rfl) hd (by have := hi.1; omega) (by have := hi.1; omega) e8 e10 e3 (by rw [hv]; exact ac.trans (fl_1 n))
  · intro E w z
    unfold dnM
    rw [z]
    rfl
theorem gR_m2 {d : Dn} {os ro f q j0 j1 o k : Nat} {K P : Nat → Int32} {N : Nat → Int64} {pos : Nat → Nat} (hok : o = 26 ∧ k = 7 ∨ o = 27 ∧ k = 6) (hi : gR d os ro (f + 2) q j0 j1 K P N pos) (hq : q < 120) (hK : K f = nI k) (hK2 : K (f + 1) = nI 32) (hP : P (f + 1) = nI q) : gR (dnM o d) 20 0 f (q + 1) j0 j1 K P N pos := by
  refine gR_sub hi (by omega) (by omega) (by omega) (Nat.le_refl _) (Nat.le_refl _) (k := k) (by omega) hK (by omega) 20 (by omega) ?_ ?_ ?_ ?_
  · intro n β e g Y X fo hp he he2 hfo hg
    have h1 := hi.1
    obtain ⟨m, rfl⟩ : ∃ m : Nat, g = m + 1 + 1 := ⟨g - 2, by omega⟩
    have c := hp (f + 1) (by omega) (by omega)
    have q1 := ls_tok n (m + 1) e (β + f) k (r := foI fo) (X := X) (by omega) he2 ((hp f (by omega) (by omega)).1.trans hK) (by omega) (by omega) (by omega)
    rw [if_pos (by omega)] at q1
    rw [uP_h (by omega)]
    exact ⟨m, by omega, q1.trans (ls_opn n m e (β + f + 1) (β + q) (by omega) he2 (Or.inr (c.1.trans hK2)) (c.2.2 q (by omega) hP) (by omega))⟩
  · intro n β X Y d' hp hb hd e9 e7 hl
    exact eb_w n d' (β + f) (β + (q + 1)) k (by omega) hd (by have := hi.1; omega) hb (by have := hi.1; omega) e9 e7 hl
  · intro n β X E w Y d' v hE hb hd hw e8 e10 e3 e7 hd2 hv
    have ac := hE.2.2.2 o k v Y (Or.inr hok)
    refine ⟨fun u z => ?_, fun z => ?_⟩
    · unfold dnM at z
      rw [hd2] at z
      have z : E.2.2.2 o v = some u := z
      rw [z] at ac
      exact jo_mem n d' (β + f) (β + f) k (by omega) hd (by have := hi.1; omega) (by have := hi.1; omega) e8 e10 e3 (by rw [hv]; exact ac.trans (gv_1 n d' (by omega) e7))
    · unfold dnM at z
      rw [hd2] at z
      have z : E.2.2.2 o v = none := z
      rw [z] at ac
      exact jo_mem n d' (β + f) (β + f) k (by omega) hd (by have := hi.1; omega) (by have := hi.1; omega) e8 e10 e3 (by rw [hv]; exact ac.trans (fl_1 n))
  · intro E w z
    unfold dnM
    rw [z]
    rfl
theorem gR_chg {d : Dn} {os ro f q j : Nat} {K P : Nat → Int32} {N : Nat → Int64} {pos : Nat → Nat} (hi : gR d os ro (f + 2) q (j + 1) (j + 1) K P N pos) (hq : q < 120) (hK : K f = nI 9) (hK2 : K (f + 1) = nI 30) (hP : P (f + 1) = nI q) (hpos : pos j = f) : gR (dnC j d) 20 0 f (q + 1) j (j + 1) K P N pos := by
  refine gR_sub hi (by omega) (by omega) (by omega) (by omega) (Nat.le_refl _) (k := 9) (by omega) hK (by omega) 20 (by omega) ?_ ?_ ?_ ?_
  · intro n β e g Y X fo hp he he2 hfo hg
    have h1 := hi.1
    obtain ⟨m, rfl⟩ : ∃ m : Nat, g = m + 1 + 1 := ⟨g - 2, by omega⟩
    have c := hp (f + 1) (by omega) (by omega)
    have q1 := ls_tok n (m + 1) e (β + f) 9 (r := foI fo) (X := X) (by omega) he2 ((hp f (by omega) (by omega)).1.trans hK) (by omega) (by omega) (by omega)
    rw [if_pos (by omega)] at q1
    rw [uP_h (by omega)]
    exact ⟨m, by omega, q1.trans (ls_opn n m e (β + f + 1) (β + q) (by omega) he2 (Or.inl (c.1.trans hK2)) (c.2.2 q (by omega) hP) (by omega))⟩
  · intro n β X Y d' hp hb hd e9 e7 hl
    exact eb_w n d' (β + f) (β + (q + 1)) 9 (by omega) hd (by have := hi.1; omega) hb (by have := hi.1; omega) e9 e7 hl
  · intro n β X E w Y d' v hE hb hd hw e8 e10 e3 e7 hd2 hv
    have k1 := jo_chg n d' (β + f) (X := X) hd (by have := hi.1; omega) e8 e10 e3 e7
    have k2 := hw j (Nat.le_refl _) (by omega)
    rw [hpos] at k2
    rw [hv, k2] at k1
    refine ⟨fun u z => ?_, fun z => ?_⟩
    · unfold dnC at z
      rw [hd2] at z
      have z : some (if v = w j then (0 : Int64) else 1) = some u := z
      injection z with z
      rw [← z]
      exact k1
    · unfold dnC at z
      rw [hd2] at z
      exact nomatch z
  · intro E w z
    unfold dnC
    rw [z]
    rfl
theorem gR_old {d : Dn} {os ro f q j : Nat} {K P : Nat → Int32} {N : Nat → Int64} {pos : Nat → Nat} (hi : gR d os ro (f + 2) q (j + 1) (j + 1) K P N pos) (hq : q < 120) (hK : K f = nI 8) (hK2 : K (f + 1) = nI 30) (hP : P (f + 1) = nI q) (hpos : pos j = f) : gR (fun _ w => some (w j)) 20 0 f (q + 1) j (j + 1) K P N pos := by
  have h1 := hi.1
  have s1 : gRs 20 0 f (q + 1) K P N := fun n β e g Y X fo hp he he2 hfo hg => by
    obtain ⟨m, rfl⟩ : ∃ m : Nat, g = m + 1 + 1 := ⟨g - 2, by omega⟩
    have c := hp (f + 1) (by omega) (by omega)
    have q1 := ls_tok n (m + 1) e (β + f) 8 (r := foI fo) (X := X) (by omega) he2 ((hp f (by omega) (by omega)).1.trans hK) (by omega) (by omega) (by omega)
    rw [if_pos (by omega)] at q1
    rw [uP_h (by omega)]
    exact ⟨m, by omega, q1.trans (ls_opn n m e (β + f + 1) (β + q) (by omega) he2 (Or.inl (c.1.trans hK2)) (c.2.2 q (by omega) hP) (by omega))⟩
  refine ⟨by omega, by omega, by omega, fun z => by omega, ⟨8, by omega, hK, fun z => by omega⟩, s1, fun n β X E w Y d' g x hn hE hp hb hw h7 h8 h9 h11 hd hg hx => ⟨fun v z => ?_, fun z => (nomatch z)⟩⟩
  obtain ⟨m, rfl⟩ : ∃ m : Nat, g = m + 1 := ⟨g - 1, by omega⟩
  have z : some (w j) = some v := z
  injection z with z
  subst z
  have hl := ls_N s1 (by omega) n β Y X hn hp (by omega) (by omega)
  have q1 := en_61 n d' (β + f) (β + (q + 1)) 8 (X := X) (by omega) (by omega) (by omega) (by omega) h8 h9 ((hp f (by omega) (by omega)).1.trans hK) (by omega) (fun z => by omega)
  have q2 := en_8 n d' (β + f) (β + (q + 1)) (X := X) (by omega) (by omega) (by omega) h9 h7 hl
  have k2 := hw j (Nat.le_refl _) (by omega)
  rw [hpos] at k2
  rw [k2] at q2
  refine ⟨m, x + 1, gvn (y2 Y d' (nI (β + f))) d' (w j), by omega, by omega, yE_t (y2_E Y d' _) (gvn_E ..), rfl, rfl, ?_⟩
  rw [wkr_e n m d' x (by omega) (by omega) h7 h11, q1, q2, nb_b1]
theorem gR_par {d : Dn} {os ro f q j0 j1 : Nat} {K P : Nat → Int32} {N : Nat → Int64} {pos : Nat → Nat} (hi : gR d os ro (f + 1) q j0 j1 K P N pos) (hq : q < 120) (hK : K f = nI 30) (hP : P f = nI q) : gR d 20 0 f (q + 1) j0 j1 K P N pos := by
  obtain ⟨h1, h2, h3, h4, h5, h6, h7⟩ := hi
  have s1 : gRs 20 0 f (q + 1) K P N := fun n β e g Y X fo hp he he2 hfo hg => by
    obtain ⟨m, rfl⟩ : ∃ m : Nat, g = m + 1 := ⟨g - 1, by omega⟩
    have c := hp f (by omega) (by omega)
    rw [uP_h (by omega)]
    exact ⟨m, by omega, ls_opn n m e (β + f) (β + q) (by omega) he2 (Or.inl (c.1.trans hK)) (c.2.2 q (by omega) hP) (by omega)⟩
  refine ⟨by omega, by omega, h3, fun z => by omega, ⟨30, by omega, hK, fun z => ⟨q, hP, by omega, by omega⟩⟩, s1, fun n β X E w Y d' g x hn hE hp hb hw e7 e8 e9 e11 hd hg hx => ?_⟩
  obtain ⟨m, rfl⟩ : ∃ m : Nat, g = m + 1 := ⟨g - 1, by omega⟩
  have c := hp f (by omega) (by omega)
  have q1 := en_par n d' (β + f) (β + q) (X := X) (by omega) (by omega) (by omega) (by omega) e8 e9 (c.1.trans hK) (c.2.2 q (by omega) hP)
  have q3 := wkr_e n m d' x (X := X) (by omega) (by omega) e7 e11
  rw [q1, nb_b1] at q3
  have y0 : yE d' Y (pR (pR Y 8 (upd (sR Y 8) d' (nI (β + f + 1)))) 9 (upd (sR Y 9) d' (nI (β + q)))) := ⟨yFr_m rfl rfl rfl rfl rfl, rfl, fun i hi => ⟨if_neg (by omega), if_neg (by omega), rfl, rfl, rfl⟩⟩
  have z8 : sR (pR (pR Y 8 (upd (sR Y 8) d' (nI (β + f + 1)))) 9 (upd (sR Y 9) d' (nI (β + q)))) 8 d' = nI (β + (f + 1)) := if_pos rfl
  have z9 : sR (pR (pR Y 8 (upd (sR Y 8) d' (nI (β + f + 1)))) 9 (upd (sR Y 9) d' (nI (β + q)))) 9 d' = nI (β + q) := if_pos rfl
  have z11 : sR (pR (pR Y 8 (upd (sR Y 8) d' (nI (β + f + 1)))) 9 (upd (sR Y 9) d' (nI (β + q)))) 11 d' = nI 0 := e11
  have z7 : sI (pR (pR Y 8 (upd (sR Y 8) d' (nI (β + f + 1)))) 9 (upd (sR Y 9) d' (nI (β + q)))) 7 = nI (d' + 1) := e7
  generalize pR (pR Y 8 (upd (sR Y 8) d' (nI (β + f + 1)))) 9 (upd (sR Y 9) d' (nI (β + q))) = Y1 at q3 y0 z8 z9 z11 z7
  have r := h7 n β X E w Y1 d' m (x + 1) hn hE (plc_w (plc_E hp y0) (by omega) (by omega)) (by omega) (fun j a b => by rw [y0.2.1]; exact hw j a b) z7 z8 z9 z11 (by omega) (by omega) (by omega)
  refine ⟨fun v z => ?_, fun z => ?_⟩
  · obtain ⟨g', x', Y2, r1, r2, r3, r4, r5, r6⟩ := r.1 v z
    exact ⟨g', x', Y2, by omega, by omega, yE_t y0 r3, r4, r5, q3.trans r6⟩
  · obtain ⟨Y2, r1, r2⟩ := r.2 z
    exact ⟨Y2, yE_t (yE_l y0 (by omega)) r1, q3.trans r2⟩
def dnO (o : Nat) (d f : Dn) : Dn := if o ≤ 2 then dnG o d f else dnB o d f
theorem fok_u {Y : St} {fo : Option (Nat × Nat)} {o r : Nat} (h : fok Y fo) (ho : o ≤ 18 → 1 ≤ o ∧ r < 960 ∧ sR Y 3 r = nI (o + 9)) : fok Y (uP o r fo) := by
  by_cases a : 19 ≤ o
  · rw [uP_h a]
    exact h
  · have b := ho (by omega)
    have k : fok Y (some (r, o)) := fun q z => by
      injection z with z
      rw [← z]
      exact ⟨b.2.1, b.1, by omega, b.2.2⟩
    cases fo with
    | none =>
      rw [uP_n (by omega)]
      exact k
    | some q =>
      by_cases c : rk o ≤ rk q.2
      · rw [uP_a (by omega) c]
        exact k
      · rw [uP_b (Or.inr c)]
        exact h
theorem gR_bin {d c : Dn} {oa ra oc rc o f m l j0 j j1 : Nat} {K P : Nat → Int32} {N : Nat → Int64} {pos : Nat → Nat} (o1 : 1 ≤ o) (o2 : o ≤ 18) (ha : gR d oa ra f m j0 j K P N pos) (hc : gR c oc rc (m + 1) l j j1 K P N pos) (hK : K m = nI (o + 9)) (hA : 19 ≤ oa ∨ rk o ≤ rk oa) (hC : 19 ≤ oc ∨ rk o < rk oc) : gR (dnO o d c) o m f l j0 j1 K P N pos := by
  obtain ⟨a1, a2, a3, a4, ⟨k, k1, k2, k3⟩, a6, a7⟩ := ha
  obtain ⟨c1, c2, c3, c4, c5, c6, c7⟩ := hc
  have s1 : gRs o m f l K P N := fun n β e g Y X fo hp he he2 hfo hg => by
    obtain ⟨g1, b1, b2⟩ := a6 n β e g Y X fo (plc_w hp (Nat.le_refl _) (by omega)) (by omega) he2 hfo (by omega)
    obtain ⟨m1, rfl⟩ : ∃ m1 : Nat, g1 = m1 + 1 := ⟨g1 - 1, by omega⟩
    have f1 : fok Y (uP oa (β + ra) fo) := fok_u hfo (fun z => by
      have := a4 z
      exact ⟨this.1, by omega, (hp ra (by omega) (by omega)).1.trans this.2.2.2⟩)
    have hk : sR Y 3 (β + m) = nI (o + 9) := (hp m (by omega) (by omega)).1.trans hK
    have b3 := ls_op n m1 e (β + m) o (X := X) (by omega) he2 o1 o2 hk f1
    have f2 : fok Y (uP o (β + m) (uP oa (β + ra) fo)) := fok_u f1 (fun z => ⟨o1, by omega, hk⟩)
    obtain ⟨g2, b4, b5⟩ := c6 n β e m1 Y X _ (plc_w hp (by omega) (Nat.le_refl _)) he he2 f2 (by omega)
    rw [uP_3 o2 hA hC] at b5
    exact ⟨g2, by omega, b2.trans (b3.trans b5)⟩
  refine ⟨by omega, c2, by omega, fun _ => ⟨o1, a1, by omega, hK⟩, ⟨k, k1, k2, fun z => ?_⟩, s1, fun n β X E w Y d' g x hn hE hp hb hw e7 e8 e9 e11 hd hg hx => ?_⟩
  · obtain ⟨q, q1, q2, q3⟩ := k3 z
    exact ⟨q, q1, q2, by omega⟩
  have hl := ls_R s1 n β Y X hn hp c2 (by omega)
  rw [uP_n o2] at hl
  have hpf := hp f (by omega) (by omega)
  have t1 := en_61 n d' (β + f) (β + l) k (X := X) (by omega) (by omega) (by omega) (by omega) e8 e9 (hpf.1.trans k2) k1 (fun z => by
    obtain ⟨q, q1, q2, q3⟩ := k3 z
    exact ⟨β + q, hpf.2.2 q (by omega) q1, by omega⟩)
  obtain ⟨Y1, t2, y0, z7, z8, z9, z10, z11, z8', z9', z11'⟩ := en_bin n d' (β + f) (β + l) k (β + m) (Y := Y) (X := X) (by omega) (by omega) (by omega) (by omega) e9 e7 hl
  obtain ⟨m1, rfl⟩ : ∃ m1 : Nat, g = m1 + 1 := ⟨g - 1, by omega⟩
  have q3 := wkr_e n m1 d' x (X := X) (by omega) (by omega) e7 e11
  rw [t1, t2, nb_b1] at q3
  have r := a7 n β X E w Y1 (d' + 1) m1 (x + 1) hn hE (plc_w (plc_E hp y0) (Nat.le_refl _) (by omega)) (by omega) (fun i a b => by rw [y0.2.1]; exact hw i a (by omega)) z7 z8' z9' z11' (by omega) (by omega) (by omega)
  have dN : d E w = none → dnO o d c E w = none := fun z => by
    unfold dnO dnG dnB
    by_cases y : o ≤ 2
    · rw [if_pos y]
      show (d E w).bind _ = none
      rw [z]
      rfl
    · rw [if_neg y]
      show (d E w).bind _ = none
      rw [z]
      rfl
  cases hd2 : d E w with
  | none =>
    refine ⟨fun v z => by rw [dN hd2] at z; exact (nomatch z), fun _ => ?_⟩
    obtain ⟨Y2, r1, r2⟩ := r.2 hd2
    exact ⟨Y2, yE_t (yE_l y0 (by omega)) r1, q3.trans r2⟩
  | some u =>
    obtain ⟨g', x', Y2, r1, r2, r3, r4, r5, r6⟩ := r.1 u hd2
    obtain ⟨m2, rfl⟩ : ∃ m2 : Nat, g' = m2 + 1 := ⟨g' - 1, by omega⟩
    have f3 := r3.2.2 d' (by omega)
    have yY : yE d' Y Y2 := yE_t y0 (yE_l r3 (by omega))
    have hk : sR Y2 3 (β + m) = nI (o + 9) := by
      rw [yY.1.1 3 (by omega) (by omega)]
      exact (hp m (by omega) (by omega)).1.trans hK
    have v10 : sR Y2 10 d' = nI (β + m) := f3.2.2.1.trans z10
    have v9 : sR Y2 9 d' = nI (β + l) := f3.2.1.trans (z9.trans e9)
    have v8 : sR Y2 8 d' = nI (β + f) := f3.1.trans (z8.trans e8)
    have t3 := wkr_h n m2 d' x' (Y := Y2) (X := X) (by omega) (by omega) r4 (f3.2.2.2.1.trans z11)
    by_cases cut : (o = 1 ∨ o = 2) ∧ ¬ (u = 0 ↔ o = 1)
    · have t4 := hf_cut n d' (β + m) o (Y := Y2) (X := X) cut.1 (by omega) (by omega) v10 hk r4 (by rw [r5]; exact cut.2)
      rw [t4, nb_b1] at t3
      have dv : dnO o d c E w = some (if o = 1 then 1 else 0) := by
        unfold dnO dnG
        rw [if_pos (by omega)]
        show (d E w).bind _ = _
        rw [hd2]
        show (if (u = 0 ↔ o = 1) then _ else _) = _
        rw [if_neg cut.2]
      rw [dv]
      refine ⟨fun v z => ?_, fun z => (nomatch z)⟩
      injection z with z
      subst z
      refine ⟨m2, x' + 1, _, by omega, by omega, yE_t yY (yE_t (show yE d' Y2 (y3 Y2 d') from ⟨yFr_m rfl rfl rfl rfl rfl, rfl, fun i hi => ⟨rfl, rfl, rfl, rfl, if_neg (by omega)⟩⟩) (gvn_E ..)), rfl, rfl, q3.trans (r6.trans t3)⟩
    · have hcut : o = 1 ∨ o = 2 → (sL Y2 1 = 0 ↔ o = 1) := fun z => by
        rw [r5]
        exact Classical.byContradiction fun y => cut ⟨z, y⟩
      have t4 := hf_on n d' (β + m) o (β + l) (Y := Y2) (X := X) o1 o2 (by omega) (by omega) v10 v9 hk r4 hcut
      rw [t4, nb_b1] at t3
      have y4 : yE d' Y2 (bgn (pR (y3 Y2 d') 11 (upd (sR Y2 11) d' (nI 2))) (d' + 1) (nI (β + m + 1)) (nI (β + l))) := ⟨yFr_m rfl rfl rfl rfl rfl, rfl, fun i hi => ⟨if_neg (by omega), if_neg (by omega), rfl, (if_neg (by omega)).trans (if_neg (by omega)), if_neg (by omega)⟩⟩
      have x8 : sR (bgn (pR (y3 Y2 d') 11 (upd (sR Y2 11) d' (nI 2))) (d' + 1) (nI (β + m + 1)) (nI (β + l))) 8 d' = nI (β + f) := (if_neg (by omega)).trans v8
      have x10 : sR (bgn (pR (y3 Y2 d') 11 (upd (sR Y2 11) d' (nI 2))) (d' + 1) (nI (β + m + 1)) (nI (β + l))) 10 d' = nI (β + m) := v10
      have x11 : sR (bgn (pR (y3 Y2 d') 11 (upd (sR Y2 11) d' (nI 2))) (d' + 1) (nI (β + m + 1)) (nI (β + l))) 11 d' = nI 2 := (if_neg (by omega)).trans (if_pos rfl)
      have xq : sQ (bgn (pR (y3 Y2 d') 11 (upd (sR Y2 11) d' (nI 2))) (d' + 1) (nI (β + m + 1)) (nI (β + l))) 3 d' = u := (if_pos rfl).trans r5
      have x8' : sR (bgn (pR (y3 Y2 d') 11 (upd (sR Y2 11) d' (nI 2))) (d' + 1) (nI (β + m + 1)) (nI (β + l))) 8 (d' + 1) = nI (β + (m + 1)) := if_pos rfl
      have x9' : sR (bgn (pR (y3 Y2 d') 11 (upd (sR Y2 11) d' (nI 2))) (d' + 1) (nI (β + m + 1)) (nI (β + l))) 9 (d' + 1) = nI (β + l) := if_pos rfl
      have x11' : sR (bgn (pR (y3 Y2 d') 11 (upd (sR Y2 11) d' (nI 2))) (d' + 1) (nI (β + m + 1)) (nI (β + l))) 11 (d' + 1) = nI 0 := if_pos rfl
      have x7' : sI (bgn (pR (y3 Y2 d') 11 (upd (sR Y2 11) d' (nI 2))) (d' + 1) (nI (β + m + 1)) (nI (β + l))) 7 = nI (d' + 1 + 1) := rfl
      generalize bgn (pR (y3 Y2 d') 11 (upd (sR Y2 11) d' (nI 2))) (d' + 1) (nI (β + m + 1)) (nI (β + l)) = Y3 at t3 y4 x8 x10 x11 xq x8' x9' x11' x7'
      have yY3 : yE d' Y Y3 := yE_t yY y4
      have s := c7 n β X E w Y3 (d' + 1) m2 (x' + 1) hn hE (plc_w (plc_E hp yY3) (by omega) (Nat.le_refl _)) hb (fun i a b => by rw [yY3.2.1]; exact hw i (by omega) b) x7' x8' x9' x11' (by omega) (by omega) (by omega)
      cases hc2 : c E w with
      | none =>
        have dv : dnO o d c E w = none := by
          unfold dnO dnG dnB
          by_cases y : o ≤ 2
          · rw [if_pos y]
            show (d E w).bind _ = none
            rw [hd2]
            show (if (u = 0 ↔ o = 1) then (c E w).bind _ else _) = none
            rw [if_pos (by rw [← r5]; exact hcut (by omega)), hc2]
            rfl
          · rw [if_neg y]
            show (d E w).bind _ = none
            rw [hd2]
            show (c E w).bind _ = none
            rw [hc2]
            rfl
        rw [dv]
        refine ⟨fun v z => (nomatch z), fun _ => ?_⟩
        obtain ⟨Y4, s1, s2⟩ := s.2 hc2
        exact ⟨Y4, yE_t (yE_l yY3 (by omega)) s1, q3.trans (r6.trans (t3.trans s2))⟩
      | some b =>
        obtain ⟨g4, x4, Y4, s1, s2, s3, s4, s5, s6⟩ := s.1 b hc2
        obtain ⟨m4, rfl⟩ : ∃ m4 : Nat, g4 = m4 + 1 + 1 := ⟨g4 - 2, by omega⟩
        have f4 := s3.2.2 d' (by omega)
        have yY4 : yE d' Y Y4 := yE_t yY3 (yE_l s3 (by omega))
        have hk4 : sR Y4 3 (β + m) = nI (o + 9) := by
          rw [yY4.1.1 3 (by omega) (by omega)]
          exact (hp m (by omega) (by omega)).1.trans hK
        have t5 := wkr_j n (m4 + 1) d' x4 (Y := Y4) (X := X) (by omega) (by omega) s4 (f4.2.2.2.1.trans x11)
        have w8 := f4.1.trans x8
        have w10 := f4.2.2.1.trans x10
        by_cases y : o ≤ 2
        · have t6 := jo_log n d' (β + f) (β + m) o (Y := Y4) (X := X) (by omega) (by omega) (by omega) (by omega) (by omega) w8 w10 hk4 s4
          rw [t6, nb_b1, s5] at t5
          have dv : dnO o d c E w = some (tV b) := by
            unfold dnO dnG
            rw [if_pos y]
            show (d E w).bind _ = _
            rw [hd2]
            show (if (u = 0 ↔ o = 1) then (c E w).bind _ else _) = _
            rw [if_pos (by rw [← r5]; exact hcut (by omega)), hc2]
            rfl
          rw [dv]
          refine ⟨fun v z => ?_, fun z => (nomatch z)⟩
          injection z with z
          subst z
          exact ⟨m4 + 1, x4 + 1, _, by omega, by omega, yE_t yY4 (gvn_E ..), rfl, rfl, q3.trans (r6.trans (t3.trans (s6.trans t5)))⟩
        · have t6 := jo_bin n d' (β + f) (β + m) o (Y := Y4) (X := X) (by omega) (by omega) (by omega) (by omega) (by omega) (by omega) w8 w10 hk4 s4
          rw [f4.2.2.2.2.trans xq, s5] at t6
          rw [t6, nb_b1] at t5
          have dv : dnO o d c E w = bV o u b := by
            unfold dnO dnB
            rw [if_neg y]
            show (d E w).bind _ = _
            rw [hd2]
            show (c E w).bind _ = _
            rw [hc2]
            rfl
          rw [dv]
          cases hb2 : bV o u b with
          | some v =>
            rw [hb2] at t5
            refine ⟨fun v' z => ?_, fun z => (nomatch z)⟩
            injection z with z
            subst z
            exact ⟨m4 + 1, x4 + 1, gvn Y4 d' v, by omega, by omega, yE_t yY4 (gvn_E ..), rfl, rfl, q3.trans (r6.trans (t3.trans (s6.trans t5)))⟩
          | none =>
            rw [hb2] at t5
            refine ⟨fun v z => (nomatch z), fun _ => ?_⟩
            have t7 := wkr_0 n m4 (x4 + 1) (Y := fln Y4) (X := X) (by omega) rfl
            exact ⟨fln Y4, yE_t (yE_l yY4 (by omega)) (fln_E Y4), q3.trans (r6.trans (t3.trans (s6.trans (t5.trans t7))))⟩
