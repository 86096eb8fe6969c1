theorem bh_6 {n : Nat} {U : St} {cs : Nat} {C : Nat → Int32} (u5 : sI U 5 = nI cs) (u0 : sR U 0 = C) (hcs : cs ≤ 32832) {t : Nat} (ht : t < cs) (h21 : C t = 21) : ∀ (j x g : Nat), x + j = t → j < g → (∀ i : Nat, x ≤ i → i < t → ¬ C i = 21) → df_X9_behind_6 n g (nI x) U = some (nI (t + 1), U) := fun j => by
  induction j with
  | zero =>
    intro x g h1 h2 h3
    obtain ⟨g, rfl⟩ : ∃ m : Nat, g = m + 1 := ⟨g - 1, by omega⟩
    have : x = t := by omega
    subst this
    show dF_X9_behind_6 n (df_X9_behind_6 n g) (nI x) U = _
    unfold dF_X9_behind_6 df_X9_behind_31
    rw [u5, if_neg (znle ht (by omega)), nm_ck (by omega) (by omega), nI_clamp (by omega), u0, if_pos h21, show nI x + 1 = nI (x + 1) from nI_add x 1]
  | succ j ih =>
    intro x g h1 h2 h3
    obtain ⟨g, rfl⟩ : ∃ m : Nat, g = m + 1 := ⟨g - 1, by omega⟩
    show dF_X9_behind_6 n (df_X9_behind_6 n g) (nI x) U = _
    unfold dF_X9_behind_6
    rw [u5, if_neg (znle (show x < cs by omega) (by omega)), nm_ck (by omega) (by omega), nI_clamp (by omega), u0, if_neg (h3 x (by omega) (by omega)), nb_let, show nI x + Int32.ofInt 1 = nI (x + 1) from nI_add x 1]
    exact ih (x + 1) g (by omega) (by omega) (fun i i1 i2 => h3 i (by omega) i2)
theorem bhC {n : Nat} {U : St} {cs nl ns : Nat} {C A NM NR LB : Nat → Int32} (hn : 70000 < n) (hU : URD U cs nl ns C A NM NR LB) {NP : Nat → Int32} {c : Nat → Nat} {e : Nat} {bs ws : Nat → Nat} {s0 m : Nat} {P : Nat → Tp} (hC : CR NP c e C A s0 ns bs ws m P C A) (h21 : C (s0 + m) = 21) (hm : s0 + m < cs) : df_X9_behind n (nI s0) U = some (nI (s0 + m + 1), U) := by
  obtain ⟨u5, u9, u0, u1, u3, ur5, u6, hcs, hns⟩ := hU
  unfold df_X9_behind df_X9_behind_0
  have e0 : (if (0 : Int32) < nI s0 then nI s0 else 0) = nI s0 := by
    by_cases h : s0 = 0
    · rw [h]; rfl
    · rw [if_pos (show (0 : Int32) < nI s0 from zlt (a := 0) (by omega) (by omega))]
  rw [e0, nb_let]
  refine bh_6 u5 u0 hcs hm h21 m s0 n rfl (by omega) (fun i i1 i2 => ?_)
  have h1 := (hC.2 (i - s0) (by omega)).1
  have h2 := (CR_P hC (i - s0) (by omega)).2.1
  rw [show s0 + (i - s0) = i by omega] at h1
  rw [h1]
  exact zne (b := 21) (by omega) (by omega) (by omega)
theorem liF_c {V : Tp → Int32 × Bool} {x : Nat × (Nat → Tp)} {xs : List (Nat × (Nat → Tp))} : liF V (x :: xs) = if vF (mV V x.2 x.1) (dV V x.2 x.1) true = 0 then liF V xs else vF (mV V x.2 x.1) (dV V x.2 x.1) true := rfl
theorem liF_l {V : Tp → Int32 × Bool} : ∀ xs : List (Nat × (Nat → Tp)), liF V xs ≤ 10 := fun xs => by
  induction xs with
  | nil => exact Nat.zero_le _
  | cons x xs ih =>
    rw [liF_c]
    split
    · exact ih
    · generalize mV V x.2 x.1 = ms
      generalize dV V x.2 x.1 = dv
      cases ms <;> cases dv <;> decide
theorem ptL_33 {n : Nat} {M Q P : St} {cs nl ns : Nat} {C A NM NR LB : Nat → Int32} (hn : 70000 < n) (h2 : sI Q 2 = 0) {c X : Nat → Nat} {e nL q : Nat} {ts : Int32} {W NP : Nat → Int32} {bs ws : Nat → Nat} (hT : ∀ U : St, URD U cs nl ns C A NM NR LB → TT c X nL q ts W NP ns bs ws U) {i : Nat} (hi : i < 8194) {ad len k s1 : Nat} (hk : k = 1 ∨ k = 2 ∨ k = 4) (r3 : sR Q 0 (8 * i + 3) = nI len) (ha : ad + len ≤ 32768) (hs1 : s1 ≤ cs) : ∀ (ys : List (Nat × (Nat → Tp))) (s0 j g : Nat) (U : St) (f : Nat → Int32), CDS NP c e ns bs ws C A s0 ys s1 → (∀ y : Nat × (Nat → Tp), y ∈ ys → one y.2 y.1) → k * j + k * ys.length = len → ys.length < g → URD U cs nl ns C A NM NR LB → PUTD M Q P cs nl ns C A NM NR LB (ad + k * j) (liF (VV c X e nL q ts (nI ad) W) ys) (liB (VV c X e nL q ts (nI ad) W) k ys) U f (df_X1_putList_33 n g (nI (8 * i)) (nI k) (nI s0) (nI ad) (nI (k * j)) (M, ((Q, U), pR P 0 f))) := fun ys => by
  induction ys with
  | nil =>
    intro s0 j g U f hC ho hl hg hU
    obtain ⟨g, rfl⟩ : ∃ m : Nat, g = m + 1 := ⟨g - 1, by omega⟩
    have hl : k * j + k * 0 = len := hl
    refine ⟨U, f, ?_, hU, rfl, rfl, fun _ => rfl⟩
    show dF_X1_putList_33 n (df_X1_putList_33 n g) (nI (8 * i)) (nI k) (nI s0) (nI ad) (nI (k * j)) (M, ((Q, U), pR P 0 f)) = _
    unfold dF_X1_putList_33 df_X1_putList_96
    rw [show nI (8 * i) + 3 = nI (8 * i + 3) from nI_add (8 * i) 3, nm_ck (by omega) (by omega), nI_clamp (by omega), show sR ((M, ((Q, U), pR P 0 f)) : St × (St × St) × St).2.1.1 0 (8 * i + 3) = nI len from r3, if_pos (zle (show len ≤ k * j by omega) (by omega))]
    rw [show nI (liF (VV c X e nL q ts (nI ad) W) []) = 0 from rfl, pI_z2 h2]
  | cons y ys ih =>
    intro s0 j g U f hC ho hl hg hU
    obtain ⟨g, rfl⟩ : ∃ m : Nat, g = m + 1 := ⟨g - 1, by omega⟩
    have hg : ys.length + 1 < g + 1 := hg
    have hl : k * j + k * (ys.length + 1) = len := hl
    obtain ⟨a1, a2, a3, a4⟩ := hC
    have le1 : s0 + y.1 + 1 ≤ s1 := CDS_l a4
    have k1 : 1 ≤ k := by omega
    have kk : k * (ys.length + 1) = k * ys.length + k := Nat.mul_succ k ys.length
    have kj : k * (j + 1) = k * j + k := Nat.mul_succ k j
    obtain ⟨S', e1⟩ := ev_C (hr := nI ad) hn hU (hT U hU) a1 a2 (by omega) (ho y (List.mem_cons_self ..))
    have e2 := bhC hn (URD_v hU 1 (trO (mV (VV c X e nL q ts (nI ad) W) y.2 y.1) (dV (VV c X e nL q ts (nI ad) W) y.2 y.1)) S') a1 a2 (by omega)
    have hUv := URD_v hU 1 (trO (mV (VV c X e nL q ts (nI ad) W) y.2 y.1) (dV (VV c X e nL q ts (nI ad) W) y.2 y.1)) S'
    rw [liF_c]
    show PUTD M Q P cs nl ns C A NM NR LB (ad + k * j) _ (byK (zV (VV c X e nL q ts (nI ad) W) y.2 y.1) k 0 ++ liB (VV c X e nL q ts (nI ad) W) k ys) U f (dF_X1_putList_33 n (df_X1_putList_33 n g) (nI (8 * i)) (nI k) (nI s0) (nI ad) (nI (k * j)) (M, ((Q, U), pR P 0 f)))
    generalize mV (VV c X e nL q ts (nI ad) W) y.2 y.1 = ms at *
    generalize dV (VV c X e nL q ts (nI ad) W) y.2 y.1 = dv at *
    generalize zV (VV c X e nL q ts (nI ad) W) y.2 y.1 = z at *
    have emx : (if (1 : Int32) < nI k then nI k else 1) = nI k := by
      rcases hk with h | h | h <;> subst h <;> rfl
    unfold dF_X1_putList_33 df_X1_putList_96
    rw [show nI (8 * i) + 3 = nI (8 * i + 3) from nI_add (8 * i) 3, nm_ck (by omega) (by omega), nI_clamp (by omega), show sR ((M, ((Q, U), pR P 0 f)) : St × (St × St) × St).2.1.1 0 (8 * i + 3) = nI len from r3, if_neg (znle (show k * j < len by omega) (by omega)), if_pos (show sI ((M, ((Q, U), pR P 0 f)) : St × (St × St) × St).2.1.1 2 = 0 from h2)]
    rw [show df_X1_worked n (nI s0) (nI ad) ((M, ((Q, U), pR P 0 f)) : St × (St × St) × St).2.1 = _ from wkC h2 e1, nb_b2, nb_let, nI_add]
    rw [show df_X1_put n (nI (ad + k * j)) (nI k) z (M, ((pI Q 2 (trO ms dv), vC U 1 (trO ms dv) S'), pR P 0 f)) = _ from ptC hn z (by omega) f, nb_b1]
    rw [show df_X9_behind n (nI s0) ((M, ((pI Q 2 (trO ms dv), vC U 1 (trO ms dv) S'), pR P 0 (wrC f (ad + k * j) (byK z k 0)))) : St × (St × St) × St).2.1.2 = _ from e2, nb_b2, nb_let, nb_let, emx, nI_add, ← kj]
    show PUTD M Q P cs nl ns C A NM NR LB (ad + k * j) _ (byK z k 0 ++ liB (VV c X e nL q ts (nI ad) W) k ys) U f (df_X1_putList_33 n g (nI (8 * i)) (nI k) (nI (s0 + y.1 + 1)) (nI ad) (nI (k * (j + 1))) (M, ((pI Q 2 (trO ms dv), vC U 1 (trO ms dv) S'), pR P 0 (wrC f (ad + k * j) (byK z k 0)))))
    by_cases v0 : vF ms dv true = 0
    · rw [if_pos v0, vF_t, v0, show nI 0 = 0 from rfl, pI_z2 h2]
      rw [vF_t, v0] at hUv
      obtain ⟨U', f', b1, b2, b3, b4, b5⟩ := ih (s0 + y.1 + 1) (j + 1) g (vC U 1 (nI 0) S') (wrC f (ad + k * j) (byK z k 0)) a4 (fun y' hy' => ho y' (List.mem_cons_of_mem _ hy')) (by omega) (by omega) hUv
      refine ⟨U', f', b1, b2, b3, b4, fun F0 => ?_⟩
      rw [b5 F0, wrC_a, byK_l, kj, Nat.add_assoc]
    · rw [if_neg v0, vF_t]
      rw [vF_t] at hUv
      have v10 : vF ms dv true ≤ 10 := by cases ms <;> cases dv <;> decide
      refine ⟨vC U 1 (nI (vF ms dv true)) S', wrC f (ad + k * j) (byK z k 0), ?_, hUv, rfl, rfl, fun F0 => absurd F0 v0⟩
      obtain ⟨g, rfl⟩ : ∃ m : Nat, g = m + 1 := ⟨g - 1, by omega⟩
      show dF_X1_putList_33 n (df_X1_putList_33 n g) (nI (8 * i)) (nI k) (nI (s0 + y.1 + 1)) (nI ad) (nI (k * (j + 1))) _ = _
      unfold dF_X1_putList_33 df_X1_putList_96
      rw [show nI (8 * i) + 3 = nI (8 * i + 3) from nI_add (8 * i) 3, nm_ck (by omega) (by omega), nI_clamp (by omega), show sR ((M, ((pI Q 2 (nI (vF ms dv true)), vC U 1 (nI (vF ms dv true)) S'), pR P 0 (wrC f (ad + k * j) (byK z k 0)))) : St × (St × St) × St).2.1.1 0 (8 * i + 3) = nI len from r3]
      split
      · rfl
      · rw [if_neg (show ¬ sI ((M, ((pI Q 2 (nI (vF ms dv true)), vC U 1 (nI (vF ms dv true)) S'), pR P 0 (wrC f (ad + k * j) (byK z k 0)))) : St × (St × St) × St).2.1.1 2 = 0 from (zne (b := 0) v0 (by omega) (by omega) : ¬ nI (vF ms dv true) = nI 0))]
theorem ptL {n : Nat} {M Q U P : St} {cs nl ns : Nat} {C A NM NR LB : Nat → Int32} (hn : 70000 < n) (hU : URD U cs nl ns C A NM NR LB) (h2 : sI Q 2 = 0) {c X : Nat → Nat} {e nL q : Nat} {ts : Int32} {W NP : Nat → Int32} {bs ws : Nat → Nat} (hT : ∀ U : St, URD U cs nl ns C A NM NR LB → TT c X nL q ts W NP ns bs ws U) {i : Nat} (hi : i < 8194) {ad k s0 s1 : Nat} {ys : List (Nat × (Nat → Tp))} (hk : k = 1 ∨ k = 2 ∨ k = 4) (r2 : sR Q 0 (8 * i + 2) = nI ad) (r3 : sR Q 0 (8 * i + 3) = nI (k * ys.length)) (r5 : sR Q 0 (8 * i + 5) = nI k) (r6 : sR Q 0 (8 * i + 6) = nI s0) (ha : ad + k * ys.length ≤ 32768) (hs1 : s1 ≤ cs) (hC : CDo NP c e ns bs ws C A s0 ys s1) (hys : ys.length ≤ 32768) (f : Nat → Int32) : PUTD M Q P cs nl ns C A NM NR LB ad (liF (VV c X e nL q ts (nI ad) W) ys) (liB (VV c X e nL q ts (nI ad) W) k ys) U f (df_X1_putList n (nI (8 * i)) (M, ((Q, U), pR P 0 f))) := by
  have eQ : sR ((M, ((Q, U), pR P 0 f)) : St × (St × St) × St).2.1.1 0 = sR Q 0 := rfl
  unfold df_X1_putList df_X1_putList_0
  rw [show nI (8 * i) + 5 = nI (8 * i + 5) from nI_add (8 * i) 5, show nI (8 * i) + 2 = nI (8 * i + 2) from nI_add (8 * i) 2, show nI (8 * i) + 6 = nI (8 * i + 6) from nI_add (8 * i) 6]
  rw [nm_ck (by omega) (by omega), nI_clamp (by omega), eQ, r5, nb_let, nm_ck (by omega) (by omega), nI_clamp (by omega), r6, nb_let, nm_ck (by omega) (by omega), nI_clamp (by omega), r2, nb_let]
  have := ptL_33 (M := M) (P := P) (nl := nl) (NM := NM) (NR := NR) (LB := LB) (X := X) (nL := nL) (q := q) (ts := ts) (W := W) hn h2 hT hi hk r3 ha hs1 ys s0 0 n U f hC.1 hC.2 (by rw [Nat.mul_zero, Nat.zero_add]) (by omega) hU
  exact this
theorem byte_m (w : Int32) : ∃ z : Nat, z < 256 ∧ w &&& 255 = nI z ∧ btI w = btI (nI z) := by
  obtain ⟨A, hA, rfl⟩ := nI_ex w
  refine ⟨A % 256, by omega, nm_m255 hA, ?_⟩
  have e : (nI A).toInt8 = (nI (A % 256)).toInt8 := by
    show Int32.toInt8 (Int32.ofNat A) = Int32.toInt8 (Int32.ofNat (A % 256))
    rw [Int32.toInt8_ofNat', Int32.toInt8_ofNat']
    apply Int8.toBitVec_inj.mp
    show BitVec.ofNat 8 A = BitVec.ofNat 8 (A % 256)
    apply BitVec.eq_of_toNat_eq
    rw [BitVec.toNat_ofNat, BitVec.toNat_ofNat]
    omega
  unfold btI
  rw [e]
theorem byte_0 : ∀ z : Fin 256, btI (btI (nI z.1)) = btI (nI z.1) ∧ btI (nI z.1) &&& 255 = nI z.1 := by unfold btI; decide +kernel
theorem byte_2 (v : Int32) : btI (btI v) = btI v := by
  obtain ⟨z, h1, h2, h3⟩ := byte_m v
  rw [h3]
  exact (byte_0 ⟨z, h1⟩).1
theorem ptT_2 {n : Nat} {M Q U P : St} {i : Nat} (hi : i < 8194) {ad len u0 : Nat} (r2 : sR Q 0 (8 * i + 2) = nI ad) (r3 : sR Q 0 (8 * i + 3) = nI len) (r6 : sR Q 0 (8 * i + 6) = nI u0) (ha : ad + len ≤ 32768) (hu : u0 + len ≤ 32832) (hn : 70000 < n) : ∀ (xs : List Int32) (j g : Nat) (f : Nat → Int32), j + xs.length = len → xs.length < g → (∀ x : Nat, x < xs.length → sR Q 1 (u0 + j + x) = btI (xs.getD x 0)) → df_X1_putTexts_2 n g (nI (8 * i)) (nI j) (M, ((Q, U), pR P 0 f)) = some (M, ((Q, U), pR P 0 (wrC f (ad + j) xs))) := fun xs => by
  induction xs with
  | nil =>
    intro j g f h1 h2 h3
    obtain ⟨g, rfl⟩ : ∃ m : Nat, g = m + 1 := ⟨g - 1, by omega⟩
    have h1 : j + 0 = len := h1
    show dF_X1_putTexts_2 n (df_X1_putTexts_2 n g) (nI (8 * i)) (nI j) (M, ((Q, U), pR P 0 f)) = _
    unfold dF_X1_putTexts_2
    rw [show nI (8 * i) + 3 = nI (8 * i + 3) from nI_add (8 * i) 3, nm_ck (by omega) (by omega), nI_clamp (by omega), show sR ((M, ((Q, U), pR P 0 f)) : St × (St × St) × St).2.1.1 0 (8 * i + 3) = nI len from r3, if_pos (zle (show len ≤ j by omega) (by omega))]
    rfl
  | cons x xs ih =>
    intro j g f h1 h2 h3
    obtain ⟨g, rfl⟩ : ∃ m : Nat, g = m + 1 := ⟨g - 1, by omega⟩
    have h1 : j + (xs.length + 1) = len := h1
    have h2 : xs.length + 1 < g + 1 := h2
    have eQ : sR ((M, ((Q, U), pR P 0 f)) : St × (St × St) × St).2.1.1 0 = sR Q 0 := rfl
    have e1 : sR Q 1 (u0 + j) = btI x := h3 0 (Nat.succ_pos _)
    show dF_X1_putTexts_2 n (df_X1_putTexts_2 n g) (nI (8 * i)) (nI j) (M, ((Q, U), pR P 0 f)) = _
    unfold dF_X1_putTexts_2 df_X1_putTexts_65
    rw [show nI (8 * i) + 3 = nI (8 * i + 3) from nI_add (8 * i) 3, show nI (8 * i) + 6 = nI (8 * i + 6) from nI_add (8 * i) 6, show nI (8 * i) + 2 = nI (8 * i + 2) from nI_add (8 * i) 2, nm_ck (by omega) (by omega), nI_clamp (by omega), eQ, r3, if_neg (znle (show j < len by omega) (by omega)), nm_ck (by omega) (by omega), nI_clamp (by omega), r6, nI_add, nb_let, if_neg (show ¬ nI (u0 + j) < 0 from znl (b := 0) (Nat.zero_le _) (by omega)), if_neg (show ¬ (32832 : Int32) ≤ nI (u0 + j) from znle (a := 32832) (by omega) (by omega)), nm_ck (by omega) (by omega), nm_ck (by omega) (by omega), nI_clamp (by omega), r2, nI_clamp (by omega), nI_add]
    rw [show sR ((M, ((Q, U), pR P 0 f)) : St × (St × St) × St).2.1.1 1 (u0 + j) = btI x from e1]
    rw [show df_X1_put n (nI (ad + j)) 1 (btI x) (M, ((Q, U), pR P 0 f)) = _ from ptC (len := 1) hn (btI x) (by omega) f, nb_b1, nb_let, show nI j + Int32.ofInt 1 = nI (j + 1) from nI_add j 1]
    have := ih (j + 1) g (wrC f (ad + j) (byK (btI x) 1 0)) (by omega) (by omega) (fun y hy => by
      have := h3 (y + 1) (Nat.succ_lt_succ hy)
      rw [show u0 + (j + 1) + y = u0 + j + (y + 1) by omega]
      exact this)
    refine this.trans ?_
    show some (M, ((Q, U), pR P 0 (wrC (upd f (ad + j) (btI (btI x >>> ((8 * nI 0) &&& 31)))) (ad + (j + 1)) xs))) = some (M, ((Q, U), pR P 0 (wrC (upd f (ad + j) (btI x)) (ad + j + 1) xs)))
    rw [shr_0, byte_2, Nat.add_assoc]
theorem ptX {n : Nat} {M Q U P : St} {cs nl ns : Nat} {C A NM NR LB : Nat → Int32} (hn : 70000 < n) (hU : URD U cs nl ns C A NM NR LB) (h2 : sI Q 2 = 0) {i : Nat} (hi : i < 8194) {ad u0 : Nat} {xs : List Int32} (r2 : sR Q 0 (8 * i + 2) = nI ad) (r3 : sR Q 0 (8 * i + 3) = nI xs.length) (r6 : sR Q 0 (8 * i + 6) = nI u0) (ha : ad + xs.length ≤ 32768) (hu : u0 + xs.length ≤ 32832) (hL : ∀ x : Nat, x < xs.length → sR Q 1 (u0 + x) = btI (xs.getD x 0)) (f : Nat → Int32) : PUTD M Q P cs nl ns C A NM NR LB ad 0 xs U f (df_X1_putTexts n (nI (8 * i)) (M, ((Q, U), pR P 0 f))) := by
  refine ⟨U, wrC f ad xs, ?_, hU, rfl, rfl, fun _ => rfl⟩
  have := ptT_2 (M := M) (U := U) (P := P) hi r2 r3 r6 ha hu hn xs 0 n f (by omega) (by omega) hL
  rw [show nI 0 = 0 from rfl, pI_z2 h2]
  exact this
