/-- the class: statements grow -/
def anyF (gw : Nat → Bool) : Nat → Bool
  | 0 => false
  | k + 1 => anyF gw k || gw k
def SWg (SW : Nat → Int32) (gw : Nat → Bool) (ln : Nat → Nat) (i : Nat) : Nat → Int32 := fun x => if x / 8 < i ∧ x % 8 = 3 ∧ gw (x / 8) = true then nI (2 * ln (x / 8)) else SW x
theorem SWg_0 {SW : Nat → Int32} {gw : Nat → Bool} {ln : Nat → Nat} : SWg SW gw ln 0 = SW := funext fun x => if_neg (by omega)
theorem SWg_o {SW : Nat → Int32} {gw : Nat → Bool} {ln : Nat → Nat} {i j k : Nat} (h : i ≤ j) (hk : k < 8) : SWg SW gw ln i (8 * j + k) = SW (8 * j + k) := if_neg (by omega)
theorem SWg_y {SW : Nat → Int32} {gw : Nat → Bool} {ln : Nat → Nat} {i : Nat} (h : gw i = true) : upd (SWg SW gw ln i) (8 * i + 3) (nI (2 * ln i)) = SWg SW gw ln (i + 1) := funext fun x => by
  unfold SWg
  by_cases z : x = 8 * i + 3
  · rw [z, up_e, if_pos ⟨by omega, by omega, by rw [show (8 * i + 3) / 8 = i by omega]; exact h⟩, show (8 * i + 3) / 8 = i by omega]
  · rw [up_n z]
    by_cases y : x / 8 < i ∧ x % 8 = 3 ∧ gw (x / 8) = true
    · rw [if_pos y, if_pos ⟨by omega, y.2⟩]
    · rw [if_neg y, if_neg (fun u => y ⟨by omega, u.2⟩)]
theorem SWg_n {SW : Nat → Int32} {gw : Nat → Bool} {ln : Nat → Nat} {i : Nat} (h : gw i = false) : SWg SW gw ln i = SWg SW gw ln (i + 1) := funext fun x => by
  unfold SWg
  by_cases y : x / 8 < i ∧ x % 8 = 3 ∧ gw (x / 8) = true
  · rw [if_pos y, if_pos ⟨by omega, y.2⟩]
  · rw [if_neg y, if_neg (fun u => by
      by_cases w : x / 8 = i
      · rw [w, h] at u; exact absurd u.2.2 (by decide)
      · exact y ⟨by omega, u.2⟩)]
/-- which statements are looked at, by kind and length -/
def gcd2 (kd ln : Nat) : Bool := decide ((kd = 1 ∧ ln < 4) ∨ (kd = 2 ∧ ln < 8))
theorem gr_4 {n : Nat} {Q : St} {sn cs nl ns : Nat} {C A NM NR LB SW : Nat → Int32} (h0 : sI Q 0 = nI sn) (hsn : sn ≤ 8194) (kd ln lt : Nat → Nat) (vl tr : Nat → Int32) (ok gw : Nat → Bool) (hk : ∀ i : Nat, i < sn → kd i < 10 ∧ ln i < 2 ^ 30 ∧ SW (8 * i + 4) = nI (kd i) ∧ SW (8 * i + 3) = nI (ln i) ∧ gw i = (gcd2 (kd i) (ln i) && (decide (tr i = 0) && !ok i)) ∧ (gcd2 (kd i) (ln i) = true → (∀ U : St, URD U cs nl ns C A NM NR LB → ∃ S' : Nat → Int32, df_X9_evaluate n (SW (8 * i + 6)) (SW (8 * i + 2)) U = some (vl i, vC U 1 (tr i) S')) ∧ df_X1_growingLetter n (nI (kd i)) (nI (ln i)) () = some (nI (lt i), ()) ∧ df_X7_fits n (nI (lt i)) (vl i - SW (8 * i + 2)) () = some (bI (ok i), ()))) : ∀ (m i g : Nat) (U : St), i + m = sn → m < g → URD U cs nl ns C A NM NR LB → ∃ U' : St, df_X1_grow_4 n g (bI (anyF gw i)) (nI i) (pR Q 0 (SWg SW gw ln i), U) = some (bI (anyF gw sn), (pR Q 0 (SWg SW gw ln sn), U')) ∧ URD U' cs nl ns C A NM NR LB ∧ sO U' = sO U ∧ sR U' 7 = sR U 7 := fun m => by
  induction m with
  | zero =>
    intro i g U h1 h2 hU
    have : i = sn := by omega
    subst this
    obtain ⟨g, rfl⟩ : ∃ k : Nat, g = k + 1 := ⟨g - 1, by omega⟩
    refine ⟨U, ?_, hU, rfl, rfl⟩
    show dF_X1_grow_4 n (df_X1_grow_4 n g) (bI (anyF gw i)) (nI i) (pR Q 0 (SWg SW gw ln i), U) = _
    unfold dF_X1_grow_4
    rw [show sI (pR Q 0 (SWg SW gw ln i), U).1 0 = nI i from h0, if_pos (zle (Nat.le_refl i) (by omega))]
    cases anyF gw i
    · exact nar_z (by decide)
    · exact nar_z (by decide)
  | succ m ih =>
    intro i g U h1 h2 hU
    obtain ⟨g, rfl⟩ : ∃ k : Nat, g = k + 1 := ⟨g - 1, by omega⟩
    obtain ⟨k1, k2, k3, k4, k5, k6⟩ := hk i (by omega)
    have e136 : ∀ (b : Bool) (SW' : Nat → Int32) (U1 : St), b = anyF gw (i + 1) → SW' = SWg SW gw ln (i + 1) → URD U1 cs nl ns C A NM NR LB → sO U1 = sO U → sR U1 7 = sR U 7 → ∃ U' : St, df_X1_grow_136 n (df_X1_grow_4 n g) (bI b) (nI i) (pR Q 0 SW', U1) = some (bI (anyF gw sn), (pR Q 0 (SWg SW gw ln sn), U')) ∧ URD U' cs nl ns C A NM NR LB ∧ sO U' = sO U ∧ sR U' 7 = sR U 7 := fun b SW' U1 hb hS hU1 o1 o2 => by
      subst hb
      subst hS
      obtain ⟨U', r1, r2, r3, r4⟩ := ih (i + 1) g U1 (by omega) (by omega) hU1
      refine ⟨U', ?_, r2, r3.trans o1, r4.trans o2⟩
      unfold df_X1_grow_136
      rw [nb_let, show nI i + Int32.ofInt 1 = nI (i + 1) from nI_add i 1]
      exact r1
    have eS : sR (pR Q 0 (SWg SW gw ln i), U).1 0 = SWg SW gw ln i := pR_e
    have skip : gcd2 (kd i) (ln i) = false → ∃ U' : St, df_X1_grow_136 n (df_X1_grow_4 n g) (bI (anyF gw i)) (nI i) (pR Q 0 (SWg SW gw ln i), U) = some (bI (anyF gw sn), (pR Q 0 (SWg SW gw ln sn), U')) ∧ URD U' cs nl ns C A NM NR LB ∧ sO U' = sO U ∧ sR U' 7 = sR U 7 := fun hg => by
      have gf : gw i = false := by rw [k5, hg]; rfl
      exact e136 (anyF gw i) (SWg SW gw ln i) U (by show anyF gw i = (anyF gw i || gw i); rw [gf, Bool.or_false]) (SWg_n gf) hU rfl rfl
    have look : gcd2 (kd i) (ln i) = true → ∃ U' : St, df_X1_grow_62 n (df_X1_grow_4 n g) (bI (anyF gw i)) (nI i) (nI (8 * i)) (nI (kd i)) (nI (ln i)) (pR Q 0 (SWg SW gw ln i), U) = some (bI (anyF gw sn), (pR Q 0 (SWg SW gw ln sn), U')) ∧ URD U' cs nl ns C A NM NR LB ∧ sO U' = sO U ∧ sR U' 7 = sR U 7 := fun hg => by
      obtain ⟨l1, l2, l3⟩ := k6 hg
      obtain ⟨S', l4⟩ := l1 U hU
      have hUv := URD_v hU 1 (tr i) S'
      unfold df_X1_grow_62
      rw [show nI (8 * i) + 6 = nI (8 * i + 6) from nI_add (8 * i) 6, show nI (8 * i) + 2 = nI (8 * i + 2) from nI_add (8 * i) 2, show nI (8 * i) + 3 = nI (8 * i + 3) from nI_add (8 * i) 3, nm_ck (by omega) (by omega), nm_ck (by omega) (by omega), nI_clamp (by omega), nI_clamp (by omega), eS, SWg_o (Nat.le_refl _) (by omega), SWg_o (Nat.le_refl _) (by omega)]
      rw [show df_X9_evaluate n (SW (8 * i + 6)) (SW (8 * i + 2)) (pR Q 0 (SWg SW gw ln i), U).2 = _ from l4, nb_b2, nb_let, nm_ck (by omega) (by omega)]
      rw [show sR ((pR Q 0 (SWg SW gw ln i), U).1, vC U 1 (tr i) S').1 0 = SWg SW gw ln i from pR_e, SWg_o (Nat.le_refl _) (by omega), nb_let, show sI ((pR Q 0 (SWg SW gw ln i), U).1, vC U 1 (tr i) S').2 11 = tr i from rfl]
      by_cases t0 : tr i = 0
      · rw [if_pos t0, l2, nb_b2, l3, nb_b2]
        cases ho : ok i with
        | true =>
          rw [if_neg (show ¬ bI true = 0 by decide)]
          have gf : gw i = false := by rw [k5, hg, ho]; simp
          exact e136 (anyF gw i) (SWg SW gw ln i) (vC U 1 (tr i) S') (by show anyF gw i = (anyF gw i || gw i); rw [gf, Bool.or_false]) (SWg_n gf) hUv rfl rfl
        | false =>
          have gt : gw i = true := by rw [k5, hg, ho, decide_eq_true t0]; rfl
          rw [if_pos (show bI false = 0 from rfl), nm_ck (by omega) (by omega), show nI (ln i) * 2 = nI (2 * ln i) from by rw [show (2 : Int32) = nI 2 from rfl, pk_mul, Nat.mul_comm]]
          rw [show pR ((pR Q 0 (SWg SW gw ln i), U).1, vC U 1 (tr i) S').1 0 (upd (SWg SW gw ln i) (nI (8 * i + 3)).toNatClampNeg (nI (2 * ln i))) = pR Q 0 (upd (SWg SW gw ln i) (nI (8 * i + 3)).toNatClampNeg (nI (2 * ln i))) from pR_2, nI_clamp (by omega), nb_let]
          exact e136 true (upd (SWg SW gw ln i) (8 * i + 3) (nI (2 * ln i))) (vC U 1 (tr i) S') (by show true = (anyF gw i || gw i); rw [gt, Bool.or_true]) (SWg_y gt) hUv rfl rfl
      · rw [if_neg t0]
        have gf : gw i = false := by rw [k5, decide_eq_false t0]; simp
        exact e136 (anyF gw i) (SWg SW gw ln i) (vC U 1 (tr i) S') (by show anyF gw i = (anyF gw i || gw i); rw [gf, Bool.or_false]) (SWg_n gf) hUv rfl rfl
    show ∃ U' : St, dF_X1_grow_4 n (df_X1_grow_4 n g) (bI (anyF gw i)) (nI i) (pR Q 0 (SWg SW gw ln i), U) = _ ∧ _
    unfold dF_X1_grow_4 df_X1_grow_49
    rw [show sI (pR Q 0 (SWg SW gw ln i), U).1 0 = nI sn from h0, if_neg (znle (show i < sn by omega) (by omega)), ix8z i, nb_let, show nI (8 * i) + 4 = nI (8 * i + 4) from nI_add (8 * i) 4, show nI (8 * i) + 3 = nI (8 * i + 3) from nI_add (8 * i) 3, nm_ck (by omega) (by omega), nI_clamp (by omega), eS, SWg_o (Nat.le_refl _) (by omega), k3, nb_let, nm_ck (by omega) (by omega), nI_clamp (by omega), SWg_o (Nat.le_refl _) (by omega), k4, nb_let]
    by_cases d1 : kd i = 1
    · rw [if_pos (show nI (kd i) = 1 from congrArg nI d1)]
      by_cases d4 : ln i < 4
      · rw [if_pos (show nI (ln i) < 4 from zlt (b := 4) d4 (by omega))]
        exact look (decide_eq_true (Or.inl ⟨d1, d4⟩))
      · rw [if_neg (show ¬ nI (ln i) < 4 from znl (b := 4) (by omega) (by omega)), if_neg (show ¬ nI (kd i) = 2 from zne (b := 2) (by omega) (by omega) (by omega))]
        exact skip (decide_eq_false (by omega))
    · rw [if_neg (show ¬ nI (kd i) = 1 from zne (b := 1) d1 (by omega) (by omega))]
      by_cases d2 : kd i = 2
      · rw [if_pos (show nI (kd i) = 2 from congrArg nI d2)]
        by_cases d8 : 8 ≤ ln i
        · rw [if_pos (show (8 : Int32) ≤ nI (ln i) from zle (a := 8) d8 (by omega))]
          exact skip (decide_eq_false (by omega))
        · rw [if_neg (show ¬ (8 : Int32) ≤ nI (ln i) from znle (a := 8) (by omega) (by omega))]
          exact look (decide_eq_true (Or.inr ⟨d2, by omega⟩))
      · rw [if_neg (show ¬ nI (kd i) = 2 from zne (b := 2) d2 (by omega) (by omega))]
        exact skip (decide_eq_false (by omega))
