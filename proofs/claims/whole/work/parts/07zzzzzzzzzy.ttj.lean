/-- near labels, as a statement sees them -/
theorem nr_dg {c X : Nat → Nat} {st d : Nat} {fw : Bool} {k : Nat} : nrP c X st d fw k = (dgP c X d k && decide (fw = decide (st < X k % 131072))) := by
  unfold nrP dgP
  rw [Bool.and_assoc]
theorem nrq_b {c X : Nat → Nat} {nL q d n0 : Nat} (hn : n0 ≤ nL) (h1 : ∀ k : Nat, k < n0 → X k % 131072 < q) (h2 : ∀ k : Nat, n0 ≤ k → k < nL → q < X k % 131072) : frF false (nrP c X q d false) nL = frF false (dgP c X d) n0 := by
  have lo : ∀ k : Nat, k < n0 → nrP c X q d false k = dgP c X d k := fun k hk => by
    rw [nr_dg, decide_eq_false (show ¬ q < X k % 131072 by have := h1 k hk; omega)]
    exact Bool.and_true _
  have hi : ∀ k : Nat, n0 ≤ k → k < nL → nrP c X q d false k = false := fun k hk hk2 => by
    rw [nr_dg, decide_eq_true (h2 k hk hk2)]
    exact Bool.and_false _
  cases hf : frF false (dgP c X d) n0 with
  | zero =>
    have no := (fr_z false _ n0).mp hf
    refine (fr_z false _ nL).mpr fun j hj => ?_
    by_cases y : j < n0
    · rw [lo j y]; exact no j y
    · exact hi j (by omega) hj
  | succ k =>
    obtain ⟨s1, s2, s3, _⟩ := fr_s false _ n0 k hf
    refine fr_u false _ nL k (by omega) (by rw [lo k s1]; exact s2) (fun _ j j1 j2 => ?_) (fun z => absurd z (by decide))
    by_cases y : j < n0
    · rw [lo j y]; exact s3 rfl j j1 y
    · exact hi j (by omega) j2
theorem nrq_f {c X : Nat → Nat} {nL q d n0 : Nat} (h1 : ∀ k : Nat, k < n0 → X k % 131072 < q) (h2 : ∀ k : Nat, n0 ≤ k → k < nL → q < X k % 131072) (P : Nat → Bool) (hlo : ∀ k : Nat, k < n0 → P k = false) (hhi : ∀ k : Nat, n0 ≤ k → k < nL → P k = dgP c X d k) : frF true P nL = frF true (nrP c X q d true) nL := fr_c nL (fun k hk => by
  by_cases y : k < n0
  · rw [hlo k y, nr_dg, decide_eq_false (show ¬ q < X k % 131072 by have := h1 k y; omega)]
    exact (Bool.and_false _).symm
  · rw [hhi k (by omega) hk, nr_dg, decide_eq_true (h2 k (by omega) hk)]
    exact (Bool.and_true _).symm)
/-- both tables say the same, once the labels have their places -/
theorem TT_1 {c X : Nat → Nat} {nL q n0 : Nat} {ts : Int32} {W0 W NP : Nat → Int32} {ns : Nat} {NM : Nat → Int32} {bs ws : Nat → Nat} {NR LB : Nat → Int32} {U : St} (hl : lam X nL ≤ 16384) (hN : NTB c X nL W0 ns NM bs ws) (hW : ∀ k : Nat, k < nL → X k / 131072 = 2 → W k = W0 k) (hR : NRI c X nL NR LB) (hn : n0 ≤ nL) (h1 : ∀ k : Nat, k < n0 → X k % 131072 < q) (h2 : ∀ k : Nat, n0 ≤ k → k < nL → q < X k % 131072) (hP : ∀ d : Nat, d ≤ 9 → NP (10 + d) = nI (lmF X (frF false (dgP c X d) n0))) (u3 : sR U 3 = NM) (u5 : sR U 5 = NR) (u6 : ∀ j : Nat, j < lam X nL → sR U 6 (5 * j + 3) = LB (5 * j + 3)) (hp : ∀ k : Nat, k < nL → ¬ X k / 131072 = 2 → sR U 6 (5 * lam X k + 2) = vlO ts X W k) : TT c X nL q ts W NP ns bs ws U := by
  refine ⟨hl, fun id hid => ?_, hp, fun d hd => ?_⟩
  · obtain ⟨a1, a2, a3⟩ := hN id hid
    rw [u3]
    exact ⟨fun z => ⟨(a1 z).1, by rw [hW _ z.1 z.2]; exact (a1 z).2⟩, a2, a3⟩
  · obtain ⟨b1, b2, b3⟩ := hR d hd
    have fl := fr_l false (dgP c X d) n0
    have lb := lmF_l (X := X) (nL := nL) (f := frF false (dgP c X d) n0) (by omega)
    have hi : ∀ (k0 : Nat), k0 < n0 → ∀ k : Nat, n0 ≤ k → (dgP c X d k && decide (k0 < k)) = dgP c X d k := fun k0 hk0 k hk => by
      rw [decide_eq_true (show k0 < k by omega)]
      exact Bool.and_true _
    refine ⟨by rw [nrq_b hn h1 h2]; exact hP d hd, fun z => ?_, fun j hj z => ?_⟩
    · rw [hP d hd, show (0 : Int32) = nI 0 from rfl, nI_eq (by omega) (by omega), lmF_0] at z
      have no := (fr_z false _ n0).mp z
      rw [u5, b2, nrq_f h1 h2 (dgP c X d) no (fun _ _ _ => rfl)]
    · rw [hP d hd, nI_eq (by omega) (by omega)] at z
      obtain ⟨kl, hkl⟩ : ∃ kl : Nat, frF false (dgP c X d) n0 = kl + 1 := by
        cases hf : frF false (dgP c X d) n0 with
        | zero => rw [hf] at z; exact absurd (show 0 = j + 1 from z) (by omega)
        | succ k => exact ⟨k, rfl⟩
      obtain ⟨s1, s2, s3, _⟩ := fr_s false _ n0 kl hkl
      have hj2 : j = lam X kl := by
        rw [hkl] at z
        unfold lmF at z
        rw [if_neg (by omega), Nat.add_sub_cancel] at z
        omega
      rw [hj2, u6 _ (lam_l (show kl < nL by omega) (show ¬ X kl / 131072 = 2 by have := (dg_3 s2).1; omega)), b3 kl (by omega) s2, nrq_f h1 h2 (fun i => dgP c X d i && decide (kl < i)) (fun k hk => by
        show (dgP c X d k && decide (kl < k)) = false
        by_cases y : kl < k
        · rw [s3 rfl k y hk]; rfl
        · rw [decide_eq_false y]; exact Bool.and_false _) (fun k k1 _ => hi kl s1 k k1)]
/-- the class's reader while statements are laid out and put -/
def URD (U : St) (cs nl ns : Nat) (C A NM NR LB : Nat → Int32) : Prop := sI U 5 = nI cs ∧ sI U 9 = nI nl ∧ sR U 0 = C ∧ sR U 1 = A ∧ sR U 3 = NM ∧ sR U 5 = NR ∧ sR U 6 = LB ∧ cs ≤ 32832 ∧ ns ≤ 16384
theorem URD_v {U : St} {cs nl ns : Nat} {C A NM NR LB : Nat → Int32} (h : URD U cs nl ns C A NM NR LB) (tp : Nat) (tr : Int32) (S : Nat → Int32) : URD (vC U tp tr S) cs nl ns C A NM NR LB := h
theorem vC_11 {U : St} {tp : Nat} {tr : Int32} {S : Nat → Int32} : sI (vC U tp tr S) 11 = tr := rfl
/-- the value of an expression, in the class -/
theorem ev_C {n : Nat} {U : St} {cs nl ns : Nat} {C A NM NR LB : Nat → Int32} (hn : 70000 < n) (hU : URD U cs nl ns C A NM NR LB) {c X : Nat → Nat} {e nL q : Nat} {ts hr : Int32} {W NP : Nat → Int32} {bs ws : Nat → Nat} (hT : TT c X nL q ts W NP ns bs ws U) {s0 m : Nat} {P : Nat → Tp} (hC : CR NP c e C A s0 ns bs ws m P C A) (h21 : C (s0 + m) = 21) (hm : s0 + m < cs) (ho : one P m) : ∃ S' : Nat → Int32, df_X9_evaluate n (nI s0) hr U = some (zV (VV c X e nL q ts hr W) P m, vC U 1 (trO (mV (VV c X e nL q ts hr W) P m) (dV (VV c X e nL q ts hr W) P m)) S') := by
  obtain ⟨u5, u9, u0, u1, u3, ur5, u6, hcs, hns⟩ := hU
  have hC' : CR NP c e C A s0 ns bs ws m P (sR U 0) (sR U 1) := by rw [u0, u1]; exact hC
  exact evl_all hn (evH_1 hns hC' hT) (fun i hi => (hC'.2 i hi).1) (CR_P hC) u5 hcs hm (by rw [u0]; exact h21) _ _ _ (ho _)
