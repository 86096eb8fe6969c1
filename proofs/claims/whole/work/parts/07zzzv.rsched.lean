def shL (f : Nat → Int64) (k : Nat) : Nat → Int64 := fun j => if j < k then f (j + 1) else f j
theorem shL_s (f : Nat → Int64) (k : Nat) : vp_updL (shL f k) k (shL f k (k + 1)) = shL f (k + 1) := by
  funext j
  unfold shL
  by_cases c : j = k
  · rw [c]
    refine (if_pos rfl).trans ?_
    rw [if_neg (by omega), if_pos (by omega)]
  · refine (if_neg c).trans ?_
    show (if j < k then f (j + 1) else f j) = if j < k + 1 then f (j + 1) else f j
    by_cases d : j < k
    · rw [if_pos d, if_pos (by omega)]
    · rw [if_neg d, if_neg (by omega)]
/-- what the reference's shift leaves -/
def iS (τ s : S19) (k : Nat) : Prop := sR s.1 8 = shk (sR τ.1 8) k ∧ sR s.1 9 = shk (sR τ.1 9) k ∧ sQ s.1 1 = shL (sQ τ.1 1) k ∧ sQ s.1 2 = shL (sQ τ.1 2) k ∧ (∀ j : Nat, ¬ j = 8 → ¬ j = 9 → sR s.1 j = sR τ.1 j) ∧ (∀ j : Nat, sI s.1 j = sI τ.1 j) ∧ sQ s.1 0 = sQ τ.1 0 ∧ (∀ j : Nat, sO s.1 j = sO τ.1 j) ∧ s.2 = τ.2
theorem rs_71 (n : Nat) (hn : 40000 < n) (g2 : Int32 → S19 → Option (Int32 × S19)) (x1 : Int32) {τ : S19} {m : Nat} (e9 : sI τ.1 9 = nI m) (hm : m < 2048) : ∃ τ' : S19, df_X19_takeScheduled_71 n g2 n x1 (nI 0) τ = g2 x1 τ' ∧ iS τ τ' m := by
  obtain ⟨g', s, i1, e⟩ := nm_l1 (S := S19) (fun g k s => df_X19_takeScheduled_71 n g2 g x1 (nI k) s) (fun k s => iS τ s k) m n (by omega) (fun k g s hk i1 => by
    obtain ⟨a1, a2, a3, a4, a5, a6, a7, a8, a9⟩ := i1
    have u1 : k < 2 ^ 31 := by omega
    have u2 : k + 1 < 2 ^ 31 := by omega
    have k1 : nI k + 1 = nI (k + 1) := nI_add ..
    have k2 : nI k + Int32.ofInt 1 = nI (k + 1) := nI_add ..
    have e9' : sI s.1 9 = nI m := (a6 9).trans e9
    refine ⟨(pQ (pR (pQ (pR s.1 8 (upd (sR s.1 8) k (sR s.1 8 (k + 1)))) 1 (vp_updL (sQ s.1 1) k (sQ s.1 1 (k + 1)))) 9 (upd (sR s.1 9) k (sR s.1 9 (k + 1)))) 2 (vp_updL (sQ s.1 2) k (sQ s.1 2 (k + 1))), s.2), ⟨?_, ?_, ?_, ?_, fun j h1 h2 => ?_, a6, a7, a8, a9⟩, ?_⟩
    · show upd (sR s.1 8) k (sR s.1 8 (k + 1)) = _
      rw [a1]; exact shk_s _ _
    · show upd (sR s.1 9) k (sR s.1 9 (k + 1)) = _
      rw [a2]; exact shk_s _ _
    · show vp_updL (sQ s.1 1) k (sQ s.1 1 (k + 1)) = _
      rw [a3]; exact shL_s _ _
    · show vp_updL (sQ s.1 2) k (sQ s.1 2 (k + 1)) = _
      rw [a4]; exact shL_s _ _
    · show sR (pR (pR s.1 8 _) 9 _) j = _
      rw [nb_RR, if_neg h2, nb_RR, if_neg h1]
      exact a5 j h1 h2
    · rw [show df_X19_takeScheduled_71 n g2 (g + 1) = dF_X19_takeScheduled_71 n g2 (df_X19_takeScheduled_71 n g2 g) from rfl]
      generalize df_X19_takeScheduled_71 n g2 g = G
      unfold dF_X19_takeScheduled_71
      rw [e9', if_neg (show ¬ nI m ≤ nI k from fun z => by rw [nI_leI (by omega) u1] at z; omega), k1, nm_ck (by omega) u2, nm_ck (by omega) u1, nI_clamp u1, nI_clamp u2, nb_let, nm_ck (by omega) u2, nm_ck (by omega) u1, nb_let, nm_ck (by omega) u2, nm_ck (by omega) u1, nb_let, nm_ck (by omega) u2, nm_ck (by omega) u1, nb_let, nb_let, k2]
      rfl) τ ⟨by funext j; exact (if_neg (by omega)).symm, by funext j; exact (if_neg (by omega)).symm, by funext j; exact (if_neg (by omega)).symm, by funext j; exact (if_neg (by omega)).symm, fun _ _ _ => rfl, fun _ => rfl, rfl, fun _ => rfl, rfl⟩
  refine ⟨s, Eq.trans e ?_, i1⟩
  show df_X19_takeScheduled_71 n g2 (g' + 1) x1 (nI m) s = _
  rw [show df_X19_takeScheduled_71 n g2 (g' + 1) = dF_X19_takeScheduled_71 n g2 (df_X19_takeScheduled_71 n g2 g') from rfl]
  generalize df_X19_takeScheduled_71 n g2 g' = G
  unfold dF_X19_takeScheduled_71
  rw [(i1.2.2.2.2.2.1 9).trans e9, if_pos (show nI m ≤ nI m by rw [nI_leI (by omega) (by omega)]; exact Nat.le_refl m)]
/-- what is scheduled, in both -/
def sch (T1 V : St) (N T : Nat) : Prop := sI T1 9 = nI (T - N) ∧ ∀ i : Nat, N + i < T → sR T1 8 i = sR V 0 (N + i) ∧ sR T1 9 i = sR V 1 (N + i) ∧ sQ T1 1 i = sQ V 1 (N + i) ∧ sQ T1 2 i = sQ V 0 (N + i)
/-- what taking what is scheduled leaves of the reference -/
def fT (τ τ' : S19) : Prop := (∀ j : Nat, ¬ j = 8 → ¬ j = 9 → ¬ j = 10 → sI τ'.1 j = sI τ.1 j) ∧ (∀ j : Nat, j < 5 ∨ 10 ≤ j → sR τ'.1 j = sR τ.1 j) ∧ (∀ j : Nat, sO τ'.1 j = sO τ.1 j) ∧ τ'.2.1 = τ.2.1 ∧ τ'.2.2.1.1 = τ.2.2.1.1 ∧ τ'.2.2.2 = τ.2.2.2
theorem fT_t {a b c : S19} (h : fT a b) (g : fT b c) : fT a c := by
  obtain ⟨h1, h2, h3, h4, h5, h6⟩ := h
  obtain ⟨g1, g2, g3, g4, g5, g6⟩ := g
  exact ⟨fun j a b c => (g1 j a b c).trans (h1 j a b c), fun j a => (g2 j a).trans (h2 j a), fun j => (g3 j).trans (h3 j), g4.trans h4, g5.trans h5, g6.trans h6⟩
/-- one turn of the reference's taking of what is scheduled -/
theorem rs_2 (n : Nat) (hn : 40000 < n) (g : Int32 → S19 → Option (Int32 × S19)) {V : St} {N T e : Nat} {lo : Nat → Nat} {τ : S19} (hL : rLg τ.1 N e lo) (hNT : N ≤ T) (hT : T ≤ 2048) (h6 : sI τ.1 6 = nI e) (hS : sch τ.1 V N T) : (T = N → dF_X19_takeScheduled_2 n g (nI 1) τ = some (nI 1, τ)) ∧ (N < T → ¬ sQ V 0 N = (nI e).toInt64 → dF_X19_takeScheduled_2 n g (nI 1) τ = some (nI 1, τ)) ∧ (N < T → sQ V 0 N = (nI e).toInt64 → ∀ (k : Nat) (r : Int32) (X' : St × St), k < 5 → sR V 0 N = nI k → evV k (sQ V 1 N) (sR V 1 N) → df_X16_event n (sR V 0 N) (sQ V 1 N) (sR V 1 N) τ.2.2.1.2 = some (r, X') → (r = nI 0 → ∃ τ' : S19, dF_X19_takeScheduled_2 n g (nI 1) τ = g (nI 0) τ' ∧ fT τ τ' ∧ τ'.2.2.1.2 = X' ∧ rLg τ'.1 N e lo ∧ (∀ i : Nat, evT τ'.1 i = evT τ.1 i) ∧ sI τ'.1 10 = sI τ.1 10 ∧ sI τ'.1 9 = nI 0) ∧ (r = nI 1 → ∃ τ' : S19, dF_X19_takeScheduled_2 n g (nI 1) τ = g (nI 1) τ' ∧ fT τ τ' ∧ τ'.2.2.1.2 = X' ∧ rLg τ'.1 (N + 1) e (loA lo e N) ∧ (∀ i : Nat, i < N → evT τ'.1 i = evT τ.1 i) ∧ evT τ'.1 N = (k, sQ V 1 N, sR V 1 N) ∧ sI τ'.1 10 = nI (N + 1) ∧ sch τ'.1 V (N + 1) T)) := by
  obtain ⟨s1, s2⟩ := hS
  have hN8 := hL.2.1
  have u1 : T - N < 2 ^ 31 := by omega
  have z0 : Int32.toNatClampNeg (0 : Int32) = 0 := tn_k (k := 0) (by omega)
  refine ⟨fun z => ?_, fun z y => ?_, fun z y k r X' k5 ek ev he => ?_⟩
  · unfold dF_X19_takeScheduled_2
    rw [s1, if_pos (show nI (T - N) ≤ (0 : Int32) from (show nI (T - N) ≤ nI 0 by rw [nI_leI u1 (by omega)]; omega))]
    exact nm_z1
  · obtain ⟨c1, c2, c3, c4⟩ := s2 0 (by omega)
    have c4 : sQ τ.1 2 0 = sQ V 0 N := c4
    unfold dF_X19_takeScheduled_2
    rw [s1, if_neg (show ¬ nI (T - N) ≤ (0 : Int32) from fun w => by have w : nI (T - N) ≤ nI 0 := w; rw [nI_leI u1 (by omega)] at w; omega), z0, c4, h6, if_neg (show ¬ lg_cmp (sQ V 0 N) (nI e).toInt64 = 0 from fun w => y ((lc_eq _ _).mp w))]
    exact nm_z1
  · obtain ⟨c1, c2, c3, c4⟩ := s2 0 (by omega)
    have c1 : sR τ.1 8 0 = sR V 0 N := c1
    have c2 : sR τ.1 9 0 = sR V 1 N := c2
    have c3 : sQ τ.1 1 0 = sQ V 1 N := c3
    have c4 : sQ τ.1 2 0 = sQ V 0 N := c4
    rw [ek] at he c1
    have A : ∀ (q : Int32) (τ1 : S19), df_X19_record n (nI k) (sQ V 1 N) (sR V 1 N) τ = some (q, τ1) → dF_X19_takeScheduled_2 n g (nI 1) τ = if q = 0 then df_X19_takeScheduled_66 n g q 0 τ1 else df_X19_takeScheduled_66 n g q (sI τ1.1 9 - 1) τ1 := fun q τ1 hq => by
      unfold dF_X19_takeScheduled_2
      rw [s1, if_neg (show ¬ nI (T - N) ≤ (0 : Int32) from fun w => by have w : nI (T - N) ≤ nI 0 := w; rw [nI_leI u1 (by omega)] at w; omega), z0, c4, h6, y, if_pos (show lg_cmp (nI e).toInt64 (nI e).toInt64 = 0 from (lc_eq _ _).mpr rfl), if_neg (show ¬ nI 1 = (0 : Int32) by decide), c1, c2, c3, hq, nb_b2]
    refine ⟨fun hr => ?_, fun hr => ?_⟩
    · have R := (rc_rec n hL (by omega) h6 (Or.inl hr) he).1 hr
      obtain ⟨τ', t1, t2⟩ := rs_71 n hn g (nI 0) (τ := (pI τ.1 9 (nI 0), (τ.2.1, ((τ.2.2.1.1, X'), τ.2.2.2)))) (m := 0) rfl (by omega)
      obtain ⟨a1, a2, a3, a4, a5, a6, a7, a8, a9⟩ := t2
      refine ⟨τ', ?_, ⟨fun j h1 h2 h3 => ?_, fun j hj => a5 j (by omega) (by omega), a8, by rw [a9], by rw [a9], by rw [a9]⟩, by rw [a9], ?_, fun i => ?_, ?_, a6 9⟩
      · rw [A _ _ R, if_pos (show nI 0 = (0 : Int32) from rfl)]
        unfold df_X19_takeScheduled_66
        rw [nb_let]
        exact t1
      · rw [a6 j]
        show sI (pI τ.1 9 _) j = _
        rw [nb_II, if_neg h2]
      · obtain ⟨l1, l2, l3, l4, l5, l6⟩ := hL
        exact ⟨(a6 8).trans l1, l2, l3, fun i c h1 h2 h3 => by rw [a5 7 (by omega) (by omega)]; exact l4 i c h1 h2 h3, fun i hi => by rw [a5 5 (by omega) (by omega), a5 6 (by omega) (by omega), a7]; exact l5 i hi, l6⟩
      · unfold evT
        rw [a5 5 (by omega) (by omega), a5 6 (by omega) (by omega), a7]
        rfl
      · exact a6 10
    · have R := (rc_rec n hL (by omega) h6 (Or.inr hr) he).2 hr
      obtain ⟨b1, b2, b3, b4, b5, b6, b7⟩ := aT_r τ.1 N e k (sQ V 1 N) (sR V 1 N)
      have e9 : sI (aT τ.1 N e k (sQ V 1 N) (sR V 1 N)) 9 = nI (T - N) := (b7 9 (by omega) (by omega)).trans s1
      obtain ⟨τ', t1, t2⟩ := rs_71 n hn g (nI 1) (τ := (pI (aT τ.1 N e k (sQ V 1 N) (sR V 1 N)) 9 (nI (T - N - 1)), (τ.2.1, ((τ.2.2.1.1, X'), τ.2.2.2)))) (m := T - N - 1) rfl (by omega)
      obtain ⟨a1, a2, a3, a4, a5, a6, a7, a8, a9⟩ := t2
      have La := rLg_a hL (show N < 2048 by omega) k5 ev
      obtain ⟨ev1, ev2⟩ := aT_e (T := τ.1) (N := N) (e := e) k5 (a := sQ V 1 N) (b := sR V 1 N)
      have evt : ∀ i : Nat, evT τ'.1 i = evT (aT τ.1 N e k (sQ V 1 N) (sR V 1 N)) i := fun i => by
        unfold evT
        rw [a5 5 (by omega) (by omega), a5 6 (by omega) (by omega), a7]
        rfl
      refine ⟨τ', ?_, ⟨fun j h1 h2 h3 => ?_, fun j hj => ?_, fun j => ?_, by rw [a9], by rw [a9], by rw [a9]⟩, by rw [a9], ?_, fun i hi => (evt i).trans (ev1 i hi), (evt N).trans ev2, (a6 10).trans b6, ?_, fun i hi => ?_⟩
      · rw [A _ _ R, if_neg (show ¬ nI 1 = (0 : Int32) by decide)]
        unfold df_X19_takeScheduled_66
        dsimp only
        rw [e9, show nI (T - N) - 1 = nI (T - N - 1) from pk_sub (show 1 ≤ T - N by omega), nb_let]
        exact t1
      · rw [a6 j]
        show sI (pI (aT τ.1 N e k (sQ V 1 N) (sR V 1 N)) 9 _) j = _
        rw [nb_II, if_neg h2]
        exact b7 j h1 h3
      · rw [a5 j (by omega) (by omega)]
        show sR (aT τ.1 N e k (sQ V 1 N) (sR V 1 N)) j = sR τ.1 j
        unfold aT
        rw [nb_RI, nb_RI, nb_RR, if_neg (by omega), nb_RR, if_neg (by omega)]
        show sR (pR τ.1 5 _) j = _
        rw [nb_RR, if_neg (by omega)]
      · exact a8 j
      · obtain ⟨l1, l2, l3, l4, l5, l6⟩ := La
        exact ⟨(a6 8).trans l1, l2, l3, fun i c h1 h2 h3 => by rw [a5 7 (by omega) (by omega)]; exact l4 i c h1 h2 h3, fun i hi => by rw [a5 5 (by omega) (by omega), a5 6 (by omega) (by omega), a7]; exact l5 i hi, l6⟩
      · rw [a6 9]
        show nI (T - N - 1) = nI (T - (N + 1))
        rw [show T - N - 1 = T - (N + 1) by omega]
      · obtain ⟨d1, d2, d3, d4⟩ := s2 (i + 1) (by omega)
        rw [a1, a2, a3, a4]
        have sk : ∀ f : Nat → Int32, shk f (T - N - 1) i = f (i + 1) := fun f => if_pos (by omega)
        have sl : ∀ f : Nat → Int64, shL f (T - N - 1) i = f (i + 1) := fun f => if_pos (by omega)
        rw [sk, sk, sl, sl, show N + 1 + i = N + (i + 1) by omega]
        exact ⟨d1, d2, d3, d4⟩
