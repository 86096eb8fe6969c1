/-- the copies that are kept -/
def cC (n : Nat) (v : Int32) (Q : St) (L : Nat → List (Nat × Int64 × Int32)) (s : St × Rw × (St × (St × (St × (St)))) × (St) × (St) × (Nat → St) × (Nat → St) × (Nat → St × (St))) (cp sp e : Nat) (at_ ix : Nat → Nat) : Prop := (1 ≤ cp ∧ cp ≤ 8 ∧ sI s.1 1 = nI cp ∧ sI s.1 2 = nI sp ∧ 1 ≤ sp ∧ sp ≤ 65536) ∧ (∀ i : Nat, i < 8 → s.2.1 3 i = some (ix i) ∧ ix i < 8) ∧ (∀ i j : Nat, i < 8 → j < 8 → ix i = ix j → i = j) ∧ at_ 0 = 0 ∧ (∀ i : Nat, i + 1 < cp → at_ i < at_ (i + 1)) ∧ ∀ i : Nat, i < cp → i * sp ≤ at_ i ∧ at_ i ≤ e ∧ sR s.1 1 i = nI (at_ i) ∧ tB n v Q L (at_ i) (s.2.2.2.2.2.2.2 (ix i))
/-- what the keeping of copies leaves as it was -/
def fS (s s' : St × Rw × (St × (St × (St × (St)))) × (St) × (St) × (Nat → St) × (Nat → St) × (Nat → St × (St))) : Prop := (∀ k : Nat, ¬ k = 1 → ¬ k = 2 → ¬ k = 3 → sI s'.1 k = sI s.1 k) ∧ sR s'.1 0 = sR s.1 0 ∧ (∀ k : Nat, sO s'.1 k = sO s.1 k) ∧ (∀ r : Nat, ¬ r = 3 → s'.2.1 r = s.2.1 r) ∧ s'.2.2.1 = s.2.2.1 ∧ s'.2.2.2.1 = s.2.2.2.1 ∧ s'.2.2.2.2.1 = s.2.2.2.2.1 ∧ s'.2.2.2.2.2.1 = s.2.2.2.2.2.1 ∧ s'.2.2.2.2.2.2.1 = s.2.2.2.2.2.2.1
theorem fS_t {a b c : St × Rw × (St × (St × (St × (St)))) × (St) × (St) × (Nat → St) × (Nat → St) × (Nat → St × (St))} (h : fS a b) (g : fS b c) : fS a c := by
  obtain ⟨h1, h2, h3, h4, h5, h6, h7, h8, h9⟩ := h
  obtain ⟨g1, g2, g3, g4, g5, g6, g7, g8, g9⟩ := g
  exact ⟨fun k a b c => (g1 k a b c).trans (h1 k a b c), g2.trans h2, fun k => (g3 k).trans (h3 k), fun r a => (g4 r a).trans (h4 r a), g5.trans h5, g6.trans h6, g7.trans h7, g8.trans h8, g9.trans h9⟩
theorem at_mono {at_ : Nat → Nat} {cp : Nat} (h : ∀ i : Nat, i + 1 < cp → at_ i < at_ (i + 1)) : ∀ (m i : Nat), i + m < cp → at_ i + m ≤ at_ (i + m)
  | 0, i, _ => Nat.le_refl _
  | m + 1, i, hi => by
    have a := at_mono h m i (by omega)
    have b := h (i + m) (by omega)
    show at_ i + (m + 1) ≤ at_ (i + m + 1)
    omega
/-- a copy of the machine as it is -/
theorem kc_C (n : Nat) (hn : 1024 < n) {v : Int32} {Q : St} {L : Nat → List (Nat × Int64 × Int32)} {s : St × Rw × (St × (St × (St × (St)))) × (St) × (St) × (Nat → St) × (Nat → St) × (Nat → St × (St))} {cp sp e c : Nat} {at_ ix : Nat → Nat} (hC : cC n v Q L s cp sp e at_ ix) (h8 : cp < 8) (h3 : sI s.1 3 = nI c) (hB : tB n v Q L c s.2.2.1.2.2) (hc : c ≤ e) (h1 : at_ (cp - 1) < c) (h2 : cp * sp ≤ c) : ∃ (s' : St × Rw × (St × (St × (St × (St)))) × (St) × (St) × (Nat → St) × (Nat → St) × (Nat → St × (St))) (at' : Nat → Nat), df_X11_keepCopy n s = some s' ∧ cC n v Q L s' (cp + 1) sp e at' ix ∧ fS s s' ∧ sI s'.1 3 = nI c ∧ ∀ i : Nat, i < cp + 1 → at' i = c ∨ ∃ x : Nat, x < cp ∧ at' i = at_ x := by
  obtain ⟨⟨a1, a2, a3, a4, a5, a6⟩, b1, b2, b3, b4, b5⟩ := hC
  obtain ⟨x1, x2⟩ := b1 cp h8
  obtain ⟨M', k1, k2⟩ := tB_become n hn (A := s.2.2.2.2.2.2.2 (ix cp)) (s0 := nd_st0) hB
  have K := kc_1 n h8 a3 h3 x1 x2 k1
  refine ⟨_, fun i => if i = cp then c else at_ i, K, ⟨⟨by omega, by omega, rfl, a4, a5, a6⟩, b1, b2, ?_, fun i hi => ?_, fun i hi => ?_⟩, ⟨fun k y1 y2 y3 => ?_, rfl, fun _ => rfl, fun _ _ => rfl, rfl, rfl, rfl, rfl, rfl⟩, h3, fun i hi => ?_⟩
  · show (if 0 = cp then c else at_ 0) = 0
    rw [if_neg (by omega)]; exact b3
  · show (if i = cp then c else at_ i) < (if i + 1 = cp then c else at_ (i + 1))
    rw [if_neg (by omega)]
    by_cases d : i + 1 = cp
    · rw [if_pos d, show i = cp - 1 by omega]; exact h1
    · rw [if_neg d]; exact b4 i (by omega)
  · by_cases d : i = cp
    · subst d
      refine ⟨(show i * sp ≤ (if i = i then c else at_ i) by rw [if_pos rfl]; exact h2), (show (if i = i then c else at_ i) ≤ e by rw [if_pos rfl]; exact hc), ?_, ?_⟩
      · show upd (sR s.1 1) i (nI c) i = nI (if i = i then c else at_ i)
        rw [nm_us, if_pos rfl]
      · show tB n v Q L (if i = i then c else at_ i) (if ix i = ix i then M' else s.2.2.2.2.2.2.2 (ix i))
        rw [if_pos rfl, if_pos rfl]; exact k2
    · obtain ⟨c1, c2, c3, c4⟩ := b5 i (by omega)
      refine ⟨(show i * sp ≤ (if i = cp then c else at_ i) by rw [if_neg d]; exact c1), (show (if i = cp then c else at_ i) ≤ e by rw [if_neg d]; exact c2), ?_, ?_⟩
      · show upd (sR s.1 1) cp (nI c) i = nI (if i = cp then c else at_ i)
        rw [nm_un d, if_neg d]; exact c3
      · show tB n v Q L (if i = cp then c else at_ i) (if ix i = ix cp then M' else s.2.2.2.2.2.2.2 (ix i))
        rw [if_neg d, if_neg (fun z => d (b2 i cp (by omega) h8 z))]; exact c4
  · show sI (pI (pR s.1 1 _) 1 _) k = sI s.1 k
    rw [nb_II, if_neg y1]
    rfl
  · show (if i = cp then c else at_ i) = c ∨ ∃ x : Nat, x < cp ∧ (if i = cp then c else at_ i) = at_ x
    by_cases d : i = cp
    · rw [if_pos d]; exact Or.inl rfl
    · rw [if_neg d]; exact Or.inr ⟨i, by omega, rfl⟩
/-- every second copy goes -/
theorem th_C (n : Nat) (hn : 1024 < n) {v : Int32} {Q : St} {L : Nat → List (Nat × Int64 × Int32)} {s : St × Rw × (St × (St × (St × (St)))) × (St) × (St) × (Nat → St) × (Nat → St) × (Nat → St × (St))} {sp e : Nat} {at_ ix : Nat → Nat} (hC : cC n v Q L s 8 sp e at_ ix) (he : e ≤ 60000) : ∃ s' : St × Rw × (St × (St × (St × (St)))) × (St) × (St) × (Nat → St) × (Nat → St) × (Nat → St × (St)), df_X11_thinOut n s = some s' ∧ cC n v Q L s' 4 (sp * 2) e (fun i => at_ (2 * i)) (fun i => ix (tx i)) ∧ fS s s' ∧ sI s'.1 3 = sI s.1 3 := by
  obtain ⟨⟨a1, a2, a3, a4, a5, a6⟩, b1, b2, b3, b4, b5⟩ := hC
  obtain ⟨R, W, t1, t2, t3⟩ := th_all n hn b1 a4
  have sb : sp * 2 ≤ 65536 := by
    have := (b5 7 (by omega)).1
    have := (b5 7 (by omega)).2.1
    omega
  refine ⟨_, t1, ⟨⟨by omega, by omega, rfl, rfl, by omega, sb⟩, fun i hi => ?_, fun i j hi hj z => ?_, b3, fun i hi => ?_, fun i hi => ?_⟩, ⟨fun k y1 y2 y3 => ?_, rfl, fun _ => rfl, fun r hr => ?_, rfl, rfl, rfl, rfl, rfl⟩, rfl⟩
  · show (pW s.2.1 3 W) 3 i = _ ∧ _
    rw [show (pW s.2.1 3 W) 3 = W from if_pos rfl]
    exact t2 i hi
  · have := b2 (tx i) (tx j) (tx_8 ⟨i, hi⟩) (tx_8 ⟨j, hj⟩) z
    exact congrArg Fin.val (tx_in ⟨i, hi⟩ ⟨j, hj⟩ this)
  · have m := at_mono b4 2 (2 * i) (by omega)
    show at_ (2 * i) < at_ (2 * (i + 1))
    rw [show 2 * (i + 1) = 2 * i + 2 by omega]
    omega
  · obtain ⟨c1, c2, c3, c4⟩ := b5 (2 * i) (by omega)
    refine ⟨?_, c2, ?_, ?_⟩
    · show i * (sp * 2) ≤ at_ (2 * i)
      rw [show i * (sp * 2) = 2 * i * sp by rw [Nat.mul_comm sp 2, ← Nat.mul_assoc, Nat.mul_comm i 2]]
      exact c1
    · show R i = _
      rw [t3 i hi]; exact c3
    · show tB n v Q L (at_ (2 * i)) (s.2.2.2.2.2.2.2 (ix (tx i)))
      rw [tx_4 ⟨i, hi⟩]; exact c4
  · show sI (pI (pI (pR s.1 1 R) 1 _) 2 _) k = sI s.1 k
    rw [nb_II, if_neg y2, nb_II, if_neg y1]
    rfl
  · show (pW s.2.1 3 W) r = s.2.1 r
    exact if_neg hr
theorem mx_1 {sp : Nat} (h : 1 ≤ sp) (h2 : sp ≤ 65536) : (if (1 : Int32) < nI sp then nI sp else 1) = nI sp := by
  by_cases c : sp = 1
  · rw [c]; rfl
  · rw [if_pos (show (1 : Int32) < nI sp from (show nI 1 < nI sp by rw [nI_ltI (by omega) (by omega)]; omega))]
theorem rm_1 {sp c : Nat} (h : 1 ≤ sp) (h2 : sp ≤ 65536) (hc : c < 2 ^ 31) : nI c - nI c / nI sp * nI sp = nI (c - c / sp * sp) := by
  have l := Nat.div_mul_le_self c sp
  rw [nm_div hc (by omega) (by omega), pk_mul, pk_sub l]
theorem mul_up {sp c k : Nat} (h : c - c / sp * sp = 0) (hk : (k - 1) * sp < c) (hk1 : 1 ≤ k) : k * sp ≤ c := by
  have l := Nat.div_mul_le_self c sp
  have e : c / sp * sp = c := by omega
  have : k - 1 < c / sp := by
    rw [← e] at hk
    exact Nat.lt_of_mul_lt_mul_right hk
  have : k * sp ≤ c / sp * sp := Nat.mul_le_mul_right sp (by omega)
  omega
/-- the copies at a new count -/
theorem ad_92 (n : Nat) (hn : 1024 < n) {v : Int32} {Q : St} {L : Nat → List (Nat × Int64 × Int32)} {s : St × Rw × (St × (St × (St × (St)))) × (St) × (St) × (Nat → St) × (Nat → St) × (Nat → St × (St))} {cp sp e c : Nat} {at_ ix : Nat → Nat} (hC : cC n v Q L s cp sp e at_ ix) (h8 : cp < 8) (h3 : sI s.1 3 = nI c) (hB : tB n v Q L c s.2.2.1.2.2) (hc : c ≤ e) (he : e ≤ 60000) (h1 : at_ (cp - 1) < c) : ∃ (s' : St × Rw × (St × (St × (St × (St)))) × (St) × (St) × (Nat → St) × (Nat → St) × (Nat → St × (St))) (cp' : Nat) (at' : Nat → Nat), df_X11_advance_92 n s = df_X11_advance_112 n s' ∧ cC n v Q L s' cp' sp e at' ix ∧ fS s s' ∧ sI s'.1 3 = nI c ∧ ∀ i : Nat, i < cp' → at' i = c ∨ ∃ x : Nat, x < cp ∧ at' i = at_ x := by
  obtain ⟨⟨a1, a2, a3, a4, a5, a6⟩, b1, b2, b3, b4, b5⟩ := id hC
  have A : df_X11_advance_92 n s = if nI (c - c / sp * sp) = 0 then nd_b1 (df_X11_keepCopy n s) (fun s22 => df_X11_advance_112 n s22) else df_X11_advance_112 n s := by
    unfold df_X11_advance_92
    rw [a4, h3, mx_1 a5 a6, rm_1 a5 a6 (by omega)]
    exact nm_nz (by omega) (by omega)
  rw [A]
  by_cases r0 : c - c / sp * sp = 0
  · rw [if_pos (show nI (c - c / sp * sp) = 0 by rw [r0]; rfl)]
    have p0 := (b5 (cp - 1) (by omega)).1
    obtain ⟨s', at', k1, k2, k3, k4, k5⟩ := kc_C n hn hC h8 h3 hB hc h1 (mul_up r0 (by omega) a1)
    rw [k1, nb_b1]
    exact ⟨s', cp + 1, at', rfl, k2, k3, k4, k5⟩
  · rw [if_neg (show ¬ nI (c - c / sp * sp) = 0 from fun z => r0 (nm_inI (by omega) (by omega) (show nI (c - c / sp * sp) = nI 0 from z)))]
    exact ⟨s, cp, at_, rfl, hC, ⟨fun _ _ _ _ => rfl, rfl, fun _ => rfl, fun _ _ => rfl, rfl, rfl, rfl, rfl, rfl⟩, h3, fun i hi => Or.inr ⟨i, hi, rfl⟩⟩
theorem ad_35 (n : Nat) (hn : 1024 < n) {v : Int32} {Q : St} {L : Nat → List (Nat × Int64 × Int32)} {s : St × Rw × (St × (St × (St × (St)))) × (St) × (St) × (Nat → St) × (Nat → St) × (Nat → St × (St))} {cp sp e c : Nat} {at_ ix : Nat → Nat} (hC : cC n v Q L s cp sp e at_ ix) (h3 : sI s.1 3 = nI c) (hB : tB n v Q L (c + 1) s.2.2.1.2.2) (hc : c + 1 ≤ e) (he : e ≤ 60000) : ∃ (s' : St × Rw × (St × (St × (St × (St)))) × (St) × (St) × (Nat → St) × (Nat → St) × (Nat → St × (St))) (cp' sp' : Nat) (at' ix' : Nat → Nat), df_X11_advance_35 n s = df_X11_advance_112 n s' ∧ cC n v Q L s' cp' sp' e at' ix' ∧ fS s s' ∧ sI s'.1 3 = nI (c + 1) ∧ ∀ i : Nat, i < cp' → at' i = c + 1 ∨ ∃ x : Nat, x < cp ∧ at' i = at_ x := by
  obtain ⟨⟨a1, a2, a3, a4, a5, a6⟩, b1, b2, b3, b4, b5⟩ := id hC
  have hC1 : cC n v Q L (pI s.1 3 (nI (c + 1)), s.2) cp sp e at_ ix := hC
  have f1 : fS s (pI s.1 3 (nI (c + 1)), s.2) := ⟨fun k _ _ y => by
    show sI (pI s.1 3 _) k = sI s.1 k
    rw [nb_II, if_neg y], rfl, fun _ => rfl, fun _ _ => rfl, rfl, rfl, rfl, rfl, rfl⟩
  obtain ⟨p1, p2, p3, p4⟩ := b5 (cp - 1) (by omega)
  have A : df_X11_advance_35 n s = if nI (c + 1 - (c + 1) / sp * sp) = 0 then (if nI (c + 1) ≤ nI (at_ (cp - 1)) then df_X11_advance_112 n (pI s.1 3 (nI (c + 1)), s.2) else (if nI cp = 8 then nd_b1 (df_X11_thinOut n (pI s.1 3 (nI (c + 1)), s.2)) (fun s25 => df_X11_advance_92 n s25) else df_X11_advance_92 n (pI s.1 3 (nI (c + 1)), s.2))) else df_X11_advance_112 n (pI s.1 3 (nI (c + 1)), s.2) := by
    unfold df_X11_advance_35
    rw [h3, show nI c + 1 = nI (c + 1) from nI_add .., nb_let]
    dsimp only
    rw [show sI (pI s.1 3 (nI (c + 1))) 2 = nI sp from a4, show sI (pI s.1 3 (nI (c + 1))) 3 = nI (c + 1) from rfl, show sI (pI s.1 3 (nI (c + 1))) 1 = nI cp from a3, mx_1 a5 a6, rm_1 a5 a6 (by omega), show nI cp - 1 = nI (cp - 1) from pk_sub a1, nm_ck (by omega) (by omega), nI_clamp (by omega), show sR (pI s.1 3 (nI (c + 1))) 1 (cp - 1) = nI (at_ (cp - 1)) from p3]
    exact nm_nz (by omega) (by omega)
  rw [A]
  by_cases r0 : c + 1 - (c + 1) / sp * sp = 0
  · rw [if_pos (show nI (c + 1 - (c + 1) / sp * sp) = 0 by rw [r0]; rfl)]
    by_cases q0 : c + 1 ≤ at_ (cp - 1)
    · rw [if_pos (show nI (c + 1) ≤ nI (at_ (cp - 1)) by rw [nI_leI (by omega) (by omega)]; exact q0)]
      exact ⟨_, cp, sp, at_, ix, rfl, hC1, f1, rfl, fun i hi => Or.inr ⟨i, hi, rfl⟩⟩
    · rw [if_neg (show ¬ nI (c + 1) ≤ nI (at_ (cp - 1)) from fun z => by rw [nI_leI (by omega) (by omega)] at z; exact q0 z)]
      by_cases c8 : cp = 8
      · subst c8
        rw [if_pos (show nI 8 = (8 : Int32) from rfl)]
        obtain ⟨s1, t1, t2, t3, t4⟩ := th_C n hn hC1 he
        rw [t1, nb_b1]
        have m := at_mono b4 1 6 (by omega)
        have t4 : sI s1.1 3 = nI (c + 1) := t4
        obtain ⟨s2, cp', at', u1, u2, u3, u4, u5⟩ := ad_92 n hn t2 (by omega) t4 (by rw [t3.2.2.2.2.1]; exact hB) hc he (show at_ (2 * (4 - 1)) < c + 1 by
          have q0 : ¬ c + 1 ≤ at_ 7 := q0
          have m : at_ 6 + 1 ≤ at_ 7 := m
          show at_ 6 < c + 1
          omega)
        rw [u1]
        refine ⟨s2, cp', _, at', _, rfl, u2, fS_t f1 (fS_t t3 u3), u4, fun i hi => ?_⟩
        rcases u5 i hi with z | ⟨x, z1, z2⟩
        · exact Or.inl z
        · exact Or.inr ⟨2 * x, by omega, z2⟩
      · rw [if_neg (show ¬ nI cp = (8 : Int32) from fun z => c8 (nm_inI (by omega) (by omega) (show nI cp = nI 8 from z)))]
        obtain ⟨s2, cp', at', u1, u2, u3, u4, u5⟩ := ad_92 n hn hC1 (by omega) rfl hB hc he (by omega)
        rw [u1]
        exact ⟨s2, cp', _, at', _, rfl, u2, fS_t f1 u3, u4, u5⟩
  · rw [if_neg (show ¬ nI (c + 1 - (c + 1) / sp * sp) = 0 from fun z => r0 (nm_inI (by omega) (by omega) (show nI (c + 1 - (c + 1) / sp * sp) = nI 0 from z)))]
    exact ⟨_, cp, sp, at_, ix, rfl, hC1, f1, rfl, fun i hi => Or.inr ⟨i, hi, rfl⟩⟩
