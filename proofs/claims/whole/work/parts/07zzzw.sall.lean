/-- both at the end of what was recorded -/
def jJ (n vn : Nat) (Q V : St) (N T e : Nat) (lo : Nat → Nat) (s : St × Rw × (St × (St × (St × (St)))) × (St) × (St) × (Nat → St) × (Nat → St) × (Nat → St × (St))) (τ : S19) : Prop := cI n vn Q V N T e e lo s ∧ rLg τ.1 N e lo ∧ (∀ i : Nat, i < N → evT τ.1 i = evK V i) ∧ sI τ.1 4 = nI vn ∧ sI τ.1 6 = nI e ∧ sI τ.1 10 = nI N ∧ RA n (nI vn) Q (lgL (evK V) lo) e τ.2.2.1.2 ∧ sI τ.2.2.1.2.1 14 = -nI 1 ∧ sch τ.1 V N T
/-- what taking what is scheduled leaves of the class -/
def fZ (s s' : St × Rw × (St × (St × (St × (St)))) × (St) × (St) × (Nat → St) × (Nat → St) × (Nat → St × (St))) : Prop := sI s'.1 0 = sI s.1 0 ∧ sI s'.1 7 = sI s.1 7 ∧ (∀ k : Nat, sO s'.1 k = sO s.1 k) ∧ s'.2.1 = s.2.1 ∧ s'.2.2.2.2.2 = s.2.2.2.2.2
theorem fZ_t {a b c : St × Rw × (St × (St × (St × (St)))) × (St) × (St) × (Nat → St) × (Nat → St) × (Nat → St × (St))} (h : fZ a b) (g : fZ b c) : fZ a c := ⟨g.1.trans h.1, g.2.1.trans h.2.1, fun k => (g.2.2.1 k).trans (h.2.2.1 k), g.2.2.2.1.trans h.2.2.2.1, g.2.2.2.2.trans h.2.2.2.2⟩
/-- what is scheduled is taken, in both -/
theorem sc_all (n : Nat) (hn : 40000 < n) {vn e : Nat} {Q : St} : ∀ (m : Nat) (V : St) (N T : Nat) (lo : Nat → Nat) (s : St × Rw × (St × (St × (St × (St)))) × (St) × (St) × (Nat → St) × (Nat → St) × (Nat → St × (St))) (τ : S19) (g g' : Nat), T - N = m → N ≤ T → m + 1 < g → m + 1 < g' → jJ n vn Q V N T e lo s τ → ∃ (al : Int32) (V' : St) (N' T' : Nat) (lo' : Nat → Nat) (s' : St × Rw × (St × (St × (St × (St)))) × (St) × (St) × (Nat → St) × (Nat → St) × (Nat → St × (St))) (τ' : S19), df_X11_takeScheduled_0 n g s = some s' ∧ df_X19_takeScheduled_2 n g' (nI 1) τ = some (al, τ') ∧ jJ n vn Q V' N' T' e lo' s' τ' ∧ ((al = nI 1 ∧ sI s'.1 6 = sI s.1 6) ∨ (al = nI 0 ∧ sI s'.1 6 = nI 1)) ∧ fZ s s' ∧ fT τ τ' ∧ N' ≤ T' := fun m => by
  induction m with
  | zero =>
    intro V N T lo s τ g g' hm hNT hg hg' h
    obtain ⟨g1, rfl⟩ : ∃ g1 : Nat, g = g1 + 1 := ⟨g - 1, by omega⟩
    obtain ⟨g2, rfl⟩ : ∃ g2 : Nat, g' = g2 + 1 := ⟨g' - 1, by omega⟩
    obtain ⟨hI, hL, hev, h4, h6, h10, hX, h14, hS⟩ := id h
    obtain ⟨hV, hC, hs, hP, hce, c3, c4, c5, hA, _, hW⟩ := id hI
    obtain ⟨l1, l2, l3, l4, l5, l6, l7, l8⟩ := id hC
    have c5' : sI s.1 5 = nI N := by rw [c5, l5.2.2 (e + 1) (by omega)]
    refine ⟨nI 1, V, N, T, lo, s, τ, ?_, ?_, h, Or.inl ⟨rfl, rfl⟩, ⟨rfl, rfl, fun _ => rfl, rfl, rfl⟩, ⟨fun _ _ _ _ => rfl, fun _ _ => rfl, fun _ => rfl, rfl, rfl, rfl⟩, hNT⟩
    · exact (ts_1 n hV (df_X11_takeScheduled_0 n g1) l4 l3 l1 l2 c4 c5').1 (by omega)
    · exact (rs_2 n hn (df_X19_takeScheduled_2 n g2) hL hNT l4 h6 hS).1 (by omega)
  | succ m ih =>
    intro V N T lo s τ g g' hm hNT hg hg' h
    obtain ⟨g1, rfl⟩ : ∃ g1 : Nat, g = g1 + 1 := ⟨g - 1, by omega⟩
    obtain ⟨g2, rfl⟩ : ∃ g2 : Nat, g' = g2 + 1 := ⟨g' - 1, by omega⟩
    obtain ⟨hI, hL, hev, h4, h6, h10, hX, h14, hS⟩ := id h
    obtain ⟨hV, hC, hs, hP, hce, c3, c4, c5, hA, _, hW⟩ := id hI
    obtain ⟨l1, l2, l3, l4, l5, l6, l7, l8⟩ := id hC
    have c5' : sI s.1 5 = nI N := by rw [c5, l5.2.2 (e + 1) (by omega)]
    have hNT' : N < T := by omega
    by_cases ha : sQ V 0 N = (nI e).toInt64
    · obtain ⟨k, k5, ek, ev⟩ := l7 N hNT'
      obtain ⟨r, s1, r1, t1, t2, t3, t4, t5, t6, t7, t8, t9⟩ := ts_2 n hn (df_X11_takeScheduled_0 n g1) hI hNT' ha
      obtain ⟨X', x1, x2, x3, x4⟩ := t2 _ hX
      obtain ⟨q0, q1⟩ := (rs_2 n hn (df_X19_takeScheduled_2 n g2) hL hNT l4 h6 hS).2.2 hNT' ha k r X' k5 ek ev x1
      have fz : fZ s s1 := ⟨t5, t6, t7, t8, t9⟩
      rcases r1 with z | z
      · obtain ⟨τ', a1, a2, a3, a4, a5, a6, a7⟩ := q0 z
        obtain ⟨d1, d2⟩ := t3 z
        have hX' := x3 z
        obtain ⟨g3, rfl⟩ : ∃ g3 : Nat, g1 = g3 + 1 := ⟨g1 - 1, by omega⟩
        obtain ⟨g4, rfl⟩ : ∃ g4 : Nat, g2 = g4 + 1 := ⟨g2 - 1, by omega⟩
        obtain ⟨eV, eC, es, eP, ece, e3, e4, e5, eA', _, eW⟩ := id d1
        obtain ⟨p1, p2, p3, p4, p5, p6, p7, p8⟩ := id eC
        have e5' : sI s1.1 5 = nI N := by rw [e5, p5.2.2 (e + 1) (by omega)]
        refine ⟨nI 0, pI V 1 (nI N), N, N, lo, s1, τ', ?_, ?_, ⟨d1, a4, fun i hi => (a5 i).trans (hev i hi), (a2.1 4 (by omega) (by omega) (by omega)).trans h4, (a2.1 6 (by omega) (by omega) (by omega)).trans h6, a6.trans h10, ?_, ?_, ?_, fun i hi => by omega⟩, Or.inr ⟨rfl, d2⟩, fz, a2, Nat.le_refl N⟩
        · refine Eq.trans t1 ?_
          exact (ts_1 n eV (df_X11_takeScheduled_0 n g3) p4 p3 p1 p2 e4 e5').1 (Nat.le_refl N)
        · refine Eq.trans a1 ?_
          show dF_X19_takeScheduled_2 n (df_X19_takeScheduled_2 n g4) (nI 0) τ' = _
          unfold dF_X19_takeScheduled_2
          rw [a7, if_pos (show nI 0 ≤ (0 : Int32) by decide)]
          exact nm_z0
        · rw [a3, hX']; exact hX
        · rw [a3, x2]; exact h14
        · rw [a7, Nat.sub_self]
      · obtain ⟨τ', a1, a2, a3, a4, a5, a6, a7, a8⟩ := q1 z
        obtain ⟨d1, d2⟩ := t4 z
        have ee : evK V N = (k, sQ V 1 N, sR V 1 N) := by
          unfold evK
          rw [ek, nI_clamp (by omega)]
        have j' : jJ n vn Q (pI V 0 (nI (N + 1))) (N + 1) T e (loA lo e N) s1 τ' := ⟨d1, a4, fun i hi => by
          show evT τ'.1 i = evK V i
          by_cases y : i = N
          · rw [y, a6, ee]
          · rw [a5 i (by omega)]; exact hev i (by omega), (a2.1 4 (by omega) (by omega) (by omega)).trans h4, (a2.1 6 (by omega) (by omega) (by omega)).trans h6, a7, by rw [a3]; exact x4 z, by rw [a3, x2]; exact h14, a8⟩
        obtain ⟨al, V', N', T', lo', s', τ'', b1, b2, b3, b4, b5, b6, b7⟩ := ih _ _ _ _ _ _ g1 g2 (by omega) (by omega) (by omega) (by omega) j'
        refine ⟨al, V', N', T', lo', s', τ'', Eq.trans t1 b1, Eq.trans a1 b2, b3, ?_, fZ_t fz b5, fT_t a2 b6, b7⟩
        rcases b4 with ⟨u1, u2⟩ | u
        · exact Or.inl ⟨u1, u2.trans d2⟩
        · exact Or.inr u
    · refine ⟨nI 1, V, N, T, lo, s, τ, ?_, ?_, h, Or.inl ⟨rfl, rfl⟩, ⟨rfl, rfl, fun _ => rfl, rfl, rfl⟩, ⟨fun _ _ _ _ => rfl, fun _ _ => rfl, fun _ => rfl, rfl, rfl, rfl⟩, hNT⟩
      · exact (ts_1 n hV (df_X11_takeScheduled_0 n g1) l4 l3 l1 l2 c4 c5').2.1 hNT' (ia_0 n l4 (by omega) l2 (fun _ => ha))
      · exact (rs_2 n hn (df_X19_takeScheduled_2 n g2) hL hNT l4 h6 hS).2.1 hNT' ha
/-- the class goes on by one tick, where it has not been -/
theorem ad_end (n : Nat) (hn : 40000 < n) {vn : Nat} {Q V : St} {N T e : Nat} {lo : Nat → Nat} {s : St × Rw × (St × (St × (St × (St)))) × (St) × (St) × (Nat → St) × (Nat → St) × (Nat → St × (St))} (h : cI n vn Q V N T e e lo s) (he : e < 60000) (h0 : ¬ sI s.2.2.1.2.2.1 3 = -nI 1) : ∃ s1 : St × Rw × (St × (St × (St × (St)))) × (St) × (St) × (Nat → St) × (Nat → St) × (Nat → St × (St)), df_X11_advance n s = nd_b1 (df_X11_takeScheduled n s1) (fun s14 => some s14) ∧ cI n vn Q V N T (e + 1) (e + 1) lo s1 ∧ (∀ k : Nat, k = 0 ∨ k = 6 ∨ k = 7 → sI s1.1 k = sI s.1 k) ∧ (∀ k : Nat, sO s1.1 k = sO s.1 k) ∧ (∀ r : Nat, ¬ r = 3 → s1.2.1 r = s.2.1 r) ∧ s1.2.2.2.2.2.1 = s.2.2.2.2.2.1 ∧ s1.2.2.2.2.2.2.1 = s.2.2.2.2.2.2.1 := by
  obtain ⟨hV, hL, hs, hP, hce, h3, h4, h5, hA, ⟨cp, sp, at_, ix, hC⟩, hW⟩ := h
  obtain ⟨l1, l2, l3, l4, l5, l6, l7, l8⟩ := id hL
  have h5' : sI s.1 5 = nI N := by rw [h5, l5.2.2 (e + 1) (by omega)]
  obtain ⟨K', c1, c2, c3, c4⟩ := tA_tick n hn (s := s) hA he hP h0
  have hC2 : cC n (nI vn) Q (lgL (evK V) lo) (pR s.1 0 (upd (sR s.1 0) e (sI K'.2.2.1 7)), (s.2.1, (K', s.2.2.2))) cp sp (e + 1) at_ ix := by
    obtain ⟨b1, b2, b3, b4, b5, b6⟩ := hC
    exact ⟨b1, b2, b3, b4, b5, fun i hi => by
      obtain ⟨g1, g2, g3, g4⟩ := b6 i hi
      exact ⟨g1, by omega, g3, g4⟩⟩
  obtain ⟨s3, cp', sp', at', ix', a1, a2, a3, a4, _⟩ := ad_35 n (by omega) hC2 h3 c2 (Nat.le_refl (e + 1)) (by omega)
  obtain ⟨g1, g2, g3, g4, g5, g6, g7, g8, g9⟩ := a3
  have g2 : sR s3.1 0 = upd (sR s.1 0) e (sI K'.2.2.1 7) := g2
  have g5 : s3.2.2.1 = K' := g5
  have fI1 : fI s s3 := ⟨fun k hk => g1 k (by omega) (by omega) (by omega), g3, g4, fun k => by rw [g5]; exact c3 k, g6, g7, g8, g9⟩
  have eL : lo (e + 1) = N := l5.2.2 (e + 1) (by omega)
  have hL' : cLg V N T (e + 1) lo := by
    refine ⟨l1, l2, l3, l4, ⟨l5.1, l5.2.1, fun c hc => l5.2.2 c (by omega)⟩, fun i c hc q1 q2 => ?_, l7, by omega⟩
    by_cases y : c ≤ e
    · exact l6 i c y q1 q2
    · have y : c = e + 1 := by omega
      rw [y, eL] at q1
      rw [y, l5.2.2 (e + 1 + 1) (by omega)] at q2
      omega
  have nil : lgL (evK V) lo (e + 1) = [] := by
    unfold lgL
    rw [eL, l5.2.2 (e + 1 + 1) (by omega), Nat.sub_self]
    rfl
  have tA' : tA n (nI vn) Q (lgL (evK V) lo) (e + 1) K'.2.2 := by
    obtain ⟨M', f1, f2⟩ := tB_A n (by omega) (K := K') c2 (fun x hx => by rw [nil] at hx; exact nomatch hx)
    rw [nil] at f1
    have f1 : some K' = some (K'.1, (K'.2.1, M')) := f1
    injection f1 with f1
    rw [f1]
    exact f2
  have hs' : hsT n (nI vn) Q (lgL (evK V) lo) (e + 1) := by
    refine ⟨fun j hj => ?_, fun j hj => ?_⟩
    · by_cases y : j = e + 1
      · rw [y]; exact ⟨K'.2.2, c2⟩
      · exact hs.1 j (by omega)
    · by_cases y : j = e + 1
      · rw [y]; exact ⟨K'.2.2, tA', fun z => by omega⟩
      · by_cases y' : j = e
        · rw [y']; exact ⟨s.2.2.1.2.2, hA, fun _ => h0⟩
        · obtain ⟨M, m1, m2⟩ := hs.2 j (by omega)
          exact ⟨M, m1, fun z => m2 (by omega)⟩
  have t5 : sI s3.1 5 = nI N := (g1 5 (by omega) (by omega) (by omega)).trans h5'
  have tr : df_X11_takeRecorded n s3 = some s3 := by
    obtain ⟨n1, rfl⟩ : ∃ n1 : Nat, n = n1 + 1 := ⟨n - 1, by omega⟩
    exact (tr_1 (n1 + 1) (eA_f hV fI1) (df_X11_takeRecorded_0 (n1 + 1) n1) (N := N) (i := N) (c := e + 1) (by omega) (by omega) l1 t5 a4).1 (Nat.le_refl N)
  have f4 : ∀ k : Nat, ¬ k = 4 → sI (pI s3.1 4 (nI (e + 1))) k = sI s3.1 k := fun k hk => by rw [nb_II, if_neg hk]
  have fI2 : eA (pI s3.1 4 (nI (e + 1)), s3.2) V := (show eA s3 V from eA_f hV fI1)
  refine ⟨(pI s3.1 4 (nI (e + 1)), s3.2), ?_, ⟨fI2, hL', hs', ?_, Nat.le_refl _, a4, rfl, ?_, ?_, ⟨cp', sp', at', ix', a2⟩, fun k hk => ?_⟩, fun k hk => (f4 k (by omega)).trans (g1 k (by omega) (by omega) (by omega)), g3, g4, g8, g9⟩
  · unfold df_X11_advance df_X11_advance_0
    rw [c1, nb_b1]
    dsimp only
    rw [h3, if_neg (show ¬ (60000 : Int32) ≤ nI e from fun z => by have z : nI 60000 ≤ nI e := z; rw [nI_leI (by omega) (by omega)] at z; omega), nm_ck (by omega) (by omega), nI_clamp (by omega), nb_let, a1]
    unfold df_X11_advance_112
    rw [tr, nb_b1, a4, (g1 4 (by omega) (by omega) (by omega)).trans (show sI (pR s.1 0 _) 4 = nI e from h4), if_neg (show ¬ nI (e + 1) ≤ nI e from fun z => by rw [nI_leI (by omega) (by omega)] at z; omega), nb_let]
    rfl
  · exact (show rPp s3 Q from rPp_f hP fI1)
  · show sI s3.1 5 = nI (lo (e + 1 + 1))
    rw [t5, l5.2.2 (e + 1 + 1) (by omega)]
  · show tA n (nI vn) Q (lgL (evK V) lo) (e + 1) s3.2.2.1.2.2
    rw [g5]; exact tA'
  · show wK n (nI vn) Q (lgL (evK V) lo) k (sR s3.1 0 k)
    rw [g2]
    by_cases d : k = e
    · rw [d, nm_us]
      intro X hX
      obtain ⟨p, w, X', x1, x2, x3, x4, x5, x6, x7⟩ := c4 X hX
      exact ⟨p, w, X', x1, x2, x3, x7⟩
    · rw [nm_un d]; exact hW k (by omega)
