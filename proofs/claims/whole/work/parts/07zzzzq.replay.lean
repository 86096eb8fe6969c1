/-- the reference takes what was read as what is scheduled -/
theorem rp_l (n : Nat) (hn : 70000 < n) {m : Nat} {u : Int64} {V : St} {τ : S19} (hE : rdE m u V τ.2.2.2.1) (h9 : sI τ.1 9 = nI m) : ∃ T1 : St, df_X19_replay_103 n n 0 0 τ = nd_b2 (df_X19_takeScheduled n (T1, τ.2)) (fun q27 s28 => if q27 = 0 then (df_X19_replay_209 n (nI m) 1 s28) else (df_X19_replay_209 n (nI m) 0 s28)) ∧ (∀ i : Nat, i < m → sR T1 8 i = sR V 0 i ∧ sR T1 9 i = sR V 1 i ∧ sQ T1 1 i = sQ V 1 i ∧ sQ T1 2 i = sQ V 0 i) ∧ (∀ j : Nat, sI T1 j = sI τ.1 j) ∧ (∀ j : Nat, ¬ j = 8 → ¬ j = 9 → sR T1 j = sR τ.1 j) ∧ sQ T1 0 = sQ τ.1 0 ∧ ∀ j : Nat, sO T1 j = sO τ.1 j := by
  have m8 := hE.1.1
  obtain ⟨k', T1, ⟨i1, i2, i3, i4, i5⟩, e⟩ := nm_l1 (S := St) (fun g k T1 => df_X19_replay_103 n g (if k = 0 then 0 else sQ V 0 (k - 1)) (nI k) (T1, τ.2)) (fun k T1 => (∀ i : Nat, i < k → sR T1 8 i = sR V 0 i ∧ sR T1 9 i = sR V 1 i ∧ sQ T1 1 i = sQ V 1 i ∧ sQ T1 2 i = sQ V 0 i) ∧ (∀ j : Nat, sI T1 j = sI τ.1 j) ∧ (∀ j : Nat, ¬ j = 8 → ¬ j = 9 → sR T1 j = sR τ.1 j) ∧ sQ T1 0 = sQ τ.1 0 ∧ ∀ j : Nat, sO T1 j = sO τ.1 j) m n (by omega) (fun k g T1 hk ⟨i1, i2, i3, i4, i5⟩ => by
    obtain ⟨_, f2, f3, f4, f5⟩ := hE.2.2.2 k hk
    have u1 : k < 2 ^ 31 := by omega
    have v1 : k < 2048 := by omega
    refine ⟨pR (pQ (pR (pQ T1 2 (vp_updL (sQ T1 2) k (sQ V 0 k))) 8 (upd (sR T1 8) k (sR V 0 k))) 1 (vp_updL (sQ T1 1) k (sQ V 1 k))) 9 (upd (sR T1 9) k (sR V 1 k)), ⟨fun i hi => ?_, fun j => i2 j, fun j j8 j9 => ?_, i4, fun j => i5 j⟩, ?_⟩
    · show upd (sR T1 8) k (sR V 0 k) i = _ ∧ upd (sR T1 9) k (sR V 1 k) i = _ ∧ vp_updL (sQ T1 1) k (sQ V 1 k) i = _ ∧ vp_updL (sQ T1 2) k (sQ V 0 k) i = _
      by_cases y : i = k
      · subst y
        exact ⟨nm_us, nm_us, ul_s, ul_s⟩
      · obtain ⟨a, b, c, d⟩ := i1 i (by omega)
        exact ⟨(nm_un y).trans a, (nm_un y).trans b, (up_o y).trans c, (up_o y).trans d⟩
    · show sR (pR (pQ (pR (pQ T1 2 _) 8 _) 1 _) 9 _) j = _
      rw [nb_RR, if_neg j9, nm_RQ, nb_RR, if_neg j8, nm_RQ]
      exact i3 j j8 j9
    · show dF_X19_replay_103 n (df_X19_replay_103 n g) _ (nI k) (T1, τ.2) = df_X19_replay_103 n g (if k + 1 = 0 then 0 else sQ V 0 (k + 1 - 1)) (nI (k + 1)) _
      generalize df_X19_replay_103 n g = G
      unfold dF_X19_replay_103
      dsimp only
      rw [if_neg (show ¬ k + 1 = 0 by omega), show k + 1 - 1 = k by omega, i2 9, h9, if_neg (show ¬ nI m ≤ nI k from fun z => by rw [nI_leI (by omega) (by omega)] at z; omega), nm_ck v1 u1, nb_let, nm_ck v1 u1, nI_clamp u1, ← f5, nb_let, nm_ck v1 u1, nm_ck v1 u1, nb_let, nm_ck v1 u1, nm_ck v1 u1, nb_let, nm_ck v1 u1, nm_ck v1 u1, nb_let, nb_let, show nI k + Int32.ofInt 1 = nI (k + 1) from nI_add ..]
      dsimp only
      rw [f2, f3, f4]
      rfl) τ.1 ⟨fun i hi => by omega, fun _ => rfl, fun _ _ _ => rfl, rfl, fun _ => rfl⟩
  refine ⟨T1, ?_, i1, i2, i3, i4, i5⟩
  have e : df_X19_replay_103 n n 0 (nI 0) (τ.1, τ.2) = df_X19_replay_103 n (k' + 1) (if m = 0 then 0 else sQ V 0 (m - 1)) (nI m) (T1, τ.2) := e
  refine Eq.trans e ?_
  show dF_X19_replay_103 n (df_X19_replay_103 n k') _ (nI m) (T1, τ.2) = _
  unfold dF_X19_replay_103
  dsimp only
  rw [i2 9, h9, if_pos (show nI m ≤ nI m by rw [nI_leI (by omega) (by omega)]; exact Nat.le_refl m), nb_let]
/-- both start with what was read -/
theorem jm_with (n : Nat) (hn : 70000 < n) {t : S11} {τ : S19} {V : St} {A m : Nat} {u : Int64} (hA : A < 4) (hs : sp2 t) (hV : eA t V) (hV0 : sI V 0 = nI 0) (hE : rdE m u V τ.2.2.2.1) (oy : okY t.2.2.1.2.2.2) (o34 : sO t.2.2.1.1 0 = some 34) {ix : Nat → Nat} (hix : ∀ i : Nat, i < 8 → t.2.1 3 i = some (ix i) ∧ ix i < 8) (hin : ∀ i j : Nat, i < 8 → j < 8 → ix i = ix j → i = j) (hp : rpP (t.2.1 1) t.2.2.2.2.2.1 τ.1 (sR τ.2.1 9)) (hj : ∃ j : Nat, t.2.1 1 A = some j) : ∃ (t' : S11) (τ' : S19), nd_b1 (df_X11_start n (nI A) t) (fun s => nd_b1 (df_X11_takeScheduled n s) (fun s9 => some s9)) = some t' ∧ nd_b1 (df_X19_begin n (nI A) τ) (fun s22 => nd_let (pI s22.1 9 (sI s22.2.2.2.1 0), s22.2) (fun s24 => df_X19_replay_103 n n 0 0 s24)) = some (nI m, τ') ∧ jA n t' τ' ∧ sI τ'.1 0 = sI τ.1 0 ∧ kB t t' ∧ kQ τ τ' := by
  obtain ⟨Q, t1, τ1, q1, q2, q3, q4, q5, q6, q7, q8, q9, qa, qb, qc, qd, qe, qf, qg, qh⟩ := jm_start n hn (Tt := m) hA hV hV0 hE.2.1 hE.1.1 (fun i hi => (hE.2.2.2 i hi).1) oy o34 hix hin hp hj
  have c1 : τ1.2.2.2.1 = τ.2.2.2.1 := congrArg Prod.fst qh.2.2.2.2.2
  have hE1 : rdE m u V (pI τ1.1 9 (nI m), τ1.2).2.2.2.1 := by
    show rdE m u V τ1.2.2.2.1
    rw [c1]; exact hE
  obtain ⟨T1, r1, r2, r3, r4, r5, r6⟩ := rp_l n hn (τ := (pI τ1.1 9 (nI m), τ1.2)) hE1 rfl
  have r3' : ∀ j : Nat, ¬ j = 9 → sI T1 j = sI τ1.1 j := fun j hj => by
    rw [r3 j]
    show sI (pI τ1.1 9 (nI m)) j = _
    rw [nb_II, if_neg hj]
  have evt : ∀ i : Nat, evT T1 i = evT τ1.1 i := fun i => by
    unfold evT
    rw [r4 5 (by omega) (by omega), r4 6 (by omega) (by omega), r5]
    rfl
  have J : jJ n A Q V 0 m 0 (fun _ => 0) t1 (T1, τ1.2) := by
    obtain ⟨l1, l2, l3, l4, l5, l6⟩ := q4
    refine ⟨q3, ⟨(r3' 8 (by omega)).trans l1, l2, l3, fun i c hc a b => absurd (show i < 0 from b) (by omega), fun i hi => by omega, l6⟩, fun i hi => by omega, (r3' 4 (by omega)).trans q6.1, (r3' 6 (by omega)).trans q6.2.2, (r3' 10 (by omega)).trans q8, q7, q9, ⟨?_, fun i hi => ?_⟩⟩
    · rw [r3 9]
      show nI m = nI (m - 0)
      rw [Nat.sub_zero]
    · rw [Nat.zero_add]
      exact r2 i (by omega)
  obtain ⟨al, V', N', T', lo', t', τ', b1, b2, b3, b4, b5, b6, b7⟩ := sc_all n (by omega) m V 0 m (fun _ => 0) t1 (T1, τ1.2) n n (by omega) (by omega) (by have := hE.1.1; omega) (by have := hE.1.1; omega) J
  have b1 : df_X11_takeScheduled n t1 = some t' := b1
  have b2 : df_X19_takeScheduled n (T1, τ1.2) = some (al, τ') := b2
  obtain ⟨z0, z7, zO, zW, zP⟩ := b5
  obtain ⟨f1, f2, f3, f4, f5, f6⟩ := b6
  have f1 : ∀ j : Nat, ¬ j = 8 → ¬ j = 9 → ¬ j = 10 → sI τ'.1 j = sI T1 j := f1
  have p1 : t'.2.2.2.2.2.1 = t1.2.2.2.2.2.1 := congrArg Prod.fst zP
  have p2 : t'.2.2.2.2.2.2.1 = t1.2.2.2.2.2.2.1 := congrArg (fun p => p.2.1) zP
  obtain ⟨y1, y2, y3, y4, y5, y6, y7, y8, y9⟩ := id b3
  obtain ⟨x, hx1, hx2, hx3⟩ : ∃ x : Int32, df_X19_replay_103 n n 0 0 (pI τ1.1 9 (nI m), τ1.2) = some (nI m, (pI τ'.1 11 x, τ'.2)) ∧ sI t'.1 6 = x ∧ okB x := by
    rw [r1]
    show ∃ x : Int32, nd_b2 (df_X19_takeScheduled n (T1, τ1.2)) _ = _ ∧ _
    rw [b2, nb_b2]
    unfold df_X19_replay_209
    rcases b4 with ⟨u1, u2⟩ | ⟨u1, u2⟩
    · refine ⟨nI 0, ?_, u2.trans qb.1, Or.inl rfl⟩
      rw [if_neg (show ¬ al = 0 by rw [u1]; decide)]
      show nd_f .boolean (nI 0) (nd_z .boolean (nI 0) _) = _
      rw [nm_f0, nm_z0, nb_let]
      rfl
    · refine ⟨nI 1, ?_, u2, Or.inr rfl⟩
      rw [if_pos (show al = 0 from u1)]
      show nd_f .boolean (nI 1) (nd_z .boolean (nI 1) _) = _
      rw [nm_f1, nm_z1, nb_let]
      rfl
  have g11 : ∀ j : Nat, ¬ j = 11 → sI (pI τ'.1 11 x) j = sI τ'.1 j := fun j hj => by rw [nb_II, if_neg hj]
  refine ⟨t', (pI τ'.1 11 x, τ'.2), ?_, ?_, ⟨?_, Or.inr ⟨z0.trans qc, ?_, A, Q, V', N', T', 0, 0, 0, lo', y1, y2, y3, q5, ⟨(g11 4 (by omega)).trans y4, ?_, (g11 6 (by omega)).trans y5⟩, Nat.le_refl 0, y7, ?_, y8, ⟨y9.1, y9.2⟩, hx2, hx3⟩⟩, ?_, ⟨z7.trans qf.1, fun r a b => by rw [zW]; exact qf.2.1 r a b, p1.trans qf.2.2.1, p2.trans qf.2.2.2⟩, ⟨fun j hj => ?_, fun j hj => ?_, fun j => ?_, f4.trans qh.2.2.2.1, f5.trans qh.2.2.2.2.1, f6.trans qh.2.2.2.2.2⟩⟩
  · rw [q1, nb_b1, b1, nb_b1]
  · rw [q2, nb_b1, nb_let, c1, hE.2.2.1]
    exact hx1
  · unfold sp2
    rw [zO 0, zO 1, qg 0, qg 1]
    exact hs
  · exact (g11 3 (by omega)).trans ((f1 3 (by omega) (by omega) (by omega)).trans ((r3' 3 (by omega)).trans qd))
  · exact (g11 5 (by omega)).trans ((f1 5 (by omega) (by omega) (by omega)).trans ((r3' 5 (by omega)).trans q6.2.1))
  · refine (g11 10 (by omega)).trans (y6.trans ?_)
    rw [y2.2.2.1.2.2 (0 + 1) (by omega)]
  · exact (g11 0 (by omega)).trans ((f1 0 (by omega) (by omega) (by omega)).trans ((r3' 0 (by omega)).trans qe))
  · exact (g11 j (by omega)).trans ((f1 j (by omega) (by omega) (by omega)).trans ((r3' j (by omega)).trans (qh.1 j hj)))
  · show sR τ'.1 j = _
    rw [f2 j hj]
    show sR T1 j = _
    rw [r4 j (by omega) (by omega)]
    exact qh.2.1 j hj
  · show sO τ'.1 j = _
    rw [f3 j]
    show sO T1 j = _
    rw [r6 j]
    exact qh.2.2.1 j
