theorem RA_c {n : Nat} {v : Int32} {Q : St} {L L' : Nat → List (Nat × Int64 × Int32)} {c : Nat} (hl : ∀ k : Nat, k ≤ c → L k = L' k) {X : St × St} (h : RA n v Q L c X) : RA n v Q L' c X := by
  obtain ⟨X0, h1, h2⟩ := h
  exact ⟨X0, RB_c (fun k hk => hl k (by omega)) X0 h1, by rw [← hl c (by omega)]; exact h2⟩
/-- one more event at the last count -/
theorem tA_rec (n : Nat) (hn : 1024 < n) {v : Int32} {Q : St} {L L' : Nat → List (Nat × Int64 × Int32)} {e : Nat} {K : St × (St × (St × St))} {x : Nat × Int64 × Int32} (hl : ∀ k : Nat, k < e → L k = L' k) (he : L' e = L e ++ [x]) (hA : tA n v Q L e K.2.2) (hv : evV x.1 x.2.1 x.2.2) : ∃ (r : Int32) (M' : St × St), (r = nI 0 ∨ r = nI 1) ∧ df_X5_come n (nI x.1) x.2.1 x.2.2 K = some (r, (K.1, (K.2.1, M'))) ∧ tA n v Q L' e M' ∧ (∀ X : St × St, RA n v Q L e X → ∃ X' : St × St, df_X16_event n (nI x.1) x.2.1 x.2.2 X = some (r, X') ∧ RA n v Q L' e X' ∧ sI X'.1 14 = sI X.1 14 ∧ (r = nI 0 → X' = X)) ∧ (r = nI 0 → tA n v Q L e M') := by
  obtain ⟨⟨X, hX⟩, h2⟩ := hA
  obtain ⟨r, M', X', r1, e1, e2, e3, e4, e5, e6⟩ := tX_ev n hn (K := K) hv (h2 X hX)
  have one : ∀ Y : St × St, RA n v Q L e Y → ∃ Y' : St × St, df_X16_event n (nI x.1) x.2.1 x.2.2 Y = some (r, Y') ∧ tX n Q e M' Y' ∧ sI Y'.1 14 = sI Y.1 14 ∧ (r = nI 0 → Y' = Y) := fun Y hY => by
    obtain ⟨r', M1', Y1, _, g1, g2, g3, g4, g5, g6⟩ := tX_ev n hn (K := K) hv (h2 Y hY)
    rw [e1] at g1
    injection g1 with g1
    injection g1 with gr g1
    injection g1 with _ g1
    injection g1 with _ g1
    subst g1 gr
    exact ⟨Y1, g2, g3, g4, g6⟩
  have cl : ∀ (Y Y' : St × St), RA n v Q L e Y → df_X16_event n (nI x.1) x.2.1 x.2.2 Y = some (r, Y') → RA n v Q L' e Y' := fun Y Y' ⟨Y0, y1, y2⟩ hY => by
    refine ⟨Y0, RB_c hl Y0 y1, ?_⟩
    rw [he]
    exact evW_a n (L e) Y0 Y y2 hY
  refine ⟨r, M', r1, e1, ⟨⟨X', cl X X' hX e2⟩, fun Y hY => ?_⟩, fun Y hY => ?_, fun z => ⟨⟨X, hX⟩, fun Y hY => ?_⟩⟩
  · obtain ⟨Y0, y1, y2⟩ := hY
    rw [he] at y2
    obtain ⟨Z, Z', r', a, b, z1, z2, z3⟩ := evW_b n (L e) Y0 y2
    obtain ⟨Z2, w1, w2, _⟩ := one Z ⟨Y0, RB_c (fun k hk => (hl k hk).symm) Y0 y1, z1⟩
    rw [z2] at w1
    cases w1
    rw [z3]
    exact tX_w n hn w2 a b
  · obtain ⟨Y', g1, g2, g3, g4⟩ := one Y hY
    exact ⟨Y', g1, cl Y Y' hY g1, g3, g4⟩
  · obtain ⟨Y', g1, g2, g3, g4⟩ := one Y hY
    have := g4 z
    subst this
    exact g2
theorem evs_s (f : Nat → Nat × Int64 × Int32) : ∀ m i : Nat, evs f i (m + 1) = evs f i m ++ [f (i + m)]
  | 0, i => rfl
  | m + 1, i => by
    show f i :: evs f (i + 1) (m + 1) = f i :: (evs f (i + 1) m ++ [f (i + (m + 1))])
    rw [evs_s f m (i + 1), show i + 1 + m = i + (m + 1) by omega]
theorem evs_c {f g : Nat → Nat × Int64 × Int32} : ∀ m i : Nat, (∀ k : Nat, i ≤ k → k < i + m → f k = g k) → evs f i m = evs g i m
  | 0, _, _ => rfl
  | m + 1, i, h => by
    show f i :: evs f (i + 1) m = g i :: evs g (i + 1) m
    rw [h i (by omega) (by omega), evs_c m (i + 1) (fun k h1 h2 => h k (by omega) (by omega))]
/-- the places of a recording with one event more -/
def loA (lo : Nat → Nat) (e N : Nat) (c : Nat) : Nat := if c ≤ e then lo c else N + 1
theorem okL_a {N e : Nat} {lo : Nat → Nat} (h : okL N e lo) : okL (N + 1) e (loA lo e N) := by
  refine ⟨?_, fun c => ?_, fun c hc => if_neg (by omega)⟩
  · show (if 0 ≤ e then lo 0 else N + 1) = 0
    rw [if_pos (by omega)]; exact h.1
  · show (if c ≤ e then lo c else N + 1) ≤ (if c + 1 ≤ e then lo (c + 1) else N + 1)
    have := okL_N h c
    have := h.2.1 c
    by_cases d : c + 1 ≤ e
    · rw [if_pos d, if_pos (by omega)]; omega
    · rw [if_neg d]
      by_cases d' : c ≤ e
      · rw [if_pos d']; omega
      · rw [if_neg d']; omega
theorem lg_a {f g : Nat → Nat × Int64 × Int32} {N e : Nat} {lo : Nat → Nat} (h : okL N e lo) (hf : ∀ i : Nat, i < N → g i = f i) : (∀ c : Nat, c < e → lgL f lo c = lgL g (loA lo e N) c) ∧ lgL g (loA lo e N) e = lgL f lo e ++ [g N] := by
  have lN := okL_N h
  refine ⟨fun c hc => ?_, ?_⟩
  · unfold lgL loA
    rw [if_pos (show c ≤ e by omega), if_pos (show c + 1 ≤ e by omega)]
    have := lN (c + 1)
    have := h.2.1 c
    exact evs_c _ _ (fun k h1 h2 => (hf k (by omega)).symm)
  · unfold lgL loA
    rw [if_pos (Nat.le_refl e), if_neg (show ¬ e + 1 ≤ e by omega), h.2.2 (e + 1) (by omega)]
    have := lN e
    rw [show N + 1 - lo e = (N - lo e) + 1 by omega, evs_s, show lo e + (N - lo e) = N by omega, evs_c (f := g) (g := f) _ _ (fun k h1 h2 => hf k (by omega))]
/-- the class's recording with one event more -/
def aV (V : St) (N e k : Nat) (a : Int64) (b : Int32) : St := pI (pI (pR (pQ (pQ (pR V 0 (upd (sR V 0) N (nI k))) 0 (vp_updL (sQ V 0) N (nI e).toInt64)) 1 (vp_updL (sQ V 1) N a)) 1 (upd (sR V 1) N b)) 1 (nI (N + 1))) 0 (nI (N + 1))
theorem aV_r (V : St) (N e k : Nat) (a : Int64) (b : Int32) : sR (aV V N e k a b) 0 = upd (sR V 0) N (nI k) ∧ sQ (aV V N e k a b) 0 = vp_updL (sQ V 0) N (nI e).toInt64 ∧ sQ (aV V N e k a b) 1 = vp_updL (sQ V 1) N a ∧ sR (aV V N e k a b) 1 = upd (sR V 1) N b ∧ sI (aV V N e k a b) 0 = nI (N + 1) ∧ sI (aV V N e k a b) 1 = nI (N + 1) := ⟨rfl, rfl, rfl, rfl, rfl, rfl⟩
theorem ul_s {f : Nat → Int64} {i : Nat} {v : Int64} : vp_updL f i v i = v := if_pos rfl
theorem cLg_a {V : St} {N e k : Nat} {lo : Nat → Nat} (h : cLg V N N e lo) (hN : N < 2048) (hk : k < 5) {a : Int64} {b : Int32} (hv : evV k a b) : cLg (aV V N e k a b) (N + 1) (N + 1) e (loA lo e N) := by
  obtain ⟨l1, l2, l3, l4, l5, l6, l7, l8⟩ := h
  obtain ⟨r1, r2, r3, r4, r5, r6⟩ := aV_r V N e k a b
  refine ⟨r5, r6, by omega, by omega, okL_a l5, fun i c hc h1 h2 => ?_, fun i hi => ?_, l8⟩
  · rw [r2]
    have h1 : (if c ≤ e then lo c else N + 1) ≤ i := h1
    have h2 : i < (if c + 1 ≤ e then lo (c + 1) else N + 1) := h2
    rw [if_pos hc] at h1
    by_cases d : c + 1 ≤ e
    · rw [if_pos d] at h2
      have := okL_N l5 (c + 1)
      rw [up_o (by omega)]
      exact l6 i c hc h1 h2
    · rw [if_neg d] at h2
      have ce : c = e := by omega
      by_cases y : i = N
      · rw [y, ul_s, ce]
      · rw [up_o y]
        exact l6 i c hc h1 (by rw [l5.2.2 (c + 1) (by omega)]; omega)
  · rw [r1, r3, r4]
    by_cases y : i = N
    · rw [y, nm_us, ul_s, nm_us]
      exact ⟨k, hk, rfl, hv⟩
    · rw [nm_un y, up_o y, nm_un y]
      exact l7 i (by omega)
theorem ad_3 (n : Nat) {V : St} {N e k : Nat} (hN : N < 2048) (e1 : sI V 1 = nI N) (a : Int64) (b : Int32) : ∃ V1 : St, df_X3_add n (nI k) (nI e).toInt64 a b V = some (nI 1, V1) ∧ sI V1 1 = nI (N + 1) ∧ pI V1 0 (nI (N + 1)) = aV V N e k a b := by
  have u1 : N < 2 ^ 31 := by omega
  refine ⟨pI (pR (pQ (pQ (pR V 0 (upd (sR V 0) N (nI k))) 0 (vp_updL (sQ V 0) N (nI e).toInt64)) 1 (vp_updL (sQ V 1) N a)) 1 (upd (sR V 1) N b)) 1 (nI (N + 1)), ?_, rfl, rfl⟩
  generalize (nI e).toInt64 = t
  simp (disch := (first | assumption | decide | omega)) only [df_X3_add_0, df_X3_add, e1, hN, eq_self, Nat.reduceEqDiff, Nat.reduceLeDiff, nl_0, nl_1, nl_2048, no_1, no_1024, pk_mul, nI_add, nm_ck, nI_clamp, nI_ltI, nI_leI, nI_eq, nb_b2, nb_b1, ↓nb_let, nm_z0, nm_z1, nb_II, nb_IR, nb_RI, nb_RR, nm_IL, nm_IQ, nm_RL, nm_RQ, nm_LI, nm_LR, nm_LL, nm_LQ, nm_QI, nm_QR, nm_QL, nm_QQ, nm_rr, nm_ii, nm_eqm, not_false_eq_true, pk_sub, nm_div, nm_shl, nm_shr, nm_ush, nm_or8, nm_or64, nm_or256, nm_m1, nm_m3, nm_m7, nm_m15, nm_m31, nm_m63, nm_m255, nm_m511, nm_m1023, nm_m2047, nm_m65535, Nat.reduceMod, Nat.reducePow, Nat.reduceAdd, Nat.reduceSub, Nat.reduceMul, nm_bo, nm_bi, nm_rc, nm_ic, nm_ri, nm_rl, nm_rq, nm_ql, nm_qi, nm_li, nm_us, nm_uu, nm_cp, nm_sa31, nm_sa7, nm_m127, nm_m2, nm_nz, nm_nzk, nm_eq32, nm_nzf, if_true, if_false, ↓reduceIte, if_pos, if_neg]
/-- the class takes an event from outside -/
theorem co_1 (n : Nat) (hn : 40000 < n) {vn : Nat} {Q V : St} {N e k : Nat} {lo : Nat → Nat} {s : St × Rw × (St × (St × (St × (St)))) × (St) × (St) × (Nat → St) × (Nat → St) × (Nat → St × (St))} (h : cI n vn Q V N N e e lo s) (hN : N < 2048) (hk : k < 5) {a : Int64} {b : Int32} (hv : evV k a b) : ∃ (r : Int32) (s' : St × Rw × (St × (St × (St × (St)))) × (St) × (St) × (Nat → St) × (Nat → St) × (Nat → St × (St))), (r = nI 0 ∨ r = nI 1) ∧ df_X11_come n (nI k) a b s = some (if r = nI 0 then nI 1 else nI 0, s') ∧ (∀ X : St × St, RA n (nI vn) Q (lgL (evK V) lo) e X → ∃ X' : St × St, df_X16_event n (nI k) a b X = some (r, X') ∧ sI X'.1 14 = sI X.1 14 ∧ (r = nI 0 → X' = X) ∧ (r = nI 1 → RA n (nI vn) Q (lgL (evK (aV V N e k a b)) (loA lo e N)) e X')) ∧ (r = nI 0 → cI n vn Q V N N e e lo s' ∧ fI s s') ∧ (r = nI 1 → cI n vn Q (aV V N e k a b) (N + 1) (N + 1) e e (loA lo e N) s' ∧ ((∀ k : Nat, ¬ k = 5 → sI s'.1 k = sI s.1 k) ∧ (∀ k : Nat, sO s'.1 k = sO s.1 k) ∧ s'.2.1 = s.2.1 ∧ s'.2.2.2.2.2 = s.2.2.2.2.2)) := by
  obtain ⟨hV, hL, hs, hP, hce, h3, h4, h5, hA, ⟨cp, sp, at_, ix, hC⟩, hW⟩ := h
  obtain ⟨l1, l2, l3, l4, l5, l6, l7, l8⟩ := id hL
  have ev : ∀ i : Nat, i < N → evK (aV V N e k a b) i = evK V i := fun i hi => by
    obtain ⟨r1, r2, r3, r4, r5, r6⟩ := aV_r V N e k a b
    unfold evK
    rw [r1, r3, r4, nm_un (by omega), up_o (by omega), nm_un (by omega)]
  have evN : evK (aV V N e k a b) N = (k, a, b) := by
    obtain ⟨r1, r2, r3, r4, r5, r6⟩ := aV_r V N e k a b
    unfold evK
    rw [r1, r3, r4, nm_us, ul_s, nm_us, nI_clamp (by omega)]
  obtain ⟨la, lb⟩ := lg_a (f := evK V) (g := evK (aV V N e k a b)) l5 ev
  rw [evN] at lb
  obtain ⟨r, M', r1, c1, c2, c3, c4⟩ := tA_rec n (by omega) (K := s.2.2.1) (x := (k, a, b)) la lb hA hv
  have c1 : df_X5_come n (nI k) a b s.2.2.1 = some (r, (s.2.2.1.1, (s.2.2.1.2.1, M'))) := c1
  have hs' : hsT n (nI vn) Q (lgL (evK (aV V N e k a b)) (loA lo e N)) e := by
    refine ⟨fun j hj => ?_, fun j hj => ?_⟩
    · obtain ⟨M, hM⟩ := hs.1 j hj
      exact ⟨M, tB_c (fun i hi => la i (by omega)) hM⟩
    · by_cases y : j = e
      · rw [y]; exact ⟨M', c2, fun z => by omega⟩
      · obtain ⟨M, hM, hc⟩ := hs.2 j hj
        exact ⟨M, tA_c (fun i hi => la i (by omega)) hM, hc⟩
  have u1 : N < 2 ^ 31 := by omega
  obtain ⟨V1, a1, a2, a3⟩ := ad_3 n (e := e) (k := k) hN l2 a b
  have k2 : ¬ nI 1 = (0 : Int32) := by decide
  have key : ∃ s' : St × Rw × (St × (St × (St × (St)))) × (St) × (St) × (Nat → St) × (Nat → St) × (Nat → St × (St)), df_X11_come n (nI k) a b s = some (if r = nI 0 then nI 1 else nI 0, s') ∧ (r = nI 0 → s' = (s.1, (s.2.1, ((s.2.2.1.1, (s.2.2.1.2.1, M')), s.2.2.2)))) ∧ (r = nI 1 → s'.1 = pI s.1 5 (nI (N + 1)) ∧ s'.2.1 = s.2.1 ∧ s'.2.2.1 = (s.2.2.1.1, (s.2.2.1.2.1, M')) ∧ eA s' (aV V N e k a b) ∧ s'.2.2.2.2.2 = s.2.2.2.2.2) := by
    rcases hV with ⟨o1, o2⟩ | ⟨o1, o2⟩
    · have A : df_X11_come n (nI k) a b s = if r = (0 : Int32) then some (1, (s.1, (s.2.1, ((s.2.2.1.1, (s.2.2.1.2.1, M')), s.2.2.2)))) else some (0, (pI s.1 5 (nI (N + 1)), (s.2.1, ((s.2.2.1.1, (s.2.2.1.2.1, M')), (aV V N e k a b, s.2.2.2.2))))) := by
        unfold df_X11_come df_X11_come_0
        rw [h3, h4, if_pos rfl, if_pos o1, o2, l2, l1, if_pos (show nI N ≤ nI N by rw [nI_leI u1 u1]; exact Nat.le_refl N), if_pos (show nI N < (2048 : Int32) from (show nI N < nI 2048 by rw [nI_ltI u1 (by omega)]; exact hN)), c1, nb_b2, nb_let]
        by_cases z : r = 0
        · rw [if_pos z, if_pos z]
        · rw [if_neg z, if_neg z]
          dsimp only
          rw [h3, o2, a1, nb_b2, nb_let]
          dsimp only
          rw [a2, nb_let]
          dsimp only
          rw [show sI (pI V1 0 (nI (N + 1))) 0 = nI (N + 1) from rfl, nb_let, a3]
      refine ⟨(if r = (0 : Int32) then (s.1, (s.2.1, ((s.2.2.1.1, (s.2.2.1.2.1, M')), s.2.2.2))) else (pI s.1 5 (nI (N + 1)), (s.2.1, ((s.2.2.1.1, (s.2.2.1.2.1, M')), (aV V N e k a b, s.2.2.2.2))))), ?_, ?_, ?_⟩
      · rw [A]
        by_cases z : r = 0
        · rw [if_pos z, if_pos z, if_pos (show r = nI 0 from z)]; rfl
        · rw [if_neg z, if_neg z, if_neg (show ¬ r = nI 0 from z)]; rfl
      · intro z
        rw [if_pos (show r = 0 from z)]
      · intro z
        rw [if_neg (show ¬ r = 0 by rw [z]; exact k2)]
        exact ⟨rfl, rfl, rfl, Or.inl ⟨o1, rfl⟩, rfl⟩
    · have A : df_X11_come n (nI k) a b s = if r = (0 : Int32) then some (1, (s.1, (s.2.1, ((s.2.2.1.1, (s.2.2.1.2.1, M')), s.2.2.2)))) else some (0, (pI s.1 5 (nI (N + 1)), (s.2.1, ((s.2.2.1.1, (s.2.2.1.2.1, M')), (s.2.2.2.1, (aV V N e k a b, s.2.2.2.2.2)))))) := by
        unfold df_X11_come df_X11_come_0
        rw [h3, h4, if_pos rfl, if_neg (show ¬ sO s.1 0 = some 27 by rw [o1]; decide), if_pos o1, o2, l2, l1, if_pos (show nI N ≤ nI N by rw [nI_leI u1 u1]; exact Nat.le_refl N), if_pos (show nI N < (2048 : Int32) from (show nI N < nI 2048 by rw [nI_ltI u1 (by omega)]; exact hN)), c1, nb_b2, nb_let]
        by_cases z : r = 0
        · rw [if_pos z, if_pos z]
        · rw [if_neg z, if_neg z]
          dsimp only
          rw [h3, o2, a1, nb_b2, nb_let]
          dsimp only
          rw [a2, nb_let]
          dsimp only
          rw [show sI (pI V1 0 (nI (N + 1))) 0 = nI (N + 1) from rfl, nb_let, a3]
      refine ⟨(if r = (0 : Int32) then (s.1, (s.2.1, ((s.2.2.1.1, (s.2.2.1.2.1, M')), s.2.2.2))) else (pI s.1 5 (nI (N + 1)), (s.2.1, ((s.2.2.1.1, (s.2.2.1.2.1, M')), (s.2.2.2.1, (aV V N e k a b, s.2.2.2.2.2)))))), ?_, ?_, ?_⟩
      · rw [A]
        by_cases z : r = 0
        · rw [if_pos z, if_pos z, if_pos (show r = nI 0 from z)]; rfl
        · rw [if_neg z, if_neg z, if_neg (show ¬ r = nI 0 from z)]; rfl
      · intro z
        rw [if_pos (show r = 0 from z)]
      · intro z
        rw [if_neg (show ¬ r = 0 by rw [z]; exact k2)]
        exact ⟨rfl, rfl, rfl, Or.inr ⟨o1, rfl⟩, rfl⟩
  obtain ⟨s', q1, q2, q3⟩ := key
  refine ⟨r, s', r1, q1, fun X hX => ?_, fun z => ?_, fun z => ?_⟩
  · obtain ⟨X', x1, x2, x3, x4⟩ := c3 X hX
    exact ⟨X', x1, x3, x4, fun _ => x2⟩
  · have f0 : fI s (s.1, (s.2.1, ((s.2.2.1.1, (s.2.2.1.2.1, M')), s.2.2.2))) := ⟨fun _ _ => rfl, fun _ => rfl, fun _ _ => rfl, fun _ => rfl, rfl, rfl, rfl, rfl⟩
    rw [q2 z]
    exact ⟨⟨eA_f hV f0, hL, hs, rPp_f hP f0, hce, h3, h4, h5, c4 z, ⟨cp, sp, at_, ix, hC⟩, hW⟩, f0⟩
  · obtain ⟨y1, y2, y3, y4, y5⟩ := q3 z
    have y8 : s'.2.2.2.2.2.1 = s.2.2.2.2.2.1 := congrArg Prod.fst y5
    have y9 : s'.2.2.2.2.2.2.2 = s.2.2.2.2.2.2.2 := congrArg (fun p => p.2.2) y5
    refine ⟨⟨y4, cLg_a hL hN hk hv, hs', ?_, hce, by rw [y1]; exact h3, by rw [y1]; exact h4, ?_, by rw [y3]; exact c2, ⟨cp, sp, at_, ix, ?_⟩, fun j hj => ?_⟩, fun j hj => by rw [y1, nb_II, if_neg hj], fun j => by rw [y1]; rfl, y2, y5⟩
    · obtain ⟨p1, p2⟩ := hP
      refine ⟨by rw [y3]; exact p1, fun j hj => ?_⟩
      rw [y2, y8]
      exact p2 j hj
    · rw [y1]
      show nI (N + 1) = nI (loA lo e N (e + 1))
      rw [show loA lo e N (e + 1) = N + 1 from if_neg (by omega)]
    · obtain ⟨⟨b1, b2, b3, b4, b5, b6⟩, d1, d2, d3, d4, d5⟩ := hC
      refine ⟨⟨b1, b2, by rw [y1]; exact b3, by rw [y1]; exact b4, b5, b6⟩, fun i hi => by rw [y2]; exact d1 i hi, d2, d3, d4, fun i hi => ?_⟩
      obtain ⟨g1, g2, g3, g4⟩ := d5 i hi
      exact ⟨g1, g2, by rw [y1]; exact g3, by rw [y9]; exact tB_c (fun j hj => la j (by omega)) g4⟩
    · rw [y1]
      intro X hX
      exact hW j hj X (RA_c (fun i hi => (la i (by omega)).symm) hX)
