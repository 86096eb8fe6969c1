theorem rM_w {B : Nat} {M X : St × St} (h : rM B M X) (a b : Int32) : rM B M (pI (pI X.1 14 a) 15 b, X.2) := h
theorem sD_w (n : Nat) (hn : 1024 < n) {B : Nat} {M X : St × St} (h : rM B M X) (hs : sD n X) (a b : Int32) : sD n (pI (pI X.1 14 a) 15 b, X.2) := by
  refine ⟨fun q hq e => ?_, hs.2⟩
  obtain ⟨y1, y2⟩ := hs.1 q hq e
  exact ⟨ws_c n hn h (rM_w h a b) hq (fun r hr => Or.inl rfl) e rfl rfl rfl rfl rfl rfl rfl rfl rfl rfl rfl y1, tk_c n hn h hq rfl rfl y2⟩
/-- events come to the reference, one after the other -/
def evR (n : Nat) : List (Nat × Int64 × Int32) → St × St → Option (St × St)
  | [], X => some X
  | e :: l, X => nd_b2 (df_X16_event n (nI e.1) e.2.1 e.2.2 X) (fun _ X' => evR n l X')
/-- and to the class -/
def evC (n : Nat) : List (Nat × Int64 × Int32) → St × (St × (St × St)) → Option (St × (St × (St × St)))
  | [], K => some K
  | e :: l, K => nd_b2 (df_X5_come n (nI e.1) e.2.1 e.2.2 K) (fun _ K' => evC n l K')
/-- the same, while what is watched may change at any place -/
def evW (n : Nat) : List (Nat × Int64 × Int32) → St × St → St × St → Prop
  | [], X, X' => ∃ a b : Int32, X' = (pI (pI X.1 14 a) 15 b, X.2)
  | e :: l, X, X' => ∃ (a b r : Int32) (X1 : St × St), df_X16_event n (nI e.1) e.2.1 e.2.2 (pI (pI X.1 14 a) 15 b, X.2) = some (r, X1) ∧ evW n l X1 X'
theorem wt_id (X : St × St) : (pI (pI X.1 14 (sI X.1 14)) 15 (sI X.1 15), X.2) = X := by rw [nm_i0, nm_i0]
theorem wt_wt (X : St × St) (a b c d : Int32) : (pI (pI (pI (pI X.1 14 a) 15 b) 14 c) 15 d, X.2) = (pI (pI X.1 14 c) 15 d, X.2) := by
  rw [nm_ic (a := 15) (b := 14) (by decide), nm_ii, nm_ii]
theorem evW_of (n : Nat) : ∀ (l : List (Nat × Int64 × Int32)) (X X' : St × St), evR n l X = some X' → evW n l X X'
  | [], X, X', h => by
    cases h
    exact ⟨sI X.1 14, sI X.1 15, (wt_id X).symm⟩
  | e :: l, X, X', h => by
    have h : nd_b2 (df_X16_event n (nI e.1) e.2.1 e.2.2 X) (fun _ X' => evR n l X') = some X' := h
    cases he : df_X16_event n (nI e.1) e.2.1 e.2.2 X with
    | none => rw [he] at h; exact nomatch h
    | some y =>
      obtain ⟨r, X1⟩ := y
      rw [he, nb_b2] at h
      exact ⟨sI X.1 14, sI X.1 15, r, X1, by rw [wt_id]; exact he, evW_of n l X1 X' h⟩
theorem evW_w (n : Nat) : ∀ (l : List (Nat × Int64 × Int32)) (X X' : St × St) (a b : Int32), evW n l X X' → evW n l X (pI (pI X'.1 14 a) 15 b, X'.2)
  | [], X, X', a, b, ⟨c, d, h⟩ => ⟨a, b, by rw [h]; exact wt_wt X c d a b⟩
  | e :: l, X, X', a, b, ⟨c, d, r, X1, h1, h2⟩ => ⟨c, d, r, X1, h1, evW_w n l X1 X' a b h2⟩
theorem evW_a (n : Nat) {x : Nat × Int64 × Int32} {r : Int32} {Y : St × St} : ∀ (l : List (Nat × Int64 × Int32)) (X X' : St × St), evW n l X X' → df_X16_event n (nI x.1) x.2.1 x.2.2 X' = some (r, Y) → evW n (l ++ [x]) X Y
  | [], X, X', ⟨a, b, h⟩, he => ⟨a, b, r, Y, by rw [← h]; exact he, sI Y.1 14, sI Y.1 15, (wt_id Y).symm⟩
  | e :: l, X, X', ⟨a, b, r', X1, h1, h2⟩, he => ⟨a, b, r', X1, h1, evW_a n l X1 X' h2 he⟩
theorem evW_b (n : Nat) {x : Nat × Int64 × Int32} {Y : St × St} : ∀ (l : List (Nat × Int64 × Int32)) (X : St × St), evW n (l ++ [x]) X Y → ∃ (X' Y' : St × St) (r a b : Int32), evW n l X X' ∧ df_X16_event n (nI x.1) x.2.1 x.2.2 X' = some (r, Y') ∧ Y = (pI (pI Y'.1 14 a) 15 b, Y'.2)
  | [], X, ⟨a, b, r, Y', h1, c, d, h2⟩ => ⟨_, Y', r, c, d, ⟨a, b, rfl⟩, h1, h2⟩
  | e :: l, X, ⟨a, b, r, X1, h1, h2⟩ => by
    obtain ⟨X', Y', r', c, d, g1, g2, g3⟩ := evW_b n l X1 h2
    exact ⟨X', Y', r', c, d, ⟨a, b, r, X1, h1, g1⟩, g2, g3⟩
/-- the reference's machines at a count, before that count's events: from any machine, with what was recorded -/
def RB (n : Nat) (v : Int32) (Q : St) (L : Nat → List (Nat × Int64 × Int32)) : Nat → St × St → Prop
  | 0, X => ∃ X0 : St × St, X0.2 = Q ∧ df_X16_boot n v X0 = some X
  | c + 1, X => ∃ (X0 X1 : St × St) (w : Int32), RB n v Q L c X0 ∧ evW n (L c) X0 X1 ∧ df_X16_tick n X1 = some (w, X)
/-- and behind them -/
def RA (n : Nat) (v : Int32) (Q : St) (L : Nat → List (Nat × Int64 × Int32)) (c : Nat) (X : St × St) : Prop := ∃ X0 : St × St, RB n v Q L c X0 ∧ evW n (L c) X0 X
theorem RA_w {n : Nat} {v : Int32} {Q : St} {L : Nat → List (Nat × Int64 × Int32)} {c : Nat} {X : St × St} (h : RA n v Q L c X) (a b : Int32) : RA n v Q L c (pI (pI X.1 14 a) 15 b, X.2) := by
  obtain ⟨X0, h1, h2⟩ := h
  exact ⟨X0, h1, evW_w n _ _ _ a b h2⟩
/-- a machine of the class is tied to all of them -/
def tX (n : Nat) (Q : St) (c : Nat) (M X : St × St) : Prop := rM (512 * c) M X ∧ sD n X ∧ sI X.1 0 = nI c ∧ X.2 = Q
def tB (n : Nat) (v : Int32) (Q : St) (L : Nat → List (Nat × Int64 × Int32)) (c : Nat) (M : St × St) : Prop := (∃ X : St × St, RB n v Q L c X) ∧ ∀ X : St × St, RB n v Q L c X → tX n Q c M X
def tA (n : Nat) (v : Int32) (Q : St) (L : Nat → List (Nat × Int64 × Int32)) (c : Nat) (M : St × St) : Prop := (∃ X : St × St, RA n v Q L c X) ∧ ∀ X : St × St, RA n v Q L c X → tX n Q c M X
theorem RB_c {n : Nat} {v : Int32} {Q : St} {L L' : Nat → List (Nat × Int64 × Int32)} : ∀ {c : Nat}, (∀ k : Nat, k < c → L k = L' k) → ∀ X : St × St, RB n v Q L c X → RB n v Q L' c X
  | 0, _, _, h => h
  | c + 1, hl, _, ⟨X0, X1, w, h1, h2, h3⟩ => ⟨X0, X1, w, RB_c (fun k hk => hl k (by omega)) X0 h1, by rw [← hl c (by omega)]; exact h2, h3⟩
theorem tB_c {n : Nat} {v : Int32} {Q : St} {L L' : Nat → List (Nat × Int64 × Int32)} {c : Nat} (hl : ∀ k : Nat, k < c → L k = L' k) {M : St × St} (h : tB n v Q L c M) : tB n v Q L' c M := by
  obtain ⟨⟨X, hX⟩, h2⟩ := h
  exact ⟨⟨X, RB_c hl X hX⟩, fun Y hY => h2 Y (RB_c (fun k hk => (hl k hk).symm) Y hY)⟩
theorem tA_c {n : Nat} {v : Int32} {Q : St} {L L' : Nat → List (Nat × Int64 × Int32)} {c : Nat} (hl : ∀ k : Nat, k ≤ c → L k = L' k) {M : St × St} (h : tA n v Q L c M) : tA n v Q L' c M := by
  obtain ⟨⟨X, X0, h1, h2⟩, h4⟩ := h
  refine ⟨⟨X, X0, RB_c (fun k hk => hl k (by omega)) X0 h1, by rw [← hl c (by omega)]; exact h2⟩, fun Y hY => h4 Y ?_⟩
  obtain ⟨Y0, g1, g2⟩ := hY
  exact ⟨Y0, RB_c (fun k hk => (hl k (by omega)).symm) Y0 g1, by rw [hl c (by omega)]; exact g2⟩
/-- both begin -/
theorem tB_boot (n : Nat) (hn : 40000 < n) {M : St × St} {P s0 Q : St} {v T Z : Nat} (oy : okY M.2) (hv : v < 4) (pg : rPg P Q v T Z) (L : Nat → List (Nat × Int64 × Int32)) : ∃ M' : St × St, df_X6_start n (s0, (M, P)) = some (s0, (M', P)) ∧ tB n (nI v) Q L 0 M' := by
  obtain ⟨M', X', e1, e2, _⟩ := nk_boot n hn (M := M) (X := (nd_st0, Q)) (P := P) (s0 := s0) oy hv pg
  refine ⟨M', e1, ⟨X', ⟨(nd_st0, Q), rfl, e2⟩⟩, fun X ⟨X0, h0, h1⟩ => ?_⟩
  obtain ⟨M'', X'', g1, g2, g3, g4, g5, g6, g7, g8, g9, g10⟩ := nk_boot n hn (M := M) (X := X0) (P := P) (s0 := s0) oy hv (by rw [h0]; exact pg)
  rw [e1] at g1
  cases g1
  rw [h1] at g2
  cases g2
  exact ⟨g3, ⟨fun q hq e => absurd e (g10 q hq), Or.inr ⟨0, by omega, g8, g9⟩⟩, g5, g4.trans h0⟩
/-- an event, and all that are tied -/
theorem tX_ev (n : Nat) (hn : 1024 < n) {Q : St} {c : Nat} {K : St × (St × (St × St))} {k : Nat} {a : Int64} {b : Int32} (hv : evV k a b) {X : St × St} (h : tX n Q c K.2.2 X) : ∃ (r : Int32) (M' X' : St × St), (r = nI 0 ∨ r = nI 1) ∧ df_X5_come n (nI k) a b K = some (r, (K.1, (K.2.1, M'))) ∧ df_X16_event n (nI k) a b X = some (r, X') ∧ tX n Q c M' X' ∧ sI X'.1 14 = sI X.1 14 ∧ sI X'.1 15 = sI X.1 15 ∧ (r = nI 0 → X' = X) := by
  obtain ⟨h1, h2, h3, h4⟩ := h
  obtain ⟨r, M', X', r1, e1, e2, e3, ⟨k1, k2, k3, k4, k5, k6, k7⟩, _, e6, e7⟩ := nq_event n hn (K := K) h1 h2 hv
  exact ⟨r, M', X', r1, e1, e2, ⟨e3, e6, k2.trans h3, k1.trans h4⟩, k5, k6, e7⟩
theorem tX_w (n : Nat) (hn : 1024 < n) {Q : St} {c : Nat} {M X : St × St} (h : tX n Q c M X) (a b : Int32) : tX n Q c M (pI (pI X.1 14 a) 15 b, X.2) := by
  obtain ⟨w1, w2, w3, w4⟩ := h
  exact ⟨rM_w w1 a b, sD_w n hn w1 w2 a b, w3, w4⟩
theorem tX_evs (n : Nat) (hn : 1024 < n) {Q : St} {c : Nat} : ∀ (l : List (Nat × Int64 × Int32)), (∀ e : Nat × Int64 × Int32, e ∈ l → evV e.1 e.2.1 e.2.2) → ∀ (K : St × (St × (St × St))), (∃ X : St × St, tX n Q c K.2.2 X) → ∃ M' : St × St, evC n l K = some (K.1, (K.2.1, M')) ∧ (∀ X : St × St, tX n Q c K.2.2 X → ∃ X' : St × St, evR n l X = some X' ∧ tX n Q c M' X') ∧ ∀ X X' : St × St, tX n Q c K.2.2 X → evW n l X X' → tX n Q c M' X'
  | [], _, K, _ => ⟨K.2.2, rfl, fun X h => ⟨X, rfl, h⟩, fun X X' h ⟨a, b, e⟩ => by rw [e]; exact tX_w n hn h a b⟩
  | e :: l, hl, K, ⟨X, hX⟩ => by
    have he := hl e (List.mem_cons_self ..)
    obtain ⟨r, M1, X1, r1, e1, e2, e3, _⟩ := tX_ev n hn (K := K) he hX
    obtain ⟨M', f1, f2, f3⟩ := tX_evs n hn l (fun e' he' => hl e' (List.mem_cons_of_mem _ he')) (K.1, (K.2.1, M1)) ⟨X1, e3⟩
    have one : ∀ Y : St × St, tX n Q c K.2.2 Y → ∃ (r' : Int32) (Y1 : St × St), df_X16_event n (nI e.1) e.2.1 e.2.2 Y = some (r', Y1) ∧ tX n Q c M1 Y1 := fun Y hY => by
      obtain ⟨r', M1', Y1, _, g1, g2, g3, _⟩ := tX_ev n hn (K := K) he hY
      rw [e1] at g1
      injection g1 with g1
      injection g1 with _ g1
      injection g1 with _ g1
      injection g1 with _ g1
      subst g1
      exact ⟨r', Y1, g2, g3⟩
    refine ⟨M', ?_, fun Y hY => ?_, fun Y Y' hY hW => ?_⟩
    · show nd_b2 (df_X5_come n (nI e.1) e.2.1 e.2.2 K) _ = _
      rw [e1, nb_b2]
      exact f1
    · obtain ⟨r', Y1, g2, g3⟩ := one Y hY
      obtain ⟨Y', y1, y2⟩ := f2 Y1 g3
      refine ⟨Y', ?_, y2⟩
      show nd_b2 (df_X16_event n (nI e.1) e.2.1 e.2.2 Y) _ = _
      rw [g2, nb_b2]
      exact y1
    · obtain ⟨a, b, r', Y1, h1, h2⟩ := hW
      obtain ⟨r'', Y2, g2, g3⟩ := one _ (tX_w n hn hY a b)
      rw [h1] at g2
      cases g2
      exact f3 Y1 Y' g3 h2
/-- the events of a count -/
theorem tB_A (n : Nat) (hn : 1024 < n) {v : Int32} {Q : St} {L : Nat → List (Nat × Int64 × Int32)} {c : Nat} {K : St × (St × (St × St))} (h : tB n v Q L c K.2.2) (hl : ∀ e : Nat × Int64 × Int32, e ∈ L c → evV e.1 e.2.1 e.2.2) : ∃ M' : St × St, evC n (L c) K = some (K.1, (K.2.1, M')) ∧ tA n v Q L c M' := by
  obtain ⟨⟨X, hX⟩, h2⟩ := h
  obtain ⟨M', f1, f2, f3⟩ := tX_evs n hn (L c) hl K ⟨X, h2 X hX⟩
  refine ⟨M', f1, ?_, fun Y ⟨Y0, y1, y2⟩ => f3 Y0 Y (h2 Y0 y1) y2⟩
  obtain ⟨X', x1, x2⟩ := f2 X (h2 X hX)
  exact ⟨X', X, hX, evW_of n _ _ _ x1⟩
/-- one tick of the class, and of all that are tied -/
theorem tA_tick (n : Nat) (hn : 40000 < n) {v : Int32} {Q : St} {L : Nat → List (Nat × Int64 × Int32)} {c : Nat} {s : St × Rw × (St × (St × (St × (St)))) × (St) × (St) × (Nat → St) × (Nat → St) × (Nat → St × (St))} (h : tA n v Q L c s.2.2.1.2.2) (hc : c < 60000) (hP : rPp s Q) (h0 : ¬ sI s.2.2.1.2.2.1 3 = -nI 1) : ∃ K' : St × (St × (St × St)), df_X5_tick n s = some (s.1, (s.2.1, (K', s.2.2.2))) ∧ tB n v Q L (c + 1) K'.2.2 ∧ (∀ i : Nat, sO K'.1 i = sO s.2.2.1.1 i) ∧ ∀ X : St × St, RA n v Q L c X → ∃ (p : Nat) (w : Int32) (X' : St × St), p < 16 ∧ sI X.1 1 = nI p ∧ df_X16_tick n X = some (w, X') ∧ tX n Q (c + 1) K'.2.2 X' ∧ sI X'.1 14 = sI X.1 14 ∧ sI X'.1 15 = sI X.1 15 ∧ wrR X p (sI K'.2.2.1 7) w := by
  have one : ∀ X : St × St, tX n Q c s.2.2.1.2.2 X → ∃ (K' : St × (St × (St × St))) (p : Nat) (w : Int32) (X' : St × St), df_X5_tick n s = some (s.1, (s.2.1, (K', s.2.2.2))) ∧ (∀ i : Nat, sO K'.1 i = sO s.2.2.1.1 i) ∧ p < 16 ∧ sI X.1 1 = nI p ∧ df_X16_tick n X = some (w, X') ∧ tX n Q (c + 1) K'.2.2 X' ∧ sI X'.1 14 = sI X.1 14 ∧ sI X'.1 15 = sI X.1 15 ∧ wrR X p (sI K'.2.2.1 7) w := fun X ⟨h1, h2, h3, h4⟩ => by
    rcases h2.2 with ⟨z, _⟩ | ⟨p, hp, z1, z2⟩
    · exact absurd (h1.2.2.2.2.1.1.trans z) h0
    · obtain ⟨K', wr, X', e1, e2, e3, e4, ⟨y1, y2, y3, y4⟩, e6, e7⟩ := nq_tick n hn (s := s) (X := X) h1 hp z1 z2 (by rw [h4]; exact hP) (by omega)
      refine ⟨K', p, wr, X', e1, e4, hp, z1, e2, ⟨?_, e7, ?_, y1.trans h4⟩, y3, y4, wrR_c (X := X) (Y := (pI X.1 0 (sI X.1 0 + nI 1), X.2)) rfl rfl e6⟩
      · rw [show 512 * (c + 1) = 512 * c + 512 by omega]
        exact e3
      · have y2 : sI X'.1 0 = sI X.1 0 + nI 1 := y2
        rw [y2, h3, nI_add]
  obtain ⟨⟨X, hX⟩, h2⟩ := h
  obtain ⟨K', p, w, X', e1, e2, e3, e4, e5, e6, e7⟩ := one X (h2 X hX)
  have rest : ∀ Y : St × St, tX n Q c s.2.2.1.2.2 Y → ∃ (p : Nat) (w : Int32) (X' : St × St), p < 16 ∧ sI Y.1 1 = nI p ∧ df_X16_tick n Y = some (w, X') ∧ tX n Q (c + 1) K'.2.2 X' ∧ sI X'.1 14 = sI Y.1 14 ∧ sI X'.1 15 = sI Y.1 15 ∧ wrR Y p (sI K'.2.2.1 7) w := fun Y hY => by
    obtain ⟨K2, p2, w2, Y', g1, _, g3⟩ := one Y hY
    rw [e1] at g1
    injection g1 with g1
    injection g1 with _ g1
    injection g1 with _ g1
    injection g1 with g1 _
    subst g1
    exact ⟨p2, w2, Y', g3⟩
  refine ⟨K', e1, ⟨?_, fun Y hY => ?_⟩, e2, fun Y hY => rest Y (h2 Y hY)⟩
  · obtain ⟨X0, x1, x2⟩ := hX
    exact ⟨X', X0, X, w, x1, x2, e5⟩
  · obtain ⟨Y0, Y1, w', y1, y2, y3⟩ := hY
    obtain ⟨_, w2, Y', _, _, g3, g4, _⟩ := rest _ (h2 _ ⟨Y0, y1, y2⟩)
    rw [y3] at g3
    cases g3
    exact g4
