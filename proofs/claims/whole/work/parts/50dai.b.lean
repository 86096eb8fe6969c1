theorem rM_w {B : Nat} {M X : St × St} (h : rM B M X) (a b : Int32) : rM B M (pI (pI X.1 14 a) 15 b, X.2) := h
theorem sD_w (n : Nat) (hn : 1024 < n) {B : Nat} {M X : St × St} (h : rM B M X) (hs : sD n X) (a b : Int32) : sD n (pI (pI X.1 14 a) 15 b, X.2) := by
  refine ⟨fun q hq e => ?_, hs.2⟩
  obtain ⟨y1, y2⟩ := hs.1 q hq e
  exact ⟨ws_c n hn h (rM_w h a b) hq (fun r hr => Or.inl rfl) e rfl rfl rfl rfl rfl rfl rfl rfl rfl rfl rfl y1, tk_c n hn h hq rfl rfl y2⟩
/-- events come to the reference, one after the other -/
def evR (n : Nat) : List (Nat × Int64 × Int32) → St × St → Option (St × St)
  | [], X => some X
  | e :: l, X => nd_b2 (df_X16_event n (nI e.1) e.2.1 e.2.2 X) (fun _ X' => evR n l X')
/-- and to the class -/
def evC (n : Nat) : List (Nat × Int64 × Int32) → St × (St × (St × St)) → Option (St × (St × (St × St)))
  | [], K => some K
  | e :: l, K => nd_b2 (df_X5_come n (nI e.1) e.2.1 e.2.2 K) (fun _ K' => evC n l K')
/-- the same, while what is watched may change at any place -/
def evW (n : Nat) : List (Nat × Int64 × Int32) → St × St → St × St → Prop
  | [], X, X' => ∃ a b : Int32, X' = (pI (pI X.1 14 a) 15 b, X.2)
  | e :: l, X, X' => ∃ (a b r : Int32) (X1 : St × St), df_X16_event n (nI e.1) e.2.1 e.2.2 (pI (pI X.1 14 a) 15 b, X.2) = some (r, X1) ∧ evW n l X1 X'
theorem wt_id (X : St × St) : (pI (pI X.1 14 (sI X.1 14)) 15 (sI X.1 15), X.2) = X := by rw [nm_i0, nm_i0]
theorem wt_wt (X : St × St) (a b c d : Int32) : (pI (pI (pI (pI X.1 14 a) 15 b) 14 c) 15 d, X.2) = (pI (pI X.1 14 c) 15 d, X.2) := by
  rw [nm_ic (a := 15) (b := 14) (by decide), nm_ii, nm_ii]
theorem evW_of (n : Nat) : ∀ (l : List (Nat × Int64 × Int32)) (X X' : St × St), evR n l X = some X' → evW n l X X'
  | [], X, X', h => by
    cases h
    exact ⟨sI X.1 14, sI X.1 15, (wt_id X).symm⟩
  | e :: l, X, X', h => by
    have h : nd_b2 (df_X16_event n (nI e.1) e.2.1 e.2.2 X) (fun _ X' => evR n l X') = some X' := h
    cases he : df_X16_event n (nI e.1) e.2.1 e.2.2 X with
    | none => rw [he] at h; exact nomatch h
    | some y =>
      obtain ⟨r, X1⟩ := y
      rw [he, nb_b2] at h
      exact ⟨sI X.1 14, sI X.1 15, r, X1, by rw [wt_id]; exact he, evW_of n l X1 X' h⟩
theorem evW_w (n : Nat) : ∀ (l : List (Nat × Int64 × Int32)) (X X' : St × St) (a b : Int32), evW n l X X' → evW n l X (pI (pI X'.1 14 a) 15 b, X'.2)
  | [], X, X', a, b, ⟨c, d, h⟩ => ⟨a, b, by rw [h]; exact wt_wt X c d a b⟩
  | e :: l, X, X', a, b, ⟨c, d, r, X1, h1, h2⟩ => ⟨c, d, r, X1, h1, evW_w n l X1 X' a b h2⟩
theorem evW_a (n : Nat) {x : Nat × Int64 × Int32} {r : Int32} {Y : St × St} : ∀ (l : List (Nat × Int64 × Int32)) (X X' : St × St), evW n l X X' → df_X16_event n (nI x.1) x.2.1 x.2.2 X' = some (r, Y) → evW n (l ++ [x]) X Y
  | [], X, X', ⟨a, b, h⟩, he => ⟨a, b, r, Y, by rw [← h]; exact he, sI Y.1 14, sI Y.1 15, (wt_id Y).symm⟩
  | e :: l, X, X', ⟨a, b, r', X1, h1, h2⟩, he => ⟨a, b, r', X1, h1, evW_a n l X1 X' h2 he⟩
theorem evW_b (n : Nat) {x : Nat × Int64 × Int32} {Y : St × St} : ∀ (l : List (Nat × Int64 × Int32)) (X : St × St), evW n (l ++ [x]) X Y → ∃ (X' Y' : St × St) (r a b : Int32), evW n l X X' ∧ df_X16_event n (nI x.1) x.2.1 x.2.2 X' = some (r, Y') ∧ Y = (pI (pI Y'.1 14 a) 15 b, Y'.2)
  | [], X, ⟨a, b, r, Y', h1, c, d, h2⟩ => ⟨_, Y', r, c, d, ⟨a, b, rfl⟩, h1, h2⟩
  | e :: l, X, ⟨a, b, r, X1, h1, h2⟩ => by
    obtain ⟨X', Y', r', c, d, g1, g2, g3⟩ := evW_b n l X1 h2
    exact ⟨X', Y', r', c, d, ⟨a, b, r, X1, h1, g1⟩, g2, g3⟩
/-- the reference's machines at a count, before that count's events: from any machine, with what was recorded -/
def RB (n : Nat) (v : Int32) (Q : St) (L : Nat → List (Nat × Int64 × Int32)) : Nat → St × St → Prop
  | 0, X => ∃ X0 : St × St, X0.2 = Q ∧ df_X16_boot n v X0 = some X
  | c + 1, X => ∃ (X0 X1 : St × St) (w : Int32), RB n v Q L c X0 ∧ evW n (L c) X0 X1 ∧ df_X16_tick n X1 = some (w, X)
/-- and behind them -/
def RA (n : Nat) (v : Int32) (Q : St) (L : Nat → List (Nat × Int64 × Int32)) (c : Nat) (X : St × St) : Prop := ∃ X0 : St × St, RB n v Q L c X0 ∧ evW n (L c) X0 X
theorem RA_w {n : Nat} {v : Int32} {Q : St} {L : Nat → List (Nat × Int64 × Int32)} {c : Nat} {X : St × St} (h : RA n v Q L c X) (a b : Int32) : RA n v Q L c (pI (pI X.1 14 a) 15 b, X.2) := by
  obtain ⟨X0, h1, h2⟩ := h
  exact ⟨X0, h1, evW_w n _ _ _ a b h2⟩
/-- a machine of the class is tied to all of them -/
def tX (n : Nat) (Q : St) (c : Nat) (M X : St × St) : Prop := rM (512 * c) M X ∧ sD n X ∧ sI X.1 0 = nI c ∧ X.2 = Q
def tB (n : Nat) (v : Int32) (Q : St) (L : Nat → List (Nat × Int64 × Int32)) (c : Nat) (M : St × St) : Prop := (∃ X : St × St, RB n v Q L c X) ∧ ∀ X : St × St, RB n v Q L c X → tX n Q c M X
def tA (n : Nat) (v : Int32) (Q : St) (L : Nat → List (Nat × Int64 × Int32)) (c : Nat) (M : St × St) : Prop := (∃ X : St × St, RA n v Q L c X) ∧ ∀ X : St × St, RA n v Q L c X → tX n Q c M X
theorem RB_c {n : Nat} {v : Int32} {Q : St} {L L' : Nat → List (Nat × Int64 × Int32)} : ∀ {c : Nat}, (∀ k : Nat, k < c → L k = L' k) → ∀ X : St × St, RB n v Q L c X → RB n v Q L' c X
  | 0, _, _, h => h
  | c + 1, hl, _, ⟨X0, X1, w, h1, h2, h3⟩ => ⟨X0, X1, w, RB_c (fun k hk => hl k (by omega)) X0 h1, by rw [← hl c (by omega)]; exact h2, h3⟩
theorem tB_c {n : Nat} {v : Int32} {Q : St} {L L' : Nat → List (Nat × Int64 × Int32)} {c : Nat} (hl : ∀ k : Nat, k < c → L k = L' k) {M : St × St} (h : tB n v Q L c M) : tB n v Q L' c M := by
  obtain ⟨⟨X, hX⟩, h2⟩ := h
  exact ⟨⟨X, RB_c hl X hX⟩, fun Y hY => h2 Y (RB_c (fun k hk => (hl k hk).symm) Y hY)⟩
theorem tA_c {n : Nat} {v : Int32} {Q : St} {L L' : Nat → List (Nat × Int64 × Int32)} {c : Nat} (hl : ∀ k : Nat, k ≤ c → L k = L' k) {M : St × St} (h : tA n v Q L c M) : tA n v Q L' c M := by
  obtain ⟨⟨X, X0, h1, h2⟩, h4⟩ := h
  refine ⟨⟨X, X0, RB_c (fun k hk => hl k (by omega)) X0 h1, by rw [← hl c (by omega)]; exact h2⟩, fun Y hY => h4 Y ?_⟩
  obtain ⟨Y0, g1, g2⟩ := hY
  exact ⟨Y0, RB_c (fun k hk => (hl k (by omega)).symm) Y0 g1, by rw [hl c (by omega)]; exact g2⟩
/-- both begin -/
theorem tB_boot (n : Nat) (hn : 40000 < n) {M : St × St} {P s0 Q : St} {v T Z : Nat} (oy : okY M.2) (hv : v < 4) (pg : rPg P Q v T Z) (L : Nat → List (Nat × Int64 × Int32)) : ∃ M' : St × St, df_X6_start n (s0, (M, P)) = some (s0, (M', P)) ∧ tB n (nI v) Q L 0 M' := by
  obtain ⟨M', X', e1, e2, _⟩ := nk_boot n hn (M := M) (X := (nd_st0, Q)) (P := P) (s0 := s0) oy hv pg
  refine ⟨M', e1, ⟨X', ⟨(nd_st0, Q), rfl, e2⟩⟩, fun X ⟨X0, h0, h1⟩ => ?_⟩
  obtain ⟨M'', X'', g1, g2, g3, g4, g5, g6, g7, g8, g9, g10⟩ := nk_boot n hn (M := M) (X := X0) (P := P) (s0 := s0) oy hv (by rw [h0]; exact pg)
  rw [e1] at g1
  cases g1
  rw [h1] at g2
  cases g2
  exact ⟨g3, ⟨fun q hq e => absurd e (g10 q hq), Or.inr ⟨0, by omega, g8, g9⟩⟩, g5, g4.trans h0⟩
/-- an event, and all that are tied -/
theorem tX_ev (n : Nat) (hn : 1024 < n) {Q : St} {c : Nat} {K : St × (St × (St × St))} {k : Nat} {a : Int64} {b : Int32} (hv : evV k a b) {X : St × St} (h : tX n Q c K.2.2 X) : ∃ (r : Int32) (M' X' : St × St), (r = nI 0 ∨ r = nI 1) ∧ df_X5_come n (nI k) a b K = some (r, (K.1, (K.2.1, M'))) ∧ df_X16_event n (nI k) a b X = some (r, X') ∧ tX n Q c M' X' ∧ sI X'.1 14 = sI X.1 14 ∧ sI X'.1 15 = sI X.1 15 ∧ (r = nI 0 → X' = X) := by
  obtain ⟨h1, h2, h3, h4⟩ := h
  obtain ⟨r, M', X', r1, e1, e2, e3, ⟨k1, k2, k3, k4, k5, k6, k7⟩, _, e6, e7⟩ := nq_event n hn (K := K) h1 h2 hv
  exact ⟨r, M', X', r1, e1, e2, ⟨e3, e6, k2.trans h3, k1.trans h4⟩, k5, k6, e7⟩
theorem tX_w (n : Nat) (hn : 1024 < n) {Q : St} {c : Nat} {M X : St × St} (h : tX n Q c M X) (a b : Int32) : tX n Q c M (pI (pI X.1 14 a) 15 b, X.2) := by
  obtain ⟨w1, w2, w3, w4⟩ := h
  exact ⟨rM_w w1 a b, sD_w n hn w1 w2 a b, w3, w4⟩
theorem tX_evs (n : Nat) (hn : 1024 < n) {Q : St} {c : Nat} : ∀ (l : List (Nat × Int64 × Int32)), (∀ e : Nat × Int64 × Int32, e ∈ l → evV e.1 e.2.1 e.2.2) → ∀ (K : St × (St × (St × St))), (∃ X : St × St, tX n Q c K.2.2 X) → ∃ M' : St × St, evC n l K = some (K.1, (K.2.1, M')) ∧ (∀ X : St × St, tX n Q c K.2.2 X → ∃ X' : St × St, evR n l X = some X' ∧ tX n Q c M' X') ∧ ∀ X X' : St × St, tX n Q c K.2.2 X → evW n l X X' → tX n Q c M' X'
  | [], _, K, _ => ⟨K.2.2, rfl, fun X h => ⟨X, rfl, h⟩, fun X X' h ⟨a, b, e⟩ => by rw [e]; exact tX_w n hn h a b⟩
  | e :: l, hl, K, ⟨X, hX⟩ => by
    have he := hl e (List.mem_cons_self ..)
    obtain ⟨r, M1, X1, r1, e1, e2, e3, _⟩ := tX_ev n hn (K := K) he hX
    obtain ⟨M', f1, f2, f3⟩ := tX_evs n hn l (fun e' he' => hl e' (List.mem_cons_of_mem _ he')) (K.1, (K.2.1, M1)) ⟨X1, e3⟩
    have one : ∀ Y : St × St, tX n Q c K.2.2 Y → ∃ (r' : Int32) (Y1 : St × St), df_X16_event n (nI e.1) e.2.1 e.2.2 Y = some (r', Y1) ∧ tX n Q c M1 Y1 := fun Y hY => by
      obtain ⟨r', M1', Y1, _, g1, g2, g3, _⟩ := tX_ev n hn (K := K) he hY
      rw [e1] at g1
      injection g1 with g1
      injection g1 with _ g1
      injection g1 with _ g1
      injection g1 with _ g1
      subst g1
      exact ⟨r', Y1, g2, g3⟩
    refine ⟨M', ?_, fun Y hY => ?_, fun Y Y' hY hW => ?_⟩
    · show nd_b2 (df_X5_come n (nI e.1) e.2.1 e.2.2 K) _ = _
      rw [e1, nb_b2]
      exact f1
    · obtain ⟨r', Y1, g2, g3⟩ := one Y hY
      obtain ⟨Y', y1, y2⟩ := f2 Y1 g3
      refine ⟨Y', ?_, y2⟩
      show nd_b2 (df_X16_event n (nI e.1) e.2.1 e.2.2 Y) _ = _
      rw [g2, nb_b2]
      exact y1
    · obtain ⟨a, b, r', Y1, h1, h2⟩ := hW
      obtain ⟨r'', Y2, g2, g3⟩ := one _ (tX_w n hn hY a b)
      rw [h1] at g2
      cases g2
      exact f3 Y1 Y' g3 h2
/-- the events of a count -/
theorem tB_A (n : Nat) (hn : 1024 < n) {v : Int32} {Q : St} {L : Nat → List (Nat × Int64 × Int32)} {c : Nat} {K : St × (St × (St × St))} (h : tB n v Q L c K.2.2) (hl : ∀ e : Nat × Int64 × Int32, e ∈ L c → evV e.1 e.2.1 e.2.2) : ∃ M' : St × St, evC n (L c) K = some (K.1, (K.2.1, M')) ∧ tA n v Q L c M' := by
  obtain ⟨⟨X, hX⟩, h2⟩ := h
  obtain ⟨M', f1, f2, f3⟩ := tX_evs n hn (L c) hl K ⟨X, h2 X hX⟩
  refine ⟨M', f1, ?_, fun Y ⟨Y0, y1, y2⟩ => f3 Y0 Y (h2 Y0 y1) y2⟩
  obtain ⟨X', x1, x2⟩ := f2 X (h2 X hX)
  exact ⟨X', X, hX, evW_of n _ _ _ x1⟩
/-- one tick of the class, and of all that are tied -/
theorem tA_tick (n : Nat) (hn : 40000 < n) {v : Int32} {Q : St} {L : Nat → List (Nat × Int64 × Int32)} {c : Nat} {s : St × Rw × (St × (St × (St × (St)))) × (St) × (St) × (Nat → St) × (Nat → St) × (Nat → St × (St))} (h : tA n v Q L c s.2.2.1.2.2) (hc : c < 60000) (hP : rPp s Q) (h0 : ¬ sI s.2.2.1.2.2.1 3 = -nI 1) : ∃ K' : St × (St × (St × St)), df_X5_tick n s = some (s.1, (s.2.1, (K', s.2.2.2))) ∧ tB n v Q L (c + 1) K'.2.2 ∧ (∀ i : Nat, sO K'.1 i = sO s.2.2.1.1 i) ∧ ∀ X : St × St, RA n v Q L c X → ∃ (p : Nat) (w : Int32) (X' : St × St), p < 16 ∧ sI X.1 1 = nI p ∧ df_X16_tick n X = some (w, X') ∧ tX n Q (c + 1) K'.2.2 X' ∧ sI X'.1 14 = sI X.1 14 ∧ sI X'.1 15 = sI X.1 15 ∧ wrR X p (sI K'.2.2.1 7) w := by
  have one : ∀ X : St × St, tX n Q c s.2.2.1.2.2 X → ∃ (K' : St × (St × (St × St))) (p : Nat) (w : Int32) (X' : St × St), df_X5_tick n s = some (s.1, (s.2.1, (K', s.2.2.2))) ∧ (∀ i : Nat, sO K'.1 i = sO s.2.2.1.1 i) ∧ p < 16 ∧ sI X.1 1 = nI p ∧ df_X16_tick n X = some (w, X') ∧ tX n Q (c + 1) K'.2.2 X' ∧ sI X'.1 14 = sI X.1 14 ∧ sI X'.1 15 = sI X.1 15 ∧ wrR X p (sI K'.2.2.1 7) w := fun X ⟨h1, h2, h3, h4⟩ => by
    rcases h2.2 with ⟨z, _⟩ | ⟨p, hp, z1, z2⟩
    · exact absurd (h1.2.2.2.2.1.1.trans z) h0
    · obtain ⟨K', wr, X', e1, e2, e3, e4, ⟨y1, y2, y3, y4⟩, e6, e7⟩ := nq_tick n hn (s := s) (X := X) h1 hp z1 z2 (by rw [h4]; exact hP) (by omega)
      refine ⟨K', p, wr, X', e1, e4, hp, z1, e2, ⟨?_, e7, ?_, y1.trans h4⟩, y3, y4, wrR_c (X := X) (Y := (pI X.1 0 (sI X.1 0 + nI 1), X.2)) rfl rfl e6⟩
      · rw [show 512 * (c + 1) = 512 * c + 512 by omega]
        exact e3
      · have y2 : sI X'.1 0 = sI X.1 0 + nI 1 := y2
        rw [y2, h3, nI_add]
  obtain ⟨⟨X, hX⟩, h2⟩ := h
  obtain ⟨K', p, w, X', e1, e2, e3, e4, e5, e6, e7⟩ := one X (h2 X hX)
  have rest : ∀ Y : St × St, tX n Q c s.2.2.1.2.2 Y → ∃ (p : Nat) (w : Int32) (X' : St × St), p < 16 ∧ sI Y.1 1 = nI p ∧ df_X16_tick n Y = some (w, X') ∧ tX n Q (c + 1) K'.2.2 X' ∧ sI X'.1 14 = sI Y.1 14 ∧ sI X'.1 15 = sI Y.1 15 ∧ wrR Y p (sI K'.2.2.1 7) w := fun Y hY => by
    obtain ⟨K2, p2, w2, Y', g1, _, g3⟩ := one Y hY
    rw [e1] at g1
    injection g1 with g1
    injection g1 with _ g1
    injection g1 with _ g1
    injection g1 with g1 _
    subst g1
    exact ⟨p2, w2, Y', g3⟩
  refine ⟨K', e1, ⟨?_, fun Y hY => ?_⟩, e2, fun Y hY => rest Y (h2 Y hY)⟩
  · obtain ⟨X0, x1, x2⟩ := hX
    exact ⟨X', X0, X, w, x1, x2, e5⟩
  · obtain ⟨Y0, Y1, w', y1, y2, y3⟩ := hY
    obtain ⟨_, w2, Y', _, _, g3, g4, _⟩ := rest _ (h2 _ ⟨Y0, y1, y2⟩)
    rw [y3] at g3
    cases g3
    exact g4

/-- an event of the reference's recording -/
def evT (T : St) (i : Nat) : Nat × Int64 × Int32 := (Int32.toNatClampNeg (sR T 5 i), sQ T 0 i, sR T 6 i)
def evs (f : Nat → Nat × Int64 × Int32) : Nat → Nat → List (Nat × Int64 × Int32)
  | _, 0 => []
  | i, m + 1 => f i :: evs f (i + 1) m
/-- the events of a count: those between two places of the recording -/
def lgL (f : Nat → Nat × Int64 × Int32) (lo : Nat → Nat) (c : Nat) : List (Nat × Int64 × Int32) := evs f (lo c) (lo (c + 1) - lo c)
theorem evs_m {f : Nat → Nat × Int64 × Int32} {e : Nat × Int64 × Int32} : ∀ (m i : Nat), e ∈ evs f i m → ∃ k : Nat, i ≤ k ∧ k < i + m ∧ e = f k
  | 0, _, h => nomatch h
  | m + 1, i, h => by
    rcases List.mem_cons.mp h with z | z
    · exact ⟨i, by omega, by omega, z⟩
    · obtain ⟨k, h1, h2, h3⟩ := evs_m m (i + 1) z
      exact ⟨k, by omega, by omega, h3⟩
/-- places of a recording of N events up to a count -/
def okL (N e : Nat) (lo : Nat → Nat) : Prop := lo 0 = 0 ∧ (∀ c : Nat, lo c ≤ lo (c + 1)) ∧ (∀ c : Nat, e < c → lo c = N)
theorem okL_le {N e : Nat} {lo : Nat → Nat} (h : okL N e lo) : ∀ (c d : Nat), c ≤ d → lo c ≤ lo d := fun c d => by
  induction d with
  | zero => intro z; have : c = 0 := by omega
            rw [this]; exact Nat.le_refl _
  | succ d ih =>
    intro z
    by_cases y : c = d + 1
    · rw [y]; exact Nat.le_refl _
    · exact Nat.le_trans (ih (by omega)) (h.2.1 d)
theorem okL_N {N e : Nat} {lo : Nat → Nat} (h : okL N e lo) (c : Nat) : lo c ≤ N := by
  by_cases y : e < c
  · rw [h.2.2 c y]; exact Nat.le_refl _
  · have := okL_le h c (e + 1) (by omega)
    rw [h.2.2 (e + 1) (by omega)] at this
    exact this
/-- which count an event is of -/
theorem okL_at {N e : Nat} {lo : Nat → Nat} (h : okL N e lo) {i : Nat} (hi : i < N) : ∀ (m c : Nat), c + m = e + 1 → lo c ≤ i → ∃ c' : Nat, c ≤ c' ∧ c' ≤ e ∧ lo c' ≤ i ∧ i < lo (c' + 1)
  | 0, c, hc, h1 => by
    have := h.2.2 c (by omega)
    omega
  | m + 1, c, hc, h1 => by
    by_cases y : i < lo (c + 1)
    · exact ⟨c, by omega, by omega, h1, y⟩
    · obtain ⟨c', g1, g2, g3, g4⟩ := okL_at h hi m (c + 1) (by omega) (by omega)
      exact ⟨c', by omega, g2, g3, g4⟩
/-- the reference's recording -/
def rLg (T : St) (N e : Nat) (lo : Nat → Nat) : Prop := sI T 8 = nI N ∧ N ≤ 2048 ∧ okL N e lo ∧ (∀ i c : Nat, c ≤ e → lo c ≤ i → i < lo (c + 1) → sR T 7 i = nI c) ∧ (∀ i : Nat, i < N → ∃ k : Nat, k < 5 ∧ sR T 5 i = nI k ∧ evV k (sQ T 0 i) (sR T 6 i)) ∧ e ≤ 60000
theorem rLg_v {T : St} {N e : Nat} {lo : Nat → Nat} (h : rLg T N e lo) (c : Nat) : ∀ x : Nat × Int64 × Int32, x ∈ lgL (evT T) lo c → evV x.1 x.2.1 x.2.2 := fun x hx => by
  obtain ⟨k, h1, h2, h3⟩ := evs_m _ _ hx
  have l1 := okL_N h.2.2.1 (c + 1)
  have l2 := h.2.2.1.2.1 c
  obtain ⟨kk, k5, e1, e2⟩ := h.2.2.2.2.1 k (by omega)
  rw [h3]
  show evV (Int32.toNatClampNeg (sR T 5 k)) (sQ T 0 k) (sR T 6 k)
  rw [e1, nI_clamp (by omega)]
  exact e2
/-- the reference takes what is recorded of a count -/
theorem rf_rec (n : Nat) (hn : 1024 < n) {Q : St} {N e c : Nat} {lo : Nat → Nat} (hc : c ≤ e) : ∀ (m i g : Nat) (τ : S19) (K : St × (St × (St × St))), m < g → i + m = lo (c + 1) → lo c ≤ i → rLg τ.1 N e lo → sI τ.1 10 = nI i → tX n Q c K.2.2 τ.2.2.1.2 → ∃ M' X' : St × St, evC n (evs (evT τ.1) i m) K = some (K.1, (K.2.1, M')) ∧ evR n (evs (evT τ.1) i m) τ.2.2.1.2 = some X' ∧ tX n Q c M' X' ∧ sI X'.1 14 = sI τ.2.2.1.2.1 14 ∧ sI X'.1 15 = sI τ.2.2.1.2.1 15 ∧ df_X19_takeRecorded_0 n g τ = some (pI τ.1 10 (nI (lo (c + 1))), (τ.2.1, ((τ.2.2.1.1, X'), τ.2.2.2)))
  | 0, i, g, τ, K, hg, hi, h1, hL, ht, hX => by
    refine ⟨K.2.2, τ.2.2.1.2, rfl, rfl, hX, rfl, rfl, ?_⟩
    obtain ⟨l1, l2, l3, l4, l5, l6⟩ := hL
    obtain ⟨g', rfl⟩ : ∃ g' : Nat, g = g' + 1 := ⟨g - 1, by omega⟩
    have ln := okL_N l3 (c + 1)
    have e0 : (pI τ.1 10 (nI (lo (c + 1))), (τ.2.1, ((τ.2.2.1.1, τ.2.2.1.2), τ.2.2.2))) = τ := by
      rw [← hi, Nat.add_zero, ← ht, nm_i0]
    rw [e0, show df_X19_takeRecorded_0 n (g' + 1) = dF_X19_takeRecorded_0 n (df_X19_takeRecorded_0 n g') from rfl]
    generalize df_X19_takeRecorded_0 n g' = G
    have hi : i = lo (c + 1) := by omega
    have u1 : i < 2 ^ 31 := by omega
    have u2 : N < 2 ^ 31 := by omega
    by_cases y : N ≤ i
    · unfold dF_X19_takeRecorded_0
      rw [l1, ht, if_pos (by rw [nI_leI u2 u1]; exact y)]
      rfl
    · obtain ⟨c', g1, g2, g3, g4⟩ := okL_at l3 (show i < N by omega) (e - c) (c + 1) (by omega) (by omega)
      have w := l4 i c' g2 g3 g4
      have nw : df_X16_now n τ.2.2.1.2 = some (nI c, τ.2.2.1.2) := by
        unfold df_X16_now df_X16_now_0
        rw [hX.2.2.1]
      unfold dF_X19_takeRecorded_0
      rw [l1, ht, if_neg (fun z => by rw [nI_leI u2 u1] at z; exact y z), nm_ck (by omega) u1, nI_clamp u1, nw, nb_b2, nb_let, w, if_neg (fun z => by have := nm_inI (by omega) (by omega) z; omega)]
      rfl
  | m + 1, i, g, τ, K, hg, hi, h1, hL, ht, hX => by
    obtain ⟨l1, l2, l3, l4, l5, l6⟩ := id hL
    obtain ⟨g', rfl⟩ : ∃ g' : Nat, g = g' + 1 := ⟨g - 1, by omega⟩
    have ln := okL_N l3 (c + 1)
    have w := l4 i c hc h1 (by omega)
    obtain ⟨k, k5, ek, ev⟩ := l5 i (by omega)
    obtain ⟨r, M1, X1, _, a1, a2, a3, a4, a5, _⟩ := tX_ev n hn (K := K) ev hX
    have hL' : rLg (pI τ.1 10 (nI (i + 1))) N e lo := hL
    obtain ⟨M', X', b1, b2, b3, b4, b5, b6⟩ := rf_rec n hn hc m (i + 1) g' (pI τ.1 10 (nI (i + 1)), (τ.2.1, ((τ.2.2.1.1, X1), τ.2.2.2))) (K.1, (K.2.1, M1)) (by omega) (by omega) (by omega) hL' rfl a3
    have b1 : evC n (evs (evT τ.1) (i + 1) m) (K.1, (K.2.1, M1)) = some (K.1, (K.2.1, M')) := b1
    have b2 : evR n (evs (evT τ.1) (i + 1) m) X1 = some X' := b2
    have b4 : sI X'.1 14 = sI X1.1 14 := b4
    have b5 : sI X'.1 15 = sI X1.1 15 := b5
    have ee : evT τ.1 i = (k, sQ τ.1 0 i, sR τ.1 6 i) := by
      unfold evT
      rw [ek, nI_clamp (by omega)]
    refine ⟨M', X', ?_, ?_, b3, b4.trans a4, b5.trans a5, ?_⟩
    · show nd_b2 (df_X5_come n (nI (evT τ.1 i).1) (evT τ.1 i).2.1 (evT τ.1 i).2.2 K) _ = _
      rw [ee]
      show nd_b2 (df_X5_come n (nI k) (sQ τ.1 0 i) (sR τ.1 6 i) K) _ = _
      rw [a1, nb_b2]
      exact b1
    · show nd_b2 (df_X16_event n (nI (evT τ.1 i).1) (evT τ.1 i).2.1 (evT τ.1 i).2.2 τ.2.2.1.2) _ = _
      rw [ee]
      show nd_b2 (df_X16_event n (nI k) (sQ τ.1 0 i) (sR τ.1 6 i) τ.2.2.1.2) _ = _
      rw [a2, nb_b2]
      exact b2
    · rw [show df_X19_takeRecorded_0 n (g' + 1) = dF_X19_takeRecorded_0 n (df_X19_takeRecorded_0 n g') from rfl]
      have u1 : i < 2 ^ 31 := by omega
      have u2 : N < 2 ^ 31 := by omega
      have nw : df_X16_now n τ.2.2.1.2 = some (nI c, τ.2.2.1.2) := by
        unfold df_X16_now df_X16_now_0
        rw [hX.2.2.1]
      have b6 : df_X19_takeRecorded_0 n g' (pI τ.1 10 (nI (i + 1)), (τ.2.1, ((τ.2.2.1.1, X1), τ.2.2.2))) = some (pI (pI τ.1 10 (nI (i + 1))) 10 (nI (lo (c + 1))), (τ.2.1, ((τ.2.2.1.1, X'), τ.2.2.2))) := b6
      rw [nm_ii] at b6
      generalize df_X19_takeRecorded_0 n g' = G at b6
      unfold dF_X19_takeRecorded_0
      rw [l1, ht, if_neg (fun z => by rw [nI_leI u2 u1] at z; omega), nm_ck (by omega) u1, nI_clamp u1, nw, nb_b2, nb_let, w, if_pos rfl]
      dsimp only
      rw [ht, nm_ck (by omega) u1, nm_ck (by omega) u1, nm_ck (by omega) u1, nI_clamp u1]
      rw [ek, a2, nb_b2, nb_let]
      dsimp only
      rw [ht, nb_let, show nI i + 1 = nI (i + 1) from nI_add ..]
      exact b6

/-- what was reached up to a count -/
def hsT (n : Nat) (v : Int32) (Q : St) (L : Nat → List (Nat × Int64 × Int32)) (e : Nat) : Prop := (∀ k : Nat, k ≤ e → ∃ M : St × St, tB n v Q L k M) ∧ ∀ k : Nat, k ≤ e → ∃ M : St × St, tA n v Q L k M ∧ (k < e → ¬ sI M.1 3 = -nI 1)
theorem RA_n {n : Nat} {v : Int32} {Q : St} {L : Nat → List (Nat × Int64 × Int32)} {e k : Nat} (hs : hsT n v Q L e) (hk : k ≤ e) {X : St × St} (hX : RA n v Q L k X) : sI X.1 0 = nI k ∧ X.2 = Q := by
  obtain ⟨M, h1, _⟩ := hs.2 k hk
  obtain ⟨_, _, h3, h4⟩ := h1.2 X hX
  exact ⟨h3, h4⟩
/-- the reference's tick, and what is recorded of the next count -/
theorem rf_tick (n : Nat) (hn : 40000 < n) {v : Int32} {Q : St} {N e k : Nat} {lo : Nat → Nat} {τ : S19} {s : St × Rw × (St × (St × (St × (St)))) × (St) × (St) × (Nat → St) × (Nat → St) × (Nat → St × (St))} (hs : hsT n v Q (lgL (evT τ.1) lo) e) (hP : rPp s Q) (hL : rLg τ.1 N e lo) (hk : k < e) (hX : RA n v Q (lgL (evT τ.1) lo) k τ.2.2.1.2) (ht : sI τ.1 10 = nI (lo (k + 1))) : ∃ (w : Int32) (X1 X' : St × St), df_X16_tick n τ.2.2.1.2 = some (w, X1) ∧ df_X19_tick n τ = some (w, (pI τ.1 10 (nI (lo (k + 2))), (τ.2.1, ((τ.2.2.1.1, X'), τ.2.2.2)))) ∧ RA n v Q (lgL (evT τ.1) lo) (k + 1) X' ∧ sI X'.1 14 = sI τ.2.2.1.2.1 14 ∧ sI X'.1 15 = sI τ.2.2.1.2.1 15 := by
  obtain ⟨M, hM, hcur⟩ := hs.2 k (by omega)
  have e6 := hL.2.2.2.2.2
  obtain ⟨K', c1, c2, c3, c4⟩ := tA_tick n hn (s := (s.1, (s.2.1, ((s.2.2.1.1, (s.2.2.1.2.1, M)), s.2.2.2)))) hM (by omega) hP (hcur hk)
  obtain ⟨p, w, X1, x1, x2, x3, x4, x5, x6, x7⟩ := c4 _ hX
  have rb : RB n v Q (lgL (evT τ.1) lo) (k + 1) X1 := by
    obtain ⟨Y0, y1, y2⟩ := hX
    exact ⟨Y0, _, w, y1, y2, x3⟩
  have l1 := hL.2.2.1.2.1 (k + 1)
  have l2 := okL_N hL.2.2.1 (k + 2)
  have l3 := hL.2.1
  obtain ⟨M', X', a1, a2, a3, a4, a5, a6⟩ := rf_rec n (by omega) (show k + 1 ≤ e by omega) (lo (k + 2) - lo (k + 1)) (lo (k + 1)) n (τ.1, (τ.2.1, ((τ.2.2.1.1, X1), τ.2.2.2))) K' (by omega) (show lo (k + 1) + (lo (k + 2) - lo (k + 1)) = lo (k + 2) by have l1 : lo (k + 1) ≤ lo (k + 2) := l1; omega) (Nat.le_refl _) hL ht x4
  have a2 : evR n (lgL (evT τ.1) lo (k + 1)) X1 = some X' := a2
  have a4 : sI X'.1 14 = sI X1.1 14 := a4
  have a5 : sI X'.1 15 = sI X1.1 15 := a5
  refine ⟨w, X1, X', x3, ?_, ⟨X1, rb, evW_of n _ _ _ a2⟩, a4.trans x5, a5.trans x6⟩
  have a6 : df_X19_takeRecorded n (τ.1, (τ.2.1, ((τ.2.2.1.1, X1), τ.2.2.2))) = some (pI τ.1 10 (nI (lo (k + 2))), (τ.2.1, ((τ.2.2.1.1, X'), τ.2.2.2))) := a6
  unfold df_X19_tick df_X19_tick_0
  rw [x3, nb_b2, nb_let, a6, nb_b1]
  rcases okB_wr x7 with z | z
  · rw [z]; exact nm_z0
  · rw [z]; exact nm_z1
theorem okY_0 : okY nd_st0 := ⟨fun _ _ => (show fits .byte (.int 0) = true by decide), fun _ _ => (show fits .byte (.int 0) = true by decide), fun _ _ => (show fits .byte (.int 0) = true by decide), fun _ _ => (show fits .byte (.int 0) = true by decide), fun _ _ => (show fits .byte (.int 0) = true by decide)⟩
/-- the reference begins anew -/
theorem rf_anew (n : Nat) (hn : 40000 < n) {Q : St} {N e vn T Z : Nat} {lo : Nat → Nat} {τ : S19} {P : St} (hv : vn < 4) (pg : rPg P Q vn T Z) (hs : hsT n (nI vn) Q (lgL (evT τ.1) lo) e) (hL : rLg τ.1 N e lo) (h4 : sI τ.1 4 = nI vn) (hQ : τ.2.2.1.2.2 = Q) : ∃ X' : St × St, df_X19_anew n τ = some (pI τ.1 10 (nI (lo 1)), (τ.2.1, ((τ.2.2.1.1, X'), τ.2.2.2))) ∧ RA n (nI vn) Q (lgL (evT τ.1) lo) 0 X' ∧ sI X'.1 14 = -nI 1 := by
  obtain ⟨M0, X0, _, e2, _, _, _, e14, _⟩ := nk_boot n hn (M := (nd_st0, nd_st0)) (X := τ.2.2.1.2) (P := P) (s0 := nd_st0) okY_0 hv (by rw [hQ]; exact pg)
  have rb : RB n (nI vn) Q (lgL (evT τ.1) lo) 0 X0 := ⟨τ.2.2.1.2, hQ, e2⟩
  obtain ⟨M, hM⟩ := hs.1 0 (by omega)
  have x4 := hM.2 X0 rb
  have l1 := hL.2.2.1.1
  have l2 := okL_N hL.2.2.1 1
  have l3 := hL.2.1
  obtain ⟨M', X', a1, a2, a3, a4, a5, a6⟩ := rf_rec n (by omega) (show 0 ≤ e by omega) (lo 1 - lo 0) (lo 0) n (pI τ.1 10 (nI 0), (τ.2.1, ((τ.2.2.1.1, X0), τ.2.2.2))) (nd_st0, (nd_st0, M)) (by omega) (show lo 0 + (lo 1 - lo 0) = lo 1 by rw [l1]; omega) (Nat.le_refl _) hL (show nI 0 = nI (lo 0) by rw [l1]) x4
  have a2 : evR n (lgL (evT τ.1) lo 0) X0 = some X' := a2
  have a4 : sI X'.1 14 = sI X0.1 14 := a4
  refine ⟨X', ?_, ⟨X0, rb, evW_of n _ _ _ a2⟩, a4.trans e14⟩
  have a6 : df_X19_takeRecorded n (pI τ.1 10 (nI 0), (τ.2.1, ((τ.2.2.1.1, X0), τ.2.2.2))) = some (pI (pI τ.1 10 (nI 0)) 10 (nI (lo 1)), (τ.2.1, ((τ.2.2.1.1, X'), τ.2.2.2))) := a6
  rw [nm_ii] at a6
  have a6 : df_X19_takeRecorded n (pI τ.1 10 0, (τ.2.1, ((τ.2.2.1.1, X0), τ.2.2.2))) = some (pI τ.1 10 (nI (lo 1)), (τ.2.1, ((τ.2.2.1.1, X'), τ.2.2.2))) := a6
  unfold df_X19_anew df_X19_anew_0
  rw [h4, e2, nb_b1, nb_let, nb_let, a6, nb_b1]
/-- the reference goes on to a count -/
theorem rf_go (n : Nat) (hn : 40000 < n) {v : Int32} {Q : St} {N e c : Nat} {lo : Nat → Nat} {s : St × Rw × (St × (St × (St × (St)))) × (St) × (St) × (Nat → St) × (Nat → St) × (Nat → St × (St))} (hP : rPp s Q) (hc : c ≤ e) : ∀ (m k g : Nat) (τ : S19), m < g → k + m = c → hsT n v Q (lgL (evT τ.1) lo) e → rLg τ.1 N e lo → RA n v Q (lgL (evT τ.1) lo) k τ.2.2.1.2 → sI τ.1 10 = nI (lo (k + 1)) → ∃ X' : St × St, df_X19_come_15 n g (nI c) τ = some (pI τ.1 10 (nI (lo (c + 1))), (τ.2.1, ((τ.2.2.1.1, X'), τ.2.2.2))) ∧ RA n v Q (lgL (evT τ.1) lo) c X' ∧ sI X'.1 14 = sI τ.2.2.1.2.1 14 ∧ sI X'.1 15 = sI τ.2.2.1.2.1 15
  | 0, k, g, τ, hg, hk, hs, hL, hX, ht => by
    obtain ⟨g', rfl⟩ : ∃ g' : Nat, g = g' + 1 := ⟨g - 1, by omega⟩
    have hk : k = c := by omega
    subst hk
    have e6 := hL.2.2.2.2.2
    have x0 := (RA_n hs hc hX).1
    have nw : df_X16_now n τ.2.2.1.2 = some (nI k, τ.2.2.1.2) := by
      unfold df_X16_now df_X16_now_0
      rw [x0]
    refine ⟨τ.2.2.1.2, ?_, hX, rfl, rfl⟩
    rw [show df_X19_come_15 n (g' + 1) = dF_X19_come_15 n (df_X19_come_15 n g') from rfl]
    unfold dF_X19_come_15
    rw [nw, nb_b2, nb_let, if_pos (by rw [nI_leI (by omega) (by omega)]; exact Nat.le_refl k), ← ht, nm_i0]
  | m + 1, k, g, τ, hg, hk, hs, hL, hX, ht => by
    obtain ⟨g', rfl⟩ : ∃ g' : Nat, g = g' + 1 := ⟨g - 1, by omega⟩
    have e6 := hL.2.2.2.2.2
    have x0 := (RA_n hs (show k ≤ e by omega) hX).1
    have nw : df_X16_now n τ.2.2.1.2 = some (nI k, τ.2.2.1.2) := by
      unfold df_X16_now df_X16_now_0
      rw [x0]
    obtain ⟨w, X1, X2, t1, t2, t3, t4, t5⟩ := rf_tick n hn hs hP hL (show k < e by omega) hX ht
    obtain ⟨X', g1, g2, g3, g4⟩ := rf_go n hn hP hc m (k + 1) g' (pI τ.1 10 (nI (lo (k + 2))), (τ.2.1, ((τ.2.2.1.1, X2), τ.2.2.2))) (by omega) (by omega) hs hL t3 rfl
    have g1 : df_X19_come_15 n g' (nI c) (pI τ.1 10 (nI (lo (k + 2))), (τ.2.1, ((τ.2.2.1.1, X2), τ.2.2.2))) = some (pI (pI τ.1 10 (nI (lo (k + 2)))) 10 (nI (lo (c + 1))), (τ.2.1, ((τ.2.2.1.1, X'), τ.2.2.2))) := g1
    rw [nm_ii] at g1
    have g3 : sI X'.1 14 = sI X2.1 14 := g3
    have g4 : sI X'.1 15 = sI X2.1 15 := g4
    refine ⟨X', ?_, g2, g3.trans t4, g4.trans t5⟩
    rw [show df_X19_come_15 n (g' + 1) = dF_X19_come_15 n (df_X19_come_15 n g') from rfl]
    generalize df_X19_come_15 n g' = G at g1
    unfold dF_X19_come_15
    rw [nw, nb_b2, nb_let, if_neg (fun z => by rw [nI_leI (by omega) (by omega)] at z; omega)]
    rw [show (τ.1, (τ.2.1, ((τ.2.2.1.1, τ.2.2.1.2), τ.2.2.2))) = τ from rfl, t2, nb_b2]
    exact g1
/-- the reference comes to a count, from wherever it is -/
theorem rf_come (n : Nat) (hn : 70000 < n) {Q : St} {N e c k vn T Z : Nat} {lo : Nat → Nat} {τ : S19} {P : St} {s : St × Rw × (St × (St × (St × (St)))) × (St) × (St) × (Nat → St) × (Nat → St) × (Nat → St × (St))} (hP : rPp s Q) (hv : vn < 4) (pg : rPg P Q vn T Z) (hs : hsT n (nI vn) Q (lgL (evT τ.1) lo) e) (hL : rLg τ.1 N e lo) (h4 : sI τ.1 4 = nI vn) (hc : c ≤ e) (hk : k ≤ e) (hX : RA n (nI vn) Q (lgL (evT τ.1) lo) k τ.2.2.1.2) (ht : sI τ.1 10 = nI (lo (k + 1))) (h14 : sI τ.2.2.1.2.1 14 = -nI 1) : ∃ X' : St × St, df_X19_come n (nI c) τ = some (pI τ.1 10 (nI (lo (c + 1))), (τ.2.1, ((τ.2.2.1.1, X'), τ.2.2.2))) ∧ RA n (nI vn) Q (lgL (evT τ.1) lo) c X' ∧ sI X'.1 14 = -nI 1 := by
  have e6 := hL.2.2.2.2.2
  obtain ⟨x0, xQ⟩ := RA_n hs hk hX
  have nw : df_X16_now n τ.2.2.1.2 = some (nI k, τ.2.2.1.2) := by
    unfold df_X16_now df_X16_now_0
    rw [x0]
  by_cases y : k ≤ c
  · obtain ⟨X', g1, g2, g3, _⟩ := rf_go n (by omega) hP hc (c - k) k n τ (by omega) (by omega) hs hL hX ht
    refine ⟨X', ?_, g2, g3.trans h14⟩
    unfold df_X19_come df_X19_come_0
    rw [nw, nb_b2, nb_let, if_pos (by rw [nI_leI (by omega) (by omega)]; exact y)]
    exact g1
  · obtain ⟨X1, a1, a2, a3⟩ := rf_anew n (by omega) hv pg hs hL h4 xQ
    obtain ⟨X', g1, g2, g3, _⟩ := rf_go n (by omega) hP hc c 0 n (pI τ.1 10 (nI (lo 1)), (τ.2.1, ((τ.2.2.1.1, X1), τ.2.2.2))) (by omega) (by omega) hs hL a2 rfl
    have g1 : df_X19_come_15 n n (nI c) (pI τ.1 10 (nI (lo 1)), (τ.2.1, ((τ.2.2.1.1, X1), τ.2.2.2))) = some (pI (pI τ.1 10 (nI (lo 1))) 10 (nI (lo (c + 1))), (τ.2.1, ((τ.2.2.1.1, X'), τ.2.2.2))) := g1
    rw [nm_ii] at g1
    have g3 : sI X'.1 14 = sI X1.1 14 := g3
    refine ⟨X', ?_, g2, g3.trans a3⟩
    unfold df_X19_come df_X19_come_0
    rw [nw, nb_b2, nb_let, if_neg (fun z => by rw [nI_leI (by omega) (by omega)] at z; omega)]
    rw [show (τ.1, (τ.2.1, ((τ.2.2.1.1, τ.2.2.1.2), τ.2.2.2))) = τ from rfl, a1, nb_b1]
    exact g1

theorem va_0 {f g : Nat → Int32} {k i : Nat} (h : i < k) : va_cpy f g 0 0 k i = f i := by
  rw [va_i (by omega), Nat.sub_zero, Nat.zero_add]
theorem fa_id {α : Type} {f : Nat → Int32} {k : Nat} {x : Option α} (h : ∀ i : Nat, i < k → fb8 (f i)) : nd_fa .byte f 0 k x = x := if_pos (fun i hi => by rw [Nat.zero_add]; exact h i hi)
/-- things become others: row by row -/
def bcD (A B : St) : St := pL (pR (pI (pR (pR (pR (pR (pR (pR (pR (pR A 0 (va_cpy (sR B 0) (sR A 0) 0 0 256)) 1 (va_cpy (sR B 1) (sR A 1) 0 0 240)) 2 (va_cpy (sR B 2) (sR A 2) 0 0 32)) 3 (va_cpy (sR B 3) (sR A 3) 0 0 4096)) 4 (va_cpy (sR B 4) (sR A 4) 0 0 48)) 5 (va_cpy (sR B 5) (sR A 5) 0 0 8192)) 6 (va_cpy (sR B 6) (sR A 6) 0 0 256)) 7 (va_cpy (sR B 7) (sR A 7) 0 0 512)) 0 (sI B 0)) 8 (va_cpy (sR B 8) (sR A 8) 0 0 2048)) 0 (sL B 0)
theorem cp_id {α : Type} {a b k n m : Nat} {x : Option α} (h1 : a + k ≤ n) (h2 : b + k ≤ m) (h3 : n < 2 ^ 31) (h4 : m < 2 ^ 31) : nd_cp (nI a) (nI b) (nI k) n m x = x := nm_cp h1 h2 h3 h4
theorem tn_k {k : Nat} (h : k < 2 ^ 31) : Int32.toNatClampNeg (nI k) = k := nI_clamp h
theorem bc_D (n : Nat) {A B s0 : St} (h : okY B) : df_X10_become n (s0, (A, B)) = some (s0, (bcD A B, B)) := by
  obtain ⟨h3, h5, h6, h7, h8⟩ := h
  have z0 : Int32.toNatClampNeg (0 : Int32) = 0 := tn_k (k := 0) (by omega)
  have z256 : Int32.toNatClampNeg (256 : Int32) = 256 := tn_k (k := 256) (by omega)
  have z240 : Int32.toNatClampNeg (240 : Int32) = 240 := tn_k (k := 240) (by omega)
  have z32 : Int32.toNatClampNeg (32 : Int32) = 32 := tn_k (k := 32) (by omega)
  have z4096 : Int32.toNatClampNeg (4096 : Int32) = 4096 := tn_k (k := 4096) (by omega)
  have z48 : Int32.toNatClampNeg (48 : Int32) = 48 := tn_k (k := 48) (by omega)
  have z8192 : Int32.toNatClampNeg (8192 : Int32) = 8192 := tn_k (k := 8192) (by omega)
  have z512 : Int32.toNatClampNeg (512 : Int32) = 512 := tn_k (k := 512) (by omega)
  have z2048 : Int32.toNatClampNeg (2048 : Int32) = 2048 := tn_k (k := 2048) (by omega)
  have c256 : ∀ {α : Type} (x : Option α), nd_cp 0 0 256 256 256 x = x := fun x => cp_id (a := 0) (b := 0) (k := 256) (by omega) (by omega) (by omega) (by omega)
  have c240 : ∀ {α : Type} (x : Option α), nd_cp 0 0 240 240 240 x = x := fun x => cp_id (a := 0) (b := 0) (k := 240) (by omega) (by omega) (by omega) (by omega)
  have c32 : ∀ {α : Type} (x : Option α), nd_cp 0 0 32 32 32 x = x := fun x => cp_id (a := 0) (b := 0) (k := 32) (by omega) (by omega) (by omega) (by omega)
  have c4096 : ∀ {α : Type} (x : Option α), nd_cp 0 0 4096 4096 4096 x = x := fun x => cp_id (a := 0) (b := 0) (k := 4096) (by omega) (by omega) (by omega) (by omega)
  have c48 : ∀ {α : Type} (x : Option α), nd_cp 0 0 48 48 48 x = x := fun x => cp_id (a := 0) (b := 0) (k := 48) (by omega) (by omega) (by omega) (by omega)
  have c8192 : ∀ {α : Type} (x : Option α), nd_cp 0 0 8192 8192 8192 x = x := fun x => cp_id (a := 0) (b := 0) (k := 8192) (by omega) (by omega) (by omega) (by omega)
  have c512 : ∀ {α : Type} (x : Option α), nd_cp 0 0 512 512 512 x = x := fun x => cp_id (a := 0) (b := 0) (k := 512) (by omega) (by omega) (by omega) (by omega)
  have c2048 : ∀ {α : Type} (x : Option α), nd_cp 0 0 2048 2048 2048 x = x := fun x => cp_id (a := 0) (b := 0) (k := 2048) (by omega) (by omega) (by omega) (by omega)
  have f3 : ∀ {α : Type} (x : Option α), nd_fa .byte (sR B 3) 0 4096 x = x := fun x => fa_id h3
  have f5 : ∀ {α : Type} (x : Option α), nd_fa .byte (sR B 5) 0 8192 x = x := fun x => fa_id h5
  have f6 : ∀ {α : Type} (x : Option α), nd_fa .byte (sR B 6) 0 256 x = x := fun x => fa_id h6
  have f7 : ∀ {α : Type} (x : Option α), nd_fa .byte (sR B 7) 0 512 x = x := fun x => fa_id h7
  have f8 : ∀ {α : Type} (x : Option α), nd_fa .byte (sR B 8) 0 2048 x = x := fun x => fa_id h8
  unfold df_X10_become df_X10_become_0
  rw [z0, z256, z240, z32, z4096, z48, z8192, z512, z2048]
  rw [c256, nb_let, c240, nb_let, c32, nb_let, c4096, f3, nb_let, c48, nb_let, c8192, f5, nb_let, c256, f6, nb_let, c512, f7, nb_let, nb_let, c2048, f8, nb_let, nb_let]
  rfl

theorem bcD_r (A B : St) : (∀ i : Nat, i < 256 → sR (bcD A B) 0 i = sR B 0 i) ∧ (∀ i : Nat, i < 240 → sR (bcD A B) 1 i = sR B 1 i) ∧ (∀ i : Nat, i < 32 → sR (bcD A B) 2 i = sR B 2 i) ∧ (∀ i : Nat, i < 4096 → sR (bcD A B) 3 i = sR B 3 i) ∧ (∀ i : Nat, i < 48 → sR (bcD A B) 4 i = sR B 4 i) ∧ (∀ i : Nat, i < 8192 → sR (bcD A B) 5 i = sR B 5 i) ∧ (∀ i : Nat, i < 256 → sR (bcD A B) 6 i = sR B 6 i) ∧ (∀ i : Nat, i < 512 → sR (bcD A B) 7 i = sR B 7 i) ∧ (∀ i : Nat, i < 2048 → sR (bcD A B) 8 i = sR B 8 i) ∧ sI (bcD A B) 0 = sI B 0 ∧ sL (bcD A B) 0 = sL B 0 := by
  have r0 : sR (bcD A B) 0 = va_cpy (sR B 0) (sR A 0) 0 0 256 := by simp (disch := (first | assumption | decide | omega)) only [bcD, eq_self, Nat.reduceEqDiff, Nat.reduceLeDiff, no_1, no_1024, pk_mul, nI_add, nm_ck, nI_clamp, nI_ltI, nI_leI, nI_eq, nb_b2, nb_b1, ↓nb_let, nm_z0, nm_z1, nb_II, nb_IR, nb_RI, nb_RR, nm_IL, nm_IQ, nm_RL, nm_RQ, nm_LI, nm_LR, nm_LL, nm_LQ, nm_QI, nm_QR, nm_QL, nm_QQ, nm_rr, nm_ii, nm_eqm, not_false_eq_true, pk_sub, nm_div, nm_shl, nm_shr, nm_ush, nm_or8, nm_or64, nm_or256, nm_m1, nm_m3, nm_m7, nm_m15, nm_m31, nm_m63, nm_m255, nm_m511, nm_m1023, nm_m2047, nm_m65535, Nat.reduceMod, Nat.reducePow, Nat.reduceAdd, Nat.reduceSub, Nat.reduceMul, nm_bo, nm_bi, nm_rc, nm_ic, nm_ri, nm_rl, nm_rq, nm_ql, nm_qi, nm_li, nm_us, nm_uu, nm_cp, nm_sa31, nm_sa7, nm_m127, nm_m2, nm_nz, nm_nzk, nm_eq32, nm_nzf, if_true, if_false, ↓reduceIte, if_pos, if_neg]
  have r1 : sR (bcD A B) 1 = va_cpy (sR B 1) (sR A 1) 0 0 240 := by simp (disch := (first | assumption | decide | omega)) only [bcD, eq_self, Nat.reduceEqDiff, Nat.reduceLeDiff, no_1, no_1024, pk_mul, nI_add, nm_ck, nI_clamp, nI_ltI, nI_leI, nI_eq, nb_b2, nb_b1, ↓nb_let, nm_z0, nm_z1, nb_II, nb_IR, nb_RI, nb_RR, nm_IL, nm_IQ, nm_RL, nm_RQ, nm_LI, nm_LR, nm_LL, nm_LQ, nm_QI, nm_QR, nm_QL, nm_QQ, nm_rr, nm_ii, nm_eqm, not_false_eq_true, pk_sub, nm_div, nm_shl, nm_shr, nm_ush, nm_or8, nm_or64, nm_or256, nm_m1, nm_m3, nm_m7, nm_m15, nm_m31, nm_m63, nm_m255, nm_m511, nm_m1023, nm_m2047, nm_m65535, Nat.reduceMod, Nat.reducePow, Nat.reduceAdd, Nat.reduceSub, Nat.reduceMul, nm_bo, nm_bi, nm_rc, nm_ic, nm_ri, nm_rl, nm_rq, nm_ql, nm_qi, nm_li, nm_us, nm_uu, nm_cp, nm_sa31, nm_sa7, nm_m127, nm_m2, nm_nz, nm_nzk, nm_eq32, nm_nzf, if_true, if_false, ↓reduceIte, if_pos, if_neg]
  have r2 : sR (bcD A B) 2 = va_cpy (sR B 2) (sR A 2) 0 0 32 := by simp (disch := (first | assumption | decide | omega)) only [bcD, eq_self, Nat.reduceEqDiff, Nat.reduceLeDiff, no_1, no_1024, pk_mul, nI_add, nm_ck, nI_clamp, nI_ltI, nI_leI, nI_eq, nb_b2, nb_b1, ↓nb_let, nm_z0, nm_z1, nb_II, nb_IR, nb_RI, nb_RR, nm_IL, nm_IQ, nm_RL, nm_RQ, nm_LI, nm_LR, nm_LL, nm_LQ, nm_QI, nm_QR, nm_QL, nm_QQ, nm_rr, nm_ii, nm_eqm, not_false_eq_true, pk_sub, nm_div, nm_shl, nm_shr, nm_ush, nm_or8, nm_or64, nm_or256, nm_m1, nm_m3, nm_m7, nm_m15, nm_m31, nm_m63, nm_m255, nm_m511, nm_m1023, nm_m2047, nm_m65535, Nat.reduceMod, Nat.reducePow, Nat.reduceAdd, Nat.reduceSub, Nat.reduceMul, nm_bo, nm_bi, nm_rc, nm_ic, nm_ri, nm_rl, nm_rq, nm_ql, nm_qi, nm_li, nm_us, nm_uu, nm_cp, nm_sa31, nm_sa7, nm_m127, nm_m2, nm_nz, nm_nzk, nm_eq32, nm_nzf, if_true, if_false, ↓reduceIte, if_pos, if_neg]
  have r3 : sR (bcD A B) 3 = va_cpy (sR B 3) (sR A 3) 0 0 4096 := by simp (disch := (first | assumption | decide | omega)) only [bcD, eq_self, Nat.reduceEqDiff, Nat.reduceLeDiff, no_1, no_1024, pk_mul, nI_add, nm_ck, nI_clamp, nI_ltI, nI_leI, nI_eq, nb_b2, nb_b1, ↓nb_let, nm_z0, nm_z1, nb_II, nb_IR, nb_RI, nb_RR, nm_IL, nm_IQ, nm_RL, nm_RQ, nm_LI, nm_LR, nm_LL, nm_LQ, nm_QI, nm_QR, nm_QL, nm_QQ, nm_rr, nm_ii, nm_eqm, not_false_eq_true, pk_sub, nm_div, nm_shl, nm_shr, nm_ush, nm_or8, nm_or64, nm_or256, nm_m1, nm_m3, nm_m7, nm_m15, nm_m31, nm_m63, nm_m255, nm_m511, nm_m1023, nm_m2047, nm_m65535, Nat.reduceMod, Nat.reducePow, Nat.reduceAdd, Nat.reduceSub, Nat.reduceMul, nm_bo, nm_bi, nm_rc, nm_ic, nm_ri, nm_rl, nm_rq, nm_ql, nm_qi, nm_li, nm_us, nm_uu, nm_cp, nm_sa31, nm_sa7, nm_m127, nm_m2, nm_nz, nm_nzk, nm_eq32, nm_nzf, if_true, if_false, ↓reduceIte, if_pos, if_neg]
  have r4 : sR (bcD A B) 4 = va_cpy (sR B 4) (sR A 4) 0 0 48 := by simp (disch := (first | assumption | decide | omega)) only [bcD, eq_self, Nat.reduceEqDiff, Nat.reduceLeDiff, no_1, no_1024, pk_mul, nI_add, nm_ck, nI_clamp, nI_ltI, nI_leI, nI_eq, nb_b2, nb_b1, ↓nb_let, nm_z0, nm_z1, nb_II, nb_IR, nb_RI, nb_RR, nm_IL, nm_IQ, nm_RL, nm_RQ, nm_LI, nm_LR, nm_LL, nm_LQ, nm_QI, nm_QR, nm_QL, nm_QQ, nm_rr, nm_ii, nm_eqm, not_false_eq_true, pk_sub, nm_div, nm_shl, nm_shr, nm_ush, nm_or8, nm_or64, nm_or256, nm_m1, nm_m3, nm_m7, nm_m15, nm_m31, nm_m63, nm_m255, nm_m511, nm_m1023, nm_m2047, nm_m65535, Nat.reduceMod, Nat.reducePow, Nat.reduceAdd, Nat.reduceSub, Nat.reduceMul, nm_bo, nm_bi, nm_rc, nm_ic, nm_ri, nm_rl, nm_rq, nm_ql, nm_qi, nm_li, nm_us, nm_uu, nm_cp, nm_sa31, nm_sa7, nm_m127, nm_m2, nm_nz, nm_nzk, nm_eq32, nm_nzf, if_true, if_false, ↓reduceIte, if_pos, if_neg]
  have r5 : sR (bcD A B) 5 = va_cpy (sR B 5) (sR A 5) 0 0 8192 := by simp (disch := (first | assumption | decide | omega)) only [bcD, eq_self, Nat.reduceEqDiff, Nat.reduceLeDiff, no_1, no_1024, pk_mul, nI_add, nm_ck, nI_clamp, nI_ltI, nI_leI, nI_eq, nb_b2, nb_b1, ↓nb_let, nm_z0, nm_z1, nb_II, nb_IR, nb_RI, nb_RR, nm_IL, nm_IQ, nm_RL, nm_RQ, nm_LI, nm_LR, nm_LL, nm_LQ, nm_QI, nm_QR, nm_QL, nm_QQ, nm_rr, nm_ii, nm_eqm, not_false_eq_true, pk_sub, nm_div, nm_shl, nm_shr, nm_ush, nm_or8, nm_or64, nm_or256, nm_m1, nm_m3, nm_m7, nm_m15, nm_m31, nm_m63, nm_m255, nm_m511, nm_m1023, nm_m2047, nm_m65535, Nat.reduceMod, Nat.reducePow, Nat.reduceAdd, Nat.reduceSub, Nat.reduceMul, nm_bo, nm_bi, nm_rc, nm_ic, nm_ri, nm_rl, nm_rq, nm_ql, nm_qi, nm_li, nm_us, nm_uu, nm_cp, nm_sa31, nm_sa7, nm_m127, nm_m2, nm_nz, nm_nzk, nm_eq32, nm_nzf, if_true, if_false, ↓reduceIte, if_pos, if_neg]
  have r6 : sR (bcD A B) 6 = va_cpy (sR B 6) (sR A 6) 0 0 256 := by simp (disch := (first | assumption | decide | omega)) only [bcD, eq_self, Nat.reduceEqDiff, Nat.reduceLeDiff, no_1, no_1024, pk_mul, nI_add, nm_ck, nI_clamp, nI_ltI, nI_leI, nI_eq, nb_b2, nb_b1, ↓nb_let, nm_z0, nm_z1, nb_II, nb_IR, nb_RI, nb_RR, nm_IL, nm_IQ, nm_RL, nm_RQ, nm_LI, nm_LR, nm_LL, nm_LQ, nm_QI, nm_QR, nm_QL, nm_QQ, nm_rr, nm_ii, nm_eqm, not_false_eq_true, pk_sub, nm_div, nm_shl, nm_shr, nm_ush, nm_or8, nm_or64, nm_or256, nm_m1, nm_m3, nm_m7, nm_m15, nm_m31, nm_m63, nm_m255, nm_m511, nm_m1023, nm_m2047, nm_m65535, Nat.reduceMod, Nat.reducePow, Nat.reduceAdd, Nat.reduceSub, Nat.reduceMul, nm_bo, nm_bi, nm_rc, nm_ic, nm_ri, nm_rl, nm_rq, nm_ql, nm_qi, nm_li, nm_us, nm_uu, nm_cp, nm_sa31, nm_sa7, nm_m127, nm_m2, nm_nz, nm_nzk, nm_eq32, nm_nzf, if_true, if_false, ↓reduceIte, if_pos, if_neg]
  have r7 : sR (bcD A B) 7 = va_cpy (sR B 7) (sR A 7) 0 0 512 := by simp (disch := (first | assumption | decide | omega)) only [bcD, eq_self, Nat.reduceEqDiff, Nat.reduceLeDiff, no_1, no_1024, pk_mul, nI_add, nm_ck, nI_clamp, nI_ltI, nI_leI, nI_eq, nb_b2, nb_b1, ↓nb_let, nm_z0, nm_z1, nb_II, nb_IR, nb_RI, nb_RR, nm_IL, nm_IQ, nm_RL, nm_RQ, nm_LI, nm_LR, nm_LL, nm_LQ, nm_QI, nm_QR, nm_QL, nm_QQ, nm_rr, nm_ii, nm_eqm, not_false_eq_true, pk_sub, nm_div, nm_shl, nm_shr, nm_ush, nm_or8, nm_or64, nm_or256, nm_m1, nm_m3, nm_m7, nm_m15, nm_m31, nm_m63, nm_m255, nm_m511, nm_m1023, nm_m2047, nm_m65535, Nat.reduceMod, Nat.reducePow, Nat.reduceAdd, Nat.reduceSub, Nat.reduceMul, nm_bo, nm_bi, nm_rc, nm_ic, nm_ri, nm_rl, nm_rq, nm_ql, nm_qi, nm_li, nm_us, nm_uu, nm_cp, nm_sa31, nm_sa7, nm_m127, nm_m2, nm_nz, nm_nzk, nm_eq32, nm_nzf, if_true, if_false, ↓reduceIte, if_pos, if_neg]
  have r8 : sR (bcD A B) 8 = va_cpy (sR B 8) (sR A 8) 0 0 2048 := by simp (disch := (first | assumption | decide | omega)) only [bcD, eq_self, Nat.reduceEqDiff, Nat.reduceLeDiff, no_1, no_1024, pk_mul, nI_add, nm_ck, nI_clamp, nI_ltI, nI_leI, nI_eq, nb_b2, nb_b1, ↓nb_let, nm_z0, nm_z1, nb_II, nb_IR, nb_RI, nb_RR, nm_IL, nm_IQ, nm_RL, nm_RQ, nm_LI, nm_LR, nm_LL, nm_LQ, nm_QI, nm_QR, nm_QL, nm_QQ, nm_rr, nm_ii, nm_eqm, not_false_eq_true, pk_sub, nm_div, nm_shl, nm_shr, nm_ush, nm_or8, nm_or64, nm_or256, nm_m1, nm_m3, nm_m7, nm_m15, nm_m31, nm_m63, nm_m255, nm_m511, nm_m1023, nm_m2047, nm_m65535, Nat.reduceMod, Nat.reducePow, Nat.reduceAdd, Nat.reduceSub, Nat.reduceMul, nm_bo, nm_bi, nm_rc, nm_ic, nm_ri, nm_rl, nm_rq, nm_ql, nm_qi, nm_li, nm_us, nm_uu, nm_cp, nm_sa31, nm_sa7, nm_m127, nm_m2, nm_nz, nm_nzk, nm_eq32, nm_nzf, if_true, if_false, ↓reduceIte, if_pos, if_neg]
  have ri : sI (bcD A B) 0 = sI B 0 := by simp (disch := (first | assumption | decide | omega)) only [bcD, eq_self, Nat.reduceEqDiff, Nat.reduceLeDiff, no_1, no_1024, pk_mul, nI_add, nm_ck, nI_clamp, nI_ltI, nI_leI, nI_eq, nb_b2, nb_b1, ↓nb_let, nm_z0, nm_z1, nb_II, nb_IR, nb_RI, nb_RR, nm_IL, nm_IQ, nm_RL, nm_RQ, nm_LI, nm_LR, nm_LL, nm_LQ, nm_QI, nm_QR, nm_QL, nm_QQ, nm_rr, nm_ii, nm_eqm, not_false_eq_true, pk_sub, nm_div, nm_shl, nm_shr, nm_ush, nm_or8, nm_or64, nm_or256, nm_m1, nm_m3, nm_m7, nm_m15, nm_m31, nm_m63, nm_m255, nm_m511, nm_m1023, nm_m2047, nm_m65535, Nat.reduceMod, Nat.reducePow, Nat.reduceAdd, Nat.reduceSub, Nat.reduceMul, nm_bo, nm_bi, nm_rc, nm_ic, nm_ri, nm_rl, nm_rq, nm_ql, nm_qi, nm_li, nm_us, nm_uu, nm_cp, nm_sa31, nm_sa7, nm_m127, nm_m2, nm_nz, nm_nzk, nm_eq32, nm_nzf, if_true, if_false, ↓reduceIte, if_pos, if_neg]
  have rl : sL (bcD A B) 0 = sL B 0 := by simp (disch := (first | assumption | decide | omega)) only [bcD, eq_self, Nat.reduceEqDiff, Nat.reduceLeDiff, no_1, no_1024, pk_mul, nI_add, nm_ck, nI_clamp, nI_ltI, nI_leI, nI_eq, nb_b2, nb_b1, ↓nb_let, nm_z0, nm_z1, nb_II, nb_IR, nb_RI, nb_RR, nm_IL, nm_IQ, nm_RL, nm_RQ, nm_LI, nm_LR, nm_LL, nm_LQ, nm_QI, nm_QR, nm_QL, nm_QQ, nm_rr, nm_ii, nm_eqm, not_false_eq_true, pk_sub, nm_div, nm_shl, nm_shr, nm_ush, nm_or8, nm_or64, nm_or256, nm_m1, nm_m3, nm_m7, nm_m15, nm_m31, nm_m63, nm_m255, nm_m511, nm_m1023, nm_m2047, nm_m65535, Nat.reduceMod, Nat.reducePow, Nat.reduceAdd, Nat.reduceSub, Nat.reduceMul, nm_bo, nm_bi, nm_rc, nm_ic, nm_ri, nm_rl, nm_rq, nm_ql, nm_qi, nm_li, nm_us, nm_uu, nm_cp, nm_sa31, nm_sa7, nm_m127, nm_m2, nm_nz, nm_nzk, nm_eq32, nm_nzf, if_true, if_false, ↓reduceIte, if_pos, if_neg]
  generalize bcD A B = T at r0 r1 r2 r3 r4 r5 r6 r7 r8 ri rl
  exact ⟨fun i hi => by rw [r0]; exact va_0 hi, fun i hi => by rw [r1]; exact va_0 hi, fun i hi => by rw [r2]; exact va_0 hi, fun i hi => by rw [r3]; exact va_0 hi, fun i hi => by rw [r4]; exact va_0 hi, fun i hi => by rw [r5]; exact va_0 hi, fun i hi => by rw [r6]; exact va_0 hi, fun i hi => by rw [r7]; exact va_0 hi, fun i hi => by rw [r8]; exact va_0 hi, ri, rl⟩
/-- a machine becomes another -/
def bcM (A B : St × St) (w : Nat → Int32) : St × St := (pI (pL (pL (pI (pI (pI (pI (pI (pI (pR (pQ (pR (pR (pR (pR (pI (pR (pR (pR A.1 0 w) 1 (va_cpy (sR B.1 1) (sR A.1 1) 0 0 256)) 2 (va_cpy (sR B.1 2) (sR A.1 2) 0 0 1024)) 0 (sI B.1 0)) 3 (va_cpy (sR B.1 3) (sR A.1 3) 0 0 528)) 4 (va_cpy (sR B.1 4) (sR A.1 4) 0 0 528)) 5 (va_cpy (sR B.1 5) (sR A.1 5) 0 0 256)) 6 (va_cpy (sR B.1 6) (sR A.1 6) 0 0 112)) 0 (va_cpy (sQ B.1 0) (sQ A.1 0) 0 0 16)) 7 (va_cpy (sR B.1 7) (sR A.1 7) 0 0 16)) 1 (sI B.1 1)) 2 (sI B.1 2)) 3 (sI B.1 3)) 4 (sI B.1 4)) 5 (sI B.1 5)) 6 (sI B.1 6)) 0 (sL B.1 0)) 1 (sL B.1 1)) 7 (sI B.1 7), bcD A.2 B.2)

theorem bc_256 (n : Nat) {A B : St × St} {s0 : St} {w : Nat → Int32} {G : Int32 → St × (St × St) × (St × St) → Option (St × (St × St) × (St × St))} (h : okY B.2) : dF_X6_become_2 n G (nI 256) (s0, ((pR A.1 0 w, A.2), B)) = some (s0, (bcM A B w, B)) := by
  have bd := bc_D n (A := A.2) (B := B.2) (s0 := nd_st0) h
  have c256 : ∀ {α : Type} (x : Option α), nd_cp 0 0 256 256 256 x = x := fun x => cp_id (a := 0) (b := 0) (k := 256) (by omega) (by omega) (by omega) (by omega)
  have c1024 : ∀ {α : Type} (x : Option α), nd_cp 0 0 1024 1024 1024 x = x := fun x => cp_id (a := 0) (b := 0) (k := 1024) (by omega) (by omega) (by omega) (by omega)
  have c528 : ∀ {α : Type} (x : Option α), nd_cp 0 0 528 528 528 x = x := fun x => cp_id (a := 0) (b := 0) (k := 528) (by omega) (by omega) (by omega) (by omega)
  have c112 : ∀ {α : Type} (x : Option α), nd_cp 0 0 112 112 112 x = x := fun x => cp_id (a := 0) (b := 0) (k := 112) (by omega) (by omega) (by omega) (by omega)
  have c16 : ∀ {α : Type} (x : Option α), nd_cp 0 0 16 16 16 x = x := fun x => cp_id (a := 0) (b := 0) (k := 16) (by omega) (by omega) (by omega) (by omega)
  have z0 : Int32.toNatClampNeg (0 : Int32) = 0 := tn_k (k := 0) (by omega)
  have z256 : Int32.toNatClampNeg (256 : Int32) = 256 := tn_k (k := 256) (by omega)
  have z1024 : Int32.toNatClampNeg (1024 : Int32) = 1024 := tn_k (k := 1024) (by omega)
  have z528 : Int32.toNatClampNeg (528 : Int32) = 528 := tn_k (k := 528) (by omega)
  have z112 : Int32.toNatClampNeg (112 : Int32) = 112 := tn_k (k := 112) (by omega)
  have z16 : Int32.toNatClampNeg (16 : Int32) = 16 := tn_k (k := 16) (by omega)
  unfold dF_X6_become_2
  rw [if_pos (show (256 : Int32) ≤ nI 256 by decide), z0, z256, z1024, z528, z112, z16]
  rw [c256, nb_let, c1024, nb_let, nb_let, c528, nb_let, c528, nb_let, c256, nb_let, c112, nb_let, c16, nb_let, c16, nb_let, nb_let]
  dsimp only
  rw [bd, nb_b1, nb_let, nb_let, nb_let, nb_let, nb_let, nb_let, nb_let, nb_let, nb_let]
  dsimp only
  unfold bcM
  simp only [nb_RR, nb_RI, nb_II, nb_IR, nm_IL, nm_IQ, nm_RL, nm_RQ, nm_LI, nm_LR, nm_LL, nm_LQ, nm_QI, nm_QR, nm_QL, nm_QQ, Nat.reduceEqDiff, if_false, if_true, ↓reduceIte]
theorem bc_k (n : Nat) {A B : St × St} {s0 : St} {w : Nat → Int32} {g : Int32 → St × (St × St) × (St × St) → Option (St × (St × St) × (St × St))} {k x : Nat} (hk : k < 256) (hx : x < 2 ^ 31) (ex : sR B.1 1 k = nI x) : dF_X6_become_2 n g (nI k) (s0, ((pR A.1 0 w, A.2), B)) = g (nI (k + 1)) (s0, ((pR A.1 0 (if x ≤ 0 then w else va_cpy (sR B.1 0) w (k * 256) (k * 256) 256), A.2), B)) := by
  have u1 : k < 2 ^ 31 := by omega
  have u2 : k * 256 < 2 ^ 31 := by omega
  have k1 : nI k * 256 = nI (k * 256) := by simp (disch := (first | assumption | decide | omega)) only [eq_self, Nat.reduceEqDiff, Nat.reduceLeDiff, nl_256, no_1, no_1024, pk_mul, nI_add, nm_ck, nI_clamp, nI_ltI, nI_leI, nI_eq, nb_b2, nb_b1, ↓nb_let, nm_z0, nm_z1, nb_II, nb_IR, nb_RI, nb_RR, nm_IL, nm_IQ, nm_RL, nm_RQ, nm_LI, nm_LR, nm_LL, nm_LQ, nm_QI, nm_QR, nm_QL, nm_QQ, nm_rr, nm_ii, nm_eqm, not_false_eq_true, pk_sub, nm_div, nm_shl, nm_shr, nm_ush, nm_or8, nm_or64, nm_or256, nm_m1, nm_m3, nm_m7, nm_m15, nm_m31, nm_m63, nm_m255, nm_m511, nm_m1023, nm_m2047, nm_m65535, Nat.reduceMod, Nat.reducePow, Nat.reduceAdd, Nat.reduceSub, Nat.reduceMul, nm_bo, nm_bi, nm_rc, nm_ic, nm_ri, nm_rl, nm_rq, nm_ql, nm_qi, nm_li, nm_us, nm_uu, nm_cp, nm_sa31, nm_sa7, nm_m127, nm_m2, nm_nz, nm_nzk, nm_eq32, nm_nzf, if_true, if_false, ↓reduceIte, if_pos, if_neg]
  have z256 : Int32.toNatClampNeg (256 : Int32) = 256 := tn_k (k := 256) (by omega)
  have c : ∀ {α : Type} (y : Option α), nd_cp (nI (k * 256)) (nI (k * 256)) 256 65536 65536 y = y := fun y => cp_id (a := k * 256) (b := k * 256) (k := 256) (by omega) (by omega) (by omega) (by omega)
  have k2 : nI k + Int32.ofInt 1 = nI (k + 1) := nI_add ..
  unfold dF_X6_become_2
  rw [if_neg (show ¬ (256 : Int32) ≤ nI k from fun z => by have z : nI 256 ≤ nI k := z; rw [nI_leI (by omega) u1] at z; omega), nm_ck hk u1, nI_clamp u1]
  by_cases d : x ≤ 0
  · rw [if_pos (show sR B.1 1 k ≤ (0 : Int32) from (show sR B.1 1 k ≤ nI 0 by rw [ex, nI_leI hx (by omega)]; exact d)), if_pos d]
    unfold df_X6_become_42
    rw [nb_let, k2]
  · rw [if_neg (show ¬ sR B.1 1 k ≤ (0 : Int32) from fun z => by have z : sR B.1 1 k ≤ nI 0 := z; rw [ex, nI_leI hx (by omega)] at z; exact d z), if_neg d, k1, c, nI_clamp u2, z256, nb_let]
    unfold df_X6_become_42
    rw [nb_let, k2]
    dsimp only
    rw [show sR (pR A.1 0 w) 0 = w from rfl, nm_rr]
theorem bc_M (n : Nat) (hn : 1024 < n) {A B : St × St} {s0 : St} (h : okY B.2) (hu : ∀ f : Nat, f < 256 → ∃ x : Nat, x < 2 ^ 31 ∧ sR B.1 1 f = nI x) : ∃ w : Nat → Int32, df_X6_become n (s0, (A, B)) = some (s0, (bcM A B w, B)) ∧ ∀ f x : Nat, f < 256 → x < 2 ^ 31 → sR B.1 1 f = nI x → 0 < x → ∀ j : Nat, j < 256 → w (f * 256 + j) = sR B.1 0 (f * 256 + j) := by
  obtain ⟨m, s, ⟨w, e1, e2⟩, e3⟩ := nm_l1 (S := St × (St × St) × (St × St)) (fun g k s => df_X6_become_2 n g (nI k) s) (fun k s => ∃ w : Nat → Int32, s = (s0, ((pR A.1 0 w, A.2), B)) ∧ ∀ f x : Nat, f < k → x < 2 ^ 31 → sR B.1 1 f = nI x → 0 < x → ∀ j : Nat, j < 256 → w (f * 256 + j) = sR B.1 0 (f * 256 + j)) 256 n (by omega) (fun k g s hk ⟨w, e1, e2⟩ => by
    subst e1
    obtain ⟨x, hx, ex⟩ := hu k hk
    refine ⟨_, ⟨if x ≤ 0 then w else va_cpy (sR B.1 0) w (k * 256) (k * 256) 256, rfl, fun f y hf hy ey y0 j hj => ?_⟩, bc_k n hk hx ex⟩
    by_cases c : x ≤ 0
    · rw [if_pos c]
      by_cases d : f = k
      · rw [d] at ey
        have : x = y := nm_inI (by omega) (by omega) (ex.symm.trans ey)
        omega
      · exact e2 f y (by omega) hy ey y0 j hj
    · rw [if_neg c]
      by_cases d : f = k
      · rw [d, va_i (by omega), show k * 256 + (k * 256 + j - k * 256) = k * 256 + j by omega]
      · rw [va_o (by omega)]
        exact e2 f y (by omega) hy ey y0 j hj) (s0, (A, B)) ⟨sR A.1 0, by rw [nm_r0], fun f x hf => by omega⟩
  subst e1
  refine ⟨w, Eq.trans (b := df_X6_become_2 n n (nI 0) (s0, (A, B))) rfl (Eq.trans e3 ?_), e2⟩
  show df_X6_become_2 n (m + 1) (nI 256) _ = _
  rw [show df_X6_become_2 n (m + 1) = dF_X6_become_2 n (df_X6_become_2 n m) from rfl]
  exact bc_256 n h

theorem bcM_r (A B : St × St) (w : Nat → Int32) : sR (bcM A B w).1 0 = w ∧ (∀ i : Nat, i < 256 → sR (bcM A B w).1 1 i = sR B.1 1 i) ∧ (∀ i : Nat, i < 1024 → sR (bcM A B w).1 2 i = sR B.1 2 i) ∧ (∀ i : Nat, i < 528 → sR (bcM A B w).1 3 i = sR B.1 3 i) ∧ (∀ i : Nat, i < 528 → sR (bcM A B w).1 4 i = sR B.1 4 i) ∧ (∀ i : Nat, i < 256 → sR (bcM A B w).1 5 i = sR B.1 5 i) ∧ (∀ i : Nat, i < 112 → sR (bcM A B w).1 6 i = sR B.1 6 i) ∧ (∀ i : Nat, i < 16 → sR (bcM A B w).1 7 i = sR B.1 7 i) ∧ (∀ i : Nat, i < 16 → sQ (bcM A B w).1 0 i = sQ B.1 0 i) ∧ sI (bcM A B w).1 0 = sI B.1 0 ∧ sI (bcM A B w).1 1 = sI B.1 1 ∧ sI (bcM A B w).1 2 = sI B.1 2 ∧ sI (bcM A B w).1 3 = sI B.1 3 ∧ sI (bcM A B w).1 4 = sI B.1 4 ∧ sI (bcM A B w).1 5 = sI B.1 5 ∧ sI (bcM A B w).1 6 = sI B.1 6 ∧ sI (bcM A B w).1 7 = sI B.1 7 ∧ sL (bcM A B w).1 0 = sL B.1 0 ∧ sL (bcM A B w).1 1 = sL B.1 1 ∧ (bcM A B w).2 = bcD A.2 B.2 := by
  have r0 : sR (bcM A B w).1 0 = w := by simp (disch := (first | assumption | decide | omega)) only [bcM, eq_self, Nat.reduceEqDiff, Nat.reduceLeDiff, no_1, no_1024, pk_mul, nI_add, nm_ck, nI_clamp, nI_ltI, nI_leI, nI_eq, nb_b2, nb_b1, ↓nb_let, nm_z0, nm_z1, nb_II, nb_IR, nb_RI, nb_RR, nm_IL, nm_IQ, nm_RL, nm_RQ, nm_LI, nm_LR, nm_LL, nm_LQ, nm_QI, nm_QR, nm_QL, nm_QQ, nm_rr, nm_ii, nm_eqm, not_false_eq_true, pk_sub, nm_div, nm_shl, nm_shr, nm_ush, nm_or8, nm_or64, nm_or256, nm_m1, nm_m3, nm_m7, nm_m15, nm_m31, nm_m63, nm_m255, nm_m511, nm_m1023, nm_m2047, nm_m65535, Nat.reduceMod, Nat.reducePow, Nat.reduceAdd, Nat.reduceSub, Nat.reduceMul, nm_bo, nm_bi, nm_rc, nm_ic, nm_ri, nm_rl, nm_rq, nm_ql, nm_qi, nm_li, nm_us, nm_uu, nm_cp, nm_sa31, nm_sa7, nm_m127, nm_m2, nm_nz, nm_nzk, nm_eq32, nm_nzf, if_true, if_false, ↓reduceIte, if_pos, if_neg]
  have r1 : sR (bcM A B w).1 1 = va_cpy (sR B.1 1) (sR A.1 1) 0 0 256 := by simp (disch := (first | assumption | decide | omega)) only [bcM, eq_self, Nat.reduceEqDiff, Nat.reduceLeDiff, no_1, no_1024, pk_mul, nI_add, nm_ck, nI_clamp, nI_ltI, nI_leI, nI_eq, nb_b2, nb_b1, ↓nb_let, nm_z0, nm_z1, nb_II, nb_IR, nb_RI, nb_RR, nm_IL, nm_IQ, nm_RL, nm_RQ, nm_LI, nm_LR, nm_LL, nm_LQ, nm_QI, nm_QR, nm_QL, nm_QQ, nm_rr, nm_ii, nm_eqm, not_false_eq_true, pk_sub, nm_div, nm_shl, nm_shr, nm_ush, nm_or8, nm_or64, nm_or256, nm_m1, nm_m3, nm_m7, nm_m15, nm_m31, nm_m63, nm_m255, nm_m511, nm_m1023, nm_m2047, nm_m65535, Nat.reduceMod, Nat.reducePow, Nat.reduceAdd, Nat.reduceSub, Nat.reduceMul, nm_bo, nm_bi, nm_rc, nm_ic, nm_ri, nm_rl, nm_rq, nm_ql, nm_qi, nm_li, nm_us, nm_uu, nm_cp, nm_sa31, nm_sa7, nm_m127, nm_m2, nm_nz, nm_nzk, nm_eq32, nm_nzf, if_true, if_false, ↓reduceIte, if_pos, if_neg]
  have r2 : sR (bcM A B w).1 2 = va_cpy (sR B.1 2) (sR A.1 2) 0 0 1024 := by simp (disch := (first | assumption | decide | omega)) only [bcM, eq_self, Nat.reduceEqDiff, Nat.reduceLeDiff, no_1, no_1024, pk_mul, nI_add, nm_ck, nI_clamp, nI_ltI, nI_leI, nI_eq, nb_b2, nb_b1, ↓nb_let, nm_z0, nm_z1, nb_II, nb_IR, nb_RI, nb_RR, nm_IL, nm_IQ, nm_RL, nm_RQ, nm_LI, nm_LR, nm_LL, nm_LQ, nm_QI, nm_QR, nm_QL, nm_QQ, nm_rr, nm_ii, nm_eqm, not_false_eq_true, pk_sub, nm_div, nm_shl, nm_shr, nm_ush, nm_or8, nm_or64, nm_or256, nm_m1, nm_m3, nm_m7, nm_m15, nm_m31, nm_m63, nm_m255, nm_m511, nm_m1023, nm_m2047, nm_m65535, Nat.reduceMod, Nat.reducePow, Nat.reduceAdd, Nat.reduceSub, Nat.reduceMul, nm_bo, nm_bi, nm_rc, nm_ic, nm_ri, nm_rl, nm_rq, nm_ql, nm_qi, nm_li, nm_us, nm_uu, nm_cp, nm_sa31, nm_sa7, nm_m127, nm_m2, nm_nz, nm_nzk, nm_eq32, nm_nzf, if_true, if_false, ↓reduceIte, if_pos, if_neg]
  have r3 : sR (bcM A B w).1 3 = va_cpy (sR B.1 3) (sR A.1 3) 0 0 528 := by simp (disch := (first | assumption | decide | omega)) only [bcM, eq_self, Nat.reduceEqDiff, Nat.reduceLeDiff, no_1, no_1024, pk_mul, nI_add, nm_ck, nI_clamp, nI_ltI, nI_leI, nI_eq, nb_b2, nb_b1, ↓nb_let, nm_z0, nm_z1, nb_II, nb_IR, nb_RI, nb_RR, nm_IL, nm_IQ, nm_RL, nm_RQ, nm_LI, nm_LR, nm_LL, nm_LQ, nm_QI, nm_QR, nm_QL, nm_QQ, nm_rr, nm_ii, nm_eqm, not_false_eq_true, pk_sub, nm_div, nm_shl, nm_shr, nm_ush, nm_or8, nm_or64, nm_or256, nm_m1, nm_m3, nm_m7, nm_m15, nm_m31, nm_m63, nm_m255, nm_m511, nm_m1023, nm_m2047, nm_m65535, Nat.reduceMod, Nat.reducePow, Nat.reduceAdd, Nat.reduceSub, Nat.reduceMul, nm_bo, nm_bi, nm_rc, nm_ic, nm_ri, nm_rl, nm_rq, nm_ql, nm_qi, nm_li, nm_us, nm_uu, nm_cp, nm_sa31, nm_sa7, nm_m127, nm_m2, nm_nz, nm_nzk, nm_eq32, nm_nzf, if_true, if_false, ↓reduceIte, if_pos, if_neg]
  have r4 : sR (bcM A B w).1 4 = va_cpy (sR B.1 4) (sR A.1 4) 0 0 528 := by simp (disch := (first | assumption | decide | omega)) only [bcM, eq_self, Nat.reduceEqDiff, Nat.reduceLeDiff, no_1, no_1024, pk_mul, nI_add, nm_ck, nI_clamp, nI_ltI, nI_leI, nI_eq, nb_b2, nb_b1, ↓nb_let, nm_z0, nm_z1, nb_II, nb_IR, nb_RI, nb_RR, nm_IL, nm_IQ, nm_RL, nm_RQ, nm_LI, nm_LR, nm_LL, nm_LQ, nm_QI, nm_QR, nm_QL, nm_QQ, nm_rr, nm_ii, nm_eqm, not_false_eq_true, pk_sub, nm_div, nm_shl, nm_shr, nm_ush, nm_or8, nm_or64, nm_or256, nm_m1, nm_m3, nm_m7, nm_m15, nm_m31, nm_m63, nm_m255, nm_m511, nm_m1023, nm_m2047, nm_m65535, Nat.reduceMod, Nat.reducePow, Nat.reduceAdd, Nat.reduceSub, Nat.reduceMul, nm_bo, nm_bi, nm_rc, nm_ic, nm_ri, nm_rl, nm_rq, nm_ql, nm_qi, nm_li, nm_us, nm_uu, nm_cp, nm_sa31, nm_sa7, nm_m127, nm_m2, nm_nz, nm_nzk, nm_eq32, nm_nzf, if_true, if_false, ↓reduceIte, if_pos, if_neg]
  have r5 : sR (bcM A B w).1 5 = va_cpy (sR B.1 5) (sR A.1 5) 0 0 256 := by simp (disch := (first | assumption | decide | omega)) only [bcM, eq_self, Nat.reduceEqDiff, Nat.reduceLeDiff, no_1, no_1024, pk_mul, nI_add, nm_ck, nI_clamp, nI_ltI, nI_leI, nI_eq, nb_b2, nb_b1, ↓nb_let, nm_z0, nm_z1, nb_II, nb_IR, nb_RI, nb_RR, nm_IL, nm_IQ, nm_RL, nm_RQ, nm_LI, nm_LR, nm_LL, nm_LQ, nm_QI, nm_QR, nm_QL, nm_QQ, nm_rr, nm_ii, nm_eqm, not_false_eq_true, pk_sub, nm_div, nm_shl, nm_shr, nm_ush, nm_or8, nm_or64, nm_or256, nm_m1, nm_m3, nm_m7, nm_m15, nm_m31, nm_m63, nm_m255, nm_m511, nm_m1023, nm_m2047, nm_m65535, Nat.reduceMod, Nat.reducePow, Nat.reduceAdd, Nat.reduceSub, Nat.reduceMul, nm_bo, nm_bi, nm_rc, nm_ic, nm_ri, nm_rl, nm_rq, nm_ql, nm_qi, nm_li, nm_us, nm_uu, nm_cp, nm_sa31, nm_sa7, nm_m127, nm_m2, nm_nz, nm_nzk, nm_eq32, nm_nzf, if_true, if_false, ↓reduceIte, if_pos, if_neg]
  have r6 : sR (bcM A B w).1 6 = va_cpy (sR B.1 6) (sR A.1 6) 0 0 112 := by simp (disch := (first | assumption | decide | omega)) only [bcM, eq_self, Nat.reduceEqDiff, Nat.reduceLeDiff, no_1, no_1024, pk_mul, nI_add, nm_ck, nI_clamp, nI_ltI, nI_leI, nI_eq, nb_b2, nb_b1, ↓nb_let, nm_z0, nm_z1, nb_II, nb_IR, nb_RI, nb_RR, nm_IL, nm_IQ, nm_RL, nm_RQ, nm_LI, nm_LR, nm_LL, nm_LQ, nm_QI, nm_QR, nm_QL, nm_QQ, nm_rr, nm_ii, nm_eqm, not_false_eq_true, pk_sub, nm_div, nm_shl, nm_shr, nm_ush, nm_or8, nm_or64, nm_or256, nm_m1, nm_m3, nm_m7, nm_m15, nm_m31, nm_m63, nm_m255, nm_m511, nm_m1023, nm_m2047, nm_m65535, Nat.reduceMod, Nat.reducePow, Nat.reduceAdd, Nat.reduceSub, Nat.reduceMul, nm_bo, nm_bi, nm_rc, nm_ic, nm_ri, nm_rl, nm_rq, nm_ql, nm_qi, nm_li, nm_us, nm_uu, nm_cp, nm_sa31, nm_sa7, nm_m127, nm_m2, nm_nz, nm_nzk, nm_eq32, nm_nzf, if_true, if_false, ↓reduceIte, if_pos, if_neg]
  have r7 : sR (bcM A B w).1 7 = va_cpy (sR B.1 7) (sR A.1 7) 0 0 16 := by simp (disch := (first | assumption | decide | omega)) only [bcM, eq_self, Nat.reduceEqDiff, Nat.reduceLeDiff, no_1, no_1024, pk_mul, nI_add, nm_ck, nI_clamp, nI_ltI, nI_leI, nI_eq, nb_b2, nb_b1, ↓nb_let, nm_z0, nm_z1, nb_II, nb_IR, nb_RI, nb_RR, nm_IL, nm_IQ, nm_RL, nm_RQ, nm_LI, nm_LR, nm_LL, nm_LQ, nm_QI, nm_QR, nm_QL, nm_QQ, nm_rr, nm_ii, nm_eqm, not_false_eq_true, pk_sub, nm_div, nm_shl, nm_shr, nm_ush, nm_or8, nm_or64, nm_or256, nm_m1, nm_m3, nm_m7, nm_m15, nm_m31, nm_m63, nm_m255, nm_m511, nm_m1023, nm_m2047, nm_m65535, Nat.reduceMod, Nat.reducePow, Nat.reduceAdd, Nat.reduceSub, Nat.reduceMul, nm_bo, nm_bi, nm_rc, nm_ic, nm_ri, nm_rl, nm_rq, nm_ql, nm_qi, nm_li, nm_us, nm_uu, nm_cp, nm_sa31, nm_sa7, nm_m127, nm_m2, nm_nz, nm_nzk, nm_eq32, nm_nzf, if_true, if_false, ↓reduceIte, if_pos, if_neg]
  have rq : sQ (bcM A B w).1 0 = va_cpy (sQ B.1 0) (sQ A.1 0) 0 0 16 := by simp (disch := (first | assumption | decide | omega)) only [bcM, eq_self, Nat.reduceEqDiff, Nat.reduceLeDiff, no_1, no_1024, pk_mul, nI_add, nm_ck, nI_clamp, nI_ltI, nI_leI, nI_eq, nb_b2, nb_b1, ↓nb_let, nm_z0, nm_z1, nb_II, nb_IR, nb_RI, nb_RR, nm_IL, nm_IQ, nm_RL, nm_RQ, nm_LI, nm_LR, nm_LL, nm_LQ, nm_QI, nm_QR, nm_QL, nm_QQ, nm_rr, nm_ii, nm_eqm, not_false_eq_true, pk_sub, nm_div, nm_shl, nm_shr, nm_ush, nm_or8, nm_or64, nm_or256, nm_m1, nm_m3, nm_m7, nm_m15, nm_m31, nm_m63, nm_m255, nm_m511, nm_m1023, nm_m2047, nm_m65535, Nat.reduceMod, Nat.reducePow, Nat.reduceAdd, Nat.reduceSub, Nat.reduceMul, nm_bo, nm_bi, nm_rc, nm_ic, nm_ri, nm_rl, nm_rq, nm_ql, nm_qi, nm_li, nm_us, nm_uu, nm_cp, nm_sa31, nm_sa7, nm_m127, nm_m2, nm_nz, nm_nzk, nm_eq32, nm_nzf, if_true, if_false, ↓reduceIte, if_pos, if_neg]
  have i0 : sI (bcM A B w).1 0 = sI B.1 0 := by simp (disch := (first | assumption | decide | omega)) only [bcM, eq_self, Nat.reduceEqDiff, Nat.reduceLeDiff, no_1, no_1024, pk_mul, nI_add, nm_ck, nI_clamp, nI_ltI, nI_leI, nI_eq, nb_b2, nb_b1, ↓nb_let, nm_z0, nm_z1, nb_II, nb_IR, nb_RI, nb_RR, nm_IL, nm_IQ, nm_RL, nm_RQ, nm_LI, nm_LR, nm_LL, nm_LQ, nm_QI, nm_QR, nm_QL, nm_QQ, nm_rr, nm_ii, nm_eqm, not_false_eq_true, pk_sub, nm_div, nm_shl, nm_shr, nm_ush, nm_or8, nm_or64, nm_or256, nm_m1, nm_m3, nm_m7, nm_m15, nm_m31, nm_m63, nm_m255, nm_m511, nm_m1023, nm_m2047, nm_m65535, Nat.reduceMod, Nat.reducePow, Nat.reduceAdd, Nat.reduceSub, Nat.reduceMul, nm_bo, nm_bi, nm_rc, nm_ic, nm_ri, nm_rl, nm_rq, nm_ql, nm_qi, nm_li, nm_us, nm_uu, nm_cp, nm_sa31, nm_sa7, nm_m127, nm_m2, nm_nz, nm_nzk, nm_eq32, nm_nzf, if_true, if_false, ↓reduceIte, if_pos, if_neg]
  have i1 : sI (bcM A B w).1 1 = sI B.1 1 := by simp (disch := (first | assumption | decide | omega)) only [bcM, eq_self, Nat.reduceEqDiff, Nat.reduceLeDiff, no_1, no_1024, pk_mul, nI_add, nm_ck, nI_clamp, nI_ltI, nI_leI, nI_eq, nb_b2, nb_b1, ↓nb_let, nm_z0, nm_z1, nb_II, nb_IR, nb_RI, nb_RR, nm_IL, nm_IQ, nm_RL, nm_RQ, nm_LI, nm_LR, nm_LL, nm_LQ, nm_QI, nm_QR, nm_QL, nm_QQ, nm_rr, nm_ii, nm_eqm, not_false_eq_true, pk_sub, nm_div, nm_shl, nm_shr, nm_ush, nm_or8, nm_or64, nm_or256, nm_m1, nm_m3, nm_m7, nm_m15, nm_m31, nm_m63, nm_m255, nm_m511, nm_m1023, nm_m2047, nm_m65535, Nat.reduceMod, Nat.reducePow, Nat.reduceAdd, Nat.reduceSub, Nat.reduceMul, nm_bo, nm_bi, nm_rc, nm_ic, nm_ri, nm_rl, nm_rq, nm_ql, nm_qi, nm_li, nm_us, nm_uu, nm_cp, nm_sa31, nm_sa7, nm_m127, nm_m2, nm_nz, nm_nzk, nm_eq32, nm_nzf, if_true, if_false, ↓reduceIte, if_pos, if_neg]
  have i2 : sI (bcM A B w).1 2 = sI B.1 2 := by simp (disch := (first | assumption | decide | omega)) only [bcM, eq_self, Nat.reduceEqDiff, Nat.reduceLeDiff, no_1, no_1024, pk_mul, nI_add, nm_ck, nI_clamp, nI_ltI, nI_leI, nI_eq, nb_b2, nb_b1, ↓nb_let, nm_z0, nm_z1, nb_II, nb_IR, nb_RI, nb_RR, nm_IL, nm_IQ, nm_RL, nm_RQ, nm_LI, nm_LR, nm_LL, nm_LQ, nm_QI, nm_QR, nm_QL, nm_QQ, nm_rr, nm_ii, nm_eqm, not_false_eq_true, pk_sub, nm_div, nm_shl, nm_shr, nm_ush, nm_or8, nm_or64, nm_or256, nm_m1, nm_m3, nm_m7, nm_m15, nm_m31, nm_m63, nm_m255, nm_m511, nm_m1023, nm_m2047, nm_m65535, Nat.reduceMod, Nat.reducePow, Nat.reduceAdd, Nat.reduceSub, Nat.reduceMul, nm_bo, nm_bi, nm_rc, nm_ic, nm_ri, nm_rl, nm_rq, nm_ql, nm_qi, nm_li, nm_us, nm_uu, nm_cp, nm_sa31, nm_sa7, nm_m127, nm_m2, nm_nz, nm_nzk, nm_eq32, nm_nzf, if_true, if_false, ↓reduceIte, if_pos, if_neg]
  have i3 : sI (bcM A B w).1 3 = sI B.1 3 := by simp (disch := (first | assumption | decide | omega)) only [bcM, eq_self, Nat.reduceEqDiff, Nat.reduceLeDiff, no_1, no_1024, pk_mul, nI_add, nm_ck, nI_clamp, nI_ltI, nI_leI, nI_eq, nb_b2, nb_b1, ↓nb_let, nm_z0, nm_z1, nb_II, nb_IR, nb_RI, nb_RR, nm_IL, nm_IQ, nm_RL, nm_RQ, nm_LI, nm_LR, nm_LL, nm_LQ, nm_QI, nm_QR, nm_QL, nm_QQ, nm_rr, nm_ii, nm_eqm, not_false_eq_true, pk_sub, nm_div, nm_shl, nm_shr, nm_ush, nm_or8, nm_or64, nm_or256, nm_m1, nm_m3, nm_m7, nm_m15, nm_m31, nm_m63, nm_m255, nm_m511, nm_m1023, nm_m2047, nm_m65535, Nat.reduceMod, Nat.reducePow, Nat.reduceAdd, Nat.reduceSub, Nat.reduceMul, nm_bo, nm_bi, nm_rc, nm_ic, nm_ri, nm_rl, nm_rq, nm_ql, nm_qi, nm_li, nm_us, nm_uu, nm_cp, nm_sa31, nm_sa7, nm_m127, nm_m2, nm_nz, nm_nzk, nm_eq32, nm_nzf, if_true, if_false, ↓reduceIte, if_pos, if_neg]
  have i4 : sI (bcM A B w).1 4 = sI B.1 4 := by simp (disch := (first | assumption | decide | omega)) only [bcM, eq_self, Nat.reduceEqDiff, Nat.reduceLeDiff, no_1, no_1024, pk_mul, nI_add, nm_ck, nI_clamp, nI_ltI, nI_leI, nI_eq, nb_b2, nb_b1, ↓nb_let, nm_z0, nm_z1, nb_II, nb_IR, nb_RI, nb_RR, nm_IL, nm_IQ, nm_RL, nm_RQ, nm_LI, nm_LR, nm_LL, nm_LQ, nm_QI, nm_QR, nm_QL, nm_QQ, nm_rr, nm_ii, nm_eqm, not_false_eq_true, pk_sub, nm_div, nm_shl, nm_shr, nm_ush, nm_or8, nm_or64, nm_or256, nm_m1, nm_m3, nm_m7, nm_m15, nm_m31, nm_m63, nm_m255, nm_m511, nm_m1023, nm_m2047, nm_m65535, Nat.reduceMod, Nat.reducePow, Nat.reduceAdd, Nat.reduceSub, Nat.reduceMul, nm_bo, nm_bi, nm_rc, nm_ic, nm_ri, nm_rl, nm_rq, nm_ql, nm_qi, nm_li, nm_us, nm_uu, nm_cp, nm_sa31, nm_sa7, nm_m127, nm_m2, nm_nz, nm_nzk, nm_eq32, nm_nzf, if_true, if_false, ↓reduceIte, if_pos, if_neg]
  have i5 : sI (bcM A B w).1 5 = sI B.1 5 := by simp (disch := (first | assumption | decide | omega)) only [bcM, eq_self, Nat.reduceEqDiff, Nat.reduceLeDiff, no_1, no_1024, pk_mul, nI_add, nm_ck, nI_clamp, nI_ltI, nI_leI, nI_eq, nb_b2, nb_b1, ↓nb_let, nm_z0, nm_z1, nb_II, nb_IR, nb_RI, nb_RR, nm_IL, nm_IQ, nm_RL, nm_RQ, nm_LI, nm_LR, nm_LL, nm_LQ, nm_QI, nm_QR, nm_QL, nm_QQ, nm_rr, nm_ii, nm_eqm, not_false_eq_true, pk_sub, nm_div, nm_shl, nm_shr, nm_ush, nm_or8, nm_or64, nm_or256, nm_m1, nm_m3, nm_m7, nm_m15, nm_m31, nm_m63, nm_m255, nm_m511, nm_m1023, nm_m2047, nm_m65535, Nat.reduceMod, Nat.reducePow, Nat.reduceAdd, Nat.reduceSub, Nat.reduceMul, nm_bo, nm_bi, nm_rc, nm_ic, nm_ri, nm_rl, nm_rq, nm_ql, nm_qi, nm_li, nm_us, nm_uu, nm_cp, nm_sa31, nm_sa7, nm_m127, nm_m2, nm_nz, nm_nzk, nm_eq32, nm_nzf, if_true, if_false, ↓reduceIte, if_pos, if_neg]
  have i6 : sI (bcM A B w).1 6 = sI B.1 6 := by simp (disch := (first | assumption | decide | omega)) only [bcM, eq_self, Nat.reduceEqDiff, Nat.reduceLeDiff, no_1, no_1024, pk_mul, nI_add, nm_ck, nI_clamp, nI_ltI, nI_leI, nI_eq, nb_b2, nb_b1, ↓nb_let, nm_z0, nm_z1, nb_II, nb_IR, nb_RI, nb_RR, nm_IL, nm_IQ, nm_RL, nm_RQ, nm_LI, nm_LR, nm_LL, nm_LQ, nm_QI, nm_QR, nm_QL, nm_QQ, nm_rr, nm_ii, nm_eqm, not_false_eq_true, pk_sub, nm_div, nm_shl, nm_shr, nm_ush, nm_or8, nm_or64, nm_or256, nm_m1, nm_m3, nm_m7, nm_m15, nm_m31, nm_m63, nm_m255, nm_m511, nm_m1023, nm_m2047, nm_m65535, Nat.reduceMod, Nat.reducePow, Nat.reduceAdd, Nat.reduceSub, Nat.reduceMul, nm_bo, nm_bi, nm_rc, nm_ic, nm_ri, nm_rl, nm_rq, nm_ql, nm_qi, nm_li, nm_us, nm_uu, nm_cp, nm_sa31, nm_sa7, nm_m127, nm_m2, nm_nz, nm_nzk, nm_eq32, nm_nzf, if_true, if_false, ↓reduceIte, if_pos, if_neg]
  have i7 : sI (bcM A B w).1 7 = sI B.1 7 := by simp (disch := (first | assumption | decide | omega)) only [bcM, eq_self, Nat.reduceEqDiff, Nat.reduceLeDiff, no_1, no_1024, pk_mul, nI_add, nm_ck, nI_clamp, nI_ltI, nI_leI, nI_eq, nb_b2, nb_b1, ↓nb_let, nm_z0, nm_z1, nb_II, nb_IR, nb_RI, nb_RR, nm_IL, nm_IQ, nm_RL, nm_RQ, nm_LI, nm_LR, nm_LL, nm_LQ, nm_QI, nm_QR, nm_QL, nm_QQ, nm_rr, nm_ii, nm_eqm, not_false_eq_true, pk_sub, nm_div, nm_shl, nm_shr, nm_ush, nm_or8, nm_or64, nm_or256, nm_m1, nm_m3, nm_m7, nm_m15, nm_m31, nm_m63, nm_m255, nm_m511, nm_m1023, nm_m2047, nm_m65535, Nat.reduceMod, Nat.reducePow, Nat.reduceAdd, Nat.reduceSub, Nat.reduceMul, nm_bo, nm_bi, nm_rc, nm_ic, nm_ri, nm_rl, nm_rq, nm_ql, nm_qi, nm_li, nm_us, nm_uu, nm_cp, nm_sa31, nm_sa7, nm_m127, nm_m2, nm_nz, nm_nzk, nm_eq32, nm_nzf, if_true, if_false, ↓reduceIte, if_pos, if_neg]
  have l0 : sL (bcM A B w).1 0 = sL B.1 0 := by simp (disch := (first | assumption | decide | omega)) only [bcM, eq_self, Nat.reduceEqDiff, Nat.reduceLeDiff, no_1, no_1024, pk_mul, nI_add, nm_ck, nI_clamp, nI_ltI, nI_leI, nI_eq, nb_b2, nb_b1, ↓nb_let, nm_z0, nm_z1, nb_II, nb_IR, nb_RI, nb_RR, nm_IL, nm_IQ, nm_RL, nm_RQ, nm_LI, nm_LR, nm_LL, nm_LQ, nm_QI, nm_QR, nm_QL, nm_QQ, nm_rr, nm_ii, nm_eqm, not_false_eq_true, pk_sub, nm_div, nm_shl, nm_shr, nm_ush, nm_or8, nm_or64, nm_or256, nm_m1, nm_m3, nm_m7, nm_m15, nm_m31, nm_m63, nm_m255, nm_m511, nm_m1023, nm_m2047, nm_m65535, Nat.reduceMod, Nat.reducePow, Nat.reduceAdd, Nat.reduceSub, Nat.reduceMul, nm_bo, nm_bi, nm_rc, nm_ic, nm_ri, nm_rl, nm_rq, nm_ql, nm_qi, nm_li, nm_us, nm_uu, nm_cp, nm_sa31, nm_sa7, nm_m127, nm_m2, nm_nz, nm_nzk, nm_eq32, nm_nzf, if_true, if_false, ↓reduceIte, if_pos, if_neg]
  have l1 : sL (bcM A B w).1 1 = sL B.1 1 := by simp (disch := (first | assumption | decide | omega)) only [bcM, eq_self, Nat.reduceEqDiff, Nat.reduceLeDiff, no_1, no_1024, pk_mul, nI_add, nm_ck, nI_clamp, nI_ltI, nI_leI, nI_eq, nb_b2, nb_b1, ↓nb_let, nm_z0, nm_z1, nb_II, nb_IR, nb_RI, nb_RR, nm_IL, nm_IQ, nm_RL, nm_RQ, nm_LI, nm_LR, nm_LL, nm_LQ, nm_QI, nm_QR, nm_QL, nm_QQ, nm_rr, nm_ii, nm_eqm, not_false_eq_true, pk_sub, nm_div, nm_shl, nm_shr, nm_ush, nm_or8, nm_or64, nm_or256, nm_m1, nm_m3, nm_m7, nm_m15, nm_m31, nm_m63, nm_m255, nm_m511, nm_m1023, nm_m2047, nm_m65535, Nat.reduceMod, Nat.reducePow, Nat.reduceAdd, Nat.reduceSub, Nat.reduceMul, nm_bo, nm_bi, nm_rc, nm_ic, nm_ri, nm_rl, nm_rq, nm_ql, nm_qi, nm_li, nm_us, nm_uu, nm_cp, nm_sa31, nm_sa7, nm_m127, nm_m2, nm_nz, nm_nzk, nm_eq32, nm_nzf, if_true, if_false, ↓reduceIte, if_pos, if_neg]
  have q0 : ∀ i : Nat, i < 16 → va_cpy (sQ B.1 0) (sQ A.1 0) 0 0 16 i = sQ B.1 0 i := fun i hi => (if_pos (by omega)).trans (by rw [Nat.sub_zero, Nat.zero_add])
  refine ⟨r0, fun i hi => by rw [r1]; exact va_0 hi, fun i hi => by rw [r2]; exact va_0 hi, fun i hi => by rw [r3]; exact va_0 hi, fun i hi => by rw [r4]; exact va_0 hi, fun i hi => by rw [r5]; exact va_0 hi, fun i hi => by rw [r6]; exact va_0 hi, fun i hi => by rw [r7]; exact va_0 hi, fun i hi => by rw [rq]; exact q0 i hi, i0, i1, i2, i3, i4, i5, i6, i7, l0, l1, rfl⟩
/-- a machine that becomes another is tied as that one was -/
theorem rM_become (n : Nat) (hn : 1024 < n) {Bd : Nat} {A B X : St × St} {s0 : St} (h : rM Bd B X) : ∃ M' : St × St, df_X6_become n (s0, (A, B)) = some (s0, (M', B)) ∧ ∀ (C : Nat) (Y : St × St), rM C B Y → rM C M' Y := by
  obtain ⟨w, e1, e2⟩ := bc_M n hn (A := A) (B := B) (s0 := s0) h.2.2.2.2.2.1.2 (fun f hf => ⟨cF (sR X.1 16) f, by have := cF_le (sR X.1 16) f; omega, (h.1.2.1 f hf).1⟩)
  refine ⟨bcM A B w, e1, fun C Y hY => ?_⟩
  clear h
  obtain ⟨r0, r1, r2, r3, r4, r5, r6, r7, rq, i0, i1, i2, i3, i4, i5, i6, i7, l0, l1, rD2⟩ := bcM_r A B w
  obtain ⟨d0, d1, d2, d3, d4, d5, d6, d7, d8, di, dl⟩ := bcD_r A.2 B.2
  generalize bcM A B w = M' at r0 r1 r2 r3 r4 r5 r6 r7 rq i0 i1 i2 i3 i4 i5 i6 i7 l0 l1 rD2
  generalize bcD A.2 B.2 = D' at d0 d1 d2 d3 d4 d5 d6 d7 d8 di dl rD2
  obtain ⟨m1, m2, m3, m4, m5, m6, m7⟩ := hY
  refine ⟨?_, ?_, fun q hq => rP1_ag (m3 q hq) ⟨fun i hi => r6 _ (by omega), fun i hi => r3 _ (by omega), fun i hi => r4 _ (by omega), fun i hi => r5 _ (by omega), rq q hq⟩ (agX_r Y q), ?_, ?_, ?_, ?_⟩
  · obtain ⟨a1, a2, a3, a4, a5⟩ := m1
    refine ⟨fun i hi => ?_, fun f hf => ⟨?_, (a2 f hf).2⟩, a3, ?_, a5⟩
    · rw [r2 i hi]
      rcases a1 i hi with z | ⟨f, r, z1, z2, z3, z4, z5, z6, z7⟩
      · exact Or.inl z
      · refine Or.inr ⟨f, r, z1, z2, z3, z4, z5, z6, fun j hj => ?_⟩
        have p0 := cF_pos (fr := sR Y.1 16) hi z4
        have cl := cF_le (sR Y.1 16) f
        rw [r0, e2 f (cF (sR Y.1 16) f) z1 (by omega) (a2 f z1).1 p0 j hj]
        exact z7 j hj
    · rw [r1 f hf]; exact (a2 f hf).1
    · rw [i0]; exact a4
  · unfold rDD
    rw [rD2]
    obtain ⟨a1, a2, a3, a4⟩ := m2
    refine ⟨fun i hi => ?_, fun o ho => ?_, fun k hk => ?_, fun k hk => ?_⟩
    · rw [d0 i hi]; exact a1 i hi
    · rw [d1 (o * 5) (by omega), d1 (o * 5 + 1) (by omega), d1 (o * 5 + 2) (by omega), d1 (o * 5 + 3) (by omega), d1 (o * 5 + 4) (by omega)]; exact a2 o ho
    · rw [d2 (k * 4 + 1) (by omega), d2 (k * 4 + 2) (by omega)]; exact a3 k hk
    · rw [d4 (k * 3 + 1) (by omega), d4 (k * 3 + 2) (by omega)]; exact a4 k hk
  · rw [i2]; exact m4
  · unfold rG
    rw [i3, i4, i5, i6, l0, l1]
    exact m5
  · obtain ⟨⟨k, k1, k2, k3, k4⟩, y3, y5, y6, y7, y8⟩ := m6
    refine ⟨⟨k, k1, i1.trans k2, k3, fun i hi => (r7 i (by omega)).trans (k4 i hi)⟩, ?_⟩
    rw [rD2]
    exact ⟨fun i hi => by rw [d3 i hi]; exact y3 i hi, fun i hi => by rw [d5 i hi]; exact y5 i hi, fun i hi => by rw [d6 i hi]; exact y6 i hi, fun i hi => by rw [d7 i hi]; exact y7 i hi, fun i hi => by rw [d8 i hi]; exact y8 i hi⟩
  · unfold rTT
    rw [rD2, di, dl]
    obtain ⟨t1, t2, t3, ⟨T, q1, q2, q3, q4⟩, t5, S, s1, s2, s3⟩ := m7
    refine ⟨fun k hk e => ?_, fun k hk e => ?_, fun k hk e i hi => ?_, ⟨T, q1, q2, q3, fun i hi => by rw [d7 i (by omega)]; exact q4 i hi⟩, t5, S, s1, s2, fun i hi hj => by rw [d8 _ (by omega)]; exact s3 i hi hj⟩
    · obtain ⟨L, o, g1, g2, g3, g4, g5, g6⟩ := t1 k hk e
      refine ⟨L, o, g1, g2, by rw [d2 _ (by omega)]; exact g3, g4, by rw [d2 _ (by omega)]; exact g5, fun i hi => by rw [d3 _ (by omega)]; exact g6 i hi⟩
    · obtain ⟨L, g1, g2, g3, g4⟩ := t2 k hk e
      exact ⟨L, g1, by rw [d4 _ (by omega)]; exact g2, g3, fun i hi => by rw [d5 _ (by omega)]; exact g4 i hi⟩
    · rw [d6 _ (by omega)]; exact t3 k hk e i hi

/-- which of the two recordings is the one that counts -/
def eA (s : St × Rw × (St × (St × (St × (St)))) × (St) × (St) × (Nat → St) × (Nat → St) × (Nat → St × (St))) (V : St) : Prop := (sO s.1 0 = some 27 ∧ s.2.2.2.1 = V) ∨ (sO s.1 0 = some 32 ∧ s.2.2.2.2.1 = V)
/-- an event of the class's recording -/
def evK (V : St) (i : Nat) : Nat × Int64 × Int32 := (Int32.toNatClampNeg (sR V 0 i), sQ V 1 i, sR V 1 i)
/-- the class's recording: N events have come, T are there, up to a count -/
def cLg (V : St) (N T e : Nat) (lo : Nat → Nat) : Prop := sI V 0 = nI N ∧ sI V 1 = nI T ∧ N ≤ T ∧ T ≤ 2048 ∧ okL N e lo ∧ (∀ i c : Nat, c ≤ e → lo c ≤ i → i < lo (c + 1) → sQ V 0 i = (nI c).toInt64) ∧ (∀ i : Nat, i < T → ∃ k : Nat, k < 5 ∧ sR V 0 i = nI k ∧ evV k (sQ V 1 i) (sR V 1 i)) ∧ e ≤ 60000
theorem i64_in {c d : Nat} (hc : c < 2 ^ 31) (hd : d < 2 ^ 31) (h : (nI c).toInt64 = (nI d).toInt64) : c = d := by
  have e := congrArg Int64.toInt h
  rw [Int32.toInt_toInt64, Int32.toInt_toInt64, nI_toInt hc, nI_toInt hd] at e
  omega
theorem ia_1 (n : Nat) {V : St} {T i c : Nat} (hT : T ≤ 2048) (hi : i < T) (e1 : sI V 1 = nI T) (e : sQ V 0 i = (nI c).toInt64) : df_X3_isAt n (nI i) (nI c) V = some (nI 1, V) := by
  have u1 : i < 2 ^ 31 := by omega
  unfold df_X3_isAt df_X3_isAt_0
  rw [if_neg (show ¬ nI i < (0 : Int32) from fun z => by have z : nI i < nI 0 := z; rw [nI_ltI u1 (by omega)] at z; omega), e1, if_neg (show ¬ nI T ≤ nI i from fun z => by rw [nI_leI (by omega) u1] at z; omega), nm_ck (by omega) u1, nI_clamp u1, e, if_pos (show lg_cmp (nI c).toInt64 (nI c).toInt64 = 0 from (lc_eq _ _).mpr rfl)]
  exact nm_z1
theorem ia_0 (n : Nat) {V : St} {T i c : Nat} (hT : T ≤ 2048) (hi : i ≤ 2048) (e1 : sI V 1 = nI T) (e : i < T → ¬ sQ V 0 i = (nI c).toInt64) : df_X3_isAt n (nI i) (nI c) V = some (nI 0, V) := by
  have u1 : i < 2 ^ 31 := by omega
  unfold df_X3_isAt df_X3_isAt_0
  rw [if_neg (show ¬ nI i < (0 : Int32) from fun z => by have z : nI i < nI 0 := z; rw [nI_ltI u1 (by omega)] at z; omega), e1]
  by_cases d : T ≤ i
  · rw [if_pos (show nI T ≤ nI i by rw [nI_leI (by omega) u1]; exact d)]
    exact nm_z0
  · rw [if_neg (show ¬ nI T ≤ nI i from fun z => by rw [nI_leI (by omega) u1] at z; exact d z), nm_ck (by omega) u1, nI_clamp u1, if_neg (show ¬ lg_cmp (sQ V 0 i) (nI c).toInt64 = 0 from fun z => e (by omega) ((lc_eq _ _).mp z))]
    exact nm_z0
/-- one turn of the class's taking -/
theorem tr_1 (n : Nat) {s : St × Rw × (St × (St × (St × (St)))) × (St) × (St) × (Nat → St) × (Nat → St) × (Nat → St × (St))} {V : St} (hV : eA s V) (g : St × Rw × (St × (St × (St × (St)))) × (St) × (St) × (Nat → St) × (Nat → St) × (Nat → St × (St)) → Option (St × Rw × (St × (St × (St × (St)))) × (St) × (St) × (Nat → St) × (Nat → St) × (Nat → St × (St)))) {N i c : Nat} (hN : N ≤ 2048) (hi : i ≤ 2048) (e0 : sI V 0 = nI N) (e5 : sI s.1 5 = nI i) (e3 : sI s.1 3 = nI c) : (N ≤ i → dF_X11_takeRecorded_0 n g s = some s) ∧ (¬ N ≤ i → df_X3_isAt n (nI i) (nI c) V = some (nI 0, V) → dF_X11_takeRecorded_0 n g s = some s) ∧ (¬ N ≤ i → df_X3_isAt n (nI i) (nI c) V = some (nI 1, V) → ∀ (r : Int32) (K' : St × (St × (St × St))), df_X5_come n (sR V 0 i) (sQ V 1 i) (sR V 1 i) s.2.2.1 = some (r, K') → dF_X11_takeRecorded_0 n g s = g (pI s.1 5 (nI (i + 1)), (s.2.1, (K', s.2.2.2)))) := by
  have u1 : i < 2 ^ 31 := by omega
  have u2 : N < 2 ^ 31 := by omega
  have k2 : nI i + 1 = nI (i + 1) := nI_add ..
  rcases hV with ⟨o, rfl⟩ | ⟨o, rfl⟩
  · refine ⟨fun z => ?_, fun z y => ?_, fun z y r K' x => ?_⟩
    · unfold dF_X11_takeRecorded_0
      rw [if_pos o, e0, e5, if_pos (by rw [nI_leI u2 u1]; exact z)]
      rfl
    · unfold dF_X11_takeRecorded_0
      rw [if_pos o, e0, e5, if_neg (fun w => by rw [nI_leI u2 u1] at w; exact z w), e3, y, nb_b2, nb_let, if_pos (show nI 0 = (0 : Int32) from rfl)]
      rfl
    · unfold dF_X11_takeRecorded_0
      rw [if_pos o, e0, e5, if_neg (fun w => by rw [nI_leI u2 u1] at w; exact z w), e3, y, nb_b2, nb_let, if_neg (show ¬ nI 1 = (0 : Int32) by decide)]
      dsimp only
      rw [e5, nm_ck (by omega) u1, nm_ck (by omega) u1, nm_ck (by omega) u1, nI_clamp u1, x, nb_b2, nb_let, nb_let]
      dsimp only
      rw [e5, k2]
  · refine ⟨fun z => ?_, fun z y => ?_, fun z y r K' x => ?_⟩
    · unfold dF_X11_takeRecorded_0
      rw [if_neg (show ¬ sO s.1 0 = some 27 by rw [o]; decide), if_pos o, e0, e5, if_pos (by rw [nI_leI u2 u1]; exact z)]
      rfl
    · unfold dF_X11_takeRecorded_0
      rw [if_neg (show ¬ sO s.1 0 = some 27 by rw [o]; decide), if_pos o, e0, e5, if_neg (fun w => by rw [nI_leI u2 u1] at w; exact z w), e3, y, nb_b2, nb_let, if_pos (show nI 0 = (0 : Int32) from rfl)]
      rfl
    · unfold dF_X11_takeRecorded_0
      rw [if_neg (show ¬ sO s.1 0 = some 27 by rw [o]; decide), if_pos o, e0, e5, if_neg (fun w => by rw [nI_leI u2 u1] at w; exact z w), e3, y, nb_b2, nb_let, if_neg (show ¬ nI 1 = (0 : Int32) by decide)]
      dsimp only
      rw [e5, nm_ck (by omega) u1, nm_ck (by omega) u1, nm_ck (by omega) u1, nI_clamp u1, x, nb_b2, nb_let, nb_let]
      dsimp only
      rw [e5, k2]
/-- the class takes what is recorded of a count -/
theorem ct_rec (n : Nat) (hn : 1024 < n) {Q V : St} {N T e c : Nat} {lo : Nat → Nat} (hc : c ≤ e) (hL : cLg V N T e lo) : ∀ (m i g : Nat) (s : St × Rw × (St × (St × (St × (St)))) × (St) × (St) × (Nat → St) × (Nat → St) × (Nat → St × (St))) (X : St × St), m < g → i + m = lo (c + 1) → lo c ≤ i → eA s V → sI s.1 5 = nI i → sI s.1 3 = nI c → tX n Q c s.2.2.1.2.2 X → ∃ M' : St × St, evC n (evs (evK V) i m) s.2.2.1 = some (s.2.2.1.1, (s.2.2.1.2.1, M')) ∧ df_X11_takeRecorded_0 n g s = some (pI s.1 5 (nI (lo (c + 1))), (s.2.1, ((s.2.2.1.1, (s.2.2.1.2.1, M')), s.2.2.2)))
  | 0, i, g, s, X, hg, hi, h1, hV, h5, h3, hX => by
    obtain ⟨l1, l2, l3, l4, l5, l6, l7, l8⟩ := hL
    obtain ⟨g', rfl⟩ : ∃ g' : Nat, g = g' + 1 := ⟨g - 1, by omega⟩
    have ln := okL_N l5 (c + 1)
    have hi : i = lo (c + 1) := by omega
    refine ⟨s.2.2.1.2.2, rfl, ?_⟩
    have e0 : (pI s.1 5 (nI (lo (c + 1))), (s.2.1, ((s.2.2.1.1, (s.2.2.1.2.1, s.2.2.1.2.2)), s.2.2.2))) = s := by
      rw [← hi, ← h5, nm_i0]
    rw [e0, show df_X11_takeRecorded_0 n (g' + 1) = dF_X11_takeRecorded_0 n (df_X11_takeRecorded_0 n g') from rfl]
    obtain ⟨t1, t2, _⟩ := tr_1 n hV (df_X11_takeRecorded_0 n g') (N := N) (i := i) (c := c) (by omega) (by omega) l1 h5 h3
    by_cases y : N ≤ i
    · exact t1 y
    · obtain ⟨c', g1, g2, g3, g4⟩ := okL_at l5 (show i < N by omega) (e - c) (c + 1) (by omega) (by omega)
      exact t2 y (ia_0 n l4 (by omega) l2 (fun _ z => by
        rw [l6 i c' g2 g3 g4] at z
        have := i64_in (by omega) (by omega) z
        omega))
  | m + 1, i, g, s, X, hg, hi, h1, hV, h5, h3, hX => by
    obtain ⟨l1, l2, l3, l4, l5, l6, l7, l8⟩ := id hL
    obtain ⟨g', rfl⟩ : ∃ g' : Nat, g = g' + 1 := ⟨g - 1, by omega⟩
    have ln := okL_N l5 (c + 1)
    obtain ⟨k, k5, ek, ev⟩ := l7 i (by omega)
    obtain ⟨r, M1, X1, _, a1, a2, a3, _⟩ := tX_ev n hn (K := s.2.2.1) ev hX
    obtain ⟨M', b1, b2⟩ := ct_rec n hn hc hL m (i + 1) g' (pI s.1 5 (nI (i + 1)), (s.2.1, ((s.2.2.1.1, (s.2.2.1.2.1, M1)), s.2.2.2))) X1 (by omega) (by omega) (by omega) hV rfl h3 a3
    have ee : evK V i = (k, sQ V 1 i, sR V 1 i) := by
      unfold evK
      rw [ek, nI_clamp (by omega)]
    refine ⟨M', ?_, ?_⟩
    · show nd_b2 (df_X5_come n (nI (evK V i).1) (evK V i).2.1 (evK V i).2.2 s.2.2.1) _ = _
      rw [ee]
      show nd_b2 (df_X5_come n (nI k) (sQ V 1 i) (sR V 1 i) s.2.2.1) _ = _
      rw [a1, nb_b2]
      exact b1
    · rw [show df_X11_takeRecorded_0 n (g' + 1) = dF_X11_takeRecorded_0 n (df_X11_takeRecorded_0 n g') from rfl]
      obtain ⟨_, _, t3⟩ := tr_1 n hV (df_X11_takeRecorded_0 n g') (N := N) (i := i) (c := c) (by omega) (by omega) l1 h5 h3
      rw [t3 (by omega) (ia_1 n l4 (by omega) l2 (l6 i c hc h1 (by omega))) r _ (by rw [ek]; exact a1)]
      have b2 : df_X11_takeRecorded_0 n g' (pI s.1 5 (nI (i + 1)), (s.2.1, ((s.2.2.1.1, (s.2.2.1.2.1, M1)), s.2.2.2))) = some (pI (pI s.1 5 (nI (i + 1))) 5 (nI (lo (c + 1))), (s.2.1, ((s.2.2.1.1, (s.2.2.1.2.1, M')), s.2.2.2))) := b2
      rw [nm_ii] at b2
      exact b2
/-- and so a whole count, with all that is tied -/
theorem ct_take (n : Nat) (hn : 40000 < n) {v : Int32} {Q V : St} {N T e c : Nat} {lo : Nat → Nat} {s : St × Rw × (St × (St × (St × (St)))) × (St) × (St) × (Nat → St) × (Nat → St) × (Nat → St × (St))} (hc : c ≤ e) (hL : cLg V N T e lo) (hV : eA s V) (h5 : sI s.1 5 = nI (lo c)) (h3 : sI s.1 3 = nI c) (hB : tB n v Q (lgL (evK V) lo) c s.2.2.1.2.2) : ∃ M' : St × St, tA n v Q (lgL (evK V) lo) c M' ∧ df_X11_takeRecorded n s = some (pI s.1 5 (nI (lo (c + 1))), (s.2.1, ((s.2.2.1.1, (s.2.2.1.2.1, M')), s.2.2.2))) := by
  obtain ⟨l1, l2, l3, l4, l5, l6, l7, l8⟩ := id hL
  have ln := okL_N l5 (c + 1)
  have lm := l5.2.1 c
  obtain ⟨X, hX⟩ := hB.1
  obtain ⟨M', b1, b2⟩ := ct_rec n (by omega) hc hL (lo (c + 1) - lo c) (lo c) n s X (by omega) (by omega) (Nat.le_refl _) hV h5 h3 (hB.2 X hX)
  obtain ⟨M2, c1, c2⟩ := tB_A n (by omega) (K := s.2.2.1) hB (fun x hx => by
    obtain ⟨k, g1, g2, g3⟩ := evs_m _ _ hx
    obtain ⟨kk, k5, e1, e2⟩ := l7 k (by omega)
    rw [g3]
    show evV (Int32.toNatClampNeg (sR V 0 k)) (sQ V 1 k) (sR V 1 k)
    rw [e1, nI_clamp (by omega)]
    exact e2)
  have c1 : evC n (evs (evK V) (lo c) (lo (c + 1) - lo c)) s.2.2.1 = some (s.2.2.1.1, (s.2.2.1.2.1, M2)) := c1
  rw [b1] at c1
  injection c1 with c1
  injection c1 with _ c1
  injection c1 with _ c1
  subst c1
  exact ⟨M', c2, b2⟩

/-- what becomes a tied machine is tied -/
theorem tB_become (n : Nat) (hn : 1024 < n) {v : Int32} {Q : St} {L : Nat → List (Nat × Int64 × Int32)} {c : Nat} {A B : St × St} {s0 : St} (h : tB n v Q L c B) : ∃ M' : St × St, df_X6_become n (s0, (A, B)) = some (s0, (M', B)) ∧ tB n v Q L c M' := by
  obtain ⟨⟨X, hX⟩, h2⟩ := h
  obtain ⟨M', e1, e2⟩ := rM_become n hn (A := A) (s0 := s0) (h2 X hX).1
  refine ⟨M', e1, ⟨X, hX⟩, fun Y hY => ?_⟩
  obtain ⟨a1, a2⟩ := h2 Y hY
  exact ⟨e2 _ Y a1, a2⟩
/-- a copy is kept -/
theorem kc_1 (n : Nat) {s : St × Rw × (St × (St × (St × (St)))) × (St) × (St) × (Nat → St) × (Nat → St) × (Nat → St × (St))} {cp c j : Nat} {M' : St × St} (hcp : cp < 8) (e1 : sI s.1 1 = nI cp) (e3 : sI s.1 3 = nI c) (ej : s.2.1 3 cp = some j) (hj : j < 8) (hb : df_X6_become n (nd_st0, (s.2.2.2.2.2.2.2 j, s.2.2.1.2.2)) = some (nd_st0, (M', s.2.2.1.2.2))) : df_X11_keepCopy n s = some (pI (pR s.1 1 (upd (sR s.1 1) cp (nI c))) 1 (nI (cp + 1)), (s.2.1, (s.2.2.1, (s.2.2.2.1, (s.2.2.2.2.1, (s.2.2.2.2.2.1, (s.2.2.2.2.2.2.1, fun i => if i = j then M' else s.2.2.2.2.2.2.2 i))))))) := by
  have u1 : cp < 2 ^ 31 := by omega
  have k2 : nI cp + 1 = nI (cp + 1) := nI_add ..
  unfold df_X11_keepCopy df_X11_keepCopy_0
  rw [e1, if_neg (show ¬ (8 : Int32) ≤ nI cp from fun z => by have z : nI 8 ≤ nI cp := z; rw [nI_leI (by omega) u1] at z; omega), nm_ck hcp u1, nI_clamp u1, ej, nb_mS, nb_lt hj, hb, nb_b1, nb_let]
  dsimp only
  rw [e1, nm_ck hcp u1, nI_clamp u1, e3, nb_let, nb_let]
  dsimp only
  rw [show ∀ f : Nat → Int32, sI (pR s.1 1 f) 1 = nI cp from fun _ => e1, k2]
  rfl
/-- one turn of thinning out -/
theorem th_1 (n : Nat) {s : St × Rw × (St × (St × (St × (St)))) × (St) × (St) × (Nat → St) × (Nat → St) × (Nat → St × (St))} {g : Int32 → St × Rw × (St × (St × (St × (St)))) × (St) × (St) × (Nat → St) × (Nat → St) × (Nat → St × (St)) → Option (St × Rw × (St × (St × (St × (St)))) × (St) × (St) × (Nat → St) × (Nat → St) × (Nat → St × (St)))} {i j1 j2 : Nat} (hi : 1 ≤ i) (hi3 : i ≤ 3) (e1 : s.2.1 3 i = some j1) (e2 : s.2.1 3 (2 * i) = some j2) (h1 : j1 < 8) (h2 : j2 < 8) : dF_X11_thinOut_2 n g (nI i) s = g (nI (i + 1)) (pR s.1 1 (upd (sR s.1 1) i (sR s.1 1 (2 * i))), (pW s.2.1 3 (va_up (va_up (s.2.1 3) i (some j2)) (2 * i) (some j1)), s.2.2)) := by
  have u1 : i < 2 ^ 31 := by omega
  have u2 : 2 * i < 2 ^ 31 := by omega
  have k1 : (2 : Int32) * nI i = nI (2 * i) := by
    show nI 2 * nI i = nI (2 * i)
    exact pk_mul ..
  have k2 : nI i + Int32.ofInt 1 = nI (i + 1) := nI_add ..
  have pw : ∀ (r : Rw) (f g : Nat → Option Nat), pW (pW r 3 f) 3 g = pW r 3 g := fun r f g => by
    funext a
    unfold pW
    by_cases c : a = 3
    · rw [if_pos c, if_pos c]
    · rw [if_neg c, if_neg c, if_neg c]
  have pr : ∀ (r : Rw) (f : Nat → Option Nat), (pW r 3 f) 3 = f := fun r f => if_pos rfl
  unfold dF_X11_thinOut_2
  rw [k1, if_neg (show ¬ (8 : Int32) ≤ nI (2 * i) from fun z => by have z : nI 8 ≤ nI (2 * i) := z; rw [nI_leI (by omega) u2] at z; omega), nm_ck (by omega) u1, nI_clamp u1, e1, nb_mS, nm_ck (by omega) u2, nI_clamp u2, e2, nb_mS, nm_ck (by omega) u1, nb_lt h2, nb_let, nm_ck (by omega) u2, nb_lt h1, nb_let, nm_ck (by omega) u2, nm_ck (by omega) u1, nb_let, nb_let, k2]
  dsimp only
  rw [pr, pw]
theorem th_4 (n : Nat) {s : St × Rw × (St × (St × (St × (St)))) × (St) × (St) × (Nat → St) × (Nat → St) × (Nat → St × (St))} {g : Int32 → St × Rw × (St × (St × (St × (St)))) × (St) × (St) × (Nat → St) × (Nat → St) × (Nat → St × (St)) → Option (St × Rw × (St × (St × (St × (St)))) × (St) × (St) × (Nat → St) × (Nat → St) × (Nat → St × (St)))} {sp : Nat} (e2 : sI s.1 2 = nI sp) : dF_X11_thinOut_2 n g (nI 4) s = some (pI (pI s.1 1 (nI 4)) 2 (nI (sp * 2)), s.2) := by
  unfold dF_X11_thinOut_2
  rw [if_pos (show (8 : Int32) ≤ 2 * nI 4 by decide), nb_let, nb_let]
  dsimp only
  rw [show sI (pI s.1 1 4) 2 = nI sp from e2, show nI sp * 2 = nI (sp * 2) from pk_mul ..]
  rfl

/-- where the copies go as every second one goes -/
def tx (i : Nat) : Nat := if i = 1 then 2 else if i = 2 then 4 else if i = 3 then 6 else if i = 4 then 1 else if i = 6 then 3 else i
theorem tx_8 : ∀ i : Fin 8, tx i.1 < 8 := by decide
theorem tx_in : ∀ i j : Fin 8, tx i.1 = tx j.1 → i = j := by decide
theorem tx_4 : ∀ i : Fin 4, tx i.1 = 2 * i.1 := by decide
theorem vu_s {f : Nat → Option Nat} {i : Nat} {v : Option Nat} : va_up f i v i = v := if_pos rfl
theorem vu_n {f : Nat → Option Nat} {i j : Nat} {v : Option Nat} (h : j ≠ i) : va_up f i v j = f j := if_neg h
theorem th_all (n : Nat) (hn : 1024 < n) {s : St × Rw × (St × (St × (St × (St)))) × (St) × (St) × (Nat → St) × (Nat → St) × (Nat → St × (St))} {ix : Nat → Nat} {sp : Nat} (hx : ∀ i : Nat, i < 8 → s.2.1 3 i = some (ix i) ∧ ix i < 8) (e2 : sI s.1 2 = nI sp) : ∃ (R : Nat → Int32) (W : Nat → Option Nat), df_X11_thinOut n s = some (pI (pI (pR s.1 1 R) 1 (nI 4)) 2 (nI (sp * 2)), (pW s.2.1 3 W, s.2.2)) ∧ (∀ i : Nat, i < 8 → W i = some (ix (tx i)) ∧ ix (tx i) < 8) ∧ (∀ i : Nat, i < 4 → R i = sR s.1 1 (2 * i)) := by
  obtain ⟨m, rfl⟩ : ∃ m : Nat, n = m + 4 := ⟨n - 4, by omega⟩
  have pr : ∀ (r : Rw) (f : Nat → Option Nat), (pW r 3 f) 3 = f := fun r f => if_pos rfl
  have pw : ∀ (r : Rw) (f g : Nat → Option Nat), pW (pW r 3 f) 3 g = pW r 3 g := fun r f g => by
    funext a
    unfold pW
    by_cases c : a = 3
    · rw [if_pos c, if_pos c]
    · rw [if_neg c, if_neg c, if_neg c]
  obtain ⟨x1, y1⟩ := hx 1 (by omega)
  obtain ⟨x2, y2⟩ := hx 2 (by omega)
  obtain ⟨x3, y3⟩ := hx 3 (by omega)
  obtain ⟨x4, y4⟩ := hx 4 (by omega)
  obtain ⟨x6, y6⟩ := hx 6 (by omega)
  obtain ⟨x0, y0⟩ := hx 0 (by omega)
  obtain ⟨x5, y5⟩ := hx 5 (by omega)
  obtain ⟨x7, y7⟩ := hx 7 (by omega)
  generalize hW : s.2.1 3 = W at x0 x1 x2 x3 x4 x5 x6 x7
  have a1 := th_1 (m + 4) (g := df_X11_thinOut_2 (m + 4) (m + 3)) (s := s) (i := 1) (by omega) (by omega) (by rw [hW]; exact x1) (by rw [hW]; exact x2) y1 y2
  rw [hW] at a1
  have w2 : va_up (va_up W 1 (some (ix 2))) 2 (some (ix 1)) 2 = some (ix 1) := vu_s
  have w4 : va_up (va_up W 1 (some (ix 2))) 2 (some (ix 1)) 4 = some (ix 4) := by rw [vu_n (by omega), vu_n (by omega)]; exact x4
  have a2 := th_1 (m + 4) (g := df_X11_thinOut_2 (m + 4) (m + 2)) (s := (pR s.1 1 (upd (sR s.1 1) 1 (sR s.1 1 2)), (pW s.2.1 3 (va_up (va_up W 1 (some (ix 2))) 2 (some (ix 1))), s.2.2))) (i := 2) (by omega) (by omega) (by show (pW s.2.1 3 _) 3 2 = _; rw [pr]; exact w2) (by show (pW s.2.1 3 _) 3 4 = _; rw [pr]; exact w4) y1 y4
  dsimp only at a2
  rw [pr, pw] at a2
  have w3 : va_up (va_up (va_up (va_up W 1 (some (ix 2))) 2 (some (ix 1))) 2 (some (ix 4))) 4 (some (ix 1)) 3 = some (ix 3) := by rw [vu_n (by omega), vu_n (by omega), vu_n (by omega), vu_n (by omega)]; exact x3
  have w6 : va_up (va_up (va_up (va_up W 1 (some (ix 2))) 2 (some (ix 1))) 2 (some (ix 4))) 4 (some (ix 1)) 6 = some (ix 6) := by rw [vu_n (by omega), vu_n (by omega), vu_n (by omega), vu_n (by omega)]; exact x6
  have r1 : sR (pR s.1 1 (upd (sR s.1 1) 1 (sR s.1 1 2))) 1 = upd (sR s.1 1) 1 (sR s.1 1 2) := rfl
  rw [r1, nm_rr] at a2
  have q4 : upd (sR s.1 1) 1 (sR s.1 1 2) (2 * 2) = sR s.1 1 4 := nm_un (by omega)
  rw [q4] at a2
  have a3 := th_1 (m + 4) (g := df_X11_thinOut_2 (m + 4) (m + 1)) (s := (pR s.1 1 (upd (upd (sR s.1 1) 1 (sR s.1 1 2)) 2 (sR s.1 1 4)), (pW s.2.1 3 (va_up (va_up (va_up (va_up W 1 (some (ix 2))) 2 (some (ix 1))) 2 (some (ix 4))) 4 (some (ix 1))), s.2.2))) (i := 3) (by omega) (by omega) (by show (pW s.2.1 3 _) 3 3 = _; rw [pr]; exact w3) (by show (pW s.2.1 3 _) 3 6 = _; rw [pr]; exact w6) y3 y6
  dsimp only at a3
  rw [pr, pw] at a3
  have r2 : sR (pR s.1 1 (upd (upd (sR s.1 1) 1 (sR s.1 1 2)) 2 (sR s.1 1 4))) 1 = upd (upd (sR s.1 1) 1 (sR s.1 1 2)) 2 (sR s.1 1 4) := rfl
  rw [r2, nm_rr] at a3
  have q6 : upd (upd (sR s.1 1) 1 (sR s.1 1 2)) 2 (sR s.1 1 4) (2 * 3) = sR s.1 1 6 := by rw [nm_un (by omega), nm_un (by omega)]
  rw [q6] at a3
  refine ⟨upd (upd (upd (sR s.1 1) 1 (sR s.1 1 2)) 2 (sR s.1 1 4)) 3 (sR s.1 1 6), va_up (va_up (va_up (va_up (va_up (va_up W 1 (some (ix 2))) 2 (some (ix 1))) 2 (some (ix 4))) 4 (some (ix 1))) 3 (some (ix 6))) 6 (some (ix 3)), ?_, fun i hi => ?_, fun i hi => ?_⟩
  · refine Eq.trans (b := dF_X11_thinOut_2 (m + 4) (df_X11_thinOut_2 (m + 4) (m + 3)) (nI 1) s) rfl ?_
    rw [a1]
    refine Eq.trans (b := dF_X11_thinOut_2 (m + 4) (df_X11_thinOut_2 (m + 4) (m + 2)) (nI 2) (pR s.1 1 (upd (sR s.1 1) 1 (sR s.1 1 2)), (pW s.2.1 3 (va_up (va_up W 1 (some (ix 2))) 2 (some (ix 1))), s.2.2))) rfl ?_
    rw [a2]
    refine Eq.trans (b := dF_X11_thinOut_2 (m + 4) (df_X11_thinOut_2 (m + 4) (m + 1)) (nI 3) (pR s.1 1 (upd (upd (sR s.1 1) 1 (sR s.1 1 2)) 2 (sR s.1 1 4)), (pW s.2.1 3 (va_up (va_up (va_up (va_up W 1 (some (ix 2))) 2 (some (ix 1))) 2 (some (ix 4))) 4 (some (ix 1))), s.2.2))) rfl ?_
    rw [a3]
    refine Eq.trans (b := dF_X11_thinOut_2 (m + 4) (df_X11_thinOut_2 (m + 4) m) (nI 4) (pR s.1 1 (upd (upd (upd (sR s.1 1) 1 (sR s.1 1 2)) 2 (sR s.1 1 4)) 3 (sR s.1 1 6)), (pW s.2.1 3 (va_up (va_up (va_up (va_up (va_up (va_up W 1 (some (ix 2))) 2 (some (ix 1))) 2 (some (ix 4))) 4 (some (ix 1))) 3 (some (ix 6))) 6 (some (ix 3))), s.2.2))) rfl ?_
    exact th_4 (m + 4) (sp := sp) e2
  · have h8 : i = 0 ∨ i = 1 ∨ i = 2 ∨ i = 3 ∨ i = 4 ∨ i = 5 ∨ i = 6 ∨ i = 7 := by omega
    rcases h8 with e | e | e | e | e | e | e | e
    · subst e; exact ⟨by rw [vu_n (by omega), vu_n (by omega), vu_n (by omega), vu_n (by omega), vu_n (by omega), vu_n (by omega)]; exact x0, y0⟩
    · subst e; exact ⟨by rw [vu_n (by omega), vu_n (by omega), vu_n (by omega), vu_n (by omega), vu_n (by omega), vu_s]; rfl, y2⟩
    · subst e; exact ⟨by rw [vu_n (by omega), vu_n (by omega), vu_n (by omega), vu_s]; rfl, y4⟩
    · subst e; exact ⟨by rw [vu_n (by omega), vu_s]; rfl, y6⟩
    · subst e; exact ⟨by rw [vu_n (by omega), vu_n (by omega), vu_s]; rfl, y1⟩
    · subst e; exact ⟨by rw [vu_n (by omega), vu_n (by omega), vu_n (by omega), vu_n (by omega), vu_n (by omega), vu_n (by omega)]; exact x5, y5⟩
    · subst e; exact ⟨by rw [vu_s]; rfl, y3⟩
    · subst e; exact ⟨by rw [vu_n (by omega), vu_n (by omega), vu_n (by omega), vu_n (by omega), vu_n (by omega), vu_n (by omega)]; exact x7, y7⟩
  · have h4 : i = 0 ∨ i = 1 ∨ i = 2 ∨ i = 3 := by omega
    rcases h4 with e | e | e | e
    · subst e; rw [nm_un (by omega), nm_un (by omega), nm_un (by omega)]
    · subst e; rw [nm_un (by omega), nm_un (by omega)]; exact nm_us
    · subst e; rw [nm_un (by omega)]; exact nm_us
    · subst e; exact nm_us

/-- the copies that are kept -/
def cC (n : Nat) (v : Int32) (Q : St) (L : Nat → List (Nat × Int64 × Int32)) (s : St × Rw × (St × (St × (St × (St)))) × (St) × (St) × (Nat → St) × (Nat → St) × (Nat → St × (St))) (cp sp e : Nat) (at_ ix : Nat → Nat) : Prop := (1 ≤ cp ∧ cp ≤ 8 ∧ sI s.1 1 = nI cp ∧ sI s.1 2 = nI sp ∧ 1 ≤ sp ∧ sp ≤ 65536) ∧ (∀ i : Nat, i < 8 → s.2.1 3 i = some (ix i) ∧ ix i < 8) ∧ (∀ i j : Nat, i < 8 → j < 8 → ix i = ix j → i = j) ∧ at_ 0 = 0 ∧ (∀ i : Nat, i + 1 < cp → at_ i < at_ (i + 1)) ∧ ∀ i : Nat, i < cp → i * sp ≤ at_ i ∧ at_ i ≤ e ∧ sR s.1 1 i = nI (at_ i) ∧ tB n v Q L (at_ i) (s.2.2.2.2.2.2.2 (ix i))
/-- what the keeping of copies leaves as it was -/
def fS (s s' : St × Rw × (St × (St × (St × (St)))) × (St) × (St) × (Nat → St) × (Nat → St) × (Nat → St × (St))) : Prop := (∀ k : Nat, ¬ k = 1 → ¬ k = 2 → ¬ k = 3 → sI s'.1 k = sI s.1 k) ∧ sR s'.1 0 = sR s.1 0 ∧ (∀ k : Nat, sO s'.1 k = sO s.1 k) ∧ (∀ r : Nat, ¬ r = 3 → s'.2.1 r = s.2.1 r) ∧ s'.2.2.1 = s.2.2.1 ∧ s'.2.2.2.1 = s.2.2.2.1 ∧ s'.2.2.2.2.1 = s.2.2.2.2.1 ∧ s'.2.2.2.2.2.1 = s.2.2.2.2.2.1 ∧ s'.2.2.2.2.2.2.1 = s.2.2.2.2.2.2.1
theorem fS_t {a b c : St × Rw × (St × (St × (St × (St)))) × (St) × (St) × (Nat → St) × (Nat → St) × (Nat → St × (St))} (h : fS a b) (g : fS b c) : fS a c := by
  obtain ⟨h1, h2, h3, h4, h5, h6, h7, h8, h9⟩ := h
  obtain ⟨g1, g2, g3, g4, g5, g6, g7, g8, g9⟩ := g
  exact ⟨fun k a b c => (g1 k a b c).trans (h1 k a b c), g2.trans h2, fun k => (g3 k).trans (h3 k), fun r a => (g4 r a).trans (h4 r a), g5.trans h5, g6.trans h6, g7.trans h7, g8.trans h8, g9.trans h9⟩
theorem at_mono {at_ : Nat → Nat} {cp : Nat} (h : ∀ i : Nat, i + 1 < cp → at_ i < at_ (i + 1)) : ∀ (m i : Nat), i + m < cp → at_ i + m ≤ at_ (i + m)
  | 0, i, _ => Nat.le_refl _
  | m + 1, i, hi => by
    have a := at_mono h m i (by omega)
    have b := h (i + m) (by omega)
    show at_ i + (m + 1) ≤ at_ (i + m + 1)
    omega
/-- a copy of the machine as it is -/
theorem kc_C (n : Nat) (hn : 1024 < n) {v : Int32} {Q : St} {L : Nat → List (Nat × Int64 × Int32)} {s : St × Rw × (St × (St × (St × (St)))) × (St) × (St) × (Nat → St) × (Nat → St) × (Nat → St × (St))} {cp sp e c : Nat} {at_ ix : Nat → Nat} (hC : cC n v Q L s cp sp e at_ ix) (h8 : cp < 8) (h3 : sI s.1 3 = nI c) (hB : tB n v Q L c s.2.2.1.2.2) (hc : c ≤ e) (h1 : at_ (cp - 1) < c) (h2 : cp * sp ≤ c) : ∃ (s' : St × Rw × (St × (St × (St × (St)))) × (St) × (St) × (Nat → St) × (Nat → St) × (Nat → St × (St))) (at' : Nat → Nat), df_X11_keepCopy n s = some s' ∧ cC n v Q L s' (cp + 1) sp e at' ix ∧ fS s s' ∧ sI s'.1 3 = nI c ∧ ∀ i : Nat, i < cp + 1 → at' i = c ∨ ∃ x : Nat, x < cp ∧ at' i = at_ x := by
  obtain ⟨⟨a1, a2, a3, a4, a5, a6⟩, b1, b2, b3, b4, b5⟩ := hC
  obtain ⟨x1, x2⟩ := b1 cp h8
  obtain ⟨M', k1, k2⟩ := tB_become n hn (A := s.2.2.2.2.2.2.2 (ix cp)) (s0 := nd_st0) hB
  have K := kc_1 n h8 a3 h3 x1 x2 k1
  refine ⟨_, fun i => if i = cp then c else at_ i, K, ⟨⟨by omega, by omega, rfl, a4, a5, a6⟩, b1, b2, ?_, fun i hi => ?_, fun i hi => ?_⟩, ⟨fun k y1 y2 y3 => ?_, rfl, fun _ => rfl, fun _ _ => rfl, rfl, rfl, rfl, rfl, rfl⟩, h3, fun i hi => ?_⟩
  · show (if 0 = cp then c else at_ 0) = 0
    rw [if_neg (by omega)]; exact b3
  · show (if i = cp then c else at_ i) < (if i + 1 = cp then c else at_ (i + 1))
    rw [if_neg (by omega)]
    by_cases d : i + 1 = cp
    · rw [if_pos d, show i = cp - 1 by omega]; exact h1
    · rw [if_neg d]; exact b4 i (by omega)
  · by_cases d : i = cp
    · subst d
      refine ⟨(show i * sp ≤ (if i = i then c else at_ i) by rw [if_pos rfl]; exact h2), (show (if i = i then c else at_ i) ≤ e by rw [if_pos rfl]; exact hc), ?_, ?_⟩
      · show upd (sR s.1 1) i (nI c) i = nI (if i = i then c else at_ i)
        rw [nm_us, if_pos rfl]
      · show tB n v Q L (if i = i then c else at_ i) (if ix i = ix i then M' else s.2.2.2.2.2.2.2 (ix i))
        rw [if_pos rfl, if_pos rfl]; exact k2
    · obtain ⟨c1, c2, c3, c4⟩ := b5 i (by omega)
      refine ⟨(show i * sp ≤ (if i = cp then c else at_ i) by rw [if_neg d]; exact c1), (show (if i = cp then c else at_ i) ≤ e by rw [if_neg d]; exact c2), ?_, ?_⟩
      · show upd (sR s.1 1) cp (nI c) i = nI (if i = cp then c else at_ i)
        rw [nm_un d, if_neg d]; exact c3
      · show tB n v Q L (if i = cp then c else at_ i) (if ix i = ix cp then M' else s.2.2.2.2.2.2.2 (ix i))
        rw [if_neg d, if_neg (fun z => d (b2 i cp (by omega) h8 z))]; exact c4
  · show sI (pI (pR s.1 1 _) 1 _) k = sI s.1 k
    rw [nb_II, if_neg y1]
    rfl
  · show (if i = cp then c else at_ i) = c ∨ ∃ x : Nat, x < cp ∧ (if i = cp then c else at_ i) = at_ x
    by_cases d : i = cp
    · rw [if_pos d]; exact Or.inl rfl
    · rw [if_neg d]; exact Or.inr ⟨i, by omega, rfl⟩
/-- every second copy goes -/
theorem th_C (n : Nat) (hn : 1024 < n) {v : Int32} {Q : St} {L : Nat → List (Nat × Int64 × Int32)} {s : St × Rw × (St × (St × (St × (St)))) × (St) × (St) × (Nat → St) × (Nat → St) × (Nat → St × (St))} {sp e : Nat} {at_ ix : Nat → Nat} (hC : cC n v Q L s 8 sp e at_ ix) (he : e ≤ 60000) : ∃ s' : St × Rw × (St × (St × (St × (St)))) × (St) × (St) × (Nat → St) × (Nat → St) × (Nat → St × (St)), df_X11_thinOut n s = some s' ∧ cC n v Q L s' 4 (sp * 2) e (fun i => at_ (2 * i)) (fun i => ix (tx i)) ∧ fS s s' ∧ sI s'.1 3 = sI s.1 3 := by
  obtain ⟨⟨a1, a2, a3, a4, a5, a6⟩, b1, b2, b3, b4, b5⟩ := hC
  obtain ⟨R, W, t1, t2, t3⟩ := th_all n hn b1 a4
  have sb : sp * 2 ≤ 65536 := by
    have := (b5 7 (by omega)).1
    have := (b5 7 (by omega)).2.1
    omega
  refine ⟨_, t1, ⟨⟨by omega, by omega, rfl, rfl, by omega, sb⟩, fun i hi => ?_, fun i j hi hj z => ?_, b3, fun i hi => ?_, fun i hi => ?_⟩, ⟨fun k y1 y2 y3 => ?_, rfl, fun _ => rfl, fun r hr => ?_, rfl, rfl, rfl, rfl, rfl⟩, rfl⟩
  · show (pW s.2.1 3 W) 3 i = _ ∧ _
    rw [show (pW s.2.1 3 W) 3 = W from if_pos rfl]
    exact t2 i hi
  · have := b2 (tx i) (tx j) (tx_8 ⟨i, hi⟩) (tx_8 ⟨j, hj⟩) z
    exact congrArg Fin.val (tx_in ⟨i, hi⟩ ⟨j, hj⟩ this)
  · have m := at_mono b4 2 (2 * i) (by omega)
    show at_ (2 * i) < at_ (2 * (i + 1))
    rw [show 2 * (i + 1) = 2 * i + 2 by omega]
    omega
  · obtain ⟨c1, c2, c3, c4⟩ := b5 (2 * i) (by omega)
    refine ⟨?_, c2, ?_, ?_⟩
    · show i * (sp * 2) ≤ at_ (2 * i)
      rw [show i * (sp * 2) = 2 * i * sp by rw [Nat.mul_comm sp 2, ← Nat.mul_assoc, Nat.mul_comm i 2]]
      exact c1
    · show R i = _
      rw [t3 i hi]; exact c3
    · show tB n v Q L (at_ (2 * i)) (s.2.2.2.2.2.2.2 (ix (tx i)))
      rw [tx_4 ⟨i, hi⟩]; exact c4
  · show sI (pI (pI (pR s.1 1 R) 1 _) 2 _) k = sI s.1 k
    rw [nb_II, if_neg y2, nb_II, if_neg y1]
    rfl
  · show (pW s.2.1 3 W) r = s.2.1 r
    exact if_neg hr
theorem mx_1 {sp : Nat} (h : 1 ≤ sp) (h2 : sp ≤ 65536) : (if (1 : Int32) < nI sp then nI sp else 1) = nI sp := by
  by_cases c : sp = 1
  · rw [c]; rfl
  · rw [if_pos (show (1 : Int32) < nI sp from (show nI 1 < nI sp by rw [nI_ltI (by omega) (by omega)]; omega))]
theorem rm_1 {sp c : Nat} (h : 1 ≤ sp) (h2 : sp ≤ 65536) (hc : c < 2 ^ 31) : nI c - nI c / nI sp * nI sp = nI (c - c / sp * sp) := by
  have l := Nat.div_mul_le_self c sp
  rw [nm_div hc (by omega) (by omega), pk_mul, pk_sub l]
theorem mul_up {sp c k : Nat} (h : c - c / sp * sp = 0) (hk : (k - 1) * sp < c) (hk1 : 1 ≤ k) : k * sp ≤ c := by
  have l := Nat.div_mul_le_self c sp
  have e : c / sp * sp = c := by omega
  have : k - 1 < c / sp := by
    rw [← e] at hk
    exact Nat.lt_of_mul_lt_mul_right hk
  have : k * sp ≤ c / sp * sp := Nat.mul_le_mul_right sp (by omega)
  omega
/-- the copies at a new count -/
theorem ad_92 (n : Nat) (hn : 1024 < n) {v : Int32} {Q : St} {L : Nat → List (Nat × Int64 × Int32)} {s : St × Rw × (St × (St × (St × (St)))) × (St) × (St) × (Nat → St) × (Nat → St) × (Nat → St × (St))} {cp sp e c : Nat} {at_ ix : Nat → Nat} (hC : cC n v Q L s cp sp e at_ ix) (h8 : cp < 8) (h3 : sI s.1 3 = nI c) (hB : tB n v Q L c s.2.2.1.2.2) (hc : c ≤ e) (he : e ≤ 60000) (h1 : at_ (cp - 1) < c) : ∃ (s' : St × Rw × (St × (St × (St × (St)))) × (St) × (St) × (Nat → St) × (Nat → St) × (Nat → St × (St))) (cp' : Nat) (at' : Nat → Nat), df_X11_advance_92 n s = df_X11_advance_112 n s' ∧ cC n v Q L s' cp' sp e at' ix ∧ fS s s' ∧ sI s'.1 3 = nI c ∧ ∀ i : Nat, i < cp' → at' i = c ∨ ∃ x : Nat, x < cp ∧ at' i = at_ x := by
  obtain ⟨⟨a1, a2, a3, a4, a5, a6⟩, b1, b2, b3, b4, b5⟩ := id hC
  have A : df_X11_advance_92 n s = if nI (c - c / sp * sp) = 0 then nd_b1 (df_X11_keepCopy n s) (fun s22 => df_X11_advance_112 n s22) else df_X11_advance_112 n s := by
    unfold df_X11_advance_92
    rw [a4, h3, mx_1 a5 a6, rm_1 a5 a6 (by omega)]
    exact nm_nz (by omega) (by omega)
  rw [A]
  by_cases r0 : c - c / sp * sp = 0
  · rw [if_pos (show nI (c - c / sp * sp) = 0 by rw [r0]; rfl)]
    have p0 := (b5 (cp - 1) (by omega)).1
    obtain ⟨s', at', k1, k2, k3, k4, k5⟩ := kc_C n hn hC h8 h3 hB hc h1 (mul_up r0 (by omega) a1)
    rw [k1, nb_b1]
    exact ⟨s', cp + 1, at', rfl, k2, k3, k4, k5⟩
  · rw [if_neg (show ¬ nI (c - c / sp * sp) = 0 from fun z => r0 (nm_inI (by omega) (by omega) (show nI (c - c / sp * sp) = nI 0 from z)))]
    exact ⟨s, cp, at_, rfl, hC, ⟨fun _ _ _ _ => rfl, rfl, fun _ => rfl, fun _ _ => rfl, rfl, rfl, rfl, rfl, rfl⟩, h3, fun i hi => Or.inr ⟨i, hi, rfl⟩⟩
theorem ad_35 (n : Nat) (hn : 1024 < n) {v : Int32} {Q : St} {L : Nat → List (Nat × Int64 × Int32)} {s : St × Rw × (St × (St × (St × (St)))) × (St) × (St) × (Nat → St) × (Nat → St) × (Nat → St × (St))} {cp sp e c : Nat} {at_ ix : Nat → Nat} (hC : cC n v Q L s cp sp e at_ ix) (h3 : sI s.1 3 = nI c) (hB : tB n v Q L (c + 1) s.2.2.1.2.2) (hc : c + 1 ≤ e) (he : e ≤ 60000) : ∃ (s' : St × Rw × (St × (St × (St × (St)))) × (St) × (St) × (Nat → St) × (Nat → St) × (Nat → St × (St))) (cp' sp' : Nat) (at' ix' : Nat → Nat), df_X11_advance_35 n s = df_X11_advance_112 n s' ∧ cC n v Q L s' cp' sp' e at' ix' ∧ fS s s' ∧ sI s'.1 3 = nI (c + 1) ∧ ∀ i : Nat, i < cp' → at' i = c + 1 ∨ ∃ x : Nat, x < cp ∧ at' i = at_ x := by
  obtain ⟨⟨a1, a2, a3, a4, a5, a6⟩, b1, b2, b3, b4, b5⟩ := id hC
  have hC1 : cC n v Q L (pI s.1 3 (nI (c + 1)), s.2) cp sp e at_ ix := hC
  have f1 : fS s (pI s.1 3 (nI (c + 1)), s.2) := ⟨fun k _ _ y => by
    show sI (pI s.1 3 _) k = sI s.1 k
    rw [nb_II, if_neg y], rfl, fun _ => rfl, fun _ _ => rfl, rfl, rfl, rfl, rfl, rfl⟩
  obtain ⟨p1, p2, p3, p4⟩ := b5 (cp - 1) (by omega)
  have A : df_X11_advance_35 n s = if nI (c + 1 - (c + 1) / sp * sp) = 0 then (if nI (c + 1) ≤ nI (at_ (cp - 1)) then df_X11_advance_112 n (pI s.1 3 (nI (c + 1)), s.2) else (if nI cp = 8 then nd_b1 (df_X11_thinOut n (pI s.1 3 (nI (c + 1)), s.2)) (fun s25 => df_X11_advance_92 n s25) else df_X11_advance_92 n (pI s.1 3 (nI (c + 1)), s.2))) else df_X11_advance_112 n (pI s.1 3 (nI (c + 1)), s.2) := by
    unfold df_X11_advance_35
    rw [h3, show nI c + 1 = nI (c + 1) from nI_add .., nb_let]
    dsimp only
    rw [show sI (pI s.1 3 (nI (c + 1))) 2 = nI sp from a4, show sI (pI s.1 3 (nI (c + 1))) 3 = nI (c + 1) from rfl, show sI (pI s.1 3 (nI (c + 1))) 1 = nI cp from a3, mx_1 a5 a6, rm_1 a5 a6 (by omega), show nI cp - 1 = nI (cp - 1) from pk_sub a1, nm_ck (by omega) (by omega), nI_clamp (by omega), show sR (pI s.1 3 (nI (c + 1))) 1 (cp - 1) = nI (at_ (cp - 1)) from p3]
    exact nm_nz (by omega) (by omega)
  rw [A]
  by_cases r0 : c + 1 - (c + 1) / sp * sp = 0
  · rw [if_pos (show nI (c + 1 - (c + 1) / sp * sp) = 0 by rw [r0]; rfl)]
    by_cases q0 : c + 1 ≤ at_ (cp - 1)
    · rw [if_pos (show nI (c + 1) ≤ nI (at_ (cp - 1)) by rw [nI_leI (by omega) (by omega)]; exact q0)]
      exact ⟨_, cp, sp, at_, ix, rfl, hC1, f1, rfl, fun i hi => Or.inr ⟨i, hi, rfl⟩⟩
    · rw [if_neg (show ¬ nI (c + 1) ≤ nI (at_ (cp - 1)) from fun z => by rw [nI_leI (by omega) (by omega)] at z; exact q0 z)]
      by_cases c8 : cp = 8
      · subst c8
        rw [if_pos (show nI 8 = (8 : Int32) from rfl)]
        obtain ⟨s1, t1, t2, t3, t4⟩ := th_C n hn hC1 he
        rw [t1, nb_b1]
        have m := at_mono b4 1 6 (by omega)
        have t4 : sI s1.1 3 = nI (c + 1) := t4
        obtain ⟨s2, cp', at', u1, u2, u3, u4, u5⟩ := ad_92 n hn t2 (by omega) t4 (by rw [t3.2.2.2.2.1]; exact hB) hc he (show at_ (2 * (4 - 1)) < c + 1 by
          have q0 : ¬ c + 1 ≤ at_ 7 := q0
          have m : at_ 6 + 1 ≤ at_ 7 := m
          show at_ 6 < c + 1
          omega)
        rw [u1]
        refine ⟨s2, cp', _, at', _, rfl, u2, fS_t f1 (fS_t t3 u3), u4, fun i hi => ?_⟩
        rcases u5 i hi with z | ⟨x, z1, z2⟩
        · exact Or.inl z
        · exact Or.inr ⟨2 * x, by omega, z2⟩
      · rw [if_neg (show ¬ nI cp = (8 : Int32) from fun z => c8 (nm_inI (by omega) (by omega) (show nI cp = nI 8 from z)))]
        obtain ⟨s2, cp', at', u1, u2, u3, u4, u5⟩ := ad_92 n hn hC1 (by omega) rfl hB hc he (by omega)
        rw [u1]
        exact ⟨s2, cp', _, at', _, rfl, u2, fS_t f1 u3, u4, u5⟩
  · rw [if_neg (show ¬ nI (c + 1 - (c + 1) / sp * sp) = 0 from fun z => r0 (nm_inI (by omega) (by omega) (show nI (c + 1 - (c + 1) / sp * sp) = nI 0 from z)))]
    exact ⟨_, cp, sp, at_, ix, rfl, hC1, f1, rfl, fun i hi => Or.inr ⟨i, hi, rfl⟩⟩

/-- what a tick from a count wrote, as the class keeps it -/
def wK (n : Nat) (v : Int32) (Q : St) (L : Nat → List (Nat × Int64 × Int32)) (k : Nat) (x : Int32) : Prop := ∀ X : St × St, RA n v Q L k X → ∃ (p : Nat) (w : Int32) (X' : St × St), p < 16 ∧ sI X.1 1 = nI p ∧ df_X16_tick n X = some (w, X') ∧ wrR X p x w
/-- the class's time, at a count of what was recorded -/
def cI (n vn : Nat) (Q V : St) (N T e c : Nat) (lo : Nat → Nat) (s : St × Rw × (St × (St × (St × (St)))) × (St) × (St) × (Nat → St) × (Nat → St) × (Nat → St × (St))) : Prop := eA s V ∧ cLg V N T e lo ∧ hsT n (nI vn) Q (lgL (evK V) lo) e ∧ rPp s Q ∧ c ≤ e ∧ sI s.1 3 = nI c ∧ sI s.1 4 = nI e ∧ sI s.1 5 = nI (lo (c + 1)) ∧ tA n (nI vn) Q (lgL (evK V) lo) c s.2.2.1.2.2 ∧ (∃ (cp sp : Nat) (at_ ix : Nat → Nat), cC n (nI vn) Q (lgL (evK V) lo) s cp sp e at_ ix) ∧ ∀ k : Nat, k < e → wK n (nI vn) Q (lgL (evK V) lo) k (sR s.1 0 k)
/-- what going to another count leaves as it was -/
def fI (s s' : St × Rw × (St × (St × (St × (St)))) × (St) × (St) × (Nat → St) × (Nat → St) × (Nat → St × (St))) : Prop := (∀ k : Nat, k = 0 ∨ k = 4 ∨ k = 6 ∨ k = 7 → sI s'.1 k = sI s.1 k) ∧ (∀ k : Nat, sO s'.1 k = sO s.1 k) ∧ (∀ r : Nat, ¬ r = 3 → s'.2.1 r = s.2.1 r) ∧ (∀ k : Nat, sO s'.2.2.1.1 k = sO s.2.2.1.1 k) ∧ s'.2.2.2.1 = s.2.2.2.1 ∧ s'.2.2.2.2.1 = s.2.2.2.2.1 ∧ s'.2.2.2.2.2.1 = s.2.2.2.2.2.1 ∧ s'.2.2.2.2.2.2.1 = s.2.2.2.2.2.2.1
theorem fI_r (s : St × Rw × (St × (St × (St × (St)))) × (St) × (St) × (Nat → St) × (Nat → St) × (Nat → St × (St))) : fI s s := ⟨fun _ _ => rfl, fun _ => rfl, fun _ _ => rfl, fun _ => rfl, rfl, rfl, rfl, rfl⟩
theorem fI_t {a b c : St × Rw × (St × (St × (St × (St)))) × (St) × (St) × (Nat → St) × (Nat → St) × (Nat → St × (St))} (h : fI a b) (g : fI b c) : fI a c := by
  obtain ⟨h1, h2, h3, h4, h5, h6, h7, h8⟩ := h
  obtain ⟨g1, g2, g3, g4, g5, g6, g7, g8⟩ := g
  exact ⟨fun k a => (g1 k a).trans (h1 k a), fun k => (g2 k).trans (h2 k), fun r a => (g3 r a).trans (h3 r a), fun k => (g4 k).trans (h4 k), g5.trans h5, g6.trans h6, g7.trans h7, g8.trans h8⟩
theorem eA_f {s s' : St × Rw × (St × (St × (St × (St)))) × (St) × (St) × (Nat → St) × (Nat → St) × (Nat → St × (St))} {V : St} (h : eA s V) (f : fI s s') : eA s' V := by
  obtain ⟨_, f2, _, _, f5, f6, _⟩ := f
  rcases h with ⟨a, b⟩ | ⟨a, b⟩
  · exact Or.inl ⟨(f2 0).trans a, f5.trans b⟩
  · exact Or.inr ⟨(f2 0).trans a, f6.trans b⟩
theorem rPp_f {s s' : St × Rw × (St × (St × (St × (St)))) × (St) × (St) × (Nat → St) × (Nat → St) × (Nat → St × (St))} {Q : St} (h : rPp s Q) (f : fI s s') : rPp s' Q := by
  obtain ⟨_, _, f3, f4, _, _, f7, _⟩ := f
  obtain ⟨a, b⟩ := h
  refine ⟨(f4 0).trans a, fun v hv => ?_⟩
  rw [f3 0 (by omega), f7]
  exact b v hv
/-- where copies stand behind one tick: there, or where one stood -/
def sbC (c : Nat) (s s' : St × Rw × (St × (St × (St × (St)))) × (St) × (St) × (Nat → St) × (Nat → St) × (Nat → St × (St))) : Prop := ∃ cp cp' : Nat, sI s.1 1 = nI cp ∧ sI s'.1 1 = nI cp' ∧ cp ≤ 8 ∧ cp' ≤ 8 ∧ ∀ i : Nat, i < cp' → sR s'.1 1 i = nI (c + 1) ∨ ∃ x : Nat, x < cp ∧ sR s'.1 1 i = sR s.1 1 x
/-- the class goes on by one tick, where it has been -/
theorem ad_in2 (n : Nat) (hn : 40000 < n) {vn : Nat} {Q V : St} {N T e c : Nat} {lo : Nat → Nat} {s : St × Rw × (St × (St × (St × (St)))) × (St) × (St) × (Nat → St) × (Nat → St) × (Nat → St × (St))} (h : cI n vn Q V N T e c lo s) (hc : c < e) : ∃ s' : St × Rw × (St × (St × (St × (St)))) × (St) × (St) × (Nat → St) × (Nat → St) × (Nat → St × (St)), df_X11_advance n s = some s' ∧ cI n vn Q V N T e (c + 1) lo s' ∧ fI s s' ∧ sbC c s s' := by
  obtain ⟨hV, hL, hs, hP, hce, h3, h4, h5, hA, ⟨cp, sp, at_, ix, hC⟩, hW⟩ := h
  have e6 := hL.2.2.2.2.2.2.2
  have h0 : ¬ sI s.2.2.1.2.2.1 3 = -nI 1 := fun z => by
    obtain ⟨M, hM, hcur⟩ := hs.2 c hce
    obtain ⟨X, hX⟩ := hA.1
    have a1 := (hA.2 X hX).1.2.2.2.2.1.1
    have a2 := (hM.2 X hX).1.2.2.2.2.1.1
    exact hcur hc (a2.trans (a1.symm.trans z))
  obtain ⟨K', c1, c2, c3, c4⟩ := tA_tick n hn (s := s) hA (by omega) hP h0
  have hC2 : cC n (nI vn) Q (lgL (evK V) lo) (pR s.1 0 (upd (sR s.1 0) c (sI K'.2.2.1 7)), (s.2.1, (K', s.2.2.2))) cp sp e at_ ix := hC
  obtain ⟨s3, cp', sp', at', ix', a1, a2, a3, a4, a5⟩ := ad_35 n (by omega) hC2 h3 c2 (show c + 1 ≤ e by omega) e6
  obtain ⟨g1, g2, g3, g4, g5, g6, g7, g8, g9⟩ := a3
  have g2 : sR s3.1 0 = upd (sR s.1 0) c (sI K'.2.2.1 7) := g2
  have g5 : s3.2.2.1 = K' := g5
  have fI1 : fI s s3 := ⟨fun k hk => g1 k (by omega) (by omega) (by omega), g3, g4, fun k => by rw [g5]; exact c3 k, g6, g7, g8, g9⟩
  obtain ⟨M', t1, t2⟩ := ct_take n hn (s := s3) (show c + 1 ≤ e by omega) hL (eA_f hV fI1) ((g1 5 (by omega) (by omega) (by omega)).trans h5) a4 (by rw [g5]; exact c2)
  refine ⟨(pI s3.1 5 (nI (lo (c + 1 + 1))), (s3.2.1, ((s3.2.2.1.1, (s3.2.2.1.2.1, M')), s3.2.2.2))), ?_, ⟨?_, hL, hs, ?_, by omega, a4, (g1 4 (by omega) (by omega) (by omega)).trans h4, rfl, t1, ⟨cp', sp', at', ix', a2⟩, fun k hk => ?_⟩, ?_, ?_⟩
  · unfold df_X11_advance df_X11_advance_0
    rw [c1, nb_b1]
    dsimp only
    rw [h3, if_neg (show ¬ (60000 : Int32) ≤ nI c from fun z => by have z : nI 60000 ≤ nI c := z; rw [nI_leI (by omega) (by omega)] at z; omega), nm_ck (by omega) (by omega), nI_clamp (by omega), nb_let, a1]
    unfold df_X11_advance_112
    rw [t2, nb_b1]
    dsimp only
    rw [show sI (pI s3.1 5 (nI (lo (c + 1 + 1)))) 3 = nI (c + 1) from a4, show sI (pI s3.1 5 (nI (lo (c + 1 + 1)))) 4 = nI e from (g1 4 (by omega) (by omega) (by omega)).trans h4, if_pos (by rw [nI_leI (by omega) (by omega)]; omega)]
    rfl
  · exact eA_f hV ⟨fun k hk => (nb_II s3.1 5 k _).trans ((if_neg (by omega)).trans (fI1.1 k hk)), fI1.2.1, fI1.2.2.1, fI1.2.2.2.1, fI1.2.2.2.2⟩
  · exact rPp_f hP ⟨fun k hk => (nb_II s3.1 5 k _).trans ((if_neg (by omega)).trans (fI1.1 k hk)), fI1.2.1, fI1.2.2.1, fI1.2.2.2.1, fI1.2.2.2.2⟩
  · show wK n (nI vn) Q (lgL (evK V) lo) k (sR s3.1 0 k)
    rw [g2]
    by_cases d : k = c
    · rw [d, nm_us]
      intro X hX
      obtain ⟨p, w, X', x1, x2, x3, x4, x5, x6, x7⟩ := c4 X hX
      exact ⟨p, w, X', x1, x2, x3, x7⟩
    · rw [nm_un d]; exact hW k hk
  · exact ⟨fun k hk => (nb_II s3.1 5 k _).trans ((if_neg (by omega)).trans (fI1.1 k hk)), fI1.2.1, fI1.2.2.1, fI1.2.2.2.1, fI1.2.2.2.2⟩
  · refine ⟨cp, cp', hC.1.2.2.1, a2.1.2.2.1, hC.1.2.1, a2.1.2.1, fun i hi => ?_⟩
    show sR s3.1 1 i = nI (c + 1) ∨ ∃ x : Nat, x < cp ∧ sR s3.1 1 i = sR s.1 1 x
    obtain ⟨_, _, y3, _⟩ := a2.2.2.2.2.2 i hi
    rcases a5 i hi with z | ⟨x, z1, z2⟩
    · exact Or.inl (by rw [y3, z])
    · obtain ⟨_, _, x3, _⟩ := hC.2.2.2.2.2 x z1
      exact Or.inr ⟨x, z1, by rw [y3, z2, x3]⟩
/-- the class goes on by one tick, where it has been -/
theorem ad_in (n : Nat) (hn : 40000 < n) {vn : Nat} {Q V : St} {N T e c : Nat} {lo : Nat → Nat} {s : St × Rw × (St × (St × (St × (St)))) × (St) × (St) × (Nat → St) × (Nat → St) × (Nat → St × (St))} (h : cI n vn Q V N T e c lo s) (hc : c < e) : ∃ s' : St × Rw × (St × (St × (St × (St)))) × (St) × (St) × (Nat → St) × (Nat → St) × (Nat → St × (St)), df_X11_advance n s = some s' ∧ cI n vn Q V N T e (c + 1) lo s' ∧ fI s s' := by
  obtain ⟨s', a, b, d, _⟩ := ad_in2 n hn h hc
  exact ⟨s', a, b, d⟩
/-- and by several -/
theorem mv_39 (n : Nat) (hn : 40000 < n) {vn : Nat} {Q V : St} {N T e : Nat} {lo : Nat → Nat} : ∀ (m c g : Nat) (s : St × Rw × (St × (St × (St × (St)))) × (St) × (St) × (Nat → St) × (Nat → St) × (Nat → St × (St))), m < g → c + m ≤ e → m ≤ 60000 → cI n vn Q V N T e c lo s → ∃ s' : St × Rw × (St × (St × (St × (St)))) × (St) × (St) × (Nat → St) × (Nat → St) × (Nat → St × (St)), df_X11_moveTo_39 n g (nI m) s = some s' ∧ cI n vn Q V N T e (c + m) lo s' ∧ fI s s'
  | 0, c, g, s, hg, _, _, h => by
    obtain ⟨g', rfl⟩ : ∃ g' : Nat, g = g' + 1 := ⟨g - 1, by omega⟩
    refine ⟨s, ?_, h, fI_r s⟩
    rw [show df_X11_moveTo_39 n (g' + 1) = dF_X11_moveTo_39 n (df_X11_moveTo_39 n g') from rfl]
    unfold dF_X11_moveTo_39
    rw [if_pos (show nI 0 ≤ (0 : Int32) by decide)]
  | m + 1, c, g, s, hg, hc, hm, h => by
    obtain ⟨g', rfl⟩ : ∃ g' : Nat, g = g' + 1 := ⟨g - 1, by omega⟩
    obtain ⟨s1, a1, a2, a3⟩ := ad_in n hn h (by omega)
    obtain ⟨s2, b1, b2, b3⟩ := mv_39 n hn m (c + 1) g' s1 (by omega) (by omega) (by omega) a2
    refine ⟨s2, ?_, by rw [show c + (m + 1) = c + 1 + m by omega]; exact b2, fI_t a3 b3⟩
    rw [show df_X11_moveTo_39 n (g' + 1) = dF_X11_moveTo_39 n (df_X11_moveTo_39 n g') from rfl]
    unfold dF_X11_moveTo_39
    have k3 : nI (m + 1) + Int32.ofInt (-1) = nI m := by
      have : nI (m + 1) + Int32.ofInt (-1) = nI (m + 1) - nI 1 := by
        rw [Int32.sub_eq_add_neg]
        rfl
      rw [this, pk_sub (by omega), show m + 1 - 1 = m by omega]
    rw [if_neg (show ¬ nI (m + 1) ≤ (0 : Int32) from fun z => by have z : nI (m + 1) ≤ nI 0 := z; rw [nI_leI (by omega) (by omega)] at z; omega), a1, nb_b1, nb_let, k3]
    exact b1

/-- the latest copy that is not behind a count -/
theorem cu_7 (n : Nat) {v : Int32} {Q : St} {L : Nat → List (Nat × Int64 × Int32)} {s : St × Rw × (St × (St × (St × (St)))) × (St) × (St) × (Nat → St) × (Nat → St) × (Nat → St × (St))} {cp sp e c : Nat} {at_ ix : Nat → Nat} (hC : cC n v Q L s cp sp e at_ ix) (he : e ≤ 60000) (hc : c ≤ 60000) : ∀ k g : Nat, k < g → k < cp → ∃ i : Nat, i ≤ k ∧ df_X11_copyUpTo_7 n g (nI c) (nI k) s = some (nI i, s) ∧ at_ i ≤ c ∧ ∀ j : Nat, i < j → j ≤ k → c < at_ j
  | 0, g, hg, hk => by
    obtain ⟨g', rfl⟩ : ∃ g' : Nat, g = g' + 1 := ⟨g - 1, by omega⟩
    refine ⟨0, by omega, ?_, by rw [hC.2.2.2.1]; omega, fun j h1 h2 => by omega⟩
    rw [show df_X11_copyUpTo_7 n (g' + 1) = dF_X11_copyUpTo_7 n (df_X11_copyUpTo_7 n g') from rfl]
    unfold dF_X11_copyUpTo_7
    rw [if_pos (show nI 0 ≤ (0 : Int32) by decide)]
    rfl
  | k + 1, g, hg, hk => by
    obtain ⟨g', rfl⟩ : ∃ g' : Nat, g = g' + 1 := ⟨g - 1, by omega⟩
    obtain ⟨⟨a1, a2, a3, a4, a5, a6⟩, b1, b2, b3, b4, b5⟩ := id hC
    obtain ⟨p1, p2, p3, p4⟩ := b5 (k + 1) hk
    have u1 : k + 1 < 2 ^ 31 := by omega
    have k3 : nI (k + 1) + Int32.ofInt (-1) = nI k := by
      have : nI (k + 1) + Int32.ofInt (-1) = nI (k + 1) - nI 1 := by
        rw [Int32.sub_eq_add_neg]
        rfl
      rw [this, pk_sub (by omega), show k + 1 - 1 = k by omega]
    have A : df_X11_copyUpTo_7 n (g' + 1) (nI c) (nI (k + 1)) s = if nI (at_ (k + 1)) ≤ nI c then df_X11_copyUpTo_27 n (nI (k + 1)) s else df_X11_copyUpTo_7 n g' (nI c) (nI k) s := by
      rw [show df_X11_copyUpTo_7 n (g' + 1) = dF_X11_copyUpTo_7 n (df_X11_copyUpTo_7 n g') from rfl]
      unfold dF_X11_copyUpTo_7
      rw [if_neg (show ¬ nI (k + 1) ≤ (0 : Int32) from fun z => by have z : nI (k + 1) ≤ nI 0 := z; rw [nI_leI u1 (by omega)] at z; omega), nm_ck (by omega) u1, nI_clamp u1, p3, nb_let, k3]
    rw [A]
    by_cases d : at_ (k + 1) ≤ c
    · refine ⟨k + 1, by omega, ?_, d, fun j h1 h2 => by omega⟩
      rw [if_pos (show nI (at_ (k + 1)) ≤ nI c by rw [nI_leI (by omega) (by omega)]; exact d)]
      unfold df_X11_copyUpTo_27
      rw [if_pos (show (0 : Int32) < nI (k + 1) from (show nI 0 < nI (k + 1) by rw [nI_ltI (by omega) u1]; omega))]
    · obtain ⟨i, q1, q2, q3, q4⟩ := cu_7 n hC he hc k g' (by omega) (by omega)
      refine ⟨i, by omega, ?_, q3, fun j h1 h2 => ?_⟩
      · rw [if_neg (show ¬ nI (at_ (k + 1)) ≤ nI c from fun z => by rw [nI_leI (by omega) (by omega)] at z; exact d z)]
        exact q2
      · by_cases y : j = k + 1
        · rw [y]; omega
        · exact q4 j h1 (by omega)
theorem cu_1 (n : Nat) (hn : 1024 < n) {v : Int32} {Q : St} {L : Nat → List (Nat × Int64 × Int32)} {s : St × Rw × (St × (St × (St × (St)))) × (St) × (St) × (Nat → St) × (Nat → St) × (Nat → St × (St))} {cp sp e c : Nat} {at_ ix : Nat → Nat} (hC : cC n v Q L s cp sp e at_ ix) (he : e ≤ 60000) (hc : c ≤ 60000) : ∃ i : Nat, i < cp ∧ df_X11_copyUpTo n (nI c) s = some (nI i, s) ∧ at_ i ≤ c ∧ ∀ j : Nat, i < j → j < cp → c < at_ j := by
  obtain ⟨⟨a1, a2, a3, a4, a5, a6⟩, _⟩ := id hC
  obtain ⟨i, q1, q2, q3, q4⟩ := cu_7 n hC he hc (cp - 1) n (by omega) (by omega)
  refine ⟨i, by omega, ?_, q3, fun j h1 h2 => q4 j h1 (by omega)⟩
  unfold df_X11_copyUpTo df_X11_copyUpTo_0
  rw [a3, show nI cp - 1 = nI (cp - 1) from pk_sub a1, nb_let]
  exact q2
theorem lc_ge (a b : Nat) (ha : a < 2 ^ 31) (hb : b < 2 ^ 31) : (0 : Int32) ≤ lg_cmp (nI a).toInt64 (nI b).toInt64 ↔ b ≤ a := by
  have lt : (nI b).toInt64 < (nI a).toInt64 ↔ b < a := by
    rw [Int64.lt_iff_toInt_lt, Int32.toInt_toInt64, Int32.toInt_toInt64, nI_toInt ha, nI_toInt hb]
    omega
  unfold lg_cmp
  by_cases c : b < a
  · rw [if_pos (lt.mpr c)]
    exact ⟨fun _ => by omega, fun _ => by decide⟩
  · rw [if_neg (fun z => c (lt.mp z))]
    by_cases d : a = b
    · rw [if_pos (by rw [d])]
      exact ⟨fun _ => by omega, fun _ => by decide⟩
    · rw [if_neg (fun z => d (i64_in ha hb z))]
      exact ⟨fun z => absurd z (by decide), fun z => by omega⟩
/-- how many events came before a count -/
theorem rb_2 (n : Nat) {V : St} {N T e c : Nat} {lo : Nat → Nat} (hL : cLg V N T e lo) (hc : c ≤ e) : ∀ m k g : Nat, m < g → k + m = lo c → df_X3_recordedBefore_2 n g (nI c) (nI k) V = some (nI (lo c), V)
  | 0, k, g, hg, hk => by
    obtain ⟨g', rfl⟩ : ∃ g' : Nat, g = g' + 1 := ⟨g - 1, by omega⟩
    obtain ⟨l1, l2, l3, l4, l5, l6, l7, l8⟩ := hL
    have ln := okL_N l5 c
    have hk : k = lo c := by omega
    rw [show df_X3_recordedBefore_2 n (g' + 1) = dF_X3_recordedBefore_2 n (df_X3_recordedBefore_2 n g') from rfl]
    unfold dF_X3_recordedBefore_2
    by_cases y : N ≤ k
    · rw [l1, if_pos (show nI N ≤ nI k by rw [nI_leI (by omega) (by omega)]; exact y), hk]
      rfl
    · obtain ⟨c', g1, g2, g3, g4⟩ := okL_at l5 (show k < N by omega) (e + 1 - c) c (by omega) (by omega)
      rw [l1, if_neg (show ¬ nI N ≤ nI k from fun z => by rw [nI_leI (by omega) (by omega)] at z; exact y z), nm_ck (by omega) (by omega), nI_clamp (by omega), l6 k c' g2 g3 g4, if_pos ((lc_ge c' c (by omega) (by omega)).mpr g1), hk]
      rfl
  | m + 1, k, g, hg, hk => by
    obtain ⟨g', rfl⟩ : ∃ g' : Nat, g = g' + 1 := ⟨g - 1, by omega⟩
    obtain ⟨l1, l2, l3, l4, l5, l6, l7, l8⟩ := id hL
    have ln := okL_N l5 c
    obtain ⟨c', g1, g2, g3, g4⟩ := okL_at l5 (show k < N by omega) (e + 1) 0 (by omega) (by rw [l5.1]; omega)
    have c'c : c' < c := by
      by_cases z : c' < c
      · exact z
      · have := okL_le l5 c c' (by omega)
        omega
    rw [show df_X3_recordedBefore_2 n (g' + 1) = dF_X3_recordedBefore_2 n (df_X3_recordedBefore_2 n g') from rfl]
    unfold dF_X3_recordedBefore_2
    rw [l1, if_neg (show ¬ nI N ≤ nI k from fun z => by rw [nI_leI (by omega) (by omega)] at z; omega), nm_ck (by omega) (by omega), nI_clamp (by omega), l6 k c' g2 g3 g4, if_neg (fun z => by have := (lc_ge c' c (by omega) (by omega)).mp z; omega), nb_let, show nI k + Int32.ofInt 1 = nI (k + 1) from nI_add ..]
    exact rb_2 n hL hc m (k + 1) g' (by omega) (by omega)
theorem rb_1 (n : Nat) (hn : 40000 < n) {V : St} {N T e c : Nat} {lo : Nat → Nat} (hL : cLg V N T e lo) (hc : c ≤ e) : df_X3_recordedBefore n (nI c) V = some (nI (lo c), V) := by
  have ln := okL_N hL.2.2.2.2.1 c
  have := hL.2.2.1
  have := hL.2.2.2.1
  exact rb_2 n hL hc (lo c) 0 n (by omega) (by omega)
theorem po_id {f : Nat → St × St} {j : Nat} : (fun i => if i = j then f j else f i) = f := by
  funext i
  by_cases c : i = j
  · rw [if_pos c, c]
  · rw [if_neg c]
/-- the class goes back to a copy -/
theorem rs_1c (n : Nat) (hn : 40000 < n) {vn : Nat} {Q V : St} {N T e c cp sp i : Nat} {lo at_ ix : Nat → Nat} {s : St × Rw × (St × (St × (St × (St)))) × (St) × (St) × (Nat → St) × (Nat → St) × (Nat → St × (St))} (h : cI n vn Q V N T e c lo s) (hC : cC n (nI vn) Q (lgL (evK V) lo) s cp sp e at_ ix) (hi : i < cp) : ∃ s' : St × Rw × (St × (St × (St × (St)))) × (St) × (St) × (Nat → St) × (Nat → St) × (Nat → St × (St)), df_X11_restore n (nI i) s = some s' ∧ cI n vn Q V N T e (at_ i) lo s' ∧ fI s s' ∧ cC n (nI vn) Q (lgL (evK V) lo) s' cp sp e at_ ix := by
  obtain ⟨hV, hL, hs, hP, hce, h3, h4, h5, hA, _, hW⟩ := h
  obtain ⟨⟨a1, a2, a3, a4, a5, a6⟩, b1, b2, b3, b4, b5⟩ := id hC
  obtain ⟨p1, p2, p3, p4⟩ := b5 i hi
  obtain ⟨x1, x2⟩ := b1 i (by omega)
  obtain ⟨M1, k1, k2⟩ := tB_become n (by omega) (A := s.2.2.1.2.2) (s0 := nd_st0) p4
  have u1 : i < 2 ^ 31 := by omega
  have rb := rb_1 n hn hL p2
  have fI0 : ∀ K : Nat, fI s (pI (pI s.1 3 (nI (at_ i))) 5 (nI (lo (at_ i))), (s.2.1, ((s.2.2.1.1, (s.2.2.1.2.1, M1)), s.2.2.2))) := fun _ => ⟨fun k hk => by
    show sI (pI (pI s.1 3 _) 5 _) k = sI s.1 k
    rw [nb_II, if_neg (by omega), nb_II, if_neg (by omega)], fun _ => rfl, fun _ _ => rfl, fun _ => rfl, rfl, rfl, rfl, rfl⟩
  obtain ⟨M', t1, t2⟩ := ct_take n hn (s := (pI (pI s.1 3 (nI (at_ i))) 5 (nI (lo (at_ i))), (s.2.1, ((s.2.2.1.1, (s.2.2.1.2.1, M1)), s.2.2.2)))) p2 hL (eA_f hV (fI0 0)) rfl rfl k2
  have fI1 : fI s (pI (pI s.1 3 (nI (at_ i))) 5 (nI (lo (at_ i + 1))), (s.2.1, ((s.2.2.1.1, (s.2.2.1.2.1, M')), s.2.2.2))) := ⟨fun k hk => by
    show sI (pI (pI s.1 3 _) 5 _) k = sI s.1 k
    rw [nb_II, if_neg (by omega), nb_II, if_neg (by omega)], fun _ => rfl, fun _ _ => rfl, fun _ => rfl, rfl, rfl, rfl, rfl⟩
  have t2 : df_X11_takeRecorded n (pI (pI s.1 3 (nI (at_ i))) 5 (nI (lo (at_ i))), (s.2.1, ((s.2.2.1.1, (s.2.2.1.2.1, M1)), s.2.2.2))) = some (pI (pI (pI s.1 3 (nI (at_ i))) 5 (nI (lo (at_ i)))) 5 (nI (lo (at_ i + 1))), (s.2.1, ((s.2.2.1.1, (s.2.2.1.2.1, M')), s.2.2.2))) := t2
  rw [nm_ii] at t2
  refine ⟨(pI (pI s.1 3 (nI (at_ i))) 5 (nI (lo (at_ i + 1))), (s.2.1, ((s.2.2.1.1, (s.2.2.1.2.1, M')), s.2.2.2))), ?_, ⟨eA_f hV fI1, hL, hs, rPp_f hP fI1, p2, rfl, h4, rfl, t1, ⟨cp, sp, at_, ix, hC⟩, hW⟩, fI1, hC⟩
  unfold df_X11_restore df_X11_restore_0
  rw [nm_ck (by omega) u1, nI_clamp u1, x1, nb_mS, nb_lt x2, k1, nb_b1, nb_let]
  dsimp only
  rw [po_id, nm_ck (by omega) u1, p3, nb_let]
  dsimp only
  rcases hV with ⟨o1, o2⟩ | ⟨o1, o2⟩
  · rw [if_pos (show sO (pI s.1 3 (nI (at_ i))) 0 = some 27 from o1), show sI (pI s.1 3 (nI (at_ i))) 3 = nI (at_ i) from rfl, o2, rb, nb_b2, nb_let, nb_let]
    dsimp only
    rw [← o2, t2, nb_b1]
  · rw [if_neg (show ¬ sO (pI s.1 3 (nI (at_ i))) 0 = some 27 from (show ¬ sO s.1 0 = some 27 by rw [o1]; decide)), if_pos (show sO (pI s.1 3 (nI (at_ i))) 0 = some 32 from o1), show sI (pI s.1 3 (nI (at_ i))) 3 = nI (at_ i) from rfl, o2, rb, nb_b2, nb_let, nb_let]
    dsimp only
    rw [← o2, t2, nb_b1]
theorem rs_1 (n : Nat) (hn : 40000 < n) {vn : Nat} {Q V : St} {N T e c cp sp i : Nat} {lo at_ ix : Nat → Nat} {s : St × Rw × (St × (St × (St × (St)))) × (St) × (St) × (Nat → St) × (Nat → St) × (Nat → St × (St))} (h : cI n vn Q V N T e c lo s) (hC : cC n (nI vn) Q (lgL (evK V) lo) s cp sp e at_ ix) (hi : i < cp) : ∃ s' : St × Rw × (St × (St × (St × (St)))) × (St) × (St) × (Nat → St) × (Nat → St) × (Nat → St × (St)), df_X11_restore n (nI i) s = some s' ∧ cI n vn Q V N T e (at_ i) lo s' ∧ fI s s' := by
  obtain ⟨s', a, b, d, _⟩ := rs_1c n hn h hC hi
  exact ⟨s', a, b, d⟩
/-- the class goes to a count -/
theorem mv_1 (n : Nat) (hn : 70000 < n) {vn : Nat} {Q V : St} {N T e c d : Nat} {lo : Nat → Nat} {s : St × Rw × (St × (St × (St × (St)))) × (St) × (St) × (Nat → St) × (Nat → St) × (Nat → St × (St))} (h : cI n vn Q V N T e c lo s) (hd : d ≤ e) : ∃ s' : St × Rw × (St × (St × (St × (St)))) × (St) × (St) × (Nat → St) × (Nat → St) × (Nat → St × (St)), df_X11_moveTo n (nI d) s = some s' ∧ cI n vn Q V N T e d lo s' ∧ fI s s' := by
  obtain ⟨hV, hL, hs, hP, hce, h3, h4, h5, hA, ⟨cp, sp, at_, ix, hC⟩, hW⟩ := id h
  have e6 := hL.2.2.2.2.2.2.2
  obtain ⟨i, q1, q2, q3, q4⟩ := cu_1 n (by omega) (c := d) hC e6 (by omega)
  obtain ⟨p1, p2, p3, p4⟩ := hC.2.2.2.2.2 i q1
  have i8 : i < 8 := by have := hC.1.2.1; omega
  have go : ∀ (s1 : St × Rw × (St × (St × (St × (St)))) × (St) × (St) × (Nat → St) × (Nat → St) × (Nat → St × (St))) (k : Nat), cI n vn Q V N T e k lo s1 → k ≤ d → ∃ s' : St × Rw × (St × (St × (St × (St)))) × (St) × (St) × (Nat → St) × (Nat → St) × (Nat → St × (St)), df_X11_moveTo_32 n (nI d) s1 = some s' ∧ cI n vn Q V N T e d lo s' ∧ fI s1 s' := fun s1 k hk hkd => by
    obtain ⟨s2, m1, m2, m3⟩ := mv_39 n (by omega) (d - k) k n s1 (by omega) (by omega) (by omega) hk
    refine ⟨s2, ?_, by rw [show d = k + (d - k) by omega]; exact m2, m3⟩
    unfold df_X11_moveTo_32
    rw [hk.2.2.2.2.2.1, pk_sub hkd, nb_let]
    exact m1
  have back : ∃ s' : St × Rw × (St × (St × (St × (St)))) × (St) × (St) × (Nat → St) × (Nat → St) × (Nat → St × (St)), df_X11_moveTo_27 n (nI d) (nI i) s = some s' ∧ cI n vn Q V N T e d lo s' ∧ fI s s' := by
    obtain ⟨s1, r1, r2, r3⟩ := rs_1 n (by omega) h hC q1
    obtain ⟨s2, g1, g2, g3⟩ := go s1 (at_ i) r2 q3
    refine ⟨s2, ?_, g2, fI_t r3 g3⟩
    unfold df_X11_moveTo_27
    rw [r1, nb_b1]
    exact g1
  unfold df_X11_moveTo df_X11_moveTo_0
  rw [q2, nb_b2, h3]
  by_cases y : d < c
  · rw [if_pos (show nI d < nI c by rw [nI_ltI (by omega) (by omega)]; exact y)]
    exact back
  · rw [if_neg (show ¬ nI d < nI c from fun z => by rw [nI_ltI (by omega) (by omega)] at z; exact y z), nm_ck (by omega) (by omega), nI_clamp (by omega), p3]
    by_cases x : at_ i ≤ c
    · rw [if_pos (show nI (at_ i) ≤ nI c by rw [nI_leI (by omega) (by omega)]; exact x)]
      exact go s c h (by omega)
    · rw [if_neg (show ¬ nI (at_ i) ≤ nI c from fun z => by rw [nI_leI (by omega) (by omega)] at z; exact x z)]
      exact back

theorem RA_c {n : Nat} {v : Int32} {Q : St} {L L' : Nat → List (Nat × Int64 × Int32)} {c : Nat} (hl : ∀ k : Nat, k ≤ c → L k = L' k) {X : St × St} (h : RA n v Q L c X) : RA n v Q L' c X := by
  obtain ⟨X0, h1, h2⟩ := h
  exact ⟨X0, RB_c (fun k hk => hl k (by omega)) X0 h1, by rw [← hl c (by omega)]; exact h2⟩
/-- one more event at the last count -/
theorem tA_rec (n : Nat) (hn : 1024 < n) {v : Int32} {Q : St} {L L' : Nat → List (Nat × Int64 × Int32)} {e : Nat} {K : St × (St × (St × St))} {x : Nat × Int64 × Int32} (hl : ∀ k : Nat, k < e → L k = L' k) (he : L' e = L e ++ [x]) (hA : tA n v Q L e K.2.2) (hv : evV x.1 x.2.1 x.2.2) : ∃ (r : Int32) (M' : St × St), (r = nI 0 ∨ r = nI 1) ∧ df_X5_come n (nI x.1) x.2.1 x.2.2 K = some (r, (K.1, (K.2.1, M'))) ∧ tA n v Q L' e M' ∧ (∀ X : St × St, RA n v Q L e X → ∃ X' : St × St, df_X16_event n (nI x.1) x.2.1 x.2.2 X = some (r, X') ∧ RA n v Q L' e X' ∧ sI X'.1 14 = sI X.1 14 ∧ (r = nI 0 → X' = X)) ∧ (r = nI 0 → tA n v Q L e M') := by
  obtain ⟨⟨X, hX⟩, h2⟩ := hA
  obtain ⟨r, M', X', r1, e1, e2, e3, e4, e5, e6⟩ := tX_ev n hn (K := K) hv (h2 X hX)
  have one : ∀ Y : St × St, RA n v Q L e Y → ∃ Y' : St × St, df_X16_event n (nI x.1) x.2.1 x.2.2 Y = some (r, Y') ∧ tX n Q e M' Y' ∧ sI Y'.1 14 = sI Y.1 14 ∧ (r = nI 0 → Y' = Y) := fun Y hY => by
    obtain ⟨r', M1', Y1, _, g1, g2, g3, g4, g5, g6⟩ := tX_ev n hn (K := K) hv (h2 Y hY)
    rw [e1] at g1
    injection g1 with g1
    injection g1 with gr g1
    injection g1 with _ g1
    injection g1 with _ g1
    subst g1 gr
    exact ⟨Y1, g2, g3, g4, g6⟩
  have cl : ∀ (Y Y' : St × St), RA n v Q L e Y → df_X16_event n (nI x.1) x.2.1 x.2.2 Y = some (r, Y') → RA n v Q L' e Y' := fun Y Y' ⟨Y0, y1, y2⟩ hY => by
    refine ⟨Y0, RB_c hl Y0 y1, ?_⟩
    rw [he]
    exact evW_a n (L e) Y0 Y y2 hY
  refine ⟨r, M', r1, e1, ⟨⟨X', cl X X' hX e2⟩, fun Y hY => ?_⟩, fun Y hY => ?_, fun z => ⟨⟨X, hX⟩, fun Y hY => ?_⟩⟩
  · obtain ⟨Y0, y1, y2⟩ := hY
    rw [he] at y2
    obtain ⟨Z, Z', r', a, b, z1, z2, z3⟩ := evW_b n (L e) Y0 y2
    obtain ⟨Z2, w1, w2, _⟩ := one Z ⟨Y0, RB_c (fun k hk => (hl k hk).symm) Y0 y1, z1⟩
    rw [z2] at w1
    cases w1
    rw [z3]
    exact tX_w n hn w2 a b
  · obtain ⟨Y', g1, g2, g3, g4⟩ := one Y hY
    exact ⟨Y', g1, cl Y Y' hY g1, g3, g4⟩
  · obtain ⟨Y', g1, g2, g3, g4⟩ := one Y hY
    have := g4 z
    subst this
    exact g2
theorem evs_s (f : Nat → Nat × Int64 × Int32) : ∀ m i : Nat, evs f i (m + 1) = evs f i m ++ [f (i + m)]
  | 0, i => rfl
  | m + 1, i => by
    show f i :: evs f (i + 1) (m + 1) = f i :: (evs f (i + 1) m ++ [f (i + (m + 1))])
    rw [evs_s f m (i + 1), show i + 1 + m = i + (m + 1) by omega]
theorem evs_c {f g : Nat → Nat × Int64 × Int32} : ∀ m i : Nat, (∀ k : Nat, i ≤ k → k < i + m → f k = g k) → evs f i m = evs g i m
  | 0, _, _ => rfl
  | m + 1, i, h => by
    show f i :: evs f (i + 1) m = g i :: evs g (i + 1) m
    rw [h i (by omega) (by omega), evs_c m (i + 1) (fun k h1 h2 => h k (by omega) (by omega))]
/-- the places of a recording with one event more -/
def loA (lo : Nat → Nat) (e N : Nat) (c : Nat) : Nat := if c ≤ e then lo c else N + 1
theorem okL_a {N e : Nat} {lo : Nat → Nat} (h : okL N e lo) : okL (N + 1) e (loA lo e N) := by
  refine ⟨?_, fun c => ?_, fun c hc => if_neg (by omega)⟩
  · show (if 0 ≤ e then lo 0 else N + 1) = 0
    rw [if_pos (by omega)]; exact h.1
  · show (if c ≤ e then lo c else N + 1) ≤ (if c + 1 ≤ e then lo (c + 1) else N + 1)
    have := okL_N h c
    have := h.2.1 c
    by_cases d : c + 1 ≤ e
    · rw [if_pos d, if_pos (by omega)]; omega
    · rw [if_neg d]
      by_cases d' : c ≤ e
      · rw [if_pos d']; omega
      · rw [if_neg d']; omega
theorem lg_a {f g : Nat → Nat × Int64 × Int32} {N e : Nat} {lo : Nat → Nat} (h : okL N e lo) (hf : ∀ i : Nat, i < N → g i = f i) : (∀ c : Nat, c < e → lgL f lo c = lgL g (loA lo e N) c) ∧ lgL g (loA lo e N) e = lgL f lo e ++ [g N] := by
  have lN := okL_N h
  refine ⟨fun c hc => ?_, ?_⟩
  · unfold lgL loA
    rw [if_pos (show c ≤ e by omega), if_pos (show c + 1 ≤ e by omega)]
    have := lN (c + 1)
    have := h.2.1 c
    exact evs_c _ _ (fun k h1 h2 => (hf k (by omega)).symm)
  · unfold lgL loA
    rw [if_pos (Nat.le_refl e), if_neg (show ¬ e + 1 ≤ e by omega), h.2.2 (e + 1) (by omega)]
    have := lN e
    rw [show N + 1 - lo e = (N - lo e) + 1 by omega, evs_s, show lo e + (N - lo e) = N by omega, evs_c (f := g) (g := f) _ _ (fun k h1 h2 => hf k (by omega))]
/-- the class's recording with one event more -/
def aV (V : St) (N e k : Nat) (a : Int64) (b : Int32) : St := pI (pI (pR (pQ (pQ (pR V 0 (upd (sR V 0) N (nI k))) 0 (vp_updL (sQ V 0) N (nI e).toInt64)) 1 (vp_updL (sQ V 1) N a)) 1 (upd (sR V 1) N b)) 1 (nI (N + 1))) 0 (nI (N + 1))
theorem aV_r (V : St) (N e k : Nat) (a : Int64) (b : Int32) : sR (aV V N e k a b) 0 = upd (sR V 0) N (nI k) ∧ sQ (aV V N e k a b) 0 = vp_updL (sQ V 0) N (nI e).toInt64 ∧ sQ (aV V N e k a b) 1 = vp_updL (sQ V 1) N a ∧ sR (aV V N e k a b) 1 = upd (sR V 1) N b ∧ sI (aV V N e k a b) 0 = nI (N + 1) ∧ sI (aV V N e k a b) 1 = nI (N + 1) := ⟨rfl, rfl, rfl, rfl, rfl, rfl⟩
theorem ul_s {f : Nat → Int64} {i : Nat} {v : Int64} : vp_updL f i v i = v := if_pos rfl
theorem cLg_a {V : St} {N e k : Nat} {lo : Nat → Nat} (h : cLg V N N e lo) (hN : N < 2048) (hk : k < 5) {a : Int64} {b : Int32} (hv : evV k a b) : cLg (aV V N e k a b) (N + 1) (N + 1) e (loA lo e N) := by
  obtain ⟨l1, l2, l3, l4, l5, l6, l7, l8⟩ := h
  obtain ⟨r1, r2, r3, r4, r5, r6⟩ := aV_r V N e k a b
  refine ⟨r5, r6, by omega, by omega, okL_a l5, fun i c hc h1 h2 => ?_, fun i hi => ?_, l8⟩
  · rw [r2]
    have h1 : (if c ≤ e then lo c else N + 1) ≤ i := h1
    have h2 : i < (if c + 1 ≤ e then lo (c + 1) else N + 1) := h2
    rw [if_pos hc] at h1
    by_cases d : c + 1 ≤ e
    · rw [if_pos d] at h2
      have := okL_N l5 (c + 1)
      rw [up_o (by omega)]
      exact l6 i c hc h1 h2
    · rw [if_neg d] at h2
      have ce : c = e := by omega
      by_cases y : i = N
      · rw [y, ul_s, ce]
      · rw [up_o y]
        exact l6 i c hc h1 (by rw [l5.2.2 (c + 1) (by omega)]; omega)
  · rw [r1, r3, r4]
    by_cases y : i = N
    · rw [y, nm_us, ul_s, nm_us]
      exact ⟨k, hk, rfl, hv⟩
    · rw [nm_un y, up_o y, nm_un y]
      exact l7 i (by omega)
theorem ad_3 (n : Nat) {V : St} {N e k : Nat} (hN : N < 2048) (e1 : sI V 1 = nI N) (a : Int64) (b : Int32) : ∃ V1 : St, df_X3_add n (nI k) (nI e).toInt64 a b V = some (nI 1, V1) ∧ sI V1 1 = nI (N + 1) ∧ pI V1 0 (nI (N + 1)) = aV V N e k a b := by
  have u1 : N < 2 ^ 31 := by omega
  refine ⟨pI (pR (pQ (pQ (pR V 0 (upd (sR V 0) N (nI k))) 0 (vp_updL (sQ V 0) N (nI e).toInt64)) 1 (vp_updL (sQ V 1) N a)) 1 (upd (sR V 1) N b)) 1 (nI (N + 1)), ?_, rfl, rfl⟩
  generalize (nI e).toInt64 = t
  simp (disch := (first | assumption | decide | omega)) only [df_X3_add_0, df_X3_add, e1, hN, eq_self, Nat.reduceEqDiff, Nat.reduceLeDiff, nl_0, nl_1, nl_2048, no_1, no_1024, pk_mul, nI_add, nm_ck, nI_clamp, nI_ltI, nI_leI, nI_eq, nb_b2, nb_b1, ↓nb_let, nm_z0, nm_z1, nb_II, nb_IR, nb_RI, nb_RR, nm_IL, nm_IQ, nm_RL, nm_RQ, nm_LI, nm_LR, nm_LL, nm_LQ, nm_QI, nm_QR, nm_QL, nm_QQ, nm_rr, nm_ii, nm_eqm, not_false_eq_true, pk_sub, nm_div, nm_shl, nm_shr, nm_ush, nm_or8, nm_or64, nm_or256, nm_m1, nm_m3, nm_m7, nm_m15, nm_m31, nm_m63, nm_m255, nm_m511, nm_m1023, nm_m2047, nm_m65535, Nat.reduceMod, Nat.reducePow, Nat.reduceAdd, Nat.reduceSub, Nat.reduceMul, nm_bo, nm_bi, nm_rc, nm_ic, nm_ri, nm_rl, nm_rq, nm_ql, nm_qi, nm_li, nm_us, nm_uu, nm_cp, nm_sa31, nm_sa7, nm_m127, nm_m2, nm_nz, nm_nzk, nm_eq32, nm_nzf, if_true, if_false, ↓reduceIte, if_pos, if_neg]
/-- the class takes an event from outside -/
theorem co_1 (n : Nat) (hn : 40000 < n) {vn : Nat} {Q V : St} {N e k : Nat} {lo : Nat → Nat} {s : St × Rw × (St × (St × (St × (St)))) × (St) × (St) × (Nat → St) × (Nat → St) × (Nat → St × (St))} (h : cI n vn Q V N N e e lo s) (hN : N < 2048) (hk : k < 5) {a : Int64} {b : Int32} (hv : evV k a b) : ∃ (r : Int32) (s' : St × Rw × (St × (St × (St × (St)))) × (St) × (St) × (Nat → St) × (Nat → St) × (Nat → St × (St))), (r = nI 0 ∨ r = nI 1) ∧ df_X11_come n (nI k) a b s = some (if r = nI 0 then nI 1 else nI 0, s') ∧ (∀ X : St × St, RA n (nI vn) Q (lgL (evK V) lo) e X → ∃ X' : St × St, df_X16_event n (nI k) a b X = some (r, X') ∧ sI X'.1 14 = sI X.1 14 ∧ (r = nI 0 → X' = X) ∧ (r = nI 1 → RA n (nI vn) Q (lgL (evK (aV V N e k a b)) (loA lo e N)) e X')) ∧ (r = nI 0 → cI n vn Q V N N e e lo s' ∧ fI s s') ∧ (r = nI 1 → cI n vn Q (aV V N e k a b) (N + 1) (N + 1) e e (loA lo e N) s' ∧ ((∀ k : Nat, ¬ k = 5 → sI s'.1 k = sI s.1 k) ∧ (∀ k : Nat, sO s'.1 k = sO s.1 k) ∧ s'.2.1 = s.2.1 ∧ s'.2.2.2.2.2 = s.2.2.2.2.2)) := by
  obtain ⟨hV, hL, hs, hP, hce, h3, h4, h5, hA, ⟨cp, sp, at_, ix, hC⟩, hW⟩ := h
  obtain ⟨l1, l2, l3, l4, l5, l6, l7, l8⟩ := id hL
  have ev : ∀ i : Nat, i < N → evK (aV V N e k a b) i = evK V i := fun i hi => by
    obtain ⟨r1, r2, r3, r4, r5, r6⟩ := aV_r V N e k a b
    unfold evK
    rw [r1, r3, r4, nm_un (by omega), up_o (by omega), nm_un (by omega)]
  have evN : evK (aV V N e k a b) N = (k, a, b) := by
    obtain ⟨r1, r2, r3, r4, r5, r6⟩ := aV_r V N e k a b
    unfold evK
    rw [r1, r3, r4, nm_us, ul_s, nm_us, nI_clamp (by omega)]
  obtain ⟨la, lb⟩ := lg_a (f := evK V) (g := evK (aV V N e k a b)) l5 ev
  rw [evN] at lb
  obtain ⟨r, M', r1, c1, c2, c3, c4⟩ := tA_rec n (by omega) (K := s.2.2.1) (x := (k, a, b)) la lb hA hv
  have c1 : df_X5_come n (nI k) a b s.2.2.1 = some (r, (s.2.2.1.1, (s.2.2.1.2.1, M'))) := c1
  have hs' : hsT n (nI vn) Q (lgL (evK (aV V N e k a b)) (loA lo e N)) e := by
    refine ⟨fun j hj => ?_, fun j hj => ?_⟩
    · obtain ⟨M, hM⟩ := hs.1 j hj
      exact ⟨M, tB_c (fun i hi => la i (by omega)) hM⟩
    · by_cases y : j = e
      · rw [y]; exact ⟨M', c2, fun z => by omega⟩
      · obtain ⟨M, hM, hc⟩ := hs.2 j hj
        exact ⟨M, tA_c (fun i hi => la i (by omega)) hM, hc⟩
  have u1 : N < 2 ^ 31 := by omega
  obtain ⟨V1, a1, a2, a3⟩ := ad_3 n (e := e) (k := k) hN l2 a b
  have k2 : ¬ nI 1 = (0 : Int32) := by decide
  have key : ∃ s' : St × Rw × (St × (St × (St × (St)))) × (St) × (St) × (Nat → St) × (Nat → St) × (Nat → St × (St)), df_X11_come n (nI k) a b s = some (if r = nI 0 then nI 1 else nI 0, s') ∧ (r = nI 0 → s' = (s.1, (s.2.1, ((s.2.2.1.1, (s.2.2.1.2.1, M')), s.2.2.2)))) ∧ (r = nI 1 → s'.1 = pI s.1 5 (nI (N + 1)) ∧ s'.2.1 = s.2.1 ∧ s'.2.2.1 = (s.2.2.1.1, (s.2.2.1.2.1, M')) ∧ eA s' (aV V N e k a b) ∧ s'.2.2.2.2.2 = s.2.2.2.2.2) := by
    rcases hV with ⟨o1, o2⟩ | ⟨o1, o2⟩
    · have A : df_X11_come n (nI k) a b s = if r = (0 : Int32) then some (1, (s.1, (s.2.1, ((s.2.2.1.1, (s.2.2.1.2.1, M')), s.2.2.2)))) else some (0, (pI s.1 5 (nI (N + 1)), (s.2.1, ((s.2.2.1.1, (s.2.2.1.2.1, M')), (aV V N e k a b, s.2.2.2.2))))) := by
        unfold df_X11_come df_X11_come_0
        rw [h3, h4, if_pos rfl, if_pos o1, o2, l2, l1, if_pos (show nI N ≤ nI N by rw [nI_leI u1 u1]; exact Nat.le_refl N), if_pos (show nI N < (2048 : Int32) from (show nI N < nI 2048 by rw [nI_ltI u1 (by omega)]; exact hN)), c1, nb_b2, nb_let]
        by_cases z : r = 0
        · rw [if_pos z, if_pos z]
        · rw [if_neg z, if_neg z]
          dsimp only
          rw [h3, o2, a1, nb_b2, nb_let]
          dsimp only
          rw [a2, nb_let]
          dsimp only
          rw [show sI (pI V1 0 (nI (N + 1))) 0 = nI (N + 1) from rfl, nb_let, a3]
      refine ⟨(if r = (0 : Int32) then (s.1, (s.2.1, ((s.2.2.1.1, (s.2.2.1.2.1, M')), s.2.2.2))) else (pI s.1 5 (nI (N + 1)), (s.2.1, ((s.2.2.1.1, (s.2.2.1.2.1, M')), (aV V N e k a b, s.2.2.2.2))))), ?_, ?_, ?_⟩
      · rw [A]
        by_cases z : r = 0
        · rw [if_pos z, if_pos z, if_pos (show r = nI 0 from z)]; rfl
        · rw [if_neg z, if_neg z, if_neg (show ¬ r = nI 0 from z)]; rfl
      · intro z
        rw [if_pos (show r = 0 from z)]
      · intro z
        rw [if_neg (show ¬ r = 0 by rw [z]; exact k2)]
        exact ⟨rfl, rfl, rfl, Or.inl ⟨o1, rfl⟩, rfl⟩
    · have A : df_X11_come n (nI k) a b s = if r = (0 : Int32) then some (1, (s.1, (s.2.1, ((s.2.2.1.1, (s.2.2.1.2.1, M')), s.2.2.2)))) else some (0, (pI s.1 5 (nI (N + 1)), (s.2.1, ((s.2.2.1.1, (s.2.2.1.2.1, M')), (s.2.2.2.1, (aV V N e k a b, s.2.2.2.2.2)))))) := by
        unfold df_X11_come df_X11_come_0
        rw [h3, h4, if_pos rfl, if_neg (show ¬ sO s.1 0 = some 27 by rw [o1]; decide), if_pos o1, o2, l2, l1, if_pos (show nI N ≤ nI N by rw [nI_leI u1 u1]; exact Nat.le_refl N), if_pos (show nI N < (2048 : Int32) from (show nI N < nI 2048 by rw [nI_ltI u1 (by omega)]; exact hN)), c1, nb_b2, nb_let]
        by_cases z : r = 0
        · rw [if_pos z, if_pos z]
        · rw [if_neg z, if_neg z]
          dsimp only
          rw [h3, o2, a1, nb_b2, nb_let]
          dsimp only
          rw [a2, nb_let]
          dsimp only
          rw [show sI (pI V1 0 (nI (N + 1))) 0 = nI (N + 1) from rfl, nb_let, a3]
      refine ⟨(if r = (0 : Int32) then (s.1, (s.2.1, ((s.2.2.1.1, (s.2.2.1.2.1, M')), s.2.2.2))) else (pI s.1 5 (nI (N + 1)), (s.2.1, ((s.2.2.1.1, (s.2.2.1.2.1, M')), (s.2.2.2.1, (aV V N e k a b, s.2.2.2.2.2)))))), ?_, ?_, ?_⟩
      · rw [A]
        by_cases z : r = 0
        · rw [if_pos z, if_pos z, if_pos (show r = nI 0 from z)]; rfl
        · rw [if_neg z, if_neg z, if_neg (show ¬ r = nI 0 from z)]; rfl
      · intro z
        rw [if_pos (show r = 0 from z)]
      · intro z
        rw [if_neg (show ¬ r = 0 by rw [z]; exact k2)]
        exact ⟨rfl, rfl, rfl, Or.inr ⟨o1, rfl⟩, rfl⟩
  obtain ⟨s', q1, q2, q3⟩ := key
  refine ⟨r, s', r1, q1, fun X hX => ?_, fun z => ?_, fun z => ?_⟩
  · obtain ⟨X', x1, x2, x3, x4⟩ := c3 X hX
    exact ⟨X', x1, x3, x4, fun _ => x2⟩
  · have f0 : fI s (s.1, (s.2.1, ((s.2.2.1.1, (s.2.2.1.2.1, M')), s.2.2.2))) := ⟨fun _ _ => rfl, fun _ => rfl, fun _ _ => rfl, fun _ => rfl, rfl, rfl, rfl, rfl⟩
    rw [q2 z]
    exact ⟨⟨eA_f hV f0, hL, hs, rPp_f hP f0, hce, h3, h4, h5, c4 z, ⟨cp, sp, at_, ix, hC⟩, hW⟩, f0⟩
  · obtain ⟨y1, y2, y3, y4, y5⟩ := q3 z
    have y8 : s'.2.2.2.2.2.1 = s.2.2.2.2.2.1 := congrArg Prod.fst y5
    have y9 : s'.2.2.2.2.2.2.2 = s.2.2.2.2.2.2.2 := congrArg (fun p => p.2.2) y5
    refine ⟨⟨y4, cLg_a hL hN hk hv, hs', ?_, hce, by rw [y1]; exact h3, by rw [y1]; exact h4, ?_, by rw [y3]; exact c2, ⟨cp, sp, at_, ix, ?_⟩, fun j hj => ?_⟩, fun j hj => by rw [y1, nb_II, if_neg hj], fun j => by rw [y1]; rfl, y2, y5⟩
    · obtain ⟨p1, p2⟩ := hP
      refine ⟨by rw [y3]; exact p1, fun j hj => ?_⟩
      rw [y2, y8]
      exact p2 j hj
    · rw [y1]
      show nI (N + 1) = nI (loA lo e N (e + 1))
      rw [show loA lo e N (e + 1) = N + 1 from if_neg (by omega)]
    · obtain ⟨⟨b1, b2, b3, b4, b5, b6⟩, d1, d2, d3, d4, d5⟩ := hC
      refine ⟨⟨b1, b2, by rw [y1]; exact b3, by rw [y1]; exact b4, b5, b6⟩, fun i hi => by rw [y2]; exact d1 i hi, d2, d3, d4, fun i hi => ?_⟩
      obtain ⟨g1, g2, g3, g4⟩ := d5 i hi
      exact ⟨g1, g2, by rw [y1]; exact g3, by rw [y9]; exact tB_c (fun j hj => la j (by omega)) g4⟩
    · rw [y1]
      intro X hX
      exact hW j hj X (RA_c (fun i hi => (la i (by omega)).symm) hX)

/-- the reference's recording with one event more -/
def aT (T : St) (N e k : Nat) (a : Int64) (b : Int32) : St := pI (pI (pR (pR (pQ (pR T 5 (upd (sR T 5) N (nI k))) 0 (vp_updL (sQ T 0) N a)) 6 (upd (sR T 6) N b)) 7 (upd (sR T 7) N (nI e))) 8 (nI (N + 1))) 10 (nI (N + 1))
theorem aT_r (T : St) (N e k : Nat) (a : Int64) (b : Int32) : sR (aT T N e k a b) 5 = upd (sR T 5) N (nI k) ∧ sQ (aT T N e k a b) 0 = vp_updL (sQ T 0) N a ∧ sR (aT T N e k a b) 6 = upd (sR T 6) N b ∧ sR (aT T N e k a b) 7 = upd (sR T 7) N (nI e) ∧ sI (aT T N e k a b) 8 = nI (N + 1) ∧ sI (aT T N e k a b) 10 = nI (N + 1) ∧ ∀ j : Nat, ¬ j = 8 → ¬ j = 10 → sI (aT T N e k a b) j = sI T j := ⟨rfl, rfl, rfl, rfl, rfl, rfl, fun j h1 h2 => by
  unfold aT
  rw [nb_II, if_neg h2, nb_II, if_neg h1]
  rfl⟩
theorem aT_e {T : St} {N e k : Nat} (hk : k < 5) {a : Int64} {b : Int32} : (∀ i : Nat, i < N → evT (aT T N e k a b) i = evT T i) ∧ evT (aT T N e k a b) N = (k, a, b) := by
  obtain ⟨r1, r2, r3, r4, r5, r6, r7⟩ := aT_r T N e k a b
  refine ⟨fun i hi => ?_, ?_⟩
  · unfold evT
    rw [r1, r2, r3, nm_un (by omega), up_o (by omega), nm_un (by omega)]
  · unfold evT
    rw [r1, r2, r3, nm_us, ul_s, nm_us, nI_clamp (by omega)]
theorem rLg_a {T : St} {N e k : Nat} {lo : Nat → Nat} (h : rLg T N e lo) (hN : N < 2048) (hk : k < 5) {a : Int64} {b : Int32} (hv : evV k a b) : rLg (aT T N e k a b) (N + 1) e (loA lo e N) := by
  obtain ⟨l1, l2, l3, l4, l5, l6⟩ := h
  obtain ⟨r1, r2, r3, r4, r5, r6, r7⟩ := aT_r T N e k a b
  refine ⟨r5, by omega, okL_a l3, fun i c hc h1 h2 => ?_, fun i hi => ?_, l6⟩
  · rw [r4]
    have h1 : (if c ≤ e then lo c else N + 1) ≤ i := h1
    have h2 : i < (if c + 1 ≤ e then lo (c + 1) else N + 1) := h2
    rw [if_pos hc] at h1
    by_cases d : c + 1 ≤ e
    · rw [if_pos d] at h2
      have := okL_N l3 (c + 1)
      rw [nm_un (by omega)]
      exact l4 i c hc h1 h2
    · rw [if_neg d] at h2
      have ce : c = e := by omega
      by_cases y : i = N
      · rw [y, nm_us, ce]
      · rw [nm_un y]
        exact l4 i c hc h1 (by rw [l3.2.2 (c + 1) (by omega)]; omega)
  · rw [r1, r2, r3]
    by_cases y : i = N
    · rw [y, nm_us, ul_s, nm_us]
      exact ⟨k, hk, rfl, hv⟩
    · rw [nm_un y, up_o y, nm_un y]
      exact l5 i (by omega)
/-- the reference records an event at its end -/
theorem rc_rec (n : Nat) {N e k : Nat} {lo : Nat → Nat} {τ : S19} (hL : rLg τ.1 N e lo) (hN : N < 2048) (h6 : sI τ.1 6 = nI e) {a : Int64} {b r : Int32} {X' : St × St} (hr : r = nI 0 ∨ r = nI 1) (he : df_X16_event n (nI k) a b τ.2.2.1.2 = some (r, X')) : (r = nI 0 → df_X19_record n (nI k) a b τ = some (nI 0, (τ.1, (τ.2.1, ((τ.2.2.1.1, X'), τ.2.2.2))))) ∧ (r = nI 1 → df_X19_record n (nI k) a b τ = some (nI 1, (aT τ.1 N e k a b, (τ.2.1, ((τ.2.2.1.1, X'), τ.2.2.2))))) := by
  obtain ⟨l1, l2, l3, l4, l5, l6⟩ := hL
  have u1 : N < 2 ^ 31 := by omega
  have n8 : ¬ nI N = (2048 : Int32) := fun z => by
    have := nm_inI (by omega) (by omega) (show nI N = nI 2048 from z)
    omega
  refine ⟨fun z => ?_, fun z => ?_⟩
  · unfold df_X19_record df_X19_record_0
    rw [l1, if_neg n8, he, nb_b2, nb_let, z, if_pos (show nI 0 = (0 : Int32) from rfl)]
    rfl
  · unfold df_X19_record df_X19_record_0
    rw [l1, if_neg n8, he, nb_b2, nb_let, z, if_neg (show ¬ nI 1 = (0 : Int32) by decide)]
    dsimp only
    rw [l1, nm_ck hN u1, nI_clamp u1, nb_let]
    dsimp only
    rw [show ∀ f : Nat → Int32, sI (pR τ.1 5 f) 8 = nI N from fun _ => l1, nm_ck hN u1, nI_clamp u1, nb_let]
    dsimp only
    rw [show ∀ (f : Nat → Int32) (g : Nat → Int64), sI (pQ (pR τ.1 5 f) 0 g) 8 = nI N from fun _ _ => l1, nm_ck hN u1, nI_clamp u1, nb_let]
    dsimp only
    rw [show ∀ (f h : Nat → Int32) (g : Nat → Int64), sI (pR (pQ (pR τ.1 5 f) 0 g) 6 h) 8 = nI N from fun _ _ _ => l1, nm_ck hN u1, nI_clamp u1, nb_let]
    dsimp only
    rw [show ∀ (f h : Nat → Int32) (g : Nat → Int64), sI (pR (pQ (pR τ.1 5 f) 0 g) 6 h) 6 = nI e from fun _ _ _ => h6]
    rw [show ∀ (f h j : Nat → Int32) (g : Nat → Int64), sI (pR (pR (pQ (pR τ.1 5 f) 0 g) 6 h) 7 j) 8 = nI N from fun _ _ _ _ => l1, show nI N + 1 = nI (N + 1) from nI_add .., nb_let, nb_let]
    rfl

/-- one turn of the class's taking of what is scheduled -/
theorem ts_1 (n : Nat) {s : St × Rw × (St × (St × (St × (St)))) × (St) × (St) × (Nat → St) × (Nat → St) × (Nat → St × (St))} {V : St} (hV : eA s V) (g : St × Rw × (St × (St × (St × (St)))) × (St) × (St) × (Nat → St) × (Nat → St) × (Nat → St × (St)) → Option (St × Rw × (St × (St × (St × (St)))) × (St) × (St) × (Nat → St) × (Nat → St) × (Nat → St × (St)))) {N T e : Nat} (hT : T ≤ 2048) (hN : N ≤ T) (e0 : sI V 0 = nI N) (e1 : sI V 1 = nI T) (e4 : sI s.1 4 = nI e) (e5 : sI s.1 5 = nI N) : (T ≤ N → dF_X11_takeScheduled_0 n g s = some s) ∧ (N < T → df_X3_isAt n (nI N) (nI e) V = some (nI 0, V) → dF_X11_takeScheduled_0 n g s = some s) ∧ (N < T → df_X3_isAt n (nI N) (nI e) V = some (nI 1, V) → ∀ (r : Int32) (K' : St × (St × (St × St))), df_X5_come n (sR V 0 N) (sQ V 1 N) (sR V 1 N) s.2.2.1 = some (r, K') → (r = nI 0 → ∃ s' : St × Rw × (St × (St × (St × (St)))) × (St) × (St) × (Nat → St) × (Nat → St) × (Nat → St × (St)), dF_X11_takeScheduled_0 n g s = g s' ∧ s'.1 = pI s.1 6 (nI 1) ∧ s'.2.1 = s.2.1 ∧ s'.2.2.1 = K' ∧ eA s' (pI V 1 (nI N)) ∧ s'.2.2.2.2.2 = s.2.2.2.2.2) ∧ (r = nI 1 → ∃ s' : St × Rw × (St × (St × (St × (St)))) × (St) × (St) × (Nat → St) × (Nat → St) × (Nat → St × (St)), dF_X11_takeScheduled_0 n g s = g s' ∧ s'.1 = pI s.1 5 (nI (N + 1)) ∧ s'.2.1 = s.2.1 ∧ s'.2.2.1 = K' ∧ eA s' (pI V 0 (nI (N + 1))) ∧ s'.2.2.2.2.2 = s.2.2.2.2.2)) := by
  have u1 : N < 2 ^ 31 := by omega
  have u2 : T < 2 ^ 31 := by omega
  have k2 : nI N + 1 = nI (N + 1) := nI_add ..
  rcases hV with ⟨o, rfl⟩ | ⟨o, rfl⟩
  · refine ⟨fun z => ?_, fun z y => ?_, fun z y r K' x => ⟨fun hr => ⟨(pI s.1 6 (nI 1), (s.2.1, (K', (pI s.2.2.2.1 1 (nI N), s.2.2.2.2)))), ?_, rfl, rfl, rfl, Or.inl ⟨o, rfl⟩, rfl⟩, fun hr => ⟨(pI s.1 5 (nI (N + 1)), (s.2.1, (K', (pI s.2.2.2.1 0 (nI (N + 1)), s.2.2.2.2)))), ?_, rfl, rfl, rfl, Or.inl ⟨o, rfl⟩, rfl⟩⟩⟩
    · unfold dF_X11_takeScheduled_0
      rw [if_pos o, e1, e0, if_pos (by rw [nI_leI u2 u1]; exact z)]
      rfl
    · unfold dF_X11_takeScheduled_0
      rw [if_pos o, e1, e0, if_neg (fun w => by rw [nI_leI u2 u1] at w; omega), e4, y, nb_b2, nb_let, if_pos (show nI 0 = (0 : Int32) from rfl)]
      rfl
    · unfold dF_X11_takeScheduled_0
      rw [if_pos o, e1, e0, if_neg (fun w => by rw [nI_leI u2 u1] at w; omega), e4, y, nb_b2, nb_let, if_neg (show ¬ nI 1 = (0 : Int32) by decide)]
      dsimp only
      rw [e0, nb_let, nm_ck (by omega) u1, nm_ck (by omega) u1, nm_ck (by omega) u1, nI_clamp u1, x, nb_b2, nb_let, hr, if_pos (show nI 0 = (0 : Int32) from rfl)]
      dsimp only
      rw [e0, nb_let, nb_let]
      rfl
    · unfold dF_X11_takeScheduled_0
      rw [if_pos o, e1, e0, if_neg (fun w => by rw [nI_leI u2 u1] at w; omega), e4, y, nb_b2, nb_let, if_neg (show ¬ nI 1 = (0 : Int32) by decide)]
      dsimp only
      rw [e0, nb_let, nm_ck (by omega) u1, nm_ck (by omega) u1, nm_ck (by omega) u1, nI_clamp u1, x, nb_b2, nb_let, hr, if_neg (show ¬ nI 1 = (0 : Int32) by decide)]
      dsimp only
      rw [e0, nb_let, k2]
      dsimp only
      rw [e5, nb_let, k2]
      rfl
  · refine ⟨fun z => ?_, fun z y => ?_, fun z y r K' x => ⟨fun hr => ⟨(pI s.1 6 (nI 1), (s.2.1, (K', (s.2.2.2.1, (pI s.2.2.2.2.1 1 (nI N), s.2.2.2.2.2))))), ?_, rfl, rfl, rfl, Or.inr ⟨o, rfl⟩, rfl⟩, fun hr => ⟨(pI s.1 5 (nI (N + 1)), (s.2.1, (K', (s.2.2.2.1, (pI s.2.2.2.2.1 0 (nI (N + 1)), s.2.2.2.2.2))))), ?_, rfl, rfl, rfl, Or.inr ⟨o, rfl⟩, rfl⟩⟩⟩
    · unfold dF_X11_takeScheduled_0
      rw [if_neg (show ¬ sO s.1 0 = some 27 by rw [o]; decide), if_pos o, e1, e0, if_pos (by rw [nI_leI u2 u1]; exact z)]
      rfl
    · unfold dF_X11_takeScheduled_0
      rw [if_neg (show ¬ sO s.1 0 = some 27 by rw [o]; decide), if_pos o, e1, e0, if_neg (fun w => by rw [nI_leI u2 u1] at w; omega), e4, y, nb_b2, nb_let, if_pos (show nI 0 = (0 : Int32) from rfl)]
      rfl
    · unfold dF_X11_takeScheduled_0
      rw [if_neg (show ¬ sO s.1 0 = some 27 by rw [o]; decide), if_pos o, e1, e0, if_neg (fun w => by rw [nI_leI u2 u1] at w; omega), e4, y, nb_b2, nb_let, if_neg (show ¬ nI 1 = (0 : Int32) by decide)]
      dsimp only
      rw [e0, nb_let, nm_ck (by omega) u1, nm_ck (by omega) u1, nm_ck (by omega) u1, nI_clamp u1, x, nb_b2, nb_let, hr, if_pos (show nI 0 = (0 : Int32) from rfl)]
      dsimp only
      rw [e0, nb_let, nb_let]
      rfl
    · unfold dF_X11_takeScheduled_0
      rw [if_neg (show ¬ sO s.1 0 = some 27 by rw [o]; decide), if_pos o, e1, e0, if_neg (fun w => by rw [nI_leI u2 u1] at w; omega), e4, y, nb_b2, nb_let, if_neg (show ¬ nI 1 = (0 : Int32) by decide)]
      dsimp only
      rw [e0, nb_let, nm_ck (by omega) u1, nm_ck (by omega) u1, nm_ck (by omega) u1, nI_clamp u1, x, nb_b2, nb_let, hr, if_neg (show ¬ nI 1 = (0 : Int32) by decide)]
      dsimp only
      rw [e0, nb_let, k2]
      dsimp only
      rw [e5, nb_let, k2]
      rfl
/-- one more of those that are there has come -/
theorem cLg_n {V : St} {N T e : Nat} {lo : Nat → Nat} (h : cLg V N T e lo) (hN : N < T) (ha : sQ V 0 N = (nI e).toInt64) : cLg (pI V 0 (nI (N + 1))) (N + 1) T e (loA lo e N) := by
  obtain ⟨l1, l2, l3, l4, l5, l6, l7, l8⟩ := h
  refine ⟨rfl, l2, by omega, l4, okL_a l5, fun i c hc h1 h2 => ?_, l7, l8⟩
  show sQ V 0 i = _
  have h1 : (if c ≤ e then lo c else N + 1) ≤ i := h1
  have h2 : i < (if c + 1 ≤ e then lo (c + 1) else N + 1) := h2
  rw [if_pos hc] at h1
  by_cases d : c + 1 ≤ e
  · rw [if_pos d] at h2
    exact l6 i c hc h1 h2
  · rw [if_neg d] at h2
    have ce : c = e := by omega
    by_cases y : i = N
    · rw [y, ce]; exact ha
    · exact l6 i c hc h1 (by rw [l5.2.2 (c + 1) (by omega)]; omega)
theorem cLg_t {V : St} {N T e : Nat} {lo : Nat → Nat} (h : cLg V N T e lo) : cLg (pI V 1 (nI N)) N N e lo := by
  obtain ⟨l1, l2, l3, l4, l5, l6, l7, l8⟩ := h
  exact ⟨l1, rfl, Nat.le_refl N, by omega, l5, l6, fun i hi => l7 i (by omega), l8⟩
/-- the class's time behind another recording of the same count -/
theorem cI_k {n vn : Nat} {Q V V' : St} {N T N' T' e : Nat} {lo lo' : Nat → Nat} {s s' : St × Rw × (St × (St × (St × (St)))) × (St) × (St) × (Nat → St) × (Nat → St) × (Nat → St × (St))} {M' : St × St} (h : cI n vn Q V N T e e lo s) (hL' : cLg V' N' T' e lo') (la : ∀ i : Nat, i < e → lgL (evK V) lo i = lgL (evK V') lo' i) (hA' : tA n (nI vn) Q (lgL (evK V') lo') e M') (hV' : eA s' V') (y1 : (∀ k : Nat, k = 1 ∨ k = 2 ∨ k = 3 ∨ k = 4 → sI s'.1 k = sI s.1 k) ∧ sR s'.1 0 = sR s.1 0 ∧ sR s'.1 1 = sR s.1 1 ∧ sI s'.1 5 = nI (lo' (e + 1))) (y2 : s'.2.1 = s.2.1) (y3 : s'.2.2.1 = (s.2.2.1.1, (s.2.2.1.2.1, M'))) (y5 : s'.2.2.2.2.2 = s.2.2.2.2.2) : cI n vn Q V' N' T' e e lo' s' := by
  obtain ⟨hV, hL, hs, hP, hce, h3, h4, h5, hA, ⟨cp, sp, at_, ix, hC⟩, hW⟩ := h
  obtain ⟨q1, q2, q3, q4⟩ := y1
  have y8 : s'.2.2.2.2.2.1 = s.2.2.2.2.2.1 := congrArg Prod.fst y5
  have y9 : s'.2.2.2.2.2.2.2 = s.2.2.2.2.2.2.2 := congrArg (fun p => p.2.2) y5
  refine ⟨hV', hL', ⟨fun j hj => ?_, fun j hj => ?_⟩, ?_, hce, (q1 3 (by omega)).trans h3, (q1 4 (by omega)).trans h4, q4, by rw [y3]; exact hA', ⟨cp, sp, at_, ix, ?_⟩, fun j hj => ?_⟩
  · obtain ⟨M, hM⟩ := hs.1 j hj
    exact ⟨M, tB_c (fun i hi => la i (by omega)) hM⟩
  · by_cases y : j = e
    · rw [y]; exact ⟨M', hA', fun z => by omega⟩
    · obtain ⟨M, hM, hc⟩ := hs.2 j hj
      exact ⟨M, tA_c (fun i hi => la i (by omega)) hM, hc⟩
  · obtain ⟨p1, p2⟩ := hP
    refine ⟨by rw [y3]; exact p1, fun j hj => ?_⟩
    rw [y2, y8]
    exact p2 j hj
  · obtain ⟨⟨b1, b2, b3, b4, b5, b6⟩, d1, d2, d3, d4, d5⟩ := hC
    refine ⟨⟨b1, b2, (q1 1 (by omega)).trans b3, (q1 2 (by omega)).trans b4, b5, b6⟩, fun i hi => by rw [y2]; exact d1 i hi, d2, d3, d4, fun i hi => ?_⟩
    obtain ⟨g1, g2, g3, g4⟩ := d5 i hi
    exact ⟨g1, g2, by rw [q3]; exact g3, by rw [y9]; exact tB_c (fun j hj => la j (by omega)) g4⟩
  · rw [q2]
    intro X hX
    exact hW j hj X (RA_c (fun i hi => (la i (by omega)).symm) hX)
/-- one turn, with all that is tied -/
theorem ts_2 (n : Nat) (hn : 40000 < n) {vn : Nat} {Q V : St} {N T e : Nat} {lo : Nat → Nat} {s : St × Rw × (St × (St × (St × (St)))) × (St) × (St) × (Nat → St) × (Nat → St) × (Nat → St × (St))} (g : St × Rw × (St × (St × (St × (St)))) × (St) × (St) × (Nat → St) × (Nat → St) × (Nat → St × (St)) → Option (St × Rw × (St × (St × (St × (St)))) × (St) × (St) × (Nat → St) × (Nat → St) × (Nat → St × (St)))) (h : cI n vn Q V N T e e lo s) (hN : N < T) (ha : sQ V 0 N = (nI e).toInt64) : ∃ (r : Int32) (s' : St × Rw × (St × (St × (St × (St)))) × (St) × (St) × (Nat → St) × (Nat → St) × (Nat → St × (St))), (r = nI 0 ∨ r = nI 1) ∧ dF_X11_takeScheduled_0 n g s = g s' ∧ (∀ X : St × St, RA n (nI vn) Q (lgL (evK V) lo) e X → ∃ X' : St × St, df_X16_event n (sR V 0 N) (sQ V 1 N) (sR V 1 N) X = some (r, X') ∧ sI X'.1 14 = sI X.1 14 ∧ (r = nI 0 → X' = X) ∧ (r = nI 1 → RA n (nI vn) Q (lgL (evK V) (loA lo e N)) e X')) ∧ (r = nI 0 → cI n vn Q (pI V 1 (nI N)) N N e e lo s' ∧ sI s'.1 6 = nI 1) ∧ (r = nI 1 → cI n vn Q (pI V 0 (nI (N + 1))) (N + 1) T e e (loA lo e N) s' ∧ sI s'.1 6 = sI s.1 6) ∧ (sI s'.1 0 = sI s.1 0 ∧ sI s'.1 7 = sI s.1 7 ∧ (∀ k : Nat, sO s'.1 k = sO s.1 k) ∧ s'.2.1 = s.2.1 ∧ s'.2.2.2.2.2 = s.2.2.2.2.2) := by
  obtain ⟨hV, hL, hs, hP, hce, h3, h4, h5, hA, _, hW⟩ := id h
  obtain ⟨l1, l2, l3, l4, l5, l6, l7, l8⟩ := id hL
  obtain ⟨k, k5, ek, ev⟩ := l7 N hN
  have ee : evK V N = (k, sQ V 1 N, sR V 1 N) := by
    unfold evK
    rw [ek, nI_clamp (by omega)]
  obtain ⟨la, lb⟩ := lg_a (f := evK V) (g := evK V) l5 (fun _ _ => rfl)
  rw [ee] at lb
  obtain ⟨r, M', r1, c1, c2, c3, c4⟩ := tA_rec n (by omega) (K := s.2.2.1) (x := (k, sQ V 1 N, sR V 1 N)) la lb hA ev
  have c1 : df_X5_come n (sR V 0 N) (sQ V 1 N) (sR V 1 N) s.2.2.1 = some (r, (s.2.2.1.1, (s.2.2.1.2.1, M'))) := by rw [ek]; exact c1
  have h5' : sI s.1 5 = nI N := by rw [h5, l5.2.2 (e + 1) (by omega)]
  obtain ⟨_, _, t3⟩ := ts_1 n hV g l4 l3 l1 l2 h4 h5'
  obtain ⟨t4, t5⟩ := t3 hN (ia_1 n l4 hN l2 ha) r _ c1
  have wit : ∀ X : St × St, RA n (nI vn) Q (lgL (evK V) lo) e X → ∃ X' : St × St, df_X16_event n (sR V 0 N) (sQ V 1 N) (sR V 1 N) X = some (r, X') ∧ sI X'.1 14 = sI X.1 14 ∧ (r = nI 0 → X' = X) ∧ (r = nI 1 → RA n (nI vn) Q (lgL (evK V) (loA lo e N)) e X') := fun X hX => by
    obtain ⟨X', x1, x2, x3, x4⟩ := c3 X hX
    exact ⟨X', by rw [ek]; exact x1, x3, x4, fun _ => x2⟩
  rcases r1 with z | z
  · obtain ⟨s', a1, a2, a3, a4, a5, a6⟩ := t4 z
    refine ⟨r, s', Or.inl z, a1, wit, fun _ => ⟨cI_k h (cLg_t hL) (fun _ _ => rfl) (c4 z) a5 ⟨fun j hj => ?_, by rw [a2]; rfl, by rw [a2]; rfl, by rw [a2]; exact h5⟩ a3 a4 a6, by rw [a2]; rfl⟩, fun y => absurd (z.symm.trans y) (by decide), by rw [a2]; rfl, by rw [a2]; rfl, fun j => by rw [a2]; rfl, a3, a6⟩
    rw [a2, nb_II, if_neg (by omega)]
  · obtain ⟨s', a1, a2, a3, a4, a5, a6⟩ := t5 z
    refine ⟨r, s', Or.inr z, a1, wit, fun y => absurd (z.symm.trans y) (by decide), fun _ => ⟨cI_k h (cLg_n hL hN ha) la c2 a5 ⟨fun j hj => ?_, by rw [a2]; rfl, by rw [a2]; rfl, ?_⟩ a3 a4 a6, by rw [a2]; rfl⟩, by rw [a2]; rfl, by rw [a2]; rfl, fun j => by rw [a2]; rfl, a3, a6⟩
    · rw [a2, nb_II, if_neg (by omega)]
    · rw [a2]
      show nI (N + 1) = nI (loA lo e N (e + 1))
      rw [show loA lo e N (e + 1) = N + 1 from if_neg (by omega)]

def shL (f : Nat → Int64) (k : Nat) : Nat → Int64 := fun j => if j < k then f (j + 1) else f j
theorem shL_s (f : Nat → Int64) (k : Nat) : vp_updL (shL f k) k (shL f k (k + 1)) = shL f (k + 1) := by
  funext j
  unfold shL
  by_cases c : j = k
  · rw [c]
    refine (if_pos rfl).trans ?_
    rw [if_neg (by omega), if_pos (by omega)]
  · refine (if_neg c).trans ?_
    show (if j < k then f (j + 1) else f j) = if j < k + 1 then f (j + 1) else f j
    by_cases d : j < k
    · rw [if_pos d, if_pos (by omega)]
    · rw [if_neg d, if_neg (by omega)]
/-- what the reference's shift leaves -/
def iS (τ s : S19) (k : Nat) : Prop := sR s.1 8 = shk (sR τ.1 8) k ∧ sR s.1 9 = shk (sR τ.1 9) k ∧ sQ s.1 1 = shL (sQ τ.1 1) k ∧ sQ s.1 2 = shL (sQ τ.1 2) k ∧ (∀ j : Nat, ¬ j = 8 → ¬ j = 9 → sR s.1 j = sR τ.1 j) ∧ (∀ j : Nat, sI s.1 j = sI τ.1 j) ∧ sQ s.1 0 = sQ τ.1 0 ∧ (∀ j : Nat, sO s.1 j = sO τ.1 j) ∧ s.2 = τ.2
theorem rs_71 (n : Nat) (hn : 40000 < n) (g2 : Int32 → S19 → Option (Int32 × S19)) (x1 : Int32) {τ : S19} {m : Nat} (e9 : sI τ.1 9 = nI m) (hm : m < 2048) : ∃ τ' : S19, df_X19_takeScheduled_71 n g2 n x1 (nI 0) τ = g2 x1 τ' ∧ iS τ τ' m := by
  obtain ⟨g', s, i1, e⟩ := nm_l1 (S := S19) (fun g k s => df_X19_takeScheduled_71 n g2 g x1 (nI k) s) (fun k s => iS τ s k) m n (by omega) (fun k g s hk i1 => by
    obtain ⟨a1, a2, a3, a4, a5, a6, a7, a8, a9⟩ := i1
    have u1 : k < 2 ^ 31 := by omega
    have u2 : k + 1 < 2 ^ 31 := by omega
    have k1 : nI k + 1 = nI (k + 1) := nI_add ..
    have k2 : nI k + Int32.ofInt 1 = nI (k + 1) := nI_add ..
    have e9' : sI s.1 9 = nI m := (a6 9).trans e9
    refine ⟨(pQ (pR (pQ (pR s.1 8 (upd (sR s.1 8) k (sR s.1 8 (k + 1)))) 1 (vp_updL (sQ s.1 1) k (sQ s.1 1 (k + 1)))) 9 (upd (sR s.1 9) k (sR s.1 9 (k + 1)))) 2 (vp_updL (sQ s.1 2) k (sQ s.1 2 (k + 1))), s.2), ⟨?_, ?_, ?_, ?_, fun j h1 h2 => ?_, a6, a7, a8, a9⟩, ?_⟩
    · show upd (sR s.1 8) k (sR s.1 8 (k + 1)) = _
      rw [a1]; exact shk_s _ _
    · show upd (sR s.1 9) k (sR s.1 9 (k + 1)) = _
      rw [a2]; exact shk_s _ _
    · show vp_updL (sQ s.1 1) k (sQ s.1 1 (k + 1)) = _
      rw [a3]; exact shL_s _ _
    · show vp_updL (sQ s.1 2) k (sQ s.1 2 (k + 1)) = _
      rw [a4]; exact shL_s _ _
    · show sR (pR (pR s.1 8 _) 9 _) j = _
      rw [nb_RR, if_neg h2, nb_RR, if_neg h1]
      exact a5 j h1 h2
    · rw [show df_X19_takeScheduled_71 n g2 (g + 1) = dF_X19_takeScheduled_71 n g2 (df_X19_takeScheduled_71 n g2 g) from rfl]
      generalize df_X19_takeScheduled_71 n g2 g = G
      unfold dF_X19_takeScheduled_71
      rw [e9', if_neg (show ¬ nI m ≤ nI k from fun z => by rw [nI_leI (by omega) u1] at z; omega), k1, nm_ck (by omega) u2, nm_ck (by omega) u1, nI_clamp u1, nI_clamp u2, nb_let, nm_ck (by omega) u2, nm_ck (by omega) u1, nb_let, nm_ck (by omega) u2, nm_ck (by omega) u1, nb_let, nm_ck (by omega) u2, nm_ck (by omega) u1, nb_let, nb_let, k2]
      rfl) τ ⟨by funext j; exact (if_neg (by omega)).symm, by funext j; exact (if_neg (by omega)).symm, by funext j; exact (if_neg (by omega)).symm, by funext j; exact (if_neg (by omega)).symm, fun _ _ _ => rfl, fun _ => rfl, rfl, fun _ => rfl, rfl⟩
  refine ⟨s, Eq.trans e ?_, i1⟩
  show df_X19_takeScheduled_71 n g2 (g' + 1) x1 (nI m) s = _
  rw [show df_X19_takeScheduled_71 n g2 (g' + 1) = dF_X19_takeScheduled_71 n g2 (df_X19_takeScheduled_71 n g2 g') from rfl]
  generalize df_X19_takeScheduled_71 n g2 g' = G
  unfold dF_X19_takeScheduled_71
  rw [(i1.2.2.2.2.2.1 9).trans e9, if_pos (show nI m ≤ nI m by rw [nI_leI (by omega) (by omega)]; exact Nat.le_refl m)]
/-- what is scheduled, in both -/
def sch (T1 V : St) (N T : Nat) : Prop := sI T1 9 = nI (T - N) ∧ ∀ i : Nat, N + i < T → sR T1 8 i = sR V 0 (N + i) ∧ sR T1 9 i = sR V 1 (N + i) ∧ sQ T1 1 i = sQ V 1 (N + i) ∧ sQ T1 2 i = sQ V 0 (N + i)
/-- what taking what is scheduled leaves of the reference -/
def fT (τ τ' : S19) : Prop := (∀ j : Nat, ¬ j = 8 → ¬ j = 9 → ¬ j = 10 → sI τ'.1 j = sI τ.1 j) ∧ (∀ j : Nat, j < 5 ∨ 10 ≤ j → sR τ'.1 j = sR τ.1 j) ∧ (∀ j : Nat, sO τ'.1 j = sO τ.1 j) ∧ τ'.2.1 = τ.2.1 ∧ τ'.2.2.1.1 = τ.2.2.1.1 ∧ τ'.2.2.2 = τ.2.2.2
theorem fT_t {a b c : S19} (h : fT a b) (g : fT b c) : fT a c := by
  obtain ⟨h1, h2, h3, h4, h5, h6⟩ := h
  obtain ⟨g1, g2, g3, g4, g5, g6⟩ := g
  exact ⟨fun j a b c => (g1 j a b c).trans (h1 j a b c), fun j a => (g2 j a).trans (h2 j a), fun j => (g3 j).trans (h3 j), g4.trans h4, g5.trans h5, g6.trans h6⟩
/-- one turn of the reference's taking of what is scheduled -/
theorem rs_2 (n : Nat) (hn : 40000 < n) (g : Int32 → S19 → Option (Int32 × S19)) {V : St} {N T e : Nat} {lo : Nat → Nat} {τ : S19} (hL : rLg τ.1 N e lo) (hNT : N ≤ T) (hT : T ≤ 2048) (h6 : sI τ.1 6 = nI e) (hS : sch τ.1 V N T) : (T = N → dF_X19_takeScheduled_2 n g (nI 1) τ = some (nI 1, τ)) ∧ (N < T → ¬ sQ V 0 N = (nI e).toInt64 → dF_X19_takeScheduled_2 n g (nI 1) τ = some (nI 1, τ)) ∧ (N < T → sQ V 0 N = (nI e).toInt64 → ∀ (k : Nat) (r : Int32) (X' : St × St), k < 5 → sR V 0 N = nI k → evV k (sQ V 1 N) (sR V 1 N) → df_X16_event n (sR V 0 N) (sQ V 1 N) (sR V 1 N) τ.2.2.1.2 = some (r, X') → (r = nI 0 → ∃ τ' : S19, dF_X19_takeScheduled_2 n g (nI 1) τ = g (nI 0) τ' ∧ fT τ τ' ∧ τ'.2.2.1.2 = X' ∧ rLg τ'.1 N e lo ∧ (∀ i : Nat, evT τ'.1 i = evT τ.1 i) ∧ sI τ'.1 10 = sI τ.1 10 ∧ sI τ'.1 9 = nI 0) ∧ (r = nI 1 → ∃ τ' : S19, dF_X19_takeScheduled_2 n g (nI 1) τ = g (nI 1) τ' ∧ fT τ τ' ∧ τ'.2.2.1.2 = X' ∧ rLg τ'.1 (N + 1) e (loA lo e N) ∧ (∀ i : Nat, i < N → evT τ'.1 i = evT τ.1 i) ∧ evT τ'.1 N = (k, sQ V 1 N, sR V 1 N) ∧ sI τ'.1 10 = nI (N + 1) ∧ sch τ'.1 V (N + 1) T)) := by
  obtain ⟨s1, s2⟩ := hS
  have hN8 := hL.2.1
  have u1 : T - N < 2 ^ 31 := by omega
  have z0 : Int32.toNatClampNeg (0 : Int32) = 0 := tn_k (k := 0) (by omega)
  refine ⟨fun z => ?_, fun z y => ?_, fun z y k r X' k5 ek ev he => ?_⟩
  · unfold dF_X19_takeScheduled_2
    rw [s1, if_pos (show nI (T - N) ≤ (0 : Int32) from (show nI (T - N) ≤ nI 0 by rw [nI_leI u1 (by omega)]; omega))]
    exact nm_z1
  · obtain ⟨c1, c2, c3, c4⟩ := s2 0 (by omega)
    have c4 : sQ τ.1 2 0 = sQ V 0 N := c4
    unfold dF_X19_takeScheduled_2
    rw [s1, if_neg (show ¬ nI (T - N) ≤ (0 : Int32) from fun w => by have w : nI (T - N) ≤ nI 0 := w; rw [nI_leI u1 (by omega)] at w; omega), z0, c4, h6, if_neg (show ¬ lg_cmp (sQ V 0 N) (nI e).toInt64 = 0 from fun w => y ((lc_eq _ _).mp w))]
    exact nm_z1
  · obtain ⟨c1, c2, c3, c4⟩ := s2 0 (by omega)
    have c1 : sR τ.1 8 0 = sR V 0 N := c1
    have c2 : sR τ.1 9 0 = sR V 1 N := c2
    have c3 : sQ τ.1 1 0 = sQ V 1 N := c3
    have c4 : sQ τ.1 2 0 = sQ V 0 N := c4
    rw [ek] at he c1
    have A : ∀ (q : Int32) (τ1 : S19), df_X19_record n (nI k) (sQ V 1 N) (sR V 1 N) τ = some (q, τ1) → dF_X19_takeScheduled_2 n g (nI 1) τ = if q = 0 then df_X19_takeScheduled_66 n g q 0 τ1 else df_X19_takeScheduled_66 n g q (sI τ1.1 9 - 1) τ1 := fun q τ1 hq => by
      unfold dF_X19_takeScheduled_2
      rw [s1, if_neg (show ¬ nI (T - N) ≤ (0 : Int32) from fun w => by have w : nI (T - N) ≤ nI 0 := w; rw [nI_leI u1 (by omega)] at w; omega), z0, c4, h6, y, if_pos (show lg_cmp (nI e).toInt64 (nI e).toInt64 = 0 from (lc_eq _ _).mpr rfl), if_neg (show ¬ nI 1 = (0 : Int32) by decide), c1, c2, c3, hq, nb_b2]
    refine ⟨fun hr => ?_, fun hr => ?_⟩
    · have R := (rc_rec n hL (by omega) h6 (Or.inl hr) he).1 hr
      obtain ⟨τ', t1, t2⟩ := rs_71 n hn g (nI 0) (τ := (pI τ.1 9 (nI 0), (τ.2.1, ((τ.2.2.1.1, X'), τ.2.2.2)))) (m := 0) rfl (by omega)
      obtain ⟨a1, a2, a3, a4, a5, a6, a7, a8, a9⟩ := t2
      refine ⟨τ', ?_, ⟨fun j h1 h2 h3 => ?_, fun j hj => a5 j (by omega) (by omega), a8, by rw [a9], by rw [a9], by rw [a9]⟩, by rw [a9], ?_, fun i => ?_, ?_, a6 9⟩
      · rw [A _ _ R, if_pos (show nI 0 = (0 : Int32) from rfl)]
        unfold df_X19_takeScheduled_66
        rw [nb_let]
        exact t1
      · rw [a6 j]
        show sI (pI τ.1 9 _) j = _
        rw [nb_II, if_neg h2]
      · obtain ⟨l1, l2, l3, l4, l5, l6⟩ := hL
        exact ⟨(a6 8).trans l1, l2, l3, fun i c h1 h2 h3 => by rw [a5 7 (by omega) (by omega)]; exact l4 i c h1 h2 h3, fun i hi => by rw [a5 5 (by omega) (by omega), a5 6 (by omega) (by omega), a7]; exact l5 i hi, l6⟩
      · unfold evT
        rw [a5 5 (by omega) (by omega), a5 6 (by omega) (by omega), a7]
        rfl
      · exact a6 10
    · have R := (rc_rec n hL (by omega) h6 (Or.inr hr) he).2 hr
      obtain ⟨b1, b2, b3, b4, b5, b6, b7⟩ := aT_r τ.1 N e k (sQ V 1 N) (sR V 1 N)
      have e9 : sI (aT τ.1 N e k (sQ V 1 N) (sR V 1 N)) 9 = nI (T - N) := (b7 9 (by omega) (by omega)).trans s1
      obtain ⟨τ', t1, t2⟩ := rs_71 n hn g (nI 1) (τ := (pI (aT τ.1 N e k (sQ V 1 N) (sR V 1 N)) 9 (nI (T - N - 1)), (τ.2.1, ((τ.2.2.1.1, X'), τ.2.2.2)))) (m := T - N - 1) rfl (by omega)
      obtain ⟨a1, a2, a3, a4, a5, a6, a7, a8, a9⟩ := t2
      have La := rLg_a hL (show N < 2048 by omega) k5 ev
      obtain ⟨ev1, ev2⟩ := aT_e (T := τ.1) (N := N) (e := e) k5 (a := sQ V 1 N) (b := sR V 1 N)
      have evt : ∀ i : Nat, evT τ'.1 i = evT (aT τ.1 N e k (sQ V 1 N) (sR V 1 N)) i := fun i => by
        unfold evT
        rw [a5 5 (by omega) (by omega), a5 6 (by omega) (by omega), a7]
        rfl
      refine ⟨τ', ?_, ⟨fun j h1 h2 h3 => ?_, fun j hj => ?_, fun j => ?_, by rw [a9], by rw [a9], by rw [a9]⟩, by rw [a9], ?_, fun i hi => (evt i).trans (ev1 i hi), (evt N).trans ev2, (a6 10).trans b6, ?_, fun i hi => ?_⟩
      · rw [A _ _ R, if_neg (show ¬ nI 1 = (0 : Int32) by decide)]
        unfold df_X19_takeScheduled_66
        dsimp only
        rw [e9, show nI (T - N) - 1 = nI (T - N - 1) from pk_sub (show 1 ≤ T - N by omega), nb_let]
        exact t1
      · rw [a6 j]
        show sI (pI (aT τ.1 N e k (sQ V 1 N) (sR V 1 N)) 9 _) j = _
        rw [nb_II, if_neg h2]
        exact b7 j h1 h3
      · rw [a5 j (by omega) (by omega)]
        show sR (aT τ.1 N e k (sQ V 1 N) (sR V 1 N)) j = sR τ.1 j
        unfold aT
        rw [nb_RI, nb_RI, nb_RR, if_neg (by omega), nb_RR, if_neg (by omega)]
        show sR (pR τ.1 5 _) j = _
        rw [nb_RR, if_neg (by omega)]
      · exact a8 j
      · obtain ⟨l1, l2, l3, l4, l5, l6⟩ := La
        exact ⟨(a6 8).trans l1, l2, l3, fun i c h1 h2 h3 => by rw [a5 7 (by omega) (by omega)]; exact l4 i c h1 h2 h3, fun i hi => by rw [a5 5 (by omega) (by omega), a5 6 (by omega) (by omega), a7]; exact l5 i hi, l6⟩
      · rw [a6 9]
        show nI (T - N - 1) = nI (T - (N + 1))
        rw [show T - N - 1 = T - (N + 1) by omega]
      · obtain ⟨d1, d2, d3, d4⟩ := s2 (i + 1) (by omega)
        rw [a1, a2, a3, a4]
        have sk : ∀ f : Nat → Int32, shk f (T - N - 1) i = f (i + 1) := fun f => if_pos (by omega)
        have sl : ∀ f : Nat → Int64, shL f (T - N - 1) i = f (i + 1) := fun f => if_pos (by omega)
        rw [sk, sk, sl, sl, show N + 1 + i = N + (i + 1) by omega]
        exact ⟨d1, d2, d3, d4⟩

/-- both at the end of what was recorded -/
def jJ (n vn : Nat) (Q V : St) (N T e : Nat) (lo : Nat → Nat) (s : St × Rw × (St × (St × (St × (St)))) × (St) × (St) × (Nat → St) × (Nat → St) × (Nat → St × (St))) (τ : S19) : Prop := cI n vn Q V N T e e lo s ∧ rLg τ.1 N e lo ∧ (∀ i : Nat, i < N → evT τ.1 i = evK V i) ∧ sI τ.1 4 = nI vn ∧ sI τ.1 6 = nI e ∧ sI τ.1 10 = nI N ∧ RA n (nI vn) Q (lgL (evK V) lo) e τ.2.2.1.2 ∧ sI τ.2.2.1.2.1 14 = -nI 1 ∧ sch τ.1 V N T
/-- what taking what is scheduled leaves of the class -/
def fZ (s s' : St × Rw × (St × (St × (St × (St)))) × (St) × (St) × (Nat → St) × (Nat → St) × (Nat → St × (St))) : Prop := sI s'.1 0 = sI s.1 0 ∧ sI s'.1 7 = sI s.1 7 ∧ (∀ k : Nat, sO s'.1 k = sO s.1 k) ∧ s'.2.1 = s.2.1 ∧ s'.2.2.2.2.2 = s.2.2.2.2.2
theorem fZ_t {a b c : St × Rw × (St × (St × (St × (St)))) × (St) × (St) × (Nat → St) × (Nat → St) × (Nat → St × (St))} (h : fZ a b) (g : fZ b c) : fZ a c := ⟨g.1.trans h.1, g.2.1.trans h.2.1, fun k => (g.2.2.1 k).trans (h.2.2.1 k), g.2.2.2.1.trans h.2.2.2.1, g.2.2.2.2.trans h.2.2.2.2⟩
/-- what is scheduled is taken, in both -/
theorem sc_all (n : Nat) (hn : 40000 < n) {vn e : Nat} {Q : St} : ∀ (m : Nat) (V : St) (N T : Nat) (lo : Nat → Nat) (s : St × Rw × (St × (St × (St × (St)))) × (St) × (St) × (Nat → St) × (Nat → St) × (Nat → St × (St))) (τ : S19) (g g' : Nat), T - N = m → N ≤ T → m + 1 < g → m + 1 < g' → jJ n vn Q V N T e lo s τ → ∃ (al : Int32) (V' : St) (N' T' : Nat) (lo' : Nat → Nat) (s' : St × Rw × (St × (St × (St × (St)))) × (St) × (St) × (Nat → St) × (Nat → St) × (Nat → St × (St))) (τ' : S19), df_X11_takeScheduled_0 n g s = some s' ∧ df_X19_takeScheduled_2 n g' (nI 1) τ = some (al, τ') ∧ jJ n vn Q V' N' T' e lo' s' τ' ∧ ((al = nI 1 ∧ sI s'.1 6 = sI s.1 6) ∨ (al = nI 0 ∧ sI s'.1 6 = nI 1)) ∧ fZ s s' ∧ fT τ τ' ∧ N' ≤ T' := fun m => by
  induction m with
  | zero =>
    intro V N T lo s τ g g' hm hNT hg hg' h
    obtain ⟨g1, rfl⟩ : ∃ g1 : Nat, g = g1 + 1 := ⟨g - 1, by omega⟩
    obtain ⟨g2, rfl⟩ : ∃ g2 : Nat, g' = g2 + 1 := ⟨g' - 1, by omega⟩
    obtain ⟨hI, hL, hev, h4, h6, h10, hX, h14, hS⟩ := id h
    obtain ⟨hV, hC, hs, hP, hce, c3, c4, c5, hA, _, hW⟩ := id hI
    obtain ⟨l1, l2, l3, l4, l5, l6, l7, l8⟩ := id hC
    have c5' : sI s.1 5 = nI N := by rw [c5, l5.2.2 (e + 1) (by omega)]
    refine ⟨nI 1, V, N, T, lo, s, τ, ?_, ?_, h, Or.inl ⟨rfl, rfl⟩, ⟨rfl, rfl, fun _ => rfl, rfl, rfl⟩, ⟨fun _ _ _ _ => rfl, fun _ _ => rfl, fun _ => rfl, rfl, rfl, rfl⟩, hNT⟩
    · exact (ts_1 n hV (df_X11_takeScheduled_0 n g1) l4 l3 l1 l2 c4 c5').1 (by omega)
    · exact (rs_2 n hn (df_X19_takeScheduled_2 n g2) hL hNT l4 h6 hS).1 (by omega)
  | succ m ih =>
    intro V N T lo s τ g g' hm hNT hg hg' h
    obtain ⟨g1, rfl⟩ : ∃ g1 : Nat, g = g1 + 1 := ⟨g - 1, by omega⟩
    obtain ⟨g2, rfl⟩ : ∃ g2 : Nat, g' = g2 + 1 := ⟨g' - 1, by omega⟩
    obtain ⟨hI, hL, hev, h4, h6, h10, hX, h14, hS⟩ := id h
    obtain ⟨hV, hC, hs, hP, hce, c3, c4, c5, hA, _, hW⟩ := id hI
    obtain ⟨l1, l2, l3, l4, l5, l6, l7, l8⟩ := id hC
    have c5' : sI s.1 5 = nI N := by rw [c5, l5.2.2 (e + 1) (by omega)]
    have hNT' : N < T := by omega
    by_cases ha : sQ V 0 N = (nI e).toInt64
    · obtain ⟨k, k5, ek, ev⟩ := l7 N hNT'
      obtain ⟨r, s1, r1, t1, t2, t3, t4, t5, t6, t7, t8, t9⟩ := ts_2 n hn (df_X11_takeScheduled_0 n g1) hI hNT' ha
      obtain ⟨X', x1, x2, x3, x4⟩ := t2 _ hX
      obtain ⟨q0, q1⟩ := (rs_2 n hn (df_X19_takeScheduled_2 n g2) hL hNT l4 h6 hS).2.2 hNT' ha k r X' k5 ek ev x1
      have fz : fZ s s1 := ⟨t5, t6, t7, t8, t9⟩
      rcases r1 with z | z
      · obtain ⟨τ', a1, a2, a3, a4, a5, a6, a7⟩ := q0 z
        obtain ⟨d1, d2⟩ := t3 z
        have hX' := x3 z
        obtain ⟨g3, rfl⟩ : ∃ g3 : Nat, g1 = g3 + 1 := ⟨g1 - 1, by omega⟩
        obtain ⟨g4, rfl⟩ : ∃ g4 : Nat, g2 = g4 + 1 := ⟨g2 - 1, by omega⟩
        obtain ⟨eV, eC, es, eP, ece, e3, e4, e5, eA', _, eW⟩ := id d1
        obtain ⟨p1, p2, p3, p4, p5, p6, p7, p8⟩ := id eC
        have e5' : sI s1.1 5 = nI N := by rw [e5, p5.2.2 (e + 1) (by omega)]
        refine ⟨nI 0, pI V 1 (nI N), N, N, lo, s1, τ', ?_, ?_, ⟨d1, a4, fun i hi => (a5 i).trans (hev i hi), (a2.1 4 (by omega) (by omega) (by omega)).trans h4, (a2.1 6 (by omega) (by omega) (by omega)).trans h6, a6.trans h10, ?_, ?_, ?_, fun i hi => by omega⟩, Or.inr ⟨rfl, d2⟩, fz, a2, Nat.le_refl N⟩
        · refine Eq.trans t1 ?_
          exact (ts_1 n eV (df_X11_takeScheduled_0 n g3) p4 p3 p1 p2 e4 e5').1 (Nat.le_refl N)
        · refine Eq.trans a1 ?_
          show dF_X19_takeScheduled_2 n (df_X19_takeScheduled_2 n g4) (nI 0) τ' = _
          unfold dF_X19_takeScheduled_2
          rw [a7, if_pos (show nI 0 ≤ (0 : Int32) by decide)]
          exact nm_z0
        · rw [a3, hX']; exact hX
        · rw [a3, x2]; exact h14
        · rw [a7, Nat.sub_self]
      · obtain ⟨τ', a1, a2, a3, a4, a5, a6, a7, a8⟩ := q1 z
        obtain ⟨d1, d2⟩ := t4 z
        have ee : evK V N = (k, sQ V 1 N, sR V 1 N) := by
          unfold evK
          rw [ek, nI_clamp (by omega)]
        have j' : jJ n vn Q (pI V 0 (nI (N + 1))) (N + 1) T e (loA lo e N) s1 τ' := ⟨d1, a4, fun i hi => by
          show evT τ'.1 i = evK V i
          by_cases y : i = N
          · rw [y, a6, ee]
          · rw [a5 i (by omega)]; exact hev i (by omega), (a2.1 4 (by omega) (by omega) (by omega)).trans h4, (a2.1 6 (by omega) (by omega) (by omega)).trans h6, a7, by rw [a3]; exact x4 z, by rw [a3, x2]; exact h14, a8⟩
        obtain ⟨al, V', N', T', lo', s', τ'', b1, b2, b3, b4, b5, b6, b7⟩ := ih _ _ _ _ _ _ g1 g2 (by omega) (by omega) (by omega) (by omega) j'
        refine ⟨al, V', N', T', lo', s', τ'', Eq.trans t1 b1, Eq.trans a1 b2, b3, ?_, fZ_t fz b5, fT_t a2 b6, b7⟩
        rcases b4 with ⟨u1, u2⟩ | u
        · exact Or.inl ⟨u1, u2.trans d2⟩
        · exact Or.inr u
    · refine ⟨nI 1, V, N, T, lo, s, τ, ?_, ?_, h, Or.inl ⟨rfl, rfl⟩, ⟨rfl, rfl, fun _ => rfl, rfl, rfl⟩, ⟨fun _ _ _ _ => rfl, fun _ _ => rfl, fun _ => rfl, rfl, rfl, rfl⟩, hNT⟩
      · exact (ts_1 n hV (df_X11_takeScheduled_0 n g1) l4 l3 l1 l2 c4 c5').2.1 hNT' (ia_0 n l4 (by omega) l2 (fun _ => ha))
      · exact (rs_2 n hn (df_X19_takeScheduled_2 n g2) hL hNT l4 h6 hS).2.1 hNT' ha
/-- the class goes on by one tick, where it has not been -/
theorem ad_end (n : Nat) (hn : 40000 < n) {vn : Nat} {Q V : St} {N T e : Nat} {lo : Nat → Nat} {s : St × Rw × (St × (St × (St × (St)))) × (St) × (St) × (Nat → St) × (Nat → St) × (Nat → St × (St))} (h : cI n vn Q V N T e e lo s) (he : e < 60000) (h0 : ¬ sI s.2.2.1.2.2.1 3 = -nI 1) : ∃ s1 : St × Rw × (St × (St × (St × (St)))) × (St) × (St) × (Nat → St) × (Nat → St) × (Nat → St × (St)), df_X11_advance n s = nd_b1 (df_X11_takeScheduled n s1) (fun s14 => some s14) ∧ cI n vn Q V N T (e + 1) (e + 1) lo s1 ∧ (∀ k : Nat, k = 0 ∨ k = 6 ∨ k = 7 → sI s1.1 k = sI s.1 k) ∧ (∀ k : Nat, sO s1.1 k = sO s.1 k) ∧ (∀ r : Nat, ¬ r = 3 → s1.2.1 r = s.2.1 r) ∧ s1.2.2.2.2.2.1 = s.2.2.2.2.2.1 ∧ s1.2.2.2.2.2.2.1 = s.2.2.2.2.2.2.1 := by
  obtain ⟨hV, hL, hs, hP, hce, h3, h4, h5, hA, ⟨cp, sp, at_, ix, hC⟩, hW⟩ := h
  obtain ⟨l1, l2, l3, l4, l5, l6, l7, l8⟩ := id hL
  have h5' : sI s.1 5 = nI N := by rw [h5, l5.2.2 (e + 1) (by omega)]
  obtain ⟨K', c1, c2, c3, c4⟩ := tA_tick n hn (s := s) hA he hP h0
  have hC2 : cC n (nI vn) Q (lgL (evK V) lo) (pR s.1 0 (upd (sR s.1 0) e (sI K'.2.2.1 7)), (s.2.1, (K', s.2.2.2))) cp sp (e + 1) at_ ix := by
    obtain ⟨b1, b2, b3, b4, b5, b6⟩ := hC
    exact ⟨b1, b2, b3, b4, b5, fun i hi => by
      obtain ⟨g1, g2, g3, g4⟩ := b6 i hi
      exact ⟨g1, by omega, g3, g4⟩⟩
  obtain ⟨s3, cp', sp', at', ix', a1, a2, a3, a4, _⟩ := ad_35 n (by omega) hC2 h3 c2 (Nat.le_refl (e + 1)) (by omega)
  obtain ⟨g1, g2, g3, g4, g5, g6, g7, g8, g9⟩ := a3
  have g2 : sR s3.1 0 = upd (sR s.1 0) e (sI K'.2.2.1 7) := g2
  have g5 : s3.2.2.1 = K' := g5
  have fI1 : fI s s3 := ⟨fun k hk => g1 k (by omega) (by omega) (by omega), g3, g4, fun k => by rw [g5]; exact c3 k, g6, g7, g8, g9⟩
  have eL : lo (e + 1) = N := l5.2.2 (e + 1) (by omega)
  have hL' : cLg V N T (e + 1) lo := by
    refine ⟨l1, l2, l3, l4, ⟨l5.1, l5.2.1, fun c hc => l5.2.2 c (by omega)⟩, fun i c hc q1 q2 => ?_, l7, by omega⟩
    by_cases y : c ≤ e
    · exact l6 i c y q1 q2
    · have y : c = e + 1 := by omega
      rw [y, eL] at q1
      rw [y, l5.2.2 (e + 1 + 1) (by omega)] at q2
      omega
  have nil : lgL (evK V) lo (e + 1) = [] := by
    unfold lgL
    rw [eL, l5.2.2 (e + 1 + 1) (by omega), Nat.sub_self]
    rfl
  have tA' : tA n (nI vn) Q (lgL (evK V) lo) (e + 1) K'.2.2 := by
    obtain ⟨M', f1, f2⟩ := tB_A n (by omega) (K := K') c2 (fun x hx => by rw [nil] at hx; exact nomatch hx)
    rw [nil] at f1
    have f1 : some K' = some (K'.1, (K'.2.1, M')) := f1
    injection f1 with f1
    rw [f1]
    exact f2
  have hs' : hsT n (nI vn) Q (lgL (evK V) lo) (e + 1) := by
    refine ⟨fun j hj => ?_, fun j hj => ?_⟩
    · by_cases y : j = e + 1
      · rw [y]; exact ⟨K'.2.2, c2⟩
      · exact hs.1 j (by omega)
    · by_cases y : j = e + 1
      · rw [y]; exact ⟨K'.2.2, tA', fun z => by omega⟩
      · by_cases y' : j = e
        · rw [y']; exact ⟨s.2.2.1.2.2, hA, fun _ => h0⟩
        · obtain ⟨M, m1, m2⟩ := hs.2 j (by omega)
          exact ⟨M, m1, fun z => m2 (by omega)⟩
  have t5 : sI s3.1 5 = nI N := (g1 5 (by omega) (by omega) (by omega)).trans h5'
  have tr : df_X11_takeRecorded n s3 = some s3 := by
    obtain ⟨n1, rfl⟩ : ∃ n1 : Nat, n = n1 + 1 := ⟨n - 1, by omega⟩
    exact (tr_1 (n1 + 1) (eA_f hV fI1) (df_X11_takeRecorded_0 (n1 + 1) n1) (N := N) (i := N) (c := e + 1) (by omega) (by omega) l1 t5 a4).1 (Nat.le_refl N)
  have f4 : ∀ k : Nat, ¬ k = 4 → sI (pI s3.1 4 (nI (e + 1))) k = sI s3.1 k := fun k hk => by rw [nb_II, if_neg hk]
  have fI2 : eA (pI s3.1 4 (nI (e + 1)), s3.2) V := (show eA s3 V from eA_f hV fI1)
  refine ⟨(pI s3.1 4 (nI (e + 1)), s3.2), ?_, ⟨fI2, hL', hs', ?_, Nat.le_refl _, a4, rfl, ?_, ?_, ⟨cp', sp', at', ix', a2⟩, fun k hk => ?_⟩, fun k hk => (f4 k (by omega)).trans (g1 k (by omega) (by omega) (by omega)), g3, g4, g8, g9⟩
  · unfold df_X11_advance df_X11_advance_0
    rw [c1, nb_b1]
    dsimp only
    rw [h3, if_neg (show ¬ (60000 : Int32) ≤ nI e from fun z => by have z : nI 60000 ≤ nI e := z; rw [nI_leI (by omega) (by omega)] at z; omega), nm_ck (by omega) (by omega), nI_clamp (by omega), nb_let, a1]
    unfold df_X11_advance_112
    rw [tr, nb_b1, a4, (g1 4 (by omega) (by omega) (by omega)).trans (show sI (pR s.1 0 _) 4 = nI e from h4), if_neg (show ¬ nI (e + 1) ≤ nI e from fun z => by rw [nI_leI (by omega) (by omega)] at z; omega), nb_let]
    rfl
  · exact (show rPp s3 Q from rPp_f hP fI1)
  · show sI s3.1 5 = nI (lo (e + 1 + 1))
    rw [t5, l5.2.2 (e + 1 + 1) (by omega)]
  · show tA n (nI vn) Q (lgL (evK V) lo) (e + 1) s3.2.2.1.2.2
    rw [g5]; exact tA'
  · show wK n (nI vn) Q (lgL (evK V) lo) k (sR s3.1 0 k)
    rw [g2]
    by_cases d : k = e
    · rw [d, nm_us]
      intro X hX
      obtain ⟨p, w, X', x1, x2, x3, x4, x5, x6, x7⟩ := c4 X hX
      exact ⟨p, w, X', x1, x2, x3, x7⟩
    · rw [nm_un d]; exact hW k (by omega)

theorem lg_eq {f g : Nat → Nat × Int64 × Int32} {N e : Nat} {lo : Nat → Nat} (h : okL N e lo) (hf : ∀ i : Nat, i < N → f i = g i) : lgL f lo = lgL g lo := by
  funext c
  have := okL_N h (c + 1)
  have := h.2.1 c
  exact evs_c _ _ (fun k h1 h2 => hf k (by omega))
theorem rLg_e {T : St} {N e : Nat} {lo : Nat → Nat} (h : rLg T N e lo) (he : e < 60000) : rLg T N (e + 1) lo := by
  obtain ⟨l1, l2, l3, l4, l5, l6⟩ := h
  have eL : lo (e + 1) = N := l3.2.2 (e + 1) (by omega)
  refine ⟨l1, l2, ⟨l3.1, l3.2.1, fun c hc => l3.2.2 c (by omega)⟩, fun i c hc q1 q2 => ?_, l5, by omega⟩
  by_cases y : c ≤ e
  · exact l4 i c y q1 q2
  · have y : c = e + 1 := by omega
    rw [y, eL] at q1
    rw [y, l3.2.2 (e + 1 + 1) (by omega)] at q2
    omega
/-- one tick at the end of what was recorded, in both -/
theorem jt_end (n : Nat) (hn : 40000 < n) {vn : Nat} {Q V : St} {N T e : Nat} {lo : Nat → Nat} {s : St × Rw × (St × (St × (St × (St)))) × (St) × (St) × (Nat → St) × (Nat → St) × (Nat → St × (St))} {τ : S19} (h : jJ n vn Q V N T e lo s τ) (he : e < 60000) (h0 : ¬ sI s.2.2.1.2.2.1 3 = -nI 1) : ∃ (w al : Int32) (τ1 : S19) (V' : St) (N' T' : Nat) (lo' : Nat → Nat) (s' : St × Rw × (St × (St × (St × (St)))) × (St) × (St) × (Nat → St) × (Nat → St) × (Nat → St × (St))) (τ3 : S19), df_X11_advance n s = some s' ∧ df_X19_tick n τ = some (w, τ1) ∧ df_X19_takeScheduled n (pI (pI τ1.1 5 (nI (e + 1))) 6 (nI (e + 1)), τ1.2) = some (al, τ3) ∧ jJ n vn Q V' N' T' (e + 1) lo' s' τ3 ∧ ((al = nI 1 ∧ sI s'.1 6 = sI s.1 6) ∨ (al = nI 0 ∧ sI s'.1 6 = nI 1)) ∧ (∀ j : Nat, ¬ j = 10 → sI τ1.1 j = sI τ.1 j) ∧ sI τ3.1 5 = nI (e + 1) ∧ N' ≤ T' ∧ (sI s'.1 0 = sI s.1 0 ∧ sI s'.1 7 = sI s.1 7 ∧ (∀ k : Nat, sO s'.1 k = sO s.1 k) ∧ (∀ r : Nat, ¬ r = 3 → s'.2.1 r = s.2.1 r) ∧ s'.2.2.2.2.2.1 = s.2.2.2.2.2.1 ∧ s'.2.2.2.2.2.2.1 = s.2.2.2.2.2.2.1) ∧ ((∀ j : Nat, ¬ j = 5 → ¬ j = 6 → ¬ j = 8 → ¬ j = 9 → ¬ j = 10 → sI τ3.1 j = sI τ.1 j) ∧ (∀ j : Nat, j < 5 ∨ 10 ≤ j → sR τ3.1 j = sR τ.1 j) ∧ (∀ j : Nat, sO τ3.1 j = sO τ.1 j) ∧ τ3.2.1 = τ.2.1 ∧ τ3.2.2.1.1 = τ.2.2.1.1 ∧ τ3.2.2.2 = τ.2.2.2) := by
  obtain ⟨hI, hL, hev, h4, h6, h10, hX, h14, hS⟩ := h
  obtain ⟨s1, a1, a2, a3, a4, a5, a6, a7⟩ := ad_end n hn hI he h0
  obtain ⟨hV, hC, hs, hP, hce, c3, c4, c5, hA, _, hW⟩ := id a2
  have lq := lg_eq hL.2.2.1 hev
  have hL' := rLg_e hL he
  have eL : lo (e + 1) = N := hL.2.2.1.2.2 (e + 1) (by omega)
  have eL2 : lo (e + 2) = N := hL.2.2.1.2.2 (e + 2) (by omega)
  obtain ⟨w, X1, X', t1, t2, t3, t4, t5⟩ := rf_tick n hn (v := nI vn) (Q := Q) (N := N) (e := e + 1) (k := e) (lo := lo) (τ := τ) (s := s1) (by rw [lq]; exact hs) hP hL' (by omega) (by rw [lq]; exact hX) (by rw [eL]; exact h10)
  rw [lq] at t3
  have j1 : jJ n vn Q V N T (e + 1) lo s1 (pI (pI (pI τ.1 10 (nI (lo (e + 2)))) 5 (nI (e + 1))) 6 (nI (e + 1)), (τ.2.1, ((τ.2.2.1.1, X'), τ.2.2.2))) := ⟨a2, hL', hev, h4, rfl, (show nI (lo (e + 2)) = nI N by rw [eL2]), t3, t4.trans h14, hS⟩
  have hNT : N ≤ T := hC.2.2.1
  have hT : T ≤ 2048 := hC.2.2.2.1
  obtain ⟨al, V', N', T', lo', s', τ3, b1, b2, b3, b4, b5, b6, b7⟩ := sc_all n hn (T - N) V N T lo s1 _ n n rfl hNT (by omega) (by omega) j1
  obtain ⟨f1, f2, f3, f4, f5, f6⟩ := b6
  refine ⟨w, al, _, V', N', T', lo', s', τ3, ?_, t2, b2, b3, ?_, fun j hj => ?_, ?_, b7, ⟨b5.1.trans (a3 0 (by omega)), b5.2.1.trans (a3 7 (by omega)), fun k => (b5.2.2.1 k).trans (a4 k), fun r hr => by rw [b5.2.2.2.1]; exact a5 r hr, ?_, ?_⟩, fun j q1 q2 q3 q4 q5 => ?_, fun j hj => f2 j hj, f3, f4, f5, f6⟩
  · rw [a1]
    have b1 : df_X11_takeScheduled n s1 = some s' := b1
    rw [b1, nb_b1]
  · rcases b4 with ⟨u1, u2⟩ | u
    · exact Or.inl ⟨u1, u2.trans (a3 6 (by omega))⟩
    · exact Or.inr u
  · show sI (pI τ.1 10 _) j = _
    rw [nb_II, if_neg hj]
  · refine (f1 5 (by omega) (by omega) (by omega)).trans ?_
    rfl
  · exact (congrArg Prod.fst b5.2.2.2.2).trans a6
  · exact (congrArg (fun p => p.2.1) b5.2.2.2.2).trans a7
  · refine (f1 j q3 q4 q5).trans ?_
    show sI (pI (pI (pI τ.1 10 _) 5 _) 6 _) j = _
    rw [nb_II, if_neg q2, nb_II, if_neg q1, nb_II, if_neg q5]
/-- what is behind now is forgotten, in the class -/
theorem fb_1 (n : Nat) (hn : 40000 < n) {vn : Nat} {Q V : St} {N T e c : Nat} {lo : Nat → Nat} {s : St × Rw × (St × (St × (St × (St)))) × (St) × (St) × (Nat → St) × (Nat → St) × (Nat → St × (St))} (h : cI n vn Q V N T e c lo s) : ∃ (V' : St) (s' : St × Rw × (St × (St × (St × (St)))) × (St) × (St) × (Nat → St) × (Nat → St) × (Nat → St × (St))), df_X11_forgetBehind n s = some (nI (e - c), s') ∧ cI n vn Q V' (lo (c + 1)) (lo (c + 1)) c c (fun k => if k ≤ c then lo k else lo (c + 1)) s' ∧ (∀ i : Nat, evK V' i = evK V i) ∧ sI s'.1 6 = nI 0 ∧ (sI s'.1 0 = sI s.1 0 ∧ sI s'.1 7 = sI s.1 7 ∧ (∀ k : Nat, sO s'.1 k = sO s.1 k) ∧ s'.2.1 = s.2.1 ∧ s'.2.2.1 = s.2.2.1 ∧ s'.2.2.2.2.2 = s.2.2.2.2.2) := by
  obtain ⟨hV, hL, hs, hP, hce, h3, h4, h5, hA, ⟨cp, sp, at_, ix, hC⟩, hW⟩ := h
  obtain ⟨l1, l2, l3, l4, l5, l6, l7, l8⟩ := id hL
  have ln := okL_N l5 (c + 1)
  have e6 : sI s.1 4 - sI s.1 3 = nI (e - c) := by rw [h4, h3]; exact pk_sub hce
  have okl : okL (lo (c + 1)) c (fun k => if k ≤ c then lo k else lo (c + 1)) := by
    refine ⟨?_, fun k => ?_, fun k hk => if_neg (by omega)⟩
    · show (if 0 ≤ c then lo 0 else lo (c + 1)) = 0
      rw [if_pos (by omega)]; exact l5.1
    · show (if k ≤ c then lo k else lo (c + 1)) ≤ (if k + 1 ≤ c then lo (k + 1) else lo (c + 1))
      by_cases y : k + 1 ≤ c
      · rw [if_pos y, if_pos (by omega)]; exact l5.2.1 k
      · rw [if_neg y]
        by_cases y' : k ≤ c
        · rw [if_pos y']; exact okL_le l5 k (c + 1) (by omega)
        · rw [if_neg y']; exact Nat.le_refl _
  have lgE : ∀ (f : Nat → Nat × Int64 × Int32) (k : Nat), k ≤ c → lgL f lo k = lgL f (fun k => if k ≤ c then lo k else lo (c + 1)) k := fun f k hk => by
    unfold lgL
    dsimp only
    rw [if_pos hk]
    by_cases y : k + 1 ≤ c
    · rw [if_pos y]
    · rw [if_neg y, show k + 1 = c + 1 by omega]
  -- the copies
  have main : ∀ (V' : St) (s1 s' : St × Rw × (St × (St × (St × (St)))) × (St) × (St) × (Nat → St) × (Nat → St) × (Nat → St × (St))), (∀ i : Nat, evK V' i = evK V i) → cLg V' (lo (c + 1)) (lo (c + 1)) c (fun k => if k ≤ c then lo k else lo (c + 1)) → eA s' V' → (∃ i : Nat, i < cp ∧ at_ i ≤ c ∧ (∀ j : Nat, i < j → j < cp → c < at_ j) ∧ s'.1 = pI s1.1 1 (nI (i + 1))) → (∀ k : Nat, k = 2 ∨ k = 3 ∨ k = 5 → sI s1.1 k = sI s.1 k) → sI s1.1 4 = nI c → sR s1.1 0 = sR s.1 0 → sR s1.1 1 = sR s.1 1 → s'.2.1 = s.2.1 → s'.2.2.1 = s.2.2.1 → s'.2.2.2.2.2 = s.2.2.2.2.2 → cI n vn Q V' (lo (c + 1)) (lo (c + 1)) c c (fun k => if k ≤ c then lo k else lo (c + 1)) s' := fun V' s1 s' ev hc' ha' ⟨i, i1, i2, i3, i4⟩ q1 q2 q3 q4 q5 q6 q7 => by
    have evf : evK V' = evK V := funext ev
    have y8 : s'.2.2.2.2.2.1 = s.2.2.2.2.2.1 := congrArg Prod.fst q7
    have y9 : s'.2.2.2.2.2.2.2 = s.2.2.2.2.2.2.2 := congrArg (fun p => p.2.2) q7
    have n1 : ∀ k : Nat, ¬ k = 1 → sI s'.1 k = sI s1.1 k := fun k hk => by rw [i4, nb_II, if_neg hk]
    refine ⟨ha', hc', ⟨fun j hj => ?_, fun j hj => ?_⟩, ?_, Nat.le_refl c, (n1 3 (by omega)).trans ((q1 3 (by omega)).trans h3), (n1 4 (by omega)).trans q2, ?_, ?_, ⟨i + 1, sp, at_, ix, ?_⟩, fun j hj => ?_⟩
    · obtain ⟨M, hM⟩ := hs.1 j (by omega)
      rw [evf]
      exact ⟨M, tB_c (fun k hk => lgE _ k (by omega)) hM⟩
    · obtain ⟨M, hM, hcur⟩ := hs.2 j (by omega)
      rw [evf]
      exact ⟨M, tA_c (fun k hk => lgE _ k (by omega)) hM, fun z => hcur (by omega)⟩
    · obtain ⟨p1, p2⟩ := hP
      refine ⟨by rw [q6]; exact p1, fun j hj => ?_⟩
      rw [q5, y8]
      exact p2 j hj
    · refine (n1 5 (by omega)).trans ((q1 5 (by omega)).trans ?_)
      rw [h5]
      show nI (lo (c + 1)) = nI (if c + 1 ≤ c then lo (c + 1) else lo (c + 1))
      rw [if_neg (by omega)]
    · rw [q6, evf]
      exact tA_c (fun k hk => lgE _ k hk) hA
    · obtain ⟨⟨b1, b2, b3, b4, b5, b6⟩, d1, d2, d3, d4, d5⟩ := hC
      refine ⟨⟨by omega, by omega, by rw [i4]; rfl, (n1 2 (by omega)).trans ((q1 2 (by omega)).trans b4), b5, b6⟩, fun k hk => by rw [q5]; exact d1 k hk, d2, d3, fun k hk => d4 k (by omega), fun k hk => ?_⟩
      obtain ⟨g1, g2, g3, g4⟩ := d5 k (by omega)
      have le : at_ k ≤ c := by
        by_cases y : k = i
        · rw [y]; exact i2
        · have := at_mono d4 (i - k) k (by omega)
          rw [show k + (i - k) = i by omega] at this
          omega
      refine ⟨g1, le, ?_, ?_⟩
      · rw [i4]
        show sR s1.1 1 k = _
        rw [q4]; exact g3
      · rw [y9, evf]
        exact tB_c (fun j hj => lgE _ j (by omega)) g4
    · rw [i4]
      show wK _ _ _ _ j (sR s1.1 0 j)
      rw [q3, evf]
      intro X hX
      exact hW j (by omega) X (RA_c (fun k hk => (lgE _ k (by omega)).symm) hX)
  have cl' : cLg (pI (pI V 0 (nI (lo (c + 1)))) 1 (nI (lo (c + 1)))) (lo (c + 1)) (lo (c + 1)) c (fun k => if k ≤ c then lo k else lo (c + 1)) := by
    refine ⟨rfl, rfl, Nat.le_refl _, by omega, okl, fun i k hk q1 q2 => ?_, fun i hi => l7 i (by omega), by omega⟩
    have q1 : (if k ≤ c then lo k else lo (c + 1)) ≤ i := q1
    have q2 : i < (if k + 1 ≤ c then lo (k + 1) else lo (c + 1)) := q2
    rw [if_pos hk] at q1
    show sQ V 0 i = _
    by_cases y : k + 1 ≤ c
    · rw [if_pos y] at q2
      exact l6 i k (by omega) q1 q2
    · rw [if_neg y] at q2
      exact l6 i k (by omega) q1 (by rw [show k + 1 = c + 1 by omega]; exact q2)
  have hC1 : ∀ W : St × St × (Nat → St) × (Nat → St) × (Nat → St × St), W.2.2 = s.2.2.2.2.2 → cC n (nI vn) Q (lgL (evK V) lo) (pI (pI s.1 4 (nI c)) 6 (nI 0), (s.2.1, (s.2.2.1, W))) cp sp e at_ ix := fun W hW => by
    have y9 : W.2.2.2.2 = s.2.2.2.2.2.2.2 := congrArg (fun p => p.2.2) hW
    obtain ⟨b1, d1, d2, d3, d4, d5⟩ := hC
    refine ⟨b1, d1, d2, d3, d4, fun k hk => ?_⟩
    show _ ∧ _ ∧ _ ∧ tB _ _ _ _ _ (W.2.2.2.2 (ix k))
    rw [y9]
    exact d5 k hk
  have cmm : ∀ x : St, pI (pI x 0 (sI s.1 5)) 1 (sI s.1 5) = pI (pI x 0 (nI (lo (c + 1)))) 1 (nI (lo (c + 1))) := fun x => by rw [h5]
  rcases hV with ⟨o1, o2⟩ | ⟨o1, o2⟩
  · obtain ⟨i, q1, q2, q3, q4⟩ := cu_1 n (by omega) (c := c) (hC1 (pI (pI s.2.2.2.1 0 (nI (lo (c + 1)))) 1 (nI (lo (c + 1))), s.2.2.2.2) rfl) l8 (by omega)
    refine ⟨pI (pI V 0 (nI (lo (c + 1)))) 1 (nI (lo (c + 1))), (pI (pI (pI s.1 4 (nI c)) 6 (nI 0)) 1 (nI (i + 1)), (s.2.1, (s.2.2.1, (pI (pI s.2.2.2.1 0 (nI (lo (c + 1)))) 1 (nI (lo (c + 1))), s.2.2.2.2)))), ?_, main _ (pI (pI s.1 4 (nI c)) 6 (nI 0), s.2) _ (fun _ => rfl) cl' (Or.inl ⟨o1, by rw [o2]⟩) ⟨i, q1, q3, q4, rfl⟩ (fun k hk => ?_) rfl rfl rfl rfl rfl rfl, fun _ => rfl, rfl, rfl, rfl, fun _ => rfl, rfl, rfl, rfl⟩
    · unfold df_X11_forgetBehind df_X11_forgetBehind_0
      rw [e6, nb_let, h3, nb_let, if_pos (show sO (pI s.1 4 (nI c)) 0 = some 27 from o1), nb_let, nb_let, nb_let]
      dsimp only
      rw [show sI (pI s.1 4 (nI c)) 5 = sI s.1 5 from rfl, cmm, show sI (pI (pI s.1 4 (nI c)) 6 0) 3 = nI c from h3]
      have q2 : df_X11_copyUpTo n (nI c) (pI (pI s.1 4 (nI c)) 6 0, (s.2.1, (s.2.2.1, (pI (pI s.2.2.2.1 0 (nI (lo (c + 1)))) 1 (nI (lo (c + 1))), s.2.2.2.2)))) = some (nI i, (pI (pI s.1 4 (nI c)) 6 0, (s.2.1, (s.2.2.1, (pI (pI s.2.2.2.1 0 (nI (lo (c + 1)))) 1 (nI (lo (c + 1))), s.2.2.2.2))))) := q2
      rw [q2, nb_b2, show nI i + 1 = nI (i + 1) from nI_add .., nb_let]
      rfl
    · show sI (pI (pI s.1 4 _) 6 _) k = _
      rw [nb_II, if_neg (by omega), nb_II, if_neg (by omega)]
  · obtain ⟨i, q1, q2, q3, q4⟩ := cu_1 n (by omega) (c := c) (hC1 (s.2.2.2.1, (pI (pI s.2.2.2.2.1 0 (nI (lo (c + 1)))) 1 (nI (lo (c + 1))), s.2.2.2.2.2)) rfl) l8 (by omega)
    refine ⟨pI (pI V 0 (nI (lo (c + 1)))) 1 (nI (lo (c + 1))), (pI (pI (pI s.1 4 (nI c)) 6 (nI 0)) 1 (nI (i + 1)), (s.2.1, (s.2.2.1, (s.2.2.2.1, (pI (pI s.2.2.2.2.1 0 (nI (lo (c + 1)))) 1 (nI (lo (c + 1))), s.2.2.2.2.2))))), ?_, main _ (pI (pI s.1 4 (nI c)) 6 (nI 0), s.2) _ (fun _ => rfl) cl' (Or.inr ⟨o1, by rw [o2]⟩) ⟨i, q1, q3, q4, rfl⟩ (fun k hk => ?_) rfl rfl rfl rfl rfl rfl, fun _ => rfl, rfl, rfl, rfl, fun _ => rfl, rfl, rfl, rfl⟩
    · unfold df_X11_forgetBehind df_X11_forgetBehind_0
      rw [e6, nb_let, h3, nb_let, if_neg (show ¬ sO (pI s.1 4 (nI c)) 0 = some 27 from (show ¬ sO s.1 0 = some 27 by rw [o1]; decide)), if_pos (show sO (pI s.1 4 (nI c)) 0 = some 32 from o1), nb_let, nb_let, nb_let]
      dsimp only
      rw [show sI (pI s.1 4 (nI c)) 5 = sI s.1 5 from rfl, cmm, show sI (pI (pI s.1 4 (nI c)) 6 0) 3 = nI c from h3]
      have q2 : df_X11_copyUpTo n (nI c) (pI (pI s.1 4 (nI c)) 6 0, (s.2.1, (s.2.2.1, (s.2.2.2.1, (pI (pI s.2.2.2.2.1 0 (nI (lo (c + 1)))) 1 (nI (lo (c + 1))), s.2.2.2.2.2))))) = some (nI i, (pI (pI s.1 4 (nI c)) 6 0, (s.2.1, (s.2.2.1, (s.2.2.2.1, (pI (pI s.2.2.2.2.1 0 (nI (lo (c + 1)))) 1 (nI (lo (c + 1))), s.2.2.2.2.2)))))) := q2
      rw [q2, nb_b2, show nI i + 1 = nI (i + 1) from nI_add .., nb_let]
      rfl
    · show sI (pI (pI s.1 4 _) 6 _) k = _
      rw [nb_II, if_neg (by omega), nb_II, if_neg (by omega)]

abbrev S11 : Type := St × Rw × (St × (St × (St × (St)))) × (St) × (St) × (Nat → St) × (Nat → St) × (Nat → St × (St))
/-- both where a machine goes: the class is at c, the reference's machine stands at k -/
def jM (n vn : Nat) (Q V : St) (N T e c k : Nat) (lo : Nat → Nat) (t : S11) (τ : S19) : Prop := cI n vn Q V N T e c lo t ∧ rLg τ.1 N e lo ∧ (∀ i : Nat, i < N → evT τ.1 i = evK V i) ∧ (vn < 4 ∧ ¬ sR Q 0 vn = nI 0) ∧ (sI τ.1 4 = nI vn ∧ sI τ.1 5 = nI c ∧ sI τ.1 6 = nI e) ∧ k ≤ e ∧ RA n (nI vn) Q (lgL (evK V) lo) k τ.2.2.1.2 ∧ sI τ.1 10 = nI (lo (k + 1)) ∧ sI τ.2.2.1.2.1 14 = -nI 1 ∧ sch τ.1 V N T ∧ (sI t.1 6 = sI τ.1 11 ∧ okB (sI τ.1 11))
theorem jm_pg {n vn : Nat} {Q V : St} {N T e c k : Nat} {lo : Nat → Nat} {t : S11} {τ : S19} (h : jM n vn Q V N T e c k lo t τ) : ∃ (P : St) (T' Z : Nat), rPg P Q vn T' Z := by
  obtain ⟨⟨_, _, _, hP, _⟩, _, _, ⟨hv, hq⟩, _⟩ := h
  rcases hP.2 vn hv with ⟨_, z⟩ | ⟨j, T', Z, _, _, _, z⟩
  · exact absurd z hq
  · exact ⟨_, T', Z, z⟩
/-- the reference comes to a count -/
theorem jm_come (n : Nat) (hn : 70000 < n) {vn : Nat} {Q V : St} {N T e c k d : Nat} {lo : Nat → Nat} {t : S11} {τ : S19} (h : jM n vn Q V N T e c k lo t τ) (hd : d ≤ e) : ∃ X' : St × St, df_X19_come n (nI d) τ = some (pI τ.1 10 (nI (lo (d + 1))), (τ.2.1, ((τ.2.2.1.1, X'), τ.2.2.2))) ∧ jM n vn Q V N T e c d lo t (pI τ.1 10 (nI (lo (d + 1))), (τ.2.1, ((τ.2.2.1.1, X'), τ.2.2.2))) := by
  obtain ⟨P, T', Z, pg⟩ := jm_pg h
  obtain ⟨hI, hL, hev, hv, ⟨h4, h5, h6⟩, hk, hX, h10, h14, hS, h11⟩ := h
  obtain ⟨_, _, hs, hP, _⟩ := id hI
  have lq := lg_eq hL.2.2.1 hev
  obtain ⟨X', g1, g2, g3⟩ := rf_come n hn hP hv.1 pg (by rw [lq]; exact hs) hL h4 hd hk (by rw [lq]; exact hX) h10 h14
  rw [lq] at g2
  exact ⟨X', g1, hI, hL, hev, hv, ⟨h4, h5, h6⟩, hd, g2, rfl, g3, hS, h11⟩
/-- and the class -/
theorem jm_go (n : Nat) (hn : 70000 < n) {vn : Nat} {Q V : St} {N T e c k d : Nat} {lo : Nat → Nat} {t : S11} {τ : S19} (h : jM n vn Q V N T e c k lo t τ) (hd : d ≤ e) : ∃ t' : S11, df_X11_moveTo n (nI d) t = some t' ∧ jM n vn Q V N T e d k lo t' (pI τ.1 5 (nI d), τ.2) ∧ fI t t' := by
  obtain ⟨hI, hL, hev, hv, ⟨h4, h5, h6⟩, hk, hX, h10, h14, hS, h11⟩ := h
  obtain ⟨t', g1, g2, g3⟩ := mv_1 n hn hI hd
  exact ⟨t', g1, ⟨g2, hL, hev, hv, ⟨h4, rfl, h6⟩, hk, hX, h10, h14, hS, (g3.1 6 (by omega)).trans h11.1, h11.2⟩, g3⟩
/-- the code alone changes -/
theorem jm_0 {n vn : Nat} {Q V : St} {N T e c k : Nat} {lo : Nat → Nat} {t : S11} {τ : S19} (h : jM n vn Q V N T e c k lo t τ) (x : Int32) : jM n vn Q V N T e c k lo t (pI τ.1 0 x, τ.2) := h
theorem cut_40 (n : Nat) {L c : Nat} {x : Int32} : ∀ (m g : Nat) (τ : S19), m < g → sI τ.1 8 = nI (L + m) → L + m ≤ 2048 → c ≤ 60000 → (∀ i : Nat, L ≤ i → i < L + m → ∃ c' : Nat, c < c' ∧ c' ≤ 60000 ∧ sR τ.1 7 i = nI c') → (0 < L → ∃ c' : Nat, c' ≤ c ∧ sR τ.1 7 (L - 1) = nI c') → sI τ.1 5 = nI c → df_X19_cut_40 n g x τ = df_X19_cut_78 n x (pI τ.1 8 (nI L), τ.2)
  | 0, g, τ, hg, h8, hL, hc, _, h0, h5 => by
    obtain ⟨g', rfl⟩ : ∃ g' : Nat, g = g' + 1 := ⟨g - 1, by omega⟩
    have h8 : sI τ.1 8 = nI L := h8
    have e0 : (pI τ.1 8 (nI L), τ.2) = τ := by rw [← h8, nm_i0]
    rw [e0, show df_X19_cut_40 n (g' + 1) = dF_X19_cut_40 n (df_X19_cut_40 n g') from rfl]
    generalize df_X19_cut_40 n g' = G
    unfold dF_X19_cut_40
    by_cases y : L = 0
    · rw [h8, if_pos (show nI L ≤ (0 : Int32) from (show nI L ≤ nI 0 by rw [nI_leI (by omega) (by omega)]; omega))]
    · obtain ⟨c', q1, q2⟩ := h0 (by omega)
      rw [h8, if_neg (show ¬ nI L ≤ (0 : Int32) from fun z => by have z : nI L ≤ nI 0 := z; rw [nI_leI (by omega) (by omega)] at z; omega), show nI L - 1 = nI (L - 1) from pk_sub (show 1 ≤ L by omega), nm_ck (by omega) (by omega), nI_clamp (by omega), q2, h5, if_pos (by rw [nI_leI (by omega) (by omega)]; exact q1)]
  | m + 1, g, τ, hg, h8, hL, hc, h1, h0, h5 => by
    obtain ⟨g', rfl⟩ : ∃ g' : Nat, g = g' + 1 := ⟨g - 1, by omega⟩
    obtain ⟨c', q1, q2, q3⟩ := h1 (L + m) (by omega) (by omega)
    have ih := cut_40 n (L := L) (c := c) (x := x) m g' (pI τ.1 8 (nI (L + m)), τ.2) (by omega) rfl (by omega) hc (fun i a b => h1 i a (by omega)) h0 h5
    have ih : df_X19_cut_40 n g' x (pI τ.1 8 (nI (L + m)), τ.2) = df_X19_cut_78 n x (pI (pI τ.1 8 (nI (L + m))) 8 (nI L), τ.2) := ih
    rw [nm_ii] at ih
    rw [show df_X19_cut_40 n (g' + 1) = dF_X19_cut_40 n (df_X19_cut_40 n g') from rfl]
    generalize df_X19_cut_40 n g' = G at ih
    unfold dF_X19_cut_40
    have s1 : nI (L + (m + 1)) - 1 = nI (L + m) := (pk_sub (show 1 ≤ L + (m + 1) by omega)).trans (by rw [show L + (m + 1) - 1 = L + m by omega])
    rw [h8, if_neg (show ¬ nI (L + (m + 1)) ≤ (0 : Int32) from fun z => by have z : nI (L + (m + 1)) ≤ nI 0 := z; rw [nI_leI (by omega) (by omega)] at z; omega), s1, nm_ck (by omega) (by omega), nI_clamp (by omega), q3, h5, if_neg (show ¬ nI c' ≤ nI c from fun z => by rw [nI_leI (by omega) (by omega)] at z; omega), nb_let]
    exact ih
/-- what is behind now is forgotten, in both -/
theorem jm_cut (n : Nat) (hn : 70000 < n) {vn : Nat} {Q V : St} {N T e c k : Nat} {lo : Nat → Nat} {t : S11} {τ : S19} (h : jM n vn Q V N T e c k lo t τ) (hb : ¬ sI τ.1 3 = 0) : ∃ (V' : St) (L : Nat) (lo' : Nat → Nat) (t' : S11) (X' : St × St), df_X11_forgetBehind n t = some (nI (e - c), t') ∧ df_X19_cut n τ = some (nI (e - c), (pI (pI (pI (pI (pI (pI (pI τ.1 0 0) 10 (nI (lo (c + 1)))) 6 (nI c)) 8 (nI L)) 10 (nI L)) 9 0) 11 0, (τ.2.1, ((τ.2.2.1.1, X'), τ.2.2.2)))) ∧ jM n vn Q V' L L c c c lo' t' (pI (pI (pI (pI (pI (pI (pI τ.1 0 0) 10 (nI (lo (c + 1)))) 6 (nI c)) 8 (nI L)) 10 (nI L)) 9 0) 11 0, (τ.2.1, ((τ.2.2.1.1, X'), τ.2.2.2))) ∧ (sI t'.1 0 = sI t.1 0 ∧ sI t'.1 7 = sI t.1 7 ∧ (∀ k : Nat, sO t'.1 k = sO t.1 k) ∧ t'.2.1 = t.2.1 ∧ t'.2.2.1 = t.2.2.1 ∧ t'.2.2.2.2.2 = t.2.2.2.2.2) := by
  have hce : c ≤ e := h.1.2.2.2.2.1
  obtain ⟨X', r1, r2⟩ := jm_come n hn (jm_0 h 0) hce
  obtain ⟨V', t', a1, a2, a3, a4, a5⟩ := fb_1 n (by omega) h.1
  obtain ⟨hI, hL, hev, hv, ⟨h4, h5, h6⟩, hk, hX, h10, h14, hS, h11⟩ := h
  have rX : RA n (nI vn) Q (lgL (evK V) lo) c X' := r2.2.2.2.2.2.2.1
  have r14 : sI X'.1 14 = -nI 1 := r2.2.2.2.2.2.2.2.2.1
  obtain ⟨l1, l2, l3, l4, l5, l6⟩ := id hL
  have ln := okL_N l3 (c + 1)
  refine ⟨V', lo (c + 1), fun k => if k ≤ c then lo k else lo (c + 1), t', X', a1, ?_, ⟨a2, ?_, fun i hi => (hev i (by omega)).trans (a3 i).symm, hv, ⟨h4, h5, rfl⟩, Nat.le_refl c, ?_, ?_, r14, ⟨?_, fun i hi => by omega⟩, a4, Or.inl rfl⟩, a5⟩
  · unfold df_X19_cut df_X19_cut_0
    rw [nb_let, if_neg (show ¬ sI (pI τ.1 0 0) 3 = 0 from hb)]
    have e1 : sI (pI τ.1 0 0) 6 - sI (pI τ.1 0 0) 5 = nI (e - c) := by
      show sI τ.1 6 - sI τ.1 5 = _
      rw [h6, h5]; exact pk_sub hce
    rw [e1, nb_let, show sI (pI τ.1 0 0) 5 = nI c from h5, r1, nb_b1, nb_let]
    dsimp only
    rw [show sI (pI (pI τ.1 0 0) 10 (nI (lo (c + 1)))) 5 = nI c from h5]
    refine Eq.trans (cut_40 n (L := lo (c + 1)) (c := c) (x := nI (e - c)) (N - lo (c + 1)) n (pI (pI (pI τ.1 0 0) 10 (nI (lo (c + 1)))) 6 (nI c), (τ.2.1, ((τ.2.2.1.1, X'), τ.2.2.2))) (by omega) (show sI τ.1 8 = nI (lo (c + 1) + (N - lo (c + 1))) by rw [l1, show lo (c + 1) + (N - lo (c + 1)) = N by omega]) (by omega) (by omega) (fun i q1 q2 => ?_) (fun q0 => ?_) h5) rfl
    · obtain ⟨c', g1, g2, g3, g4⟩ := okL_at l3 (show i < N by omega) (e - c) (c + 1) (by omega) q1
      exact ⟨c', by omega, by omega, l4 i c' g2 g3 g4⟩
    · obtain ⟨c', g1, g2, g3, g4⟩ := okL_at l3 (show lo (c + 1) - 1 < N by omega) (e + 1) 0 (by omega) (by rw [l3.1]; omega)
      refine ⟨c', ?_, l4 _ c' g2 g3 g4⟩
      by_cases y : c' ≤ c
      · exact y
      · have := okL_le l3 (c + 1) c' (by omega)
        omega
  · refine ⟨rfl, by omega, a2.2.1.2.2.2.2.1, fun i c' hc' q1 q2 => ?_, fun i hi => l5 i (by omega), by omega⟩
    have q1 : (if c' ≤ c then lo c' else lo (c + 1)) ≤ i := q1
    have q2 : i < (if c' + 1 ≤ c then lo (c' + 1) else lo (c + 1)) := q2
    rw [if_pos hc'] at q1
    show sR τ.1 7 i = nI c'
    by_cases y : c' + 1 ≤ c
    · rw [if_pos y] at q2
      exact l4 i c' (by omega) q1 q2
    · rw [if_neg y] at q2
      exact l4 i c' (by omega) q1 (by rw [show c' + 1 = c + 1 by omega]; exact q2)
  · refine RA_c (fun j hj => ?_) rX
    rw [funext a3]
    unfold lgL
    dsimp only
    rw [if_pos hj]
    by_cases y : j + 1 ≤ c
    · rw [if_pos y]
    · rw [if_neg y, show j + 1 = c + 1 by omega]
  · show nI (lo (c + 1)) = nI (if c + 1 ≤ c then lo (c + 1) else lo (c + 1))
    rw [if_neg (by omega)]
  · show nI 0 = nI (lo (c + 1) - lo (c + 1))
    rw [Nat.sub_self]

