/-- none, or a process -/
def okP (v : Int32) : Prop := v = -nI 1 ∨ ∃ a : Nat, a < 16 ∧ v = nI a
/-- what a WAITING one waits for -/
def wtC (X : St × St) (q : Nat) : Prop := sR X.1 7 q = sR X.1 9 (32 * q + 17) ∧ (sR X.1 9 (32 * q + 17) = nI 3 ∨ ((sR X.1 9 (32 * q + 17) = nI 6 ∨ sR X.1 9 (32 * q + 17) = nI 7) ∧ ∃ d o N : Nat, d < 16 ∧ o < 48 ∧ N ≤ 512 ∧ sR X.1 9 (32 * q + 10) = nI d ∧ sR X.1 14 (q * 16 + d) = nI o ∧ sR X.1 9 (32 * q + 12) = nI N) ∨ sR X.1 9 (32 * q + 17) = nI 19 ∨ sR X.1 9 (32 * q + 17) = nI 21)
/-- one process in both -/
def rP1 (M X : St × St) (q : Nat) : Prop := ∃ t c w b e : Nat, t < 4 ∧ c < 32768 ∧ w < 2 ∧ b ≤ 61440 ∧ e ≤ 61440 ∧ sR M.1 6 (q * 7) = nI t ∧ sR X.1 1 q = nI t ∧ sR M.1 6 (q * 7 + 1) = sR X.1 2 q ∧ okP (sR X.1 2 q) ∧ ¬ sR X.1 2 q = nI q ∧ (t = 3 → ∃ z : Nat, z < 256 ∧ sR M.1 6 (q * 7 + 2) = nI z ∧ sR X.1 3 q = nI z) ∧ (t ≠ 3 → sR M.1 6 (q * 7 + 2) = nI 0) ∧ sR M.1 6 (q * 7 + 3) = nI (2 * c) ∧ sR X.1 4 q = nI (2 * c) ∧ sR M.1 6 (q * 7 + 4) = nI w ∧ sR X.1 8 q = nI w ∧ sR M.1 6 (q * 7 + 5) = nI b ∧ sR X.1 5 q = nI b ∧ sR M.1 6 (q * 7 + 6) = nI e ∧ sR X.1 6 q = nI e ∧ (∀ k : Nat, k < 60 → e ≤ k * 1024 → sR X.1 16 (64 * q + k) = -nI 1) ∧ (t ≠ 0 → (∀ r : Nat, r < 32 → sR M.1 3 (q * 33 + r) = sR X.1 9 (32 * q + r)) ∧ sR M.1 3 (q * 33 + 32) = sR X.1 10 q) ∧ (t = 1 ∨ t = 2 → (∀ k : Nat, k < 16 → sR M.1 5 (q * 16 + k) = sR X.1 13 (16 * q + k)) ∧ sQ M.1 0 q = sQ X.1 0 q ∧ (w = 1 → (∀ r : Nat, r < 32 → sR M.1 4 (q * 33 + r) = sR X.1 11 (32 * q + r)) ∧ sR M.1 4 (q * 33 + 32) = sR X.1 12 q)) ∧ (t = 0 ∨ t = 3 → (∀ k : Nat, k < 64 → sR X.1 16 (64 * q + k) = -nI 1) ∧ ∀ d : Nat, d < 16 → sR X.1 14 (q * 16 + d) = -nI 1) ∧ (t = 2 → wtC X q) ∧ (t ≠ 2 → sR X.1 7 q = -nI 1)
/-- the rows of one process are as they were -/
def agM (M M' : St × St) (q : Nat) : Prop := (∀ i : Nat, i < 7 → sR M'.1 6 (q * 7 + i) = sR M.1 6 (q * 7 + i)) ∧ (∀ i : Nat, i < 33 → sR M'.1 3 (q * 33 + i) = sR M.1 3 (q * 33 + i)) ∧ (∀ i : Nat, i < 33 → sR M'.1 4 (q * 33 + i) = sR M.1 4 (q * 33 + i)) ∧ (∀ i : Nat, i < 16 → sR M'.1 5 (q * 16 + i) = sR M.1 5 (q * 16 + i)) ∧ sQ M'.1 0 q = sQ M.1 0 q
def agX (X X' : St × St) (q : Nat) : Prop := (sR X'.1 1 q = sR X.1 1 q ∧ sR X'.1 2 q = sR X.1 2 q ∧ sR X'.1 3 q = sR X.1 3 q ∧ sR X'.1 4 q = sR X.1 4 q ∧ sR X'.1 5 q = sR X.1 5 q ∧ sR X'.1 6 q = sR X.1 6 q ∧ sR X'.1 7 q = sR X.1 7 q ∧ sR X'.1 8 q = sR X.1 8 q) ∧ (∀ i : Nat, i < 32 → sR X'.1 9 (32 * q + i) = sR X.1 9 (32 * q + i)) ∧ sR X'.1 10 q = sR X.1 10 q ∧ (∀ i : Nat, i < 32 → sR X'.1 11 (32 * q + i) = sR X.1 11 (32 * q + i)) ∧ sR X'.1 12 q = sR X.1 12 q ∧ (∀ i : Nat, i < 16 → sR X'.1 13 (16 * q + i) = sR X.1 13 (16 * q + i)) ∧ (∀ i : Nat, i < 16 → sR X'.1 14 (q * 16 + i) = sR X.1 14 (q * 16 + i)) ∧ (∀ i : Nat, i < 64 → (sR X'.1 16 (64 * q + i) = -nI 1 ↔ sR X.1 16 (64 * q + i) = -nI 1)) ∧ sQ X'.1 0 q = sQ X.1 0 q
theorem agM_r (M : St × St) (q : Nat) : agM M M q := ⟨fun _ _ => rfl, fun _ _ => rfl, fun _ _ => rfl, fun _ _ => rfl, rfl⟩
theorem agX_r (X : St × St) (q : Nat) : agX X X q := ⟨⟨rfl, rfl, rfl, rfl, rfl, rfl, rfl, rfl⟩, fun _ _ => rfl, rfl, fun _ _ => rfl, rfl, fun _ _ => rfl, fun _ _ => rfl, fun _ _ => Iff.rfl, rfl⟩
theorem agM_t {M M' N : St × St} {q : Nat} (h : agM M M' q) (g : agM M' N q) : agM M N q := ⟨fun i hi => (g.1 i hi).trans (h.1 i hi), fun i hi => (g.2.1 i hi).trans (h.2.1 i hi), fun i hi => (g.2.2.1 i hi).trans (h.2.2.1 i hi), fun i hi => (g.2.2.2.1 i hi).trans (h.2.2.2.1 i hi), g.2.2.2.2.trans h.2.2.2.2⟩
theorem agX_t {X X' Y : St × St} {q : Nat} (h : agX X X' q) (g : agX X' Y q) : agX X Y q := by
  obtain ⟨⟨h1, h2, h3, h4, h5, h6, h7, h8⟩, h9, h10, h11, h12, h13, h14, h16, hq⟩ := h
  obtain ⟨⟨g1, g2, g3, g4, g5, g6, g7, g8⟩, g9, g10, g11, g12, g13, g14, g16, gq⟩ := g
  exact ⟨⟨g1.trans h1, g2.trans h2, g3.trans h3, g4.trans h4, g5.trans h5, g6.trans h6, g7.trans h7, g8.trans h8⟩, fun i hi => (g9 i hi).trans (h9 i hi), g10.trans h10, fun i hi => (g11 i hi).trans (h11 i hi), g12.trans h12, fun i hi => (g13 i hi).trans (h13 i hi), fun i hi => (g14 i hi).trans (h14 i hi), fun i hi => (g16 i hi).trans (h16 i hi), gq.trans hq⟩
theorem rP1_ag {M M' X X' : St × St} {q : Nat} (h : rP1 M X q) (hm : agM M M' q) (hx : agX X X' q) : rP1 M' X' q := by
  obtain ⟨m6, m3, m4, m5, mq⟩ := hm
  obtain ⟨⟨x1, x2, x3, x4, x5, x6, x7, x8⟩, x9, x10, x11, x12, x13, x14, x16, xq⟩ := hx
  have m60 := m6 0 (by omega)
  rw [Nat.add_zero] at m60
  obtain ⟨t, c, w, b, e, ht, hc, hw, hb, he, a1, a2, a3, a4, a5, a6, a7, a8, a9, a10, a11, a12, a13, a14, a15, a16, a17, a18, a19, a20, a21⟩ := h
  refine ⟨t, c, w, b, e, ht, hc, hw, hb, he, m60.trans a1, x1.trans a2, (m6 1 (by omega)).trans (a3.trans x2.symm), by rw [x2]; exact a4, by rw [x2]; exact a5, fun z => ?_, fun z => (m6 2 (by omega)).trans (a7 z), (m6 3 (by omega)).trans a8, x4.trans a9, (m6 4 (by omega)).trans a10, x8.trans a11, (m6 5 (by omega)).trans a12, x5.trans a13, (m6 6 (by omega)).trans a14, x6.trans a15, fun k hk z => (x16 k (by omega)).mpr (a16 k hk z), fun z => ⟨fun r hr => ?_, ?_⟩, fun z => ⟨fun k hk => ?_, ?_, fun y => ⟨fun r hr => ?_, ?_⟩⟩, fun z => ⟨fun k hk => (x16 k hk).mpr ((a19 z).1 k hk), fun d hd => (x14 d hd).trans ((a19 z).2 d hd)⟩, fun z => ?_, fun z => x7.trans (a21 z)⟩
  · obtain ⟨y, y1, y2, y3⟩ := a6 z
    exact ⟨y, y1, (m6 2 (by omega)).trans y2, x3.trans y3⟩
  · rw [m3 r (by omega), x9 r hr]; exact (a17 z).1 r hr
  · rw [m3 32 (by omega), x10]; exact (a17 z).2
  · rw [m5 k hk, x13 k hk]; exact (a18 z).1 k hk
  · rw [mq, xq]; exact (a18 z).2.1
  · rw [m4 r (by omega), x11 r hr]; exact ((a18 z).2.2 y).1 r hr
  · rw [m4 32 (by omega), x12]; exact ((a18 z).2.2 y).2
  · obtain ⟨z1, z2⟩ := a20 z
    unfold wtC
    rw [x7, x9 17 (by omega), x9 10 (by omega), x9 12 (by omega)]
    refine ⟨z1, ?_⟩
    rcases z2 with z2 | ⟨z2, d, o, N, y1, y2, y3, y4, y5, y6⟩ | z2
    · exact Or.inl z2
    · exact Or.inr (Or.inl ⟨z2, d, o, N, y1, y2, y3, y4, (x14 d y1).trans y5, y6⟩)
    · exact Or.inr (Or.inr z2)
/-- the numbers that both keep -/
def rG (M X : St × St) : Prop := sI M.1 3 = sI X.1 1 ∧ okP (sI X.1 1) ∧ sI M.1 4 = sI X.1 2 ∧ (∃ l : Nat, l < 16 ∧ sI X.1 2 = nI l) ∧ (sI X.1 1 = -nI 1 ∨ sI X.1 2 = sI X.1 1) ∧ sI M.1 5 = sI X.1 3 ∧ okP (sI X.1 3) ∧ sI M.1 6 = sI X.1 4 ∧ okR (sI X.1 4) ∧ sL M.1 0 = sL X.1 1 ∧ sL M.1 1 = sL X.1 0
/-- a byte's cell holds a byte -/
def fb8 (v : Int32) : Prop := fits .byte (.int v) = true
/-- the class's rows of bytes -/
def okY (D : St) : Prop := (∀ i : Nat, i < 4096 → fb8 (sR D 3 i)) ∧ (∀ i : Nat, i < 8192 → fb8 (sR D 5 i)) ∧ (∀ i : Nat, i < 256 → fb8 (sR D 6 i)) ∧ (∀ i : Nat, i < 512 → fb8 (sR D 7 i)) ∧ ∀ i : Nat, i < 2048 → fb8 (sR D 8 i)
/-- the random words that wait -/
def rA (M X : St × St) : Prop := (∃ k : Nat, k ≤ 16 ∧ sI M.1 1 = nI k ∧ sI X.1 5 = nI k ∧ ∀ i : Nat, i < k → sR M.1 7 i = sR X.1 0 i) ∧ okY M.2
/-- how many WAIT -/
def cW (st : Nat → Int32) : Nat := cN (fun q => decide (st q = nI 2)) 16
/-- a byte: the class's and the reference's -/
def b8 (v u : Int32) : Prop := ∃ z : Nat, z < 256 ∧ u = nI z ∧ v = vp_nar .byte ((nI z).toInt8.toInt32)
/-- what lies in pipes, files, names, what was typed and shown -/
def rT (B : Nat) (pi pd fi fd nm ty sh : Nat → Int32) (tb : Int32) (sa : Int64) (ip isf nam pl pb le fb ns tp sw : Nat → Int32) (tn : Int32) (sn : Int64) : Prop := (∀ k : Nat, k < 8 → ip k = nI 1 → ∃ L o : Nat, L ≤ 512 ∧ o < 512 ∧ pi (k * 4) = nI L ∧ pl k = nI L ∧ pi (k * 4 + 3) = nI o ∧ ∀ i : Nat, i < L → b8 (pd (k * 512 + (o + i) % 512)) (pb (512 * k + i))) ∧ (∀ k : Nat, k < 16 → isf k = nI 1 → ∃ L : Nat, L ≤ 512 ∧ fi (k * 3) = nI L ∧ le k = nI L ∧ ∀ i : Nat, i < L → b8 (fd (k * 512 + i)) (fb (512 * k + i))) ∧ (∀ k : Nat, k < 16 → nam k = nI 1 → ∀ i : Nat, i < 16 → b8 (nm (k * 16 + i)) (ns (16 * k + i))) ∧ (∃ T : Nat, T ≤ 512 ∧ tb = nI T ∧ tn = nI T ∧ ∀ i : Nat, i < T → b8 (ty i) (tp i)) ∧ sa = sn ∧ ∃ S : Nat, S ≤ B ∧ sn = Int64.ofNat S ∧ ∀ i : Nat, i < S → i < 2048 → b8 (sh ((if S ≤ 2048 then i else S + i) % 2048)) (sw i)
def rTT (B : Nat) (M X : St × St) : Prop := rT B (sR M.2 2) (sR M.2 3) (sR M.2 4) (sR M.2 5) (sR M.2 6) (sR M.2 7) (sR M.2 8) (sI M.2 0) (sL M.2 0) (sR X.1 23) (sR X.1 24) (sR X.1 25) (sR X.1 26) (sR X.1 27) (sR X.1 28) (sR X.1 29) (sR X.1 30) (sR X.1 31) (sR X.1 32) (sI X.1 7) (sL X.1 2)
def rDD (M X : St × St) : Prop := rD (sR M.2 0) (sR M.2 1) (sR M.2 2) (sR M.2 4) (sR X.1 14) (sR X.1 19) (sR X.1 20) (sR X.1 21) (sR X.1 22) (sR X.1 23) (sR X.1 24) (sR X.1 25)
/-- the two machines -/
def rM (B : Nat) (M X : St × St) : Prop := rK M X ∧ rDD M X ∧ (∀ q : Nat, q < 16 → rP1 M X q) ∧ sI M.1 2 = nI (cW (sR X.1 1)) ∧ rG M X ∧ rA M X ∧ rTT B M X
/-- what the kernel's calls leave -/
def kX (X X' : St × St) : Prop := X'.2 = X.2 ∧ sI X'.1 0 = sI X.1 0 ∧ sI X'.1 12 = sI X.1 12 ∧ sI X'.1 13 = sI X.1 13 ∧ sI X'.1 14 = sI X.1 14 ∧ sI X'.1 15 = sI X.1 15 ∧ sI X'.1 16 = sI X.1 16
def kM (M M' : St × St) : Prop := sI M'.1 7 = sI M.1 7

/-- the reference's rows that a child's end leaves -/
def fX (X t : St × St) : Prop := t.2 = X.2 ∧ (∀ i : Nat, sI t.1 i = sI X.1 i) ∧ (∀ i : Nat, sL t.1 i = sL X.1 i) ∧ ∀ i : Nat, i = 0 ∨ 14 ≤ i → sR t.1 i = sR X.1 i
theorem fX_r (X : St × St) : fX X X := ⟨rfl, fun _ => rfl, fun _ => rfl, fun _ _ => rfl⟩
theorem fX_t {X Y Z : St × St} (h : fX X Y) (g : fX Y Z) : fX X Z := ⟨g.1.trans h.1, fun i => (g.2.1 i).trans (h.2.1 i), fun i => (g.2.2.1 i).trans (h.2.2.1 i), fun i hi => (g.2.2.2 i hi).trans (h.2.2.2 i hi)⟩
theorem fl_id {f : Nat → Int32} {a k : Nat} {v : Int32} (h : ∀ j : Nat, j < k → f (a + j) = v) : fl f a k v = f := by
  funext j
  show (if a ≤ j ∧ j < a + k then v else f j) = f j
  by_cases c : a ≤ j ∧ j < a + k
  · rw [if_pos c, ← h (j - a) (by omega)]
    exact congrArg f (by omega)
  · rw [if_neg c]
theorem fl_o {f : Nat → Int32} {a k j : Nat} {v : Int32} (h : ¬ (a ≤ j ∧ j < a + k)) : fl f a k v j = f j := if_neg h
theorem fl_i {f : Nat → Int32} {a k j : Nat} {v : Int32} (h : a ≤ j ∧ j < a + k) : fl f a k v j = v := if_pos h
theorem ab_o {f : Nat → Int32} {p j : Nat} (h : ¬ (p * 7 ≤ j ∧ j < p * 7 + 7)) : ab f p 7 j = f j := if_neg h
theorem ab_i {f : Nat → Int32} {p i : Nat} (h : i < 7) : ab f p 7 (p * 7 + i) = if i = 1 then -nI 1 else nI 0 := by
  show (if p * 7 ≤ p * 7 + i ∧ p * 7 + i < p * 7 + 7 then (if p * 7 + i = p * 7 + 1 then -nI 1 else nI 0) else f (p * 7 + i)) = _
  rw [if_pos (by omega)]
  by_cases c : i = 1
  · rw [if_pos c, if_pos (by omega)]
  · rw [if_neg c, if_neg (by omega)]
theorem bg_r1 (X : St × St) (q i j : Nat) : sR (bg X q i j).1 1 = upd (sR X.1 1) q (nI 0) := by
  unfold bg
  rw [nm_RQ, nb_RR, if_neg (show ¬ (1 : Nat) = 14 by decide), nb_RR, if_neg (show ¬ (1 : Nat) = 13 by decide), nb_RR, if_neg (show ¬ (1 : Nat) = 12 by decide), nb_RR, if_neg (show ¬ (1 : Nat) = 11 by decide), nb_RR, if_neg (show ¬ (1 : Nat) = 10 by decide), nb_RR, if_neg (show ¬ (1 : Nat) = 9 by decide), nb_RR, if_neg (show ¬ (1 : Nat) = 8 by decide), nb_RR, if_neg (show ¬ (1 : Nat) = 7 by decide), nb_RR, if_neg (show ¬ (1 : Nat) = 6 by decide), nb_RR, if_neg (show ¬ (1 : Nat) = 5 by decide), nb_RR, if_neg (show ¬ (1 : Nat) = 4 by decide), nb_RR, if_neg (show ¬ (1 : Nat) = 3 by decide), nb_RR, if_neg (show ¬ (1 : Nat) = 2 by decide), nb_RR, if_pos rfl]
theorem bg_r2 (X : St × St) (q i j : Nat) : sR (bg X q i j).1 2 = upd (sR X.1 2) q (-nI 1) := by
  unfold bg
  rw [nm_RQ, nb_RR, if_neg (show ¬ (2 : Nat) = 14 by decide), nb_RR, if_neg (show ¬ (2 : Nat) = 13 by decide), nb_RR, if_neg (show ¬ (2 : Nat) = 12 by decide), nb_RR, if_neg (show ¬ (2 : Nat) = 11 by decide), nb_RR, if_neg (show ¬ (2 : Nat) = 10 by decide), nb_RR, if_neg (show ¬ (2 : Nat) = 9 by decide), nb_RR, if_neg (show ¬ (2 : Nat) = 8 by decide), nb_RR, if_neg (show ¬ (2 : Nat) = 7 by decide), nb_RR, if_neg (show ¬ (2 : Nat) = 6 by decide), nb_RR, if_neg (show ¬ (2 : Nat) = 5 by decide), nb_RR, if_neg (show ¬ (2 : Nat) = 4 by decide), nb_RR, if_neg (show ¬ (2 : Nat) = 3 by decide), nb_RR, if_pos rfl]
theorem bg_r3 (X : St × St) (q i j : Nat) : sR (bg X q i j).1 3 = upd (sR X.1 3) q (nI 0) := by
  unfold bg
  rw [nm_RQ, nb_RR, if_neg (show ¬ (3 : Nat) = 14 by decide), nb_RR, if_neg (show ¬ (3 : Nat) = 13 by decide), nb_RR, if_neg (show ¬ (3 : Nat) = 12 by decide), nb_RR, if_neg (show ¬ (3 : Nat) = 11 by decide), nb_RR, if_neg (show ¬ (3 : Nat) = 10 by decide), nb_RR, if_neg (show ¬ (3 : Nat) = 9 by decide), nb_RR, if_neg (show ¬ (3 : Nat) = 8 by decide), nb_RR, if_neg (show ¬ (3 : Nat) = 7 by decide), nb_RR, if_neg (show ¬ (3 : Nat) = 6 by decide), nb_RR, if_neg (show ¬ (3 : Nat) = 5 by decide), nb_RR, if_neg (show ¬ (3 : Nat) = 4 by decide), nb_RR, if_pos rfl]
theorem bg_r4 (X : St × St) (q i j : Nat) : sR (bg X q i j).1 4 = upd (sR X.1 4) q (nI 0) := by
  unfold bg
  rw [nm_RQ, nb_RR, if_neg (show ¬ (4 : Nat) = 14 by decide), nb_RR, if_neg (show ¬ (4 : Nat) = 13 by decide), nb_RR, if_neg (show ¬ (4 : Nat) = 12 by decide), nb_RR, if_neg (show ¬ (4 : Nat) = 11 by decide), nb_RR, if_neg (show ¬ (4 : Nat) = 10 by decide), nb_RR, if_neg (show ¬ (4 : Nat) = 9 by decide), nb_RR, if_neg (show ¬ (4 : Nat) = 8 by decide), nb_RR, if_neg (show ¬ (4 : Nat) = 7 by decide), nb_RR, if_neg (show ¬ (4 : Nat) = 6 by decide), nb_RR, if_neg (show ¬ (4 : Nat) = 5 by decide), nb_RR, if_pos rfl]
theorem bg_r5 (X : St × St) (q i j : Nat) : sR (bg X q i j).1 5 = upd (sR X.1 5) q (nI 0) := by
  unfold bg
  rw [nm_RQ, nb_RR, if_neg (show ¬ (5 : Nat) = 14 by decide), nb_RR, if_neg (show ¬ (5 : Nat) = 13 by decide), nb_RR, if_neg (show ¬ (5 : Nat) = 12 by decide), nb_RR, if_neg (show ¬ (5 : Nat) = 11 by decide), nb_RR, if_neg (show ¬ (5 : Nat) = 10 by decide), nb_RR, if_neg (show ¬ (5 : Nat) = 9 by decide), nb_RR, if_neg (show ¬ (5 : Nat) = 8 by decide), nb_RR, if_neg (show ¬ (5 : Nat) = 7 by decide), nb_RR, if_neg (show ¬ (5 : Nat) = 6 by decide), nb_RR, if_pos rfl]
theorem bg_r6 (X : St × St) (q i j : Nat) : sR (bg X q i j).1 6 = upd (sR X.1 6) q (nI 0) := by
  unfold bg
  rw [nm_RQ, nb_RR, if_neg (show ¬ (6 : Nat) = 14 by decide), nb_RR, if_neg (show ¬ (6 : Nat) = 13 by decide), nb_RR, if_neg (show ¬ (6 : Nat) = 12 by decide), nb_RR, if_neg (show ¬ (6 : Nat) = 11 by decide), nb_RR, if_neg (show ¬ (6 : Nat) = 10 by decide), nb_RR, if_neg (show ¬ (6 : Nat) = 9 by decide), nb_RR, if_neg (show ¬ (6 : Nat) = 8 by decide), nb_RR, if_neg (show ¬ (6 : Nat) = 7 by decide), nb_RR, if_pos rfl]
theorem bg_r7 (X : St × St) (q i j : Nat) : sR (bg X q i j).1 7 = upd (sR X.1 7) q (-nI 1) := by
  unfold bg
  rw [nm_RQ, nb_RR, if_neg (show ¬ (7 : Nat) = 14 by decide), nb_RR, if_neg (show ¬ (7 : Nat) = 13 by decide), nb_RR, if_neg (show ¬ (7 : Nat) = 12 by decide), nb_RR, if_neg (show ¬ (7 : Nat) = 11 by decide), nb_RR, if_neg (show ¬ (7 : Nat) = 10 by decide), nb_RR, if_neg (show ¬ (7 : Nat) = 9 by decide), nb_RR, if_neg (show ¬ (7 : Nat) = 8 by decide), nb_RR, if_pos rfl]
theorem bg_r8 (X : St × St) (q i j : Nat) : sR (bg X q i j).1 8 = upd (sR X.1 8) q (nI 0) := by
  unfold bg
  rw [nm_RQ, nb_RR, if_neg (show ¬ (8 : Nat) = 14 by decide), nb_RR, if_neg (show ¬ (8 : Nat) = 13 by decide), nb_RR, if_neg (show ¬ (8 : Nat) = 12 by decide), nb_RR, if_neg (show ¬ (8 : Nat) = 11 by decide), nb_RR, if_neg (show ¬ (8 : Nat) = 10 by decide), nb_RR, if_neg (show ¬ (8 : Nat) = 9 by decide), nb_RR, if_pos rfl]
theorem bg_r9 (X : St × St) (q i j : Nat) : sR (bg X q i j).1 9 = fl (sR X.1 9) (32 * q) i (nI 0) := by
  unfold bg
  rw [nm_RQ, nb_RR, if_neg (show ¬ (9 : Nat) = 14 by decide), nb_RR, if_neg (show ¬ (9 : Nat) = 13 by decide), nb_RR, if_neg (show ¬ (9 : Nat) = 12 by decide), nb_RR, if_neg (show ¬ (9 : Nat) = 11 by decide), nb_RR, if_neg (show ¬ (9 : Nat) = 10 by decide), nb_RR, if_pos rfl]
theorem bg_r10 (X : St × St) (q i j : Nat) : sR (bg X q i j).1 10 = upd (sR X.1 10) q (nI 0) := by
  unfold bg
  rw [nm_RQ, nb_RR, if_neg (show ¬ (10 : Nat) = 14 by decide), nb_RR, if_neg (show ¬ (10 : Nat) = 13 by decide), nb_RR, if_neg (show ¬ (10 : Nat) = 12 by decide), nb_RR, if_neg (show ¬ (10 : Nat) = 11 by decide), nb_RR, if_pos rfl]
theorem bg_r11 (X : St × St) (q i j : Nat) : sR (bg X q i j).1 11 = fl (sR X.1 11) (32 * q) i (nI 0) := by
  unfold bg
  rw [nm_RQ, nb_RR, if_neg (show ¬ (11 : Nat) = 14 by decide), nb_RR, if_neg (show ¬ (11 : Nat) = 13 by decide), nb_RR, if_neg (show ¬ (11 : Nat) = 12 by decide), nb_RR, if_pos rfl]
theorem bg_r12 (X : St × St) (q i j : Nat) : sR (bg X q i j).1 12 = upd (sR X.1 12) q (nI 0) := by
  unfold bg
  rw [nm_RQ, nb_RR, if_neg (show ¬ (12 : Nat) = 14 by decide), nb_RR, if_neg (show ¬ (12 : Nat) = 13 by decide), nb_RR, if_pos rfl]
theorem bg_r13 (X : St × St) (q i j : Nat) : sR (bg X q i j).1 13 = fl (sR X.1 13) (16 * q) j (nI 0) := by
  unfold bg
  rw [nm_RQ, nb_RR, if_neg (show ¬ (13 : Nat) = 14 by decide), nb_RR, if_pos rfl]
theorem bg_r14 (X : St × St) (q i j : Nat) : sR (bg X q i j).1 14 = fl (sR X.1 14) (16 * q) j (-nI 1) := by
  unfold bg
  rw [nm_RQ, nb_RR, if_pos rfl]
theorem bg_q (X : St × St) (q i j : Nat) : sQ (bg X q i j).1 0 = vp_updL (sQ X.1 0) q (-1) := by
  unfold bg
  simp only [nm_QR, nm_QQ, if_true, ↓reduceIte]
theorem bg_o (X : St × St) (q i j : Nat) {k : Nat} (h : k = 0 ∨ 15 ≤ k) : sR (bg X q i j).1 k = sR X.1 k := by
  unfold bg
  rw [nm_RQ, nb_RR, if_neg (show ¬ k = 14 by omega), nb_RR, if_neg (show ¬ k = 13 by omega), nb_RR, if_neg (show ¬ k = 12 by omega), nb_RR, if_neg (show ¬ k = 11 by omega), nb_RR, if_neg (show ¬ k = 10 by omega), nb_RR, if_neg (show ¬ k = 9 by omega), nb_RR, if_neg (show ¬ k = 8 by omega), nb_RR, if_neg (show ¬ k = 7 by omega), nb_RR, if_neg (show ¬ k = 6 by omega), nb_RR, if_neg (show ¬ k = 5 by omega), nb_RR, if_neg (show ¬ k = 4 by omega), nb_RR, if_neg (show ¬ k = 3 by omega), nb_RR, if_neg (show ¬ k = 2 by omega), nb_RR, if_neg (show ¬ k = 1 by omega)]
theorem bg_i (X : St × St) (q i j k : Nat) : sI (bg X q i j).1 k = sI X.1 k := by
  unfold bg
  simp only [nm_IQ, nb_IR]
theorem bg_l (X : St × St) (q i j k : Nat) : sL (bg X q i j).1 k = sL X.1 k := by
  unfold bg
  simp only [nm_LQ, nm_LR]
theorem bg_2' (X : St × St) (q i j : Nat) : (bg X q i j).2 = X.2 := by
  unfold bg
  rfl
theorem fX_bg {X : St × St} {q : Nat} (h : ∀ d : Nat, d < 16 → sR X.1 14 (16 * q + d) = -nI 1) : fX X (bg X q 32 16) := by
  refine ⟨bg_2' X q 32 16, fun i => bg_i X q 32 16 i, fun i => bg_l X q 32 16 i, fun i hi => ?_⟩
  by_cases c : i = 14
  · subst c
    rw [bg_r14]
    exact fl_id h
  · exact bg_o X q 32 16 (by omega)
theorem up_o {f : Nat → Int64} {i j : Nat} {v : Int64} (h : j ≠ i) : vp_updL f i v j = f j := if_neg h
/-- an absent one, in both -/
theorem rP1_ab {M X : St × St} {q : Nat} (h6 : ∀ i : Nat, i < 7 → sR M.1 6 (q * 7 + i) = if i = 1 then -nI 1 else nI 0) (x1 : sR X.1 1 q = nI 0) (x2 : sR X.1 2 q = -nI 1) (x4 : sR X.1 4 q = nI 0) (x5 : sR X.1 5 q = nI 0) (x6 : sR X.1 6 q = nI 0) (x7 : sR X.1 7 q = -nI 1) (x8 : sR X.1 8 q = nI 0) (hq : q < 16) (hf : ∀ k : Nat, k < 64 → sR X.1 16 (64 * q + k) = -nI 1) (hd : ∀ d : Nat, d < 16 → sR X.1 14 (q * 16 + d) = -nI 1) : rP1 M X q := by
  have h60 := h6 0 (by omega)
  rw [Nat.add_zero, if_neg (by omega)] at h60
  have h61 := h6 1 (by omega)
  rw [if_pos rfl] at h61
  have e := fun (i : Nat) (hi : i < 7) (h1 : i ≠ 1) => (h6 i hi).trans (if_neg h1)
  refine ⟨0, 0, 0, 0, 0, by omega, by omega, by omega, by omega, by omega, h60, x1, h61.trans x2.symm, Or.inl x2, ?_, fun z => absurd z (by omega), fun _ => e 2 (by omega) (by omega), e 3 (by omega) (by omega), x4, e 4 (by omega) (by omega), x8, e 5 (by omega) (by omega), x5, e 6 (by omega) (by omega), x6, fun k hk _ => hf k (by omega), fun z => absurd rfl z, fun z => by omega, fun _ => ⟨hf, hd⟩, fun z => absurd z (by omega), fun _ => x7⟩
  rw [x2]
  exact fun z => nk_ne (by omega) z.symm
theorem agX_bg {X : St × St} {q r : Nat} (hne : r ≠ q) : agX X (bg X q 32 16) r := by
  unfold agX
  rw [bg_r1, bg_r2, bg_r3, bg_r4, bg_r5, bg_r6, bg_r7, bg_r8, bg_r9, bg_r10, bg_r11, bg_r12, bg_r13, bg_r14, bg_o X q 32 16 (Or.inr (show 15 ≤ 16 by omega)), bg_q]
  exact ⟨⟨nm_un hne, nm_un hne, nm_un hne, nm_un hne, nm_un hne, nm_un hne, nm_un hne, nm_un hne⟩, fun i hi => fl_o (by omega), nm_un hne, fun i hi => fl_o (by omega), nm_un hne, fun i hi => fl_o (by omega), fun i hi => fl_o (by omega), fun _ _ => Iff.rfl, up_o hne⟩
/-- an absent one as 'begin' leaves it -/
theorem rP1_bg {M X : St × St} {q : Nat} (h6 : ∀ i : Nat, i < 7 → sR M.1 6 (q * 7 + i) = if i = 1 then -nI 1 else nI 0) (hq : q < 16) (hf : ∀ k : Nat, k < 64 → sR X.1 16 (64 * q + k) = -nI 1) : rP1 M (bg X q 32 16) q := by
  refine rP1_ab h6 ?_ ?_ ?_ ?_ ?_ ?_ ?_ hq (fun k hk => ?_) (fun d hd => ?_)
  · rw [bg_r1, nm_us]
  · rw [bg_r2, nm_us]
  · rw [bg_r4, nm_us]
  · rw [bg_r5, nm_us]
  · rw [bg_r6, nm_us]
  · rw [bg_r7, nm_us]
  · rw [bg_r8, nm_us]
  · rw [bg_o X q 32 16 (Or.inr (show 15 ≤ 16 by omega))]; exact hf k hk
  · rw [bg_r14, Nat.mul_comm q 16]
    exact fl_i (by omega)
/-- one turn of the loop over the children -/
theorem fin_t (n : Nat) (hn : 1024 < n) {s t : St × St} {p q : Nat} (hp : p < 16) (hq : q < 16) (cod : Int32) (h : rP1 s t q) : ∃ s' t' : St × St, (∀ g : Int32 → Int32 → Int32 → St × St → Option (St × St), dF_X6_finish_30 n g (nI p) cod (nI q) s = g (nI p) cod (nI (q + 1)) s' ∧ dF_X16_end_37 n g (nI p) cod (nI q) t = g (nI p) cod (nI (q + 1)) t') ∧ rP1 s' t' q ∧ (∀ r : Nat, r ≠ q → agM s s' r ∧ agX t t' r) ∧ (∃ sf : Nat → Int32, s' = (pR s.1 6 sf, s.2)) ∧ fX t t' ∧ (sR t'.1 1 q = nI 2 ↔ sR t.1 1 q = nI 2) ∧ (sR t.1 1 q = nI 1 → sR t'.1 1 q = nI 1) := by
  have h0 := h
  obtain ⟨k, c, w, b, e, hk, hc, hw, hb, he, a1, a2, a3, a4, a5, a6, a7, a8, a9, a10, a11, a12, a13, a14, a15, a16, a17, a18, a19, a20, a21⟩ := h
  have u1 : q * 7 < 112 := by omega
  have u2 : q * 7 + 1 < 112 := by omega
  have u3 : q < 2 ^ 31 := by omega
  have u4 : k < 2 ^ 31 := by omega
  have u5 : q * 7 < 2 ^ 31 := by omega
  have u6 : q * 7 + 1 < 2 ^ 31 := by omega
  have q16 : ¬ 16 ≤ q := by omega
  by_cases k0 : k = 0
  · refine ⟨s, t, fun g => ⟨?_, ?_⟩, h0, fun r _ => ⟨agM_r s r, agX_r t r⟩, ⟨sR s.1 6, by rw [nm_r0]⟩, fX_r t, Iff.rfl, id⟩
    · subst k0
      simp (disch := (first | assumption | decide | omega)) only [dF_X6_finish_30, df_X6_finish_88, df_X6_status_0, df_X6_status, q16, Nat.add_zero, a1, eq_self, Nat.reduceEqDiff, Nat.reduceLeDiff, nl_0, nl_1, nl_2, nl_3, nl_6, nl_7, nl_16, nl_112, nl_255, no_1, no_1024, pk_mul, nI_add, nm_ck, nI_clamp, nI_ltI, nI_leI, nI_eq, nb_b2, nb_b1, ↓nb_let, nm_z0, nm_z1, nb_II, nb_IR, nb_RI, nb_RR, nm_IL, nm_IQ, nm_RL, nm_RQ, nm_LI, nm_LR, nm_LL, nm_LQ, nm_QI, nm_QR, nm_QL, nm_QQ, nm_rr, nm_ii, nm_eqm, not_false_eq_true, pk_sub, nm_div, nm_shl, nm_shr, nm_ush, nm_or8, nm_or64, nm_or256, nm_m1, nm_m3, nm_m7, nm_m15, nm_m31, nm_m63, nm_m255, nm_m511, nm_m1023, nm_m2047, nm_m65535, Nat.reduceMod, Nat.reducePow, Nat.reduceAdd, Nat.reduceSub, Nat.reduceMul, nm_bo, nm_bi, nm_rc, nm_ic, nm_ri, nm_rl, nm_rq, nm_ql, nm_qi, nm_li, nm_us, nm_uu, nm_cp, nm_sa31, nm_sa7, nm_m127, nm_m2, nm_nz, nm_nzk, nm_eq32, nm_nzf, if_true, if_false, ↓reduceIte, if_pos, if_neg]
    · subst k0
      simp (disch := (first | assumption | decide | omega)) only [dF_X16_end_37, df_X16_end_87, q16, a2, eq_self, Nat.reduceEqDiff, Nat.reduceLeDiff, nl_0, nl_1, nl_2, nl_3, nl_4, nl_5, nl_6, nl_7, nl_8, nl_16, no_1, no_1024, pk_mul, nI_add, nm_ck, nI_clamp, nI_ltI, nI_leI, nI_eq, nb_b2, nb_b1, ↓nb_let, nm_z0, nm_z1, nb_II, nb_IR, nb_RI, nb_RR, nm_IL, nm_IQ, nm_RL, nm_RQ, nm_LI, nm_LR, nm_LL, nm_LQ, nm_QI, nm_QR, nm_QL, nm_QQ, nm_rr, nm_ii, nm_eqm, not_false_eq_true, pk_sub, nm_div, nm_shl, nm_shr, nm_ush, nm_or8, nm_or64, nm_or256, nm_m1, nm_m3, nm_m7, nm_m15, nm_m31, nm_m63, nm_m255, nm_m511, nm_m1023, nm_m2047, nm_m65535, Nat.reduceMod, Nat.reducePow, Nat.reduceAdd, Nat.reduceSub, Nat.reduceMul, nm_bo, nm_bi, nm_rc, nm_ic, nm_ri, nm_rl, nm_rq, nm_ql, nm_qi, nm_li, nm_us, nm_uu, nm_cp, nm_sa31, nm_sa7, nm_m127, nm_m2, nm_nz, nm_nzk, nm_eq32, nm_nzf, if_true, if_false, ↓reduceIte, if_pos, if_neg]
  · by_cases kp : sR t.1 2 q = nI p
    · have a3 := a3.trans kp
      by_cases k3 : k = 3
      · subst k3
        have d16 : ∀ d : Nat, d < 16 → sR t.1 14 (16 * q + d) = -nI 1 := fun d hd => by
          have := (a19 (Or.inr rfl)).2 d hd
          rw [Nat.mul_comm q 16] at this
          exact this
        have mk := nk_makeAbsent n hn s hq
        have be := nk_begin n hn (pR t.1 2 (upd (sR t.1 2) q (-nI 1)), t.2) hq
        refine ⟨(pR s.1 6 (ab (sR s.1 6) q 7), s.2), bg (pR t.1 2 (upd (sR t.1 2) q (-nI 1)), t.2) q 32 16, fun g => ⟨?_, ?_⟩, ?_, fun r hr => ⟨⟨fun i hi => ab_o (by omega), fun _ _ => rfl, fun _ _ => rfl, fun _ _ => rfl, rfl⟩, ?_⟩, ⟨_, rfl⟩, ?_, ?_, fun z => ?_⟩
        · simp (disch := (first | assumption | decide | omega)) only [dF_X6_finish_30, df_X6_finish_88, df_X6_status_0, df_X6_status, q16, Nat.add_zero, a1, a3, mk, eq_self, Nat.reduceEqDiff, Nat.reduceLeDiff, nl_0, nl_1, nl_2, nl_3, nl_6, nl_7, nl_16, nl_112, nl_255, no_1, no_1024, pk_mul, nI_add, nm_ck, nI_clamp, nI_ltI, nI_leI, nI_eq, nb_b2, nb_b1, ↓nb_let, nm_z0, nm_z1, nb_II, nb_IR, nb_RI, nb_RR, nm_IL, nm_IQ, nm_RL, nm_RQ, nm_LI, nm_LR, nm_LL, nm_LQ, nm_QI, nm_QR, nm_QL, nm_QQ, nm_rr, nm_ii, nm_eqm, not_false_eq_true, pk_sub, nm_div, nm_shl, nm_shr, nm_ush, nm_or8, nm_or64, nm_or256, nm_m1, nm_m3, nm_m7, nm_m15, nm_m31, nm_m63, nm_m255, nm_m511, nm_m1023, nm_m2047, nm_m65535, Nat.reduceMod, Nat.reducePow, Nat.reduceAdd, Nat.reduceSub, Nat.reduceMul, nm_bo, nm_bi, nm_rc, nm_ic, nm_ri, nm_rl, nm_rq, nm_ql, nm_qi, nm_li, nm_us, nm_uu, nm_cp, nm_sa31, nm_sa7, nm_m127, nm_m2, nm_nz, nm_nzk, nm_eq32, nm_nzf, if_true, if_false, ↓reduceIte, if_pos, if_neg]
        · simp (disch := (first | assumption | decide | omega)) only [dF_X16_end_37, df_X16_end_87, q16, a2, kp, be, eq_self, Nat.reduceEqDiff, Nat.reduceLeDiff, nl_0, nl_1, nl_2, nl_3, nl_4, nl_5, nl_6, nl_7, nl_8, nl_16, no_1, no_1024, pk_mul, nI_add, nm_ck, nI_clamp, nI_ltI, nI_leI, nI_eq, nb_b2, nb_b1, ↓nb_let, nm_z0, nm_z1, nb_II, nb_IR, nb_RI, nb_RR, nm_IL, nm_IQ, nm_RL, nm_RQ, nm_LI, nm_LR, nm_LL, nm_LQ, nm_QI, nm_QR, nm_QL, nm_QQ, nm_rr, nm_ii, nm_eqm, not_false_eq_true, pk_sub, nm_div, nm_shl, nm_shr, nm_ush, nm_or8, nm_or64, nm_or256, nm_m1, nm_m3, nm_m7, nm_m15, nm_m31, nm_m63, nm_m255, nm_m511, nm_m1023, nm_m2047, nm_m65535, Nat.reduceMod, Nat.reducePow, Nat.reduceAdd, Nat.reduceSub, Nat.reduceMul, nm_bo, nm_bi, nm_rc, nm_ic, nm_ri, nm_rl, nm_rq, nm_ql, nm_qi, nm_li, nm_us, nm_uu, nm_cp, nm_sa31, nm_sa7, nm_m127, nm_m2, nm_nz, nm_nzk, nm_eq32, nm_nzf, if_true, if_false, ↓reduceIte, if_pos, if_neg]
        · exact rP1_bg (fun i hi => ab_i hi) hq (a19 (Or.inr rfl)).1
        · exact agX_t (X' := (pR t.1 2 (upd (sR t.1 2) q (-nI 1)), t.2)) ⟨⟨rfl, nm_un hr, rfl, rfl, rfl, rfl, rfl, rfl⟩, fun _ _ => rfl, rfl, fun _ _ => rfl, rfl, fun _ _ => rfl, fun _ _ => rfl, fun _ _ => Iff.rfl, rfl⟩ (agX_bg hr)
        · refine fX_t (Y := (pR t.1 2 (upd (sR t.1 2) q (-nI 1)), t.2)) ⟨rfl, fun _ => rfl, fun _ => rfl, fun i hi => ?_⟩ (fX_bg d16)
          show sR (pR t.1 2 _) i = _
          rw [nb_RR, if_neg (by omega)]
        · rw [bg_r1, nm_us, a2]
          decide
        · rw [a2] at z
          exact absurd z (by decide)
      · refine ⟨(pR s.1 6 (upd (sR s.1 6) (q * 7 + 1) (-nI 1)), s.2), (pR t.1 2 (upd (sR t.1 2) q (-nI 1)), t.2), fun g => ⟨?_, ?_⟩, ?_, fun r hr => ⟨⟨fun i hi => nm_un (by omega), fun _ _ => rfl, fun _ _ => rfl, fun _ _ => rfl, rfl⟩, ⟨⟨rfl, nm_un hr, rfl, rfl, rfl, rfl, rfl, rfl⟩, fun _ _ => rfl, rfl, fun _ _ => rfl, rfl, fun _ _ => rfl, fun _ _ => rfl, fun _ _ => Iff.rfl, rfl⟩⟩, ⟨_, rfl⟩, ⟨rfl, fun _ => rfl, fun _ => rfl, fun i hi => ?_⟩, Iff.rfl, id⟩
        · simp (disch := (first | assumption | decide | omega)) only [dF_X6_finish_30, df_X6_finish_88, df_X6_status_0, df_X6_status, q16, Nat.add_zero, a1, a3, k0, k3, eq_self, Nat.reduceEqDiff, Nat.reduceLeDiff, nl_0, nl_1, nl_2, nl_3, nl_6, nl_7, nl_16, nl_112, nl_255, no_1, no_1024, pk_mul, nI_add, nm_ck, nI_clamp, nI_ltI, nI_leI, nI_eq, nb_b2, nb_b1, ↓nb_let, nm_z0, nm_z1, nb_II, nb_IR, nb_RI, nb_RR, nm_IL, nm_IQ, nm_RL, nm_RQ, nm_LI, nm_LR, nm_LL, nm_LQ, nm_QI, nm_QR, nm_QL, nm_QQ, nm_rr, nm_ii, nm_eqm, not_false_eq_true, pk_sub, nm_div, nm_shl, nm_shr, nm_ush, nm_or8, nm_or64, nm_or256, nm_m1, nm_m3, nm_m7, nm_m15, nm_m31, nm_m63, nm_m255, nm_m511, nm_m1023, nm_m2047, nm_m65535, Nat.reduceMod, Nat.reducePow, Nat.reduceAdd, Nat.reduceSub, Nat.reduceMul, nm_bo, nm_bi, nm_rc, nm_ic, nm_ri, nm_rl, nm_rq, nm_ql, nm_qi, nm_li, nm_us, nm_uu, nm_cp, nm_sa31, nm_sa7, nm_m127, nm_m2, nm_nz, nm_nzk, nm_eq32, nm_nzf, if_true, if_false, ↓reduceIte, if_pos, if_neg]
        · simp (disch := (first | assumption | decide | omega)) only [dF_X16_end_37, df_X16_end_87, q16, a2, kp, k0, k3, eq_self, Nat.reduceEqDiff, Nat.reduceLeDiff, nl_0, nl_1, nl_2, nl_3, nl_4, nl_5, nl_6, nl_7, nl_8, nl_16, no_1, no_1024, pk_mul, nI_add, nm_ck, nI_clamp, nI_ltI, nI_leI, nI_eq, nb_b2, nb_b1, ↓nb_let, nm_z0, nm_z1, nb_II, nb_IR, nb_RI, nb_RR, nm_IL, nm_IQ, nm_RL, nm_RQ, nm_LI, nm_LR, nm_LL, nm_LQ, nm_QI, nm_QR, nm_QL, nm_QQ, nm_rr, nm_ii, nm_eqm, not_false_eq_true, pk_sub, nm_div, nm_shl, nm_shr, nm_ush, nm_or8, nm_or64, nm_or256, nm_m1, nm_m3, nm_m7, nm_m15, nm_m31, nm_m63, nm_m255, nm_m511, nm_m1023, nm_m2047, nm_m65535, Nat.reduceMod, Nat.reducePow, Nat.reduceAdd, Nat.reduceSub, Nat.reduceMul, nm_bo, nm_bi, nm_rc, nm_ic, nm_ri, nm_rl, nm_rq, nm_ql, nm_qi, nm_li, nm_us, nm_uu, nm_cp, nm_sa31, nm_sa7, nm_m127, nm_m2, nm_nz, nm_nzk, nm_eq32, nm_nzf, if_true, if_false, ↓reduceIte, if_pos, if_neg]
        · refine ⟨k, c, w, b, e, hk, hc, hw, hb, he, (nm_un (by omega)).trans a1, a2, nm_us.trans nm_us.symm, Or.inl nm_us, ?_, fun z => absurd z k3, fun z => (nm_un (by omega)).trans (a7 z), (nm_un (by omega)).trans a8, a9, (nm_un (by omega)).trans a10, a11, (nm_un (by omega)).trans a12, a13, (nm_un (by omega)).trans a14, a15, a16, a17, a18, a19, a20, a21⟩
          show ¬ upd _ q _ q = _
          rw [nm_us]
          exact fun z => nk_ne (by omega) z.symm
        · show sR (pR t.1 2 _) i = _
          rw [nb_RR, if_neg (by omega)]
    · have a3' : ¬ sR s.1 6 (q * 7 + 1) = nI p := fun z => kp (a3.symm.trans z)
      refine ⟨s, t, fun g => ⟨?_, ?_⟩, h0, fun r _ => ⟨agM_r s r, agX_r t r⟩, ⟨sR s.1 6, by rw [nm_r0]⟩, fX_r t, Iff.rfl, id⟩
      · simp (disch := (first | assumption | decide | omega)) only [dF_X6_finish_30, df_X6_finish_88, df_X6_status_0, df_X6_status, q16, Nat.add_zero, a1, a3', k0, eq_self, Nat.reduceEqDiff, Nat.reduceLeDiff, nl_0, nl_1, nl_2, nl_3, nl_6, nl_7, nl_16, nl_112, nl_255, no_1, no_1024, pk_mul, nI_add, nm_ck, nI_clamp, nI_ltI, nI_leI, nI_eq, nb_b2, nb_b1, ↓nb_let, nm_z0, nm_z1, nb_II, nb_IR, nb_RI, nb_RR, nm_IL, nm_IQ, nm_RL, nm_RQ, nm_LI, nm_LR, nm_LL, nm_LQ, nm_QI, nm_QR, nm_QL, nm_QQ, nm_rr, nm_ii, nm_eqm, not_false_eq_true, pk_sub, nm_div, nm_shl, nm_shr, nm_ush, nm_or8, nm_or64, nm_or256, nm_m1, nm_m3, nm_m7, nm_m15, nm_m31, nm_m63, nm_m255, nm_m511, nm_m1023, nm_m2047, nm_m65535, Nat.reduceMod, Nat.reducePow, Nat.reduceAdd, Nat.reduceSub, Nat.reduceMul, nm_bo, nm_bi, nm_rc, nm_ic, nm_ri, nm_rl, nm_rq, nm_ql, nm_qi, nm_li, nm_us, nm_uu, nm_cp, nm_sa31, nm_sa7, nm_m127, nm_m2, nm_nz, nm_nzk, nm_eq32, nm_nzf, if_true, if_false, ↓reduceIte, if_pos, if_neg]
      · simp (disch := (first | assumption | decide | omega)) only [dF_X16_end_37, df_X16_end_87, q16, a2, kp, k0, eq_self, Nat.reduceEqDiff, Nat.reduceLeDiff, nl_0, nl_1, nl_2, nl_3, nl_4, nl_5, nl_6, nl_7, nl_8, nl_16, no_1, no_1024, pk_mul, nI_add, nm_ck, nI_clamp, nI_ltI, nI_leI, nI_eq, nb_b2, nb_b1, ↓nb_let, nm_z0, nm_z1, nb_II, nb_IR, nb_RI, nb_RR, nm_IL, nm_IQ, nm_RL, nm_RQ, nm_LI, nm_LR, nm_LL, nm_LQ, nm_QI, nm_QR, nm_QL, nm_QQ, nm_rr, nm_ii, nm_eqm, not_false_eq_true, pk_sub, nm_div, nm_shl, nm_shr, nm_ush, nm_or8, nm_or64, nm_or256, nm_m1, nm_m3, nm_m7, nm_m15, nm_m31, nm_m63, nm_m255, nm_m511, nm_m1023, nm_m2047, nm_m65535, Nat.reduceMod, Nat.reducePow, Nat.reduceAdd, Nat.reduceSub, Nat.reduceMul, nm_bo, nm_bi, nm_rc, nm_ic, nm_ri, nm_rl, nm_rq, nm_ql, nm_qi, nm_li, nm_us, nm_uu, nm_cp, nm_sa31, nm_sa7, nm_m127, nm_m2, nm_nz, nm_nzk, nm_eq32, nm_nzf, if_true, if_false, ↓reduceIte, if_pos, if_neg]

/-- the process itself -/
theorem fin_e (n : Nat) (hn : 1024 < n) {s t : St × St} {p c : Nat} (hp : p < 16) (hc : c < 256) (h : rP1 s t p) (h1 : sR t.1 1 p = nI 1) (hf : ∀ k : Nat, k < 64 → sR t.1 16 (64 * p + k) = -nI 1) (hd : ∀ d : Nat, d < 16 → sR t.1 14 (p * 16 + d) = -nI 1) : ∃ s' t' : St × St, (∀ g : Int32 → Int32 → Int32 → St × St → Option (St × St), dF_X6_finish_30 n g (nI p) (nI c) (nI 16) s = some s' ∧ dF_X16_end_37 n g (nI p) (nI c) (nI 16) t = some t') ∧ rP1 s' t' p ∧ (∀ r : Nat, r ≠ p → agM s s' r ∧ agX t t' r) ∧ (∃ sf : Nat → Int32, s' = (pR s.1 6 sf, s.2)) ∧ fX t t' ∧ (sR t'.1 1 p = nI 0 ∨ sR t'.1 1 p = nI 3) := by
  obtain ⟨k, cc, w, b, e, hk, hcc, hw, hb, he, a1, a2, a3, a4, a5, a6, a7, a8, a9, a10, a11, a12, a13, a14, a15, a16, a17, a18, a19, a20, a21⟩ := h
  have k1 : k = 1 := nm_inI (by omega) (by omega) (a2.symm.trans h1)
  subst k1
  have u1 : p * 7 < 112 := by omega
  have u2 : p * 7 + 1 < 112 := by omega
  have u3 : p < 2 ^ 31 := by omega
  have u4 : p * 7 + 2 < 112 := by omega
  have u5 : p * 7 < 2 ^ 31 := by omega
  have u6 : p * 7 + 1 < 2 ^ 31 := by omega
  have u7 : p * 7 + 2 < 2 ^ 31 := by omega
  have u8 : c % 256 = c := by omega
  have mk := nk_makeAbsent n hn s hp
  have fx1 : fX t (pR (pR (pR (pR (pR (pR (pR t.1 1 (upd (sR t.1 1) p (nI 3))) 3 (upd (sR t.1 3) p (nI c))) 4 (upd (sR t.1 4) p (nI 0))) 5 (upd (sR t.1 5) p (nI 0))) 6 (upd (sR t.1 6) p (nI 0))) 7 (upd (sR t.1 7) p (-nI 1))) 8 (upd (sR t.1 8) p (nI 0)), t.2) := by
    refine ⟨rfl, fun _ => rfl, fun _ => rfl, fun i hi => ?_⟩
    simp (disch := omega) only [nm_RQ, nb_RR, if_neg]
  have ag1 : ∀ r : Nat, r ≠ p → agX t (pR (pR (pR (pR (pR (pR (pR t.1 1 (upd (sR t.1 1) p (nI 3))) 3 (upd (sR t.1 3) p (nI c))) 4 (upd (sR t.1 4) p (nI 0))) 5 (upd (sR t.1 5) p (nI 0))) 6 (upd (sR t.1 6) p (nI 0))) 7 (upd (sR t.1 7) p (-nI 1))) 8 (upd (sR t.1 8) p (nI 0)), t.2) r := fun r hr => ⟨⟨nm_un hr, rfl, nm_un hr, nm_un hr, nm_un hr, nm_un hr, nm_un hr, nm_un hr⟩, fun _ _ => rfl, rfl, fun _ _ => rfl, rfl, fun _ _ => rfl, fun _ _ => rfl, fun _ _ => Iff.rfl, rfl⟩
  rcases a4 with z | ⟨a, ha, z⟩
  · have a3' := a3.trans z
    have be := nk_begin n hn (pR (pR (pR (pR (pR (pR (pR t.1 1 (upd (sR t.1 1) p (nI 3))) 3 (upd (sR t.1 3) p (nI c))) 4 (upd (sR t.1 4) p (nI 0))) 5 (upd (sR t.1 5) p (nI 0))) 6 (upd (sR t.1 6) p (nI 0))) 7 (upd (sR t.1 7) p (-nI 1))) 8 (upd (sR t.1 8) p (nI 0)), t.2) hp
    refine ⟨(pR s.1 6 (ab (sR s.1 6) p 7), s.2), bg _ p 32 16, fun g => ⟨?_, ?_⟩, ?_, fun r hr => ⟨⟨fun i hi => ab_o (by omega), fun _ _ => rfl, fun _ _ => rfl, fun _ _ => rfl, rfl⟩, agX_t (ag1 r hr) (agX_bg hr)⟩, ⟨_, rfl⟩, fX_t fx1 (fX_bg (fun d hd' => ?_)), Or.inl (by rw [bg_r1, nm_us])⟩
    · simp (disch := (first | assumption | decide | omega)) only [dF_X6_finish_30, df_X6_finish_155, a3', mk, nm_ltm, eq_self, Nat.reduceEqDiff, Nat.reduceLeDiff, nl_0, nl_1, nl_2, nl_3, nl_6, nl_7, nl_16, nl_112, nl_255, no_1, no_1024, pk_mul, nI_add, nm_ck, nI_clamp, nI_ltI, nI_leI, nI_eq, nb_b2, nb_b1, ↓nb_let, nm_z0, nm_z1, nb_II, nb_IR, nb_RI, nb_RR, nm_IL, nm_IQ, nm_RL, nm_RQ, nm_LI, nm_LR, nm_LL, nm_LQ, nm_QI, nm_QR, nm_QL, nm_QQ, nm_rr, nm_ii, nm_eqm, not_false_eq_true, pk_sub, nm_div, nm_shl, nm_shr, nm_ush, nm_or8, nm_or64, nm_or256, nm_m1, nm_m3, nm_m7, nm_m15, nm_m31, nm_m63, nm_m255, nm_m511, nm_m1023, nm_m2047, nm_m65535, Nat.reduceMod, Nat.reducePow, Nat.reduceAdd, Nat.reduceSub, Nat.reduceMul, nm_bo, nm_bi, nm_rc, nm_ic, nm_ri, nm_rl, nm_rq, nm_ql, nm_qi, nm_li, nm_us, nm_uu, nm_cp, nm_sa31, nm_sa7, nm_m127, nm_m2, nm_nz, nm_nzk, nm_eq32, nm_nzf, if_true, if_false, ↓reduceIte, if_pos, if_neg]
    · refine Eq.trans ?_ be
      simp (disch := (first | assumption | decide | omega)) only [dF_X16_end_37, df_X16_end_157, z, eq_self, Nat.reduceEqDiff, Nat.reduceLeDiff, nm_rc (a := 3) (b := 1) (by decide), nm_rc (a := 4) (b := 1) (by decide), nm_rc (a := 4) (b := 3) (by decide), nm_rc (a := 5) (b := 1) (by decide), nm_rc (a := 5) (b := 3) (by decide), nm_rc (a := 5) (b := 4) (by decide), nm_rc (a := 6) (b := 1) (by decide), nm_rc (a := 6) (b := 3) (by decide), nm_rc (a := 6) (b := 4) (by decide), nm_rc (a := 6) (b := 5) (by decide), nm_rc (a := 7) (b := 1) (by decide), nm_rc (a := 7) (b := 3) (by decide), nm_rc (a := 7) (b := 4) (by decide), nm_rc (a := 7) (b := 5) (by decide), nm_rc (a := 7) (b := 6) (by decide), nm_rc (a := 8) (b := 1) (by decide), nm_rc (a := 8) (b := 3) (by decide), nm_rc (a := 8) (b := 4) (by decide), nm_rc (a := 8) (b := 5) (by decide), nm_rc (a := 8) (b := 6) (by decide), nm_rc (a := 8) (b := 7) (by decide), nl_0, nl_1, nl_2, nl_3, nl_4, nl_5, nl_6, nl_7, nl_8, nl_16, no_1, no_1024, pk_mul, nI_add, nm_ck, nI_clamp, nI_ltI, nI_leI, nI_eq, nb_b2, nb_b1, ↓nb_let, nm_z0, nm_z1, nb_II, nb_IR, nb_RI, nb_RR, nm_IL, nm_IQ, nm_RL, nm_RQ, nm_LI, nm_LR, nm_LL, nm_LQ, nm_QI, nm_QR, nm_QL, nm_QQ, nm_rr, nm_ii, nm_eqm, not_false_eq_true, pk_sub, nm_div, nm_shl, nm_shr, nm_ush, nm_or8, nm_or64, nm_or256, nm_m1, nm_m3, nm_m7, nm_m15, nm_m31, nm_m63, nm_m255, nm_m511, nm_m1023, nm_m2047, nm_m65535, Nat.reduceMod, Nat.reducePow, Nat.reduceAdd, Nat.reduceSub, Nat.reduceMul, nm_bo, nm_bi, nm_rc, nm_ic, nm_ri, nm_rl, nm_rq, nm_ql, nm_qi, nm_li, nm_us, nm_uu, nm_cp, nm_sa31, nm_sa7, nm_m127, nm_m2, nm_nz, nm_nzk, nm_eq32, nm_nzf, if_true, if_false, ↓reduceIte, if_pos, if_neg]
      rw [be]
      rfl
    · exact rP1_bg (fun i hi => ab_i hi) hp hf
    · rw [Nat.mul_comm 16 p]
      exact hd d hd'
  · have a3' := a3.trans z
    have a0 : ¬ a < 0 := by omega
    have u9 : a < 2 ^ 31 := by omega
    refine ⟨(pR s.1 6 (upd (upd (upd (ab (sR s.1 6) p 7) (p * 7) (nI 3)) (p * 7 + 1) (nI a)) (p * 7 + 2) (nI c)), s.2), _, fun g => ⟨?_, ?_⟩, ?_, fun r hr => ⟨⟨fun i hi => ?_, fun _ _ => rfl, fun _ _ => rfl, fun _ _ => rfl, rfl⟩, ag1 r hr⟩, ⟨_, rfl⟩, fx1, Or.inr nm_us⟩
    · simp (disch := (first | assumption | decide | omega)) only [dF_X6_finish_30, df_X6_finish_155, a3', mk, a0, Nat.add_zero, u8, eq_self, Nat.reduceEqDiff, Nat.reduceLeDiff, nl_0, nl_1, nl_2, nl_3, nl_6, nl_7, nl_16, nl_112, nl_255, no_1, no_1024, pk_mul, nI_add, nm_ck, nI_clamp, nI_ltI, nI_leI, nI_eq, nb_b2, nb_b1, ↓nb_let, nm_z0, nm_z1, nb_II, nb_IR, nb_RI, nb_RR, nm_IL, nm_IQ, nm_RL, nm_RQ, nm_LI, nm_LR, nm_LL, nm_LQ, nm_QI, nm_QR, nm_QL, nm_QQ, nm_rr, nm_ii, nm_eqm, not_false_eq_true, pk_sub, nm_div, nm_shl, nm_shr, nm_ush, nm_or8, nm_or64, nm_or256, nm_m1, nm_m3, nm_m7, nm_m15, nm_m31, nm_m63, nm_m255, nm_m511, nm_m1023, nm_m2047, nm_m65535, Nat.reduceMod, Nat.reducePow, Nat.reduceAdd, Nat.reduceSub, Nat.reduceMul, nm_bo, nm_bi, nm_rc, nm_ic, nm_ri, nm_rl, nm_rq, nm_ql, nm_qi, nm_li, nm_us, nm_uu, nm_cp, nm_sa31, nm_sa7, nm_m127, nm_m2, nm_nz, nm_nzk, nm_eq32, nm_nzf, if_true, if_false, ↓reduceIte, if_pos, if_neg]
    · simp (disch := (first | assumption | decide | omega)) only [dF_X16_end_37, df_X16_end_157, z, eq_self, Nat.reduceEqDiff, Nat.reduceLeDiff, nm_rc (a := 3) (b := 1) (by decide), nm_rc (a := 4) (b := 1) (by decide), nm_rc (a := 4) (b := 3) (by decide), nm_rc (a := 5) (b := 1) (by decide), nm_rc (a := 5) (b := 3) (by decide), nm_rc (a := 5) (b := 4) (by decide), nm_rc (a := 6) (b := 1) (by decide), nm_rc (a := 6) (b := 3) (by decide), nm_rc (a := 6) (b := 4) (by decide), nm_rc (a := 6) (b := 5) (by decide), nm_rc (a := 7) (b := 1) (by decide), nm_rc (a := 7) (b := 3) (by decide), nm_rc (a := 7) (b := 4) (by decide), nm_rc (a := 7) (b := 5) (by decide), nm_rc (a := 7) (b := 6) (by decide), nm_rc (a := 8) (b := 1) (by decide), nm_rc (a := 8) (b := 3) (by decide), nm_rc (a := 8) (b := 4) (by decide), nm_rc (a := 8) (b := 5) (by decide), nm_rc (a := 8) (b := 6) (by decide), nm_rc (a := 8) (b := 7) (by decide), nl_0, nl_1, nl_2, nl_3, nl_4, nl_5, nl_6, nl_7, nl_8, nl_16, no_1, no_1024, pk_mul, nI_add, nm_ck, nI_clamp, nI_ltI, nI_leI, nI_eq, nb_b2, nb_b1, ↓nb_let, nm_z0, nm_z1, nb_II, nb_IR, nb_RI, nb_RR, nm_IL, nm_IQ, nm_RL, nm_RQ, nm_LI, nm_LR, nm_LL, nm_LQ, nm_QI, nm_QR, nm_QL, nm_QQ, nm_rr, nm_ii, nm_eqm, not_false_eq_true, pk_sub, nm_div, nm_shl, nm_shr, nm_ush, nm_or8, nm_or64, nm_or256, nm_m1, nm_m3, nm_m7, nm_m15, nm_m31, nm_m63, nm_m255, nm_m511, nm_m1023, nm_m2047, nm_m65535, Nat.reduceMod, Nat.reducePow, Nat.reduceAdd, Nat.reduceSub, Nat.reduceMul, nm_bo, nm_bi, nm_rc, nm_ic, nm_ri, nm_rl, nm_rq, nm_ql, nm_qi, nm_li, nm_us, nm_uu, nm_cp, nm_sa31, nm_sa7, nm_m127, nm_m2, nm_nz, nm_nzk, nm_eq32, nm_nzf, if_true, if_false, ↓reduceIte, if_pos, if_neg]
    · have e := fun (i : Nat) (hi : i < 7) (h1 : 2 < i) => show upd (upd (upd (ab (sR s.1 6) p 7) (p * 7) (nI 3)) (p * 7 + 1) (nI a)) (p * 7 + 2) (nI c) (p * 7 + i) = nI 0 from by rw [nm_un (by omega), nm_un (by omega), nm_un (by omega), ab_i hi, if_neg (by omega)]
      refine ⟨3, 0, 0, 0, 0, by omega, by omega, by omega, by omega, by omega, ?_, nm_us, ?_, Or.inr ⟨a, ha, z⟩, a5, fun _ => ⟨c, hc, nm_us, nm_us⟩, fun y => absurd rfl y, e 3 (by omega) (by omega), nm_us, e 4 (by omega) (by omega), nm_us, e 5 (by omega) (by omega), nm_us, e 6 (by omega) (by omega), nm_us, fun k hk _ => hf k (by omega), fun _ => a17 (by omega), fun y => by omega, fun _ => ⟨hf, hd⟩, fun y => absurd y (by omega), fun _ => nm_us⟩
      · show upd _ _ _ (p * 7) = _
        rw [nm_un (by omega), nm_un (by omega), nm_us]
      · show upd _ _ _ (p * 7 + 1) = _
        rw [nm_un (by omega), nm_us]
        exact z.symm
    · show upd _ _ _ (r * 7 + i) = _
      rw [nm_un (by omega), nm_un (by omega), nm_un (by omega), ab_o (by omega)]
/-- what fX leaves of the relation -/
theorem rM_fX {B : Nat} {M X t : St × St} {sf : Nat → Int32} (hf : fX X t) (h1 : rK M X) (h2 : rDD M X) (h5 : rG M X) (h6 : rA M X) (h7 : rTT B M X) : rK (pR M.1 6 sf, M.2) t ∧ rDD (pR M.1 6 sf, M.2) t ∧ rG (pR M.1 6 sf, M.2) t ∧ rA (pR M.1 6 sf, M.2) t ∧ rTT B (pR M.1 6 sf, M.2) t ∧ kX X t ∧ kM M (pR M.1 6 sf, M.2) := by
  obtain ⟨f0, f1, f2, f3⟩ := hf
  refine ⟨?_, ?_, ?_, ?_, ?_, ⟨f0, f1 0, f1 12, f1 13, f1 14, f1 15, f1 16⟩, rfl⟩
  · unfold rK
    rw [f3 15 (by omega), f3 16 (by omega), f3 17 (by omega), f3 18 (by omega), f1 6]
    exact h1
  · unfold rDD
    rw [f3 14 (by omega), f3 19 (by omega), f3 20 (by omega), f3 21 (by omega), f3 22 (by omega), f3 23 (by omega), f3 24 (by omega), f3 25 (by omega)]
    exact h2
  · unfold rG
    rw [f1 1, f1 2, f1 3, f1 4, f2 1, f2 0]
    exact h5
  · unfold rA
    rw [f1 5, f3 0 (by omega)]
    exact h6
  · unfold rTT
    rw [f3 23 (by omega), f3 24 (by omega), f3 25 (by omega), f3 26 (by omega), f3 27 (by omega), f3 28 (by omega), f3 29 (by omega), f3 30 (by omega), f3 31 (by omega), f3 32 (by omega), f1 7, f2 2]
    exact h7
theorem rD_p {l op pi fi de kd th po rt ip isf nam : Nat → Int32} (h : rD l op pi fi de kd th po rt ip isf nam) {de' kd' : Nat → Int32} {k : Nat} (hk : k < 8) (e : pcw (gp kd' th ip) ip 8 k = nI 1) : ip k = nI 1 := by
  rw [pcw_y _ _ hk] at e
  unfold gp at e
  by_cases c : ip k = nI 0
  · rw [if_pos c] at e
    exact absurd e (by decide)
  · have := (h.2.2.1 k hk).2.2
    by_cases d : 0 < cE kd th 1 k + cE kd th 2 k
    · rw [this, decide_eq_true d]; rfl
    · rw [decide_eq_false d] at this
      exact absurd this c
theorem rD_f {l op pi fi de kd th po rt ip isf nam : Nat → Int32} (h : rD l op pi fi de kd th po rt ip isf nam) {kd' : Nat → Int32} {k : Nat} (hk : k < 16) (e : pcw (gf kd' th isf nam) isf 16 k = nI 1) : isf k = nI 1 := by
  rw [pcw_y _ _ hk] at e
  unfold gf at e
  by_cases c : isf k = nI 0
  · rw [if_pos c] at e
    exact absurd e (by decide)
  · have := (h.2.2.2 k hk).2.2.2
    by_cases d : nam k = nI 1 ∨ 0 < cE kd th 3 k
    · rw [this, decide_eq_true d]; rfl
    · rw [decide_eq_false d] at this
      exact absurd this c
/-- what lies there, when ends go -/
theorem rT_go {B : Nat} {pi pd fi fd nm ty sh : Nat → Int32} {tb : Int32} {sa : Int64} {ip isf nam pl pb le fb ns tp sw : Nat → Int32} {tn : Int32} {sn : Int64} (h : rT B pi pd fi fd nm ty sh tb sa ip isf nam pl pb le fb ns tp sw tn sn) {pi' fi' ip' isf' : Nat → Int32} (hk : kpL pi fi pi' fi') (hp : ∀ k : Nat, k < 8 → ip' k = nI 1 → ip k = nI 1) (hf : ∀ k : Nat, k < 16 → isf' k = nI 1 → isf k = nI 1) : rT B pi' pd fi' fd nm ty sh tb sa ip' isf' nam pl pb le fb ns tp sw tn sn := by
  obtain ⟨h1, h2, h3⟩ := h
  refine ⟨fun k hk8 e => ?_, fun k hk16 e => ?_, h3⟩
  · rw [(hk.1 k hk8).1, (hk.1 k hk8).2]
    exact h1 k hk8 (hp k hk8 e)
  · rw [hk.2 k hk16]
    exact h2 k hk16 (hf k hk16 e)
/-- a process ends, in both -/
theorem nk_finish (n : Nat) (hn : 1024 < n) {B : Nat} {M X : St × St} (h : rM B M X) {p c : Nat} (hp : p < 16) (hc : c < 256) (h1 : sR X.1 1 p = nI 1) : ∃ M' X' : St × St, df_X6_finish n (nI p) (nI c) M = some M' ∧ df_X16_end n (nI p) (nI c) X = some X' ∧ rM B M' X' ∧ kX X X' ∧ kM M M' := by
  obtain ⟨m1, m2, m3, m4, m5, m6, m7⟩ := h
  obtain ⟨l, op, pi, fi, hr, ef⟩ := fin_1 n hn m2 hp (nI c)
  have ee := end_1 n hn X hp (nI c)
  rw [nk_sweep n hn] at ee
  obtain ⟨u, g, fu, fr, ho, us, e1, e2, e3, e4, e5⟩ := nk_leaveAll n (by omega) (M := (M.1, dU M.2 l op pi fi)) (X := (pR (pR (pR (pR X.1 14 (fl (sR X.1 14) (p * 16) 16 (-nI 1))) 19 (pcw (gk (fl (sR X.1 14) (p * 16) 16 (-nI 1)) (sR X.1 19)) (sR X.1 19) 48)) 23 (pcw (gp (pcw (gk (fl (sR X.1 14) (p * 16) 16 (-nI 1)) (sR X.1 19)) (sR X.1 19) 48) (sR X.1 20) (sR X.1 23)) (sR X.1 23) 8)) 24 (pcw (gf (pcw (gk (fl (sR X.1 14) (p * 16) 16 (-nI 1)) (sR X.1 19)) (sR X.1 19) 48) (sR X.1 20) (sR X.1 24) (sR X.1 25)) (sR X.1 24) 16), X.2)) m1 hp
  rw [e1, nb_b1] at ef
  have ee : df_X16_end n (nI p) (nI c) X = nd_b1 (df_X16_leaveAll n (nI p) (pR (pR (pR (pR X.1 14 (fl (sR X.1 14) (p * 16) 16 (-nI 1))) 19 (pcw (gk (fl (sR X.1 14) (p * 16) 16 (-nI 1)) (sR X.1 19)) (sR X.1 19) 48)) 23 (pcw (gp (pcw (gk (fl (sR X.1 14) (p * 16) 16 (-nI 1)) (sR X.1 19)) (sR X.1 19) 48) (sR X.1 20) (sR X.1 23)) (sR X.1 23) 8)) 24 (pcw (gf (pcw (gk (fl (sR X.1 14) (p * 16) 16 (-nI 1)) (sR X.1 19)) (sR X.1 19) 48) (sR X.1 20) (sR X.1 24) (sR X.1 25)) (sR X.1 24) 16), X.2)) (fun s => df_X16_end_37 n n (nI p) (nI c) (nI 0) s) := ee
  rw [e2, nb_b1] at ee
  have ee : df_X16_end n (nI p) (nI c) X = df_X16_end_37 n n (nI p) (nI c) (nI 0) (xU (pR (pR (pR (pR X.1 14 (fl (sR X.1 14) (p * 16) 16 (-nI 1))) 19 (pcw (gk (fl (sR X.1 14) (p * 16) 16 (-nI 1)) (sR X.1 19)) (sR X.1 19) 48)) 23 (pcw (gp (pcw (gk (fl (sR X.1 14) (p * 16) 16 (-nI 1)) (sR X.1 19)) (sR X.1 19) 48) (sR X.1 20) (sR X.1 23)) (sR X.1 23) 8)) 24 (pcw (gf (pcw (gk (fl (sR X.1 14) (p * 16) 16 (-nI 1)) (sR X.1 19)) (sR X.1 19) 48) (sR X.1 20) (sR X.1 24) (sR X.1 25)) (sR X.1 24) 16), X.2) (sR X.1 15) fr (sR X.1 17) ho us) := ee
  -- the two machines without the process's pages and descriptors
  have n2 : rDD (mU (M.1, dU M.2 l op pi fi) (sR M.1 0) u g fu) (xU (pR (pR (pR (pR X.1 14 (fl (sR X.1 14) (p * 16) 16 (-nI 1))) 19 (pcw (gk (fl (sR X.1 14) (p * 16) 16 (-nI 1)) (sR X.1 19)) (sR X.1 19) 48)) 23 (pcw (gp (pcw (gk (fl (sR X.1 14) (p * 16) 16 (-nI 1)) (sR X.1 19)) (sR X.1 19) 48) (sR X.1 20) (sR X.1 23)) (sR X.1 23) 8)) 24 (pcw (gf (pcw (gk (fl (sR X.1 14) (p * 16) 16 (-nI 1)) (sR X.1 19)) (sR X.1 19) 48) (sR X.1 20) (sR X.1 24) (sR X.1 25)) (sR X.1 24) 16), X.2) (sR X.1 15) fr (sR X.1 17) ho us) := hr.2
  have n7 : rTT B (mU (M.1, dU M.2 l op pi fi) (sR M.1 0) u g fu) (xU (pR (pR (pR (pR X.1 14 (fl (sR X.1 14) (p * 16) 16 (-nI 1))) 19 (pcw (gk (fl (sR X.1 14) (p * 16) 16 (-nI 1)) (sR X.1 19)) (sR X.1 19) 48)) 23 (pcw (gp (pcw (gk (fl (sR X.1 14) (p * 16) 16 (-nI 1)) (sR X.1 19)) (sR X.1 19) 48) (sR X.1 20) (sR X.1 23)) (sR X.1 23) 8)) 24 (pcw (gf (pcw (gk (fl (sR X.1 14) (p * 16) 16 (-nI 1)) (sR X.1 19)) (sR X.1 19) 48) (sR X.1 20) (sR X.1 24) (sR X.1 25)) (sR X.1 24) 16), X.2) (sR X.1 15) fr (sR X.1 17) ho us) := rT_go m7 hr.1 (fun k hk e => rD_p m2 (de' := sR X.1 14) hk e) (fun k hk e => rD_f m2 hk e)
  have n3 : ∀ q : Nat, q < 16 → rP1 (mU (M.1, dU M.2 l op pi fi) (sR M.1 0) u g fu) (xU (pR (pR (pR (pR X.1 14 (fl (sR X.1 14) (p * 16) 16 (-nI 1))) 19 (pcw (gk (fl (sR X.1 14) (p * 16) 16 (-nI 1)) (sR X.1 19)) (sR X.1 19) 48)) 23 (pcw (gp (pcw (gk (fl (sR X.1 14) (p * 16) 16 (-nI 1)) (sR X.1 19)) (sR X.1 19) 48) (sR X.1 20) (sR X.1 23)) (sR X.1 23) 8)) 24 (pcw (gf (pcw (gk (fl (sR X.1 14) (p * 16) 16 (-nI 1)) (sR X.1 19)) (sR X.1 19) 48) (sR X.1 20) (sR X.1 24) (sR X.1 25)) (sR X.1 24) 16), X.2) (sR X.1 15) fr (sR X.1 17) ho us) q := fun q hq => by
    by_cases cq : q = p
    · subst cq
      obtain ⟨k, cc, w, b, e, hk, hcc, hw, hb, he, a1, a2, a3, a4, a5, a6, a7, a8, a9, a10, a11, a12, a13, a14, a15, a16, a17, a18, a19, a20, a21⟩ := m3 q hq
      have k1 : k = 1 := nm_inI (by omega) (by omega) (a2.symm.trans h1)
      exact ⟨k, cc, w, b, e, hk, hcc, hw, hb, he, a1, a2, a3, a4, a5, a6, a7, a8, a9, a10, a11, a12, a13, a14, a15, fun k hk _ => e4 k (by omega), a17, a18, fun z => by omega, fun z => by omega, a21⟩
    · refine rP1_ag (m3 q hq) ⟨fun _ _ => rfl, fun _ _ => rfl, fun _ _ => rfl, fun _ _ => rfl, rfl⟩ ⟨⟨rfl, rfl, rfl, rfl, rfl, rfl, rfl, rfl⟩, fun _ _ => rfl, rfl, fun _ _ => rfl, rfl, fun _ _ => rfl, fun i hi => fl_o (by omega), fun i hi => ?_, rfl⟩
      show fr (64 * q + i) = _ ↔ sR X.1 16 (64 * q + i) = _
      rw [e5 (64 * q + i) (by omega)]
      exact Iff.rfl
  have n5 : rG (mU (M.1, dU M.2 l op pi fi) (sR M.1 0) u g fu) (xU (pR (pR (pR (pR X.1 14 (fl (sR X.1 14) (p * 16) 16 (-nI 1))) 19 (pcw (gk (fl (sR X.1 14) (p * 16) 16 (-nI 1)) (sR X.1 19)) (sR X.1 19) 48)) 23 (pcw (gp (pcw (gk (fl (sR X.1 14) (p * 16) 16 (-nI 1)) (sR X.1 19)) (sR X.1 19) 48) (sR X.1 20) (sR X.1 23)) (sR X.1 23) 8)) 24 (pcw (gf (pcw (gk (fl (sR X.1 14) (p * 16) 16 (-nI 1)) (sR X.1 19)) (sR X.1 19) 48) (sR X.1 20) (sR X.1 24) (sR X.1 25)) (sR X.1 24) 16), X.2) (sR X.1 15) fr (sR X.1 17) ho us) := m5
  have n6 : rA (mU (M.1, dU M.2 l op pi fi) (sR M.1 0) u g fu) (xU (pR (pR (pR (pR X.1 14 (fl (sR X.1 14) (p * 16) 16 (-nI 1))) 19 (pcw (gk (fl (sR X.1 14) (p * 16) 16 (-nI 1)) (sR X.1 19)) (sR X.1 19) 48)) 23 (pcw (gp (pcw (gk (fl (sR X.1 14) (p * 16) 16 (-nI 1)) (sR X.1 19)) (sR X.1 19) 48) (sR X.1 20) (sR X.1 23)) (sR X.1 23) 8)) 24 (pcw (gf (pcw (gk (fl (sR X.1 14) (p * 16) 16 (-nI 1)) (sR X.1 19)) (sR X.1 19) 48) (sR X.1 20) (sR X.1 24) (sR X.1 25)) (sR X.1 24) 16), X.2) (sR X.1 15) fr (sR X.1 17) ho us) := m6
  have n1 : rK (mU (M.1, dU M.2 l op pi fi) (sR M.1 0) u g fu) (xU (pR (pR (pR (pR X.1 14 (fl (sR X.1 14) (p * 16) 16 (-nI 1))) 19 (pcw (gk (fl (sR X.1 14) (p * 16) 16 (-nI 1)) (sR X.1 19)) (sR X.1 19) 48)) 23 (pcw (gp (pcw (gk (fl (sR X.1 14) (p * 16) 16 (-nI 1)) (sR X.1 19)) (sR X.1 19) 48) (sR X.1 20) (sR X.1 23)) (sR X.1 23) 8)) 24 (pcw (gf (pcw (gk (fl (sR X.1 14) (p * 16) 16 (-nI 1)) (sR X.1 19)) (sR X.1 19) 48) (sR X.1 20) (sR X.1 24) (sR X.1 25)) (sR X.1 24) 16), X.2) (sR X.1 15) fr (sR X.1 17) ho us) := e3
  have n8 : ∀ k : Nat, k < 64 → fr (64 * p + k) = -nI 1 := e4
  -- the loop over the children
  have q1 : sR (xU (pR (pR (pR (pR X.1 14 (fl (sR X.1 14) (p * 16) 16 (-nI 1))) 19 (pcw (gk (fl (sR X.1 14) (p * 16) 16 (-nI 1)) (sR X.1 19)) (sR X.1 19) 48)) 23 (pcw (gp (pcw (gk (fl (sR X.1 14) (p * 16) 16 (-nI 1)) (sR X.1 19)) (sR X.1 19) 48) (sR X.1 20) (sR X.1 23)) (sR X.1 23) 8)) 24 (pcw (gf (pcw (gk (fl (sR X.1 14) (p * 16) 16 (-nI 1)) (sR X.1 19)) (sR X.1 19) 48) (sR X.1 20) (sR X.1 24) (sR X.1 25)) (sR X.1 24) 16), X.2) (sR X.1 15) fr (sR X.1 17) ho us).1 16 = fr := rfl
  have q2 : sR (xU (pR (pR (pR (pR X.1 14 (fl (sR X.1 14) (p * 16) 16 (-nI 1))) 19 (pcw (gk (fl (sR X.1 14) (p * 16) 16 (-nI 1)) (sR X.1 19)) (sR X.1 19) 48)) 23 (pcw (gp (pcw (gk (fl (sR X.1 14) (p * 16) 16 (-nI 1)) (sR X.1 19)) (sR X.1 19) 48) (sR X.1 20) (sR X.1 23)) (sR X.1 23) 8)) 24 (pcw (gf (pcw (gk (fl (sR X.1 14) (p * 16) 16 (-nI 1)) (sR X.1 19)) (sR X.1 19) 48) (sR X.1 20) (sR X.1 24) (sR X.1 25)) (sR X.1 24) 16), X.2) (sR X.1 15) fr (sR X.1 17) ho us).1 14 = fl (sR X.1 14) (p * 16) 16 (-nI 1) := rfl
  have q3 : sR (xU (pR (pR (pR (pR X.1 14 (fl (sR X.1 14) (p * 16) 16 (-nI 1))) 19 (pcw (gk (fl (sR X.1 14) (p * 16) 16 (-nI 1)) (sR X.1 19)) (sR X.1 19) 48)) 23 (pcw (gp (pcw (gk (fl (sR X.1 14) (p * 16) 16 (-nI 1)) (sR X.1 19)) (sR X.1 19) 48) (sR X.1 20) (sR X.1 23)) (sR X.1 23) 8)) 24 (pcw (gf (pcw (gk (fl (sR X.1 14) (p * 16) 16 (-nI 1)) (sR X.1 19)) (sR X.1 19) 48) (sR X.1 20) (sR X.1 24) (sR X.1 25)) (sR X.1 24) 16), X.2) (sR X.1 15) fr (sR X.1 17) ho us).1 1 = sR X.1 1 := rfl
  have q4 : kX X (xU (pR (pR (pR (pR X.1 14 (fl (sR X.1 14) (p * 16) 16 (-nI 1))) 19 (pcw (gk (fl (sR X.1 14) (p * 16) 16 (-nI 1)) (sR X.1 19)) (sR X.1 19) 48)) 23 (pcw (gp (pcw (gk (fl (sR X.1 14) (p * 16) 16 (-nI 1)) (sR X.1 19)) (sR X.1 19) 48) (sR X.1 20) (sR X.1 23)) (sR X.1 23) 8)) 24 (pcw (gf (pcw (gk (fl (sR X.1 14) (p * 16) 16 (-nI 1)) (sR X.1 19)) (sR X.1 19) 48) (sR X.1 20) (sR X.1 24) (sR X.1 25)) (sR X.1 24) 16), X.2) (sR X.1 15) fr (sR X.1 17) ho us) := ⟨rfl, rfl, rfl, rfl, rfl, rfl, rfl⟩
  have q5 : kM M (mU (M.1, dU M.2 l op pi fi) (sR M.1 0) u g fu) := rfl
  have q6 : sI (mU (M.1, dU M.2 l op pi fi) (sR M.1 0) u g fu).1 2 = sI M.1 2 := rfl
  generalize (xU (pR (pR (pR (pR X.1 14 (fl (sR X.1 14) (p * 16) 16 (-nI 1))) 19 (pcw (gk (fl (sR X.1 14) (p * 16) 16 (-nI 1)) (sR X.1 19)) (sR X.1 19) 48)) 23 (pcw (gp (pcw (gk (fl (sR X.1 14) (p * 16) 16 (-nI 1)) (sR X.1 19)) (sR X.1 19) 48) (sR X.1 20) (sR X.1 23)) (sR X.1 23) 8)) 24 (pcw (gf (pcw (gk (fl (sR X.1 14) (p * 16) 16 (-nI 1)) (sR X.1 19)) (sR X.1 19) 48) (sR X.1 20) (sR X.1 24) (sR X.1 25)) (sR X.1 24) 16), X.2) (sR X.1 15) fr (sR X.1 17) ho us) = Y at n1 n2 n3 n5 n6 n7 q1 q2 q3 q4 ee
  generalize mU (M.1, dU M.2 l op pi fi) (sR M.1 0) u g fu = L at n1 n2 n3 n5 n6 n7 q5 q6 ef
  obtain ⟨m, s', t', ⟨⟨sf, es⟩, i2, i3, i4, i5⟩, f1, f2⟩ := nm_l2 (fun m k s => df_X6_finish_30 n m (nI p) (nI c) (nI k) s) (fun m k t => df_X16_end_37 n m (nI p) (nI c) (nI k) t)
    (fun k s t => (∃ sf : Nat → Int32, s = (pR L.1 6 sf, L.2)) ∧ fX Y t ∧ (∀ q : Nat, q < 16 → rP1 s t q) ∧ (∀ q : Nat, q < 16 → (sR t.1 1 q = nI 2 ↔ sR X.1 1 q = nI 2)) ∧ sR t.1 1 p = nI 1) 16 n (by omega) (fun k m s t hk ⟨⟨sf, es⟩, i2, i3, i4, i5⟩ => by
      obtain ⟨s', t', g1, g2, g3, ⟨sf', g4⟩, g5, g6, g7⟩ := fin_t n hn hp hk (nI c) (i3 k hk)
      refine ⟨s', t', ⟨⟨sf', ?_⟩, fX_t i2 g5, fun q hq => ?_, fun q hq => ?_, ?_⟩, (g1 _).1, (g1 _).2⟩
      · rw [g4, es, nm_rr]
      · by_cases cq : q = k
        · rw [cq]; exact g2
        · exact rP1_ag (i3 q hq) (g3 q cq).1 (g3 q cq).2
      · by_cases cq : q = k
        · rw [cq]; exact g6.trans (i4 k hk)
        · rw [(g3 q cq).2.1.1]; exact i4 q hq
      · by_cases cq : p = k
        · subst cq; exact g7 i5
        · rw [(g3 p cq).2.1.1]; exact i5) L Y ⟨⟨sR L.1 6, by rw [nm_r0]⟩, fX_r Y, n3, fun q hq => by rw [q3], by rw [q3]; exact h1⟩
  have f14 := i2.2.2.2 14 (by omega)
  have f16 := i2.2.2.2 16 (by omega)
  obtain ⟨s2, t2, g1, g2, g3, ⟨sf', g4⟩, g5, g6⟩ := fin_e n hn hp hc (i3 p hp) i5 (fun k hk => by rw [f16, q1]; exact n8 k hk) (fun d hd => by rw [f14, q2]; exact fl_i (by omega))
  have r := rM_fX (sf := sf') (fX_t i2 g5) n1 n2 n5 n6 n7
  have e2' : s2 = (pR L.1 6 sf', L.2) := by rw [g4, es, nm_rr]
  refine ⟨s2, t2, ?_, ?_, ⟨?_, ?_, fun q hq => ?_, ?_, ?_, ?_, ?_⟩, ⟨?_, ?_⟩⟩
  · rw [ef]
    exact f1.trans (g1 _).1
  · rw [ee]
    exact f2.trans (g1 _).2
  · rw [e2']; exact r.1
  · rw [e2']; exact r.2.1
  · by_cases cq : q = p
    · rw [cq]; exact g2
    · exact rP1_ag (i3 q hq) (g3 q cq).1 (g3 q cq).2
  · rw [e2']
    refine Eq.trans (b := sI L.1 2) rfl ?_
    rw [q6, m4]
    refine congrArg nI (cN_c (fun q hq => ?_))
    by_cases cq : q = p
    · subst cq
      rw [h1, decide_eq_false (show ¬ nI 1 = nI 2 by decide)]
      rcases g6 with z | z
      · rw [z]; rfl
      · rw [z]; rfl
    · rw [(g3 q cq).2.1.1]
      exact decide_eq_decide.mpr (i4 q hq).symm
  · rw [e2']; exact r.2.2.1
  · rw [e2']; exact r.2.2.2.1
  · rw [e2']; exact r.2.2.2.2.1
  · obtain ⟨k1, k2, k3, k4, k5, k6, k7⟩ := r.2.2.2.2.2.1
    obtain ⟨j1, j2, j3, j4, j5, j6, j7⟩ := q4
    exact ⟨k1.trans j1, k2.trans j2, k3.trans j3, k4.trans j4, k5.trans j5, k6.trans j6, k7.trans j7⟩
  · rw [e2']
    exact Eq.trans r.2.2.2.2.2.2 q5

theorem rM_st {B : Nat} {M X : St × St} (h : rM B M X) : ∀ q : Nat, q < 16 → ∃ t : Nat, t < 4 ∧ sR M.1 6 (q * 7) = nI t ∧ sR X.1 1 q = nI t := fun q hq => by
  obtain ⟨t, c, w, b, e, ht, hc, hw, hb, he, a1, a2, _⟩ := h.2.2.1 q hq
  exact ⟨t, ht, a1, a2⟩
theorem rM_pa {B : Nat} {M X : St × St} (h : rM B M X) : ∀ q : Nat, q < 16 → sR M.1 6 (q * 7 + 1) = sR X.1 2 q := fun q hq => by
  obtain ⟨t, c, w, b, e, ht, hc, hw, hb, he, a1, a2, a3, _⟩ := h.2.2.1 q hq
  exact a3
theorem cv_0 {r : Nat} (h : r < 16) : cv r = nI r := if_pos h
theorem cv_1 {r : Nat} (h : ¬ r < 16) : cv r = -nI 1 := if_neg h
/-- the opening that a descriptor is to, in both -/
theorem nk_opening (n : Nat) {D : St} {X : St × St} (h : rD (sR D 0) (sR D 1) (sR D 2) (sR D 4) (sR X.1 14) (sR X.1 19) (sR X.1 20) (sR X.1 21) (sR X.1 22) (sR X.1 23) (sR X.1 24) (sR X.1 25)) {p : Nat} (hp : p < 16) (a : Int32) : (df_X10_openingOf n (nI p) a D = some (-nI 1, D) ∧ df_X16_openingOf n (nI p) a X = some (-nI 1, X) ∧ ∀ d : Nat, d < 16 → a = nI d → sR X.1 14 (p * 16 + d) = -nI 1) ∨ ∃ d o : Nat, d < 16 ∧ o < 48 ∧ a = nI d ∧ sR X.1 14 (p * 16 + d) = nI o ∧ ¬ sR X.1 19 o = nI 0 ∧ df_X10_openingOf n (nI p) a D = some (nI o, D) ∧ df_X16_openingOf n (nI p) a X = some (nI o, X) := by
  rcases sg_cases a with ⟨z, _⟩ | ⟨A, hA, z⟩
  · have z' : ¬ nI 0 ≤ a := fun y => by
      rw [Int32.le_iff_toInt_le] at y
      rw [Int32.lt_iff_toInt_lt] at z
      omega
    left
    refine ⟨by simp (disch := (first | assumption | decide | omega)) only [df_X10_openingOf_27, df_X10_openingOf_10, df_X10_openingOf_0, df_X10_openingOf, z, eq_self, Nat.reduceEqDiff, Nat.reduceLeDiff, nl_0, nl_1, nl_16, nl_256, no_1, no_1024, pk_mul, nI_add, nm_ck, nI_clamp, nI_ltI, nI_leI, nI_eq, nb_b2, nb_b1, ↓nb_let, nm_z0, nm_z1, nb_II, nb_IR, nb_RI, nb_RR, nm_IL, nm_IQ, nm_RL, nm_RQ, nm_LI, nm_LR, nm_LL, nm_LQ, nm_QI, nm_QR, nm_QL, nm_QQ, nm_rr, nm_ii, nm_eqm, not_false_eq_true, pk_sub, nm_div, nm_shl, nm_shr, nm_ush, nm_or8, nm_or64, nm_or256, nm_m1, nm_m3, nm_m7, nm_m15, nm_m31, nm_m63, nm_m255, nm_m511, nm_m1023, nm_m2047, nm_m65535, Nat.reduceMod, Nat.reducePow, Nat.reduceAdd, Nat.reduceSub, Nat.reduceMul, nm_bo, nm_bi, nm_rc, nm_ic, nm_ri, nm_rl, nm_rq, nm_ql, nm_qi, nm_li, nm_us, nm_uu, nm_cp, nm_sa31, nm_sa7, nm_m127, nm_m2, nm_nz, nm_nzk, nm_eq32, nm_nzf, if_true, if_false, ↓reduceIte, if_pos, if_neg], by simp (disch := (first | assumption | decide | omega)) only [df_X16_openingOf_25, df_X16_openingOf_24, df_X16_openingOf_0, df_X16_openingOf, z, eq_self, Nat.reduceEqDiff, Nat.reduceLeDiff, nl_0, nl_1, nl_14, nl_16, nl_256, no_1, no_1024, pk_mul, nI_add, nm_ck, nI_clamp, nI_ltI, nI_leI, nI_eq, nb_b2, nb_b1, ↓nb_let, nm_z0, nm_z1, nb_II, nb_IR, nb_RI, nb_RR, nm_IL, nm_IQ, nm_RL, nm_RQ, nm_LI, nm_LR, nm_LL, nm_LQ, nm_QI, nm_QR, nm_QL, nm_QQ, nm_rr, nm_ii, nm_eqm, not_false_eq_true, pk_sub, nm_div, nm_shl, nm_shr, nm_ush, nm_or8, nm_or64, nm_or256, nm_m1, nm_m3, nm_m7, nm_m15, nm_m31, nm_m63, nm_m255, nm_m511, nm_m1023, nm_m2047, nm_m65535, Nat.reduceMod, Nat.reducePow, Nat.reduceAdd, Nat.reduceSub, Nat.reduceMul, nm_bo, nm_bi, nm_rc, nm_ic, nm_ri, nm_rl, nm_rq, nm_ql, nm_qi, nm_li, nm_us, nm_uu, nm_cp, nm_sa31, nm_sa7, nm_m127, nm_m2, nm_nz, nm_nzk, nm_eq32, nm_nzf, if_true, if_false, ↓reduceIte, if_pos, if_neg], fun d hd e => ?_⟩
    rw [e] at z
    exact absurd z (by rw [nI_ltI (by omega) (by omega)]; omega)
  · subst z
    by_cases c : A < 16
    · have u1 : p * 16 + A < 256 := by omega
      have u2 : p * 16 + A < 2 ^ 31 := by omega
      have u3 : 16 * p + A = p * 16 + A := by omega
      have u4 : ¬ A < 0 := by omega
      have u5 : 0 ≤ A := by omega
      rcases h.1 (p * 16 + A) u1 with ⟨y1, y2⟩ | ⟨o, ho, y1, y2⟩
      · left
        refine ⟨?_, ?_, fun d hd e => ?_⟩
        · have e0 : (nI 0 - nI 1 : Int32) = -nI 1 := by decide
          simp (disch := (first | assumption | decide | omega)) only [df_X10_openingOf_27, df_X10_openingOf_10, df_X10_openingOf_0, df_X10_openingOf, c, u4, y2, e0, eq_self, Nat.reduceEqDiff, Nat.reduceLeDiff, nl_0, nl_1, nl_16, nl_256, no_1, no_1024, pk_mul, nI_add, nm_ck, nI_clamp, nI_ltI, nI_leI, nI_eq, nb_b2, nb_b1, ↓nb_let, nm_z0, nm_z1, nb_II, nb_IR, nb_RI, nb_RR, nm_IL, nm_IQ, nm_RL, nm_RQ, nm_LI, nm_LR, nm_LL, nm_LQ, nm_QI, nm_QR, nm_QL, nm_QQ, nm_rr, nm_ii, nm_eqm, not_false_eq_true, pk_sub, nm_div, nm_shl, nm_shr, nm_ush, nm_or8, nm_or64, nm_or256, nm_m1, nm_m3, nm_m7, nm_m15, nm_m31, nm_m63, nm_m255, nm_m511, nm_m1023, nm_m2047, nm_m65535, Nat.reduceMod, Nat.reducePow, Nat.reduceAdd, Nat.reduceSub, Nat.reduceMul, nm_bo, nm_bi, nm_rc, nm_ic, nm_ri, nm_rl, nm_rq, nm_ql, nm_qi, nm_li, nm_us, nm_uu, nm_cp, nm_sa31, nm_sa7, nm_m127, nm_m2, nm_nz, nm_nzk, nm_eq32, nm_nzf, if_true, if_false, ↓reduceIte, if_pos, if_neg]
        · simp (disch := (first | assumption | decide | omega)) only [df_X16_openingOf_25, df_X16_openingOf_24, df_X16_openingOf_0, df_X16_openingOf, c, u5, u3, y1, eq_self, Nat.reduceEqDiff, Nat.reduceLeDiff, nl_0, nl_1, nl_14, nl_16, nl_256, no_1, no_1024, pk_mul, nI_add, nm_ck, nI_clamp, nI_ltI, nI_leI, nI_eq, nb_b2, nb_b1, ↓nb_let, nm_z0, nm_z1, nb_II, nb_IR, nb_RI, nb_RR, nm_IL, nm_IQ, nm_RL, nm_RQ, nm_LI, nm_LR, nm_LL, nm_LQ, nm_QI, nm_QR, nm_QL, nm_QQ, nm_rr, nm_ii, nm_eqm, not_false_eq_true, pk_sub, nm_div, nm_shl, nm_shr, nm_ush, nm_or8, nm_or64, nm_or256, nm_m1, nm_m3, nm_m7, nm_m15, nm_m31, nm_m63, nm_m255, nm_m511, nm_m1023, nm_m2047, nm_m65535, Nat.reduceMod, Nat.reducePow, Nat.reduceAdd, Nat.reduceSub, Nat.reduceMul, nm_bo, nm_bi, nm_rc, nm_ic, nm_ri, nm_rl, nm_rq, nm_ql, nm_qi, nm_li, nm_us, nm_uu, nm_cp, nm_sa31, nm_sa7, nm_m127, nm_m2, nm_nz, nm_nzk, nm_eq32, nm_nzf, if_true, if_false, ↓reduceIte, if_pos, if_neg]
        · have : A = d := nm_inI (by omega) (by omega) e
          rw [← this]; exact y1
      · right
        have kn : ¬ sR X.1 19 o = nI 0 := fun z => by
          have p0 : 0 < cD (sR X.1 14) o := cN_p (P := fun j => decide (sR X.1 14 j = nI o)) (i := p * 16 + A) (decide_eq_true y1) u1
          rcases h.2.1 o ho with ⟨z1, z2, z3⟩ | ⟨k, t, w1, w2, w3, w4, _⟩
          · omega
          · have := nm_inI (by omega) (by omega) (w4.symm.trans z)
            omega
        have u6 : o + 1 < 2 ^ 31 := by omega
        refine ⟨A, o, c, ho, rfl, y1, kn, ?_, ?_⟩
        · simp (disch := (first | assumption | decide | omega)) only [df_X10_openingOf_27, df_X10_openingOf_10, df_X10_openingOf_0, df_X10_openingOf, c, u4, y2, Nat.add_sub_cancel, eq_self, Nat.reduceEqDiff, Nat.reduceLeDiff, nl_0, nl_1, nl_16, nl_256, no_1, no_1024, pk_mul, nI_add, nm_ck, nI_clamp, nI_ltI, nI_leI, nI_eq, nb_b2, nb_b1, ↓nb_let, nm_z0, nm_z1, nb_II, nb_IR, nb_RI, nb_RR, nm_IL, nm_IQ, nm_RL, nm_RQ, nm_LI, nm_LR, nm_LL, nm_LQ, nm_QI, nm_QR, nm_QL, nm_QQ, nm_rr, nm_ii, nm_eqm, not_false_eq_true, pk_sub, nm_div, nm_shl, nm_shr, nm_ush, nm_or8, nm_or64, nm_or256, nm_m1, nm_m3, nm_m7, nm_m15, nm_m31, nm_m63, nm_m255, nm_m511, nm_m1023, nm_m2047, nm_m65535, Nat.reduceMod, Nat.reducePow, Nat.reduceAdd, Nat.reduceSub, Nat.reduceMul, nm_bo, nm_bi, nm_rc, nm_ic, nm_ri, nm_rl, nm_rq, nm_ql, nm_qi, nm_li, nm_us, nm_uu, nm_cp, nm_sa31, nm_sa7, nm_m127, nm_m2, nm_nz, nm_nzk, nm_eq32, nm_nzf, if_true, if_false, ↓reduceIte, if_pos, if_neg]
        · simp (disch := (first | assumption | decide | omega)) only [df_X16_openingOf_25, df_X16_openingOf_24, df_X16_openingOf_0, df_X16_openingOf, c, u5, u3, y1, eq_self, Nat.reduceEqDiff, Nat.reduceLeDiff, nl_0, nl_1, nl_14, nl_16, nl_256, no_1, no_1024, pk_mul, nI_add, nm_ck, nI_clamp, nI_ltI, nI_leI, nI_eq, nb_b2, nb_b1, ↓nb_let, nm_z0, nm_z1, nb_II, nb_IR, nb_RI, nb_RR, nm_IL, nm_IQ, nm_RL, nm_RQ, nm_LI, nm_LR, nm_LL, nm_LQ, nm_QI, nm_QR, nm_QL, nm_QQ, nm_rr, nm_ii, nm_eqm, not_false_eq_true, pk_sub, nm_div, nm_shl, nm_shr, nm_ush, nm_or8, nm_or64, nm_or256, nm_m1, nm_m3, nm_m7, nm_m15, nm_m31, nm_m63, nm_m255, nm_m511, nm_m1023, nm_m2047, nm_m65535, Nat.reduceMod, Nat.reducePow, Nat.reduceAdd, Nat.reduceSub, Nat.reduceMul, nm_bo, nm_bi, nm_rc, nm_ic, nm_ri, nm_rl, nm_rq, nm_ql, nm_qi, nm_li, nm_us, nm_uu, nm_cp, nm_sa31, nm_sa7, nm_m127, nm_m2, nm_nz, nm_nzk, nm_eq32, nm_nzf, if_true, if_false, ↓reduceIte, if_pos, if_neg]
    · left
      have u4 : ¬ A < 0 := by omega
      have u5 : 0 ≤ A := by omega
      refine ⟨by simp (disch := (first | assumption | decide | omega)) only [df_X10_openingOf_27, df_X10_openingOf_10, df_X10_openingOf_0, df_X10_openingOf, c, u4, eq_self, Nat.reduceEqDiff, Nat.reduceLeDiff, nl_0, nl_1, nl_16, nl_256, no_1, no_1024, pk_mul, nI_add, nm_ck, nI_clamp, nI_ltI, nI_leI, nI_eq, nb_b2, nb_b1, ↓nb_let, nm_z0, nm_z1, nb_II, nb_IR, nb_RI, nb_RR, nm_IL, nm_IQ, nm_RL, nm_RQ, nm_LI, nm_LR, nm_LL, nm_LQ, nm_QI, nm_QR, nm_QL, nm_QQ, nm_rr, nm_ii, nm_eqm, not_false_eq_true, pk_sub, nm_div, nm_shl, nm_shr, nm_ush, nm_or8, nm_or64, nm_or256, nm_m1, nm_m3, nm_m7, nm_m15, nm_m31, nm_m63, nm_m255, nm_m511, nm_m1023, nm_m2047, nm_m65535, Nat.reduceMod, Nat.reducePow, Nat.reduceAdd, Nat.reduceSub, Nat.reduceMul, nm_bo, nm_bi, nm_rc, nm_ic, nm_ri, nm_rl, nm_rq, nm_ql, nm_qi, nm_li, nm_us, nm_uu, nm_cp, nm_sa31, nm_sa7, nm_m127, nm_m2, nm_nz, nm_nzk, nm_eq32, nm_nzf, if_true, if_false, ↓reduceIte, if_pos, if_neg], by simp (disch := (first | assumption | decide | omega)) only [df_X16_openingOf_25, df_X16_openingOf_24, df_X16_openingOf_0, df_X16_openingOf, c, u5, eq_self, Nat.reduceEqDiff, Nat.reduceLeDiff, nl_0, nl_1, nl_14, nl_16, nl_256, no_1, no_1024, pk_mul, nI_add, nm_ck, nI_clamp, nI_ltI, nI_leI, nI_eq, nb_b2, nb_b1, ↓nb_let, nm_z0, nm_z1, nb_II, nb_IR, nb_RI, nb_RR, nm_IL, nm_IQ, nm_RL, nm_RQ, nm_LI, nm_LR, nm_LL, nm_LQ, nm_QI, nm_QR, nm_QL, nm_QQ, nm_rr, nm_ii, nm_eqm, not_false_eq_true, pk_sub, nm_div, nm_shl, nm_shr, nm_ush, nm_or8, nm_or64, nm_or256, nm_m1, nm_m3, nm_m7, nm_m15, nm_m31, nm_m63, nm_m255, nm_m511, nm_m1023, nm_m2047, nm_m65535, Nat.reduceMod, Nat.reducePow, Nat.reduceAdd, Nat.reduceSub, Nat.reduceMul, nm_bo, nm_bi, nm_rc, nm_ic, nm_ri, nm_rl, nm_rq, nm_ql, nm_qi, nm_li, nm_us, nm_uu, nm_cp, nm_sa31, nm_sa7, nm_m127, nm_m2, nm_nz, nm_nzk, nm_eq32, nm_nzf, if_true, if_false, ↓reduceIte, if_pos, if_neg], fun d hd e => ?_⟩
      have := nm_inI (by omega) (by omega) e
      omega
theorem rTT_l {B : Nat} {M X : St × St} (h : rTT B M X) : ∀ t : Nat, t < 8 → sR X.1 23 t = nI 1 → ∃ L : Nat, L ≤ 512 ∧ sR M.2 2 (t * 4) = nI L ∧ sR X.1 26 t = nI L := fun t ht e => by
  obtain ⟨L, o, h1, _, h2, h3, _⟩ := h.1 t ht e
  exact ⟨L, h1, h2, h3⟩
theorem rTT_t {B : Nat} {M X : St × St} (h : rTT B M X) : ∃ T : Nat, T ≤ 512 ∧ sI M.2 0 = nI T ∧ sI X.1 7 = nI T := by
  obtain ⟨T, h1, h2, h3, _⟩ := h.2.2.2.1
  exact ⟨T, h1, h2, h3⟩
theorem mw_6C (n : Nat) {K : St × (St × (St × St))} {q d N o : Nat} (bb : Bool) (g10 : df_X5_argument n (nI q) (nI 10) K = some (nI d, K)) (g12 : df_X5_argument n (nI q) (nI 12) K = some (nI N, K)) (g17 : df_X5_argument n (nI q) (nI 17) K = some (nI 6, K)) (op : df_X10_openingOf n (nI q) (nI d) K.2.2.2 = some (nI o, K.2.2.2)) (x1 : df_X10_readWaits n (nI o) (nI N) K.2.2.2 = some (bI bb, K.2.2.2)) : df_X5_mustWait n (nI q) K = some (bI bb, K) := by
  cases bb with
  | true => simp (disch := (first | assumption | decide | omega)) only [df_X5_mustWait_101, df_X5_mustWait_100, df_X5_mustWait_163, df_X5_mustWait_179, df_X5_mustWait_0, df_X5_mustWait, g10, g12, g17, op, x1, bI_t, eq_self, Nat.reduceEqDiff, Nat.reduceLeDiff, nl_0, nl_1, nl_3, nl_6, nl_7, nl_10, nl_12, nl_16, nl_17, nl_19, nl_21, no_1, no_1024, pk_mul, nI_add, nm_ck, nI_clamp, nI_ltI, nI_leI, nI_eq, nb_b2, nb_b1, ↓nb_let, nm_z0, nm_z1, nb_II, nb_IR, nb_RI, nb_RR, nm_IL, nm_IQ, nm_RL, nm_RQ, nm_LI, nm_LR, nm_LL, nm_LQ, nm_QI, nm_QR, nm_QL, nm_QQ, nm_rr, nm_ii, nm_eqm, not_false_eq_true, pk_sub, nm_div, nm_shl, nm_shr, nm_ush, nm_or8, nm_or64, nm_or256, nm_m1, nm_m3, nm_m7, nm_m15, nm_m31, nm_m63, nm_m255, nm_m511, nm_m1023, nm_m2047, nm_m65535, Nat.reduceMod, Nat.reducePow, Nat.reduceAdd, Nat.reduceSub, Nat.reduceMul, nm_bo, nm_bi, nm_rc, nm_ic, nm_ri, nm_rl, nm_rq, nm_ql, nm_qi, nm_li, nm_us, nm_uu, nm_cp, nm_sa31, nm_sa7, nm_m127, nm_m2, nm_nz, nm_nzk, nm_eq32, nm_nzf, if_true, if_false, ↓reduceIte, if_pos, if_neg]
  | false => simp (disch := (first | assumption | decide | omega)) only [df_X5_mustWait_101, df_X5_mustWait_100, df_X5_mustWait_163, df_X5_mustWait_179, df_X5_mustWait_0, df_X5_mustWait, g10, g12, g17, op, x1, bI_f, eq_self, Nat.reduceEqDiff, Nat.reduceLeDiff, nl_0, nl_1, nl_3, nl_6, nl_7, nl_10, nl_12, nl_16, nl_17, nl_19, nl_21, no_1, no_1024, pk_mul, nI_add, nm_ck, nI_clamp, nI_ltI, nI_leI, nI_eq, nb_b2, nb_b1, ↓nb_let, nm_z0, nm_z1, nb_II, nb_IR, nb_RI, nb_RR, nm_IL, nm_IQ, nm_RL, nm_RQ, nm_LI, nm_LR, nm_LL, nm_LQ, nm_QI, nm_QR, nm_QL, nm_QQ, nm_rr, nm_ii, nm_eqm, not_false_eq_true, pk_sub, nm_div, nm_shl, nm_shr, nm_ush, nm_or8, nm_or64, nm_or256, nm_m1, nm_m3, nm_m7, nm_m15, nm_m31, nm_m63, nm_m255, nm_m511, nm_m1023, nm_m2047, nm_m65535, Nat.reduceMod, Nat.reducePow, Nat.reduceAdd, Nat.reduceSub, Nat.reduceMul, nm_bo, nm_bi, nm_rc, nm_ic, nm_ri, nm_rl, nm_rq, nm_ql, nm_qi, nm_li, nm_us, nm_uu, nm_cp, nm_sa31, nm_sa7, nm_m127, nm_m2, nm_nz, nm_nzk, nm_eq32, nm_nzf, if_true, if_false, ↓reduceIte, if_pos, if_neg]
theorem mw_6R (n : Nat) {X : St × St} {q d N o : Nat} (hq : q < 16) (hd : d < 16) (bb : Bool) (w1 : sR X.1 7 q = nI 6) (v4 : sR X.1 9 (32 * q + 10) = nI d) (v6 : sR X.1 9 (32 * q + 12) = nI N) (v5 : sR X.1 14 (q * 16 + d) = nI o) (x2 : df_X16_waits n (nI o) (nI 1) (nI N) X = some (bI bb, X)) : df_X16_waitsStill n (nI q) X = some (bI bb, X) := by
  have u4 : 32 * q + 10 < 512 := by omega
  have u5 : 32 * q + 12 < 512 := by omega
  have u6 : q < 2 ^ 31 := by omega
  have u7 : 16 * q + d < 256 := by omega
  have u8 : 16 * q + d < 2 ^ 31 := by omega
  have u9 : 16 * q + d = q * 16 + d := by omega
  cases bb with
  | true => simp (disch := (first | assumption | decide | omega)) only [df_X16_waitsStill_101, df_X16_waitsStill_100, df_X16_waitsStill_157, df_X16_waitsStill_170, df_X16_waitsStill_0, df_X16_waitsStill, w1, v4, v6, u9, v5, x2, bI_t, eq_self, Nat.reduceEqDiff, Nat.reduceLeDiff, nl_0, nl_1, nl_3, nl_5, nl_6, nl_7, nl_9, nl_10, nl_12, nl_14, nl_16, nl_19, nl_32, nl_256, nl_512, no_1, no_1024, pk_mul, nI_add, nm_ck, nI_clamp, nI_ltI, nI_leI, nI_eq, nb_b2, nb_b1, ↓nb_let, nm_z0, nm_z1, nb_II, nb_IR, nb_RI, nb_RR, nm_IL, nm_IQ, nm_RL, nm_RQ, nm_LI, nm_LR, nm_LL, nm_LQ, nm_QI, nm_QR, nm_QL, nm_QQ, nm_rr, nm_ii, nm_eqm, not_false_eq_true, pk_sub, nm_div, nm_shl, nm_shr, nm_ush, nm_or8, nm_or64, nm_or256, nm_m1, nm_m3, nm_m7, nm_m15, nm_m31, nm_m63, nm_m255, nm_m511, nm_m1023, nm_m2047, nm_m65535, Nat.reduceMod, Nat.reducePow, Nat.reduceAdd, Nat.reduceSub, Nat.reduceMul, nm_bo, nm_bi, nm_rc, nm_ic, nm_ri, nm_rl, nm_rq, nm_ql, nm_qi, nm_li, nm_us, nm_uu, nm_cp, nm_sa31, nm_sa7, nm_m127, nm_m2, nm_nz, nm_nzk, nm_eq32, nm_nzf, if_true, if_false, ↓reduceIte, if_pos, if_neg]
  | false => simp (disch := (first | assumption | decide | omega)) only [df_X16_waitsStill_101, df_X16_waitsStill_100, df_X16_waitsStill_157, df_X16_waitsStill_170, df_X16_waitsStill_0, df_X16_waitsStill, w1, v4, v6, u9, v5, x2, bI_f, eq_self, Nat.reduceEqDiff, Nat.reduceLeDiff, nl_0, nl_1, nl_3, nl_5, nl_6, nl_7, nl_9, nl_10, nl_12, nl_14, nl_16, nl_19, nl_32, nl_256, nl_512, no_1, no_1024, pk_mul, nI_add, nm_ck, nI_clamp, nI_ltI, nI_leI, nI_eq, nb_b2, nb_b1, ↓nb_let, nm_z0, nm_z1, nb_II, nb_IR, nb_RI, nb_RR, nm_IL, nm_IQ, nm_RL, nm_RQ, nm_LI, nm_LR, nm_LL, nm_LQ, nm_QI, nm_QR, nm_QL, nm_QQ, nm_rr, nm_ii, nm_eqm, not_false_eq_true, pk_sub, nm_div, nm_shl, nm_shr, nm_ush, nm_or8, nm_or64, nm_or256, nm_m1, nm_m3, nm_m7, nm_m15, nm_m31, nm_m63, nm_m255, nm_m511, nm_m1023, nm_m2047, nm_m65535, Nat.reduceMod, Nat.reducePow, Nat.reduceAdd, Nat.reduceSub, Nat.reduceMul, nm_bo, nm_bi, nm_rc, nm_ic, nm_ri, nm_rl, nm_rq, nm_ql, nm_qi, nm_li, nm_us, nm_uu, nm_cp, nm_sa31, nm_sa7, nm_m127, nm_m2, nm_nz, nm_nzk, nm_eq32, nm_nzf, if_true, if_false, ↓reduceIte, if_pos, if_neg]
theorem mw_7C (n : Nat) {K : St × (St × (St × St))} {q d N o : Nat} (bb : Bool) (g10 : df_X5_argument n (nI q) (nI 10) K = some (nI d, K)) (g12 : df_X5_argument n (nI q) (nI 12) K = some (nI N, K)) (g17 : df_X5_argument n (nI q) (nI 17) K = some (nI 7, K)) (op : df_X10_openingOf n (nI q) (nI d) K.2.2.2 = some (nI o, K.2.2.2)) (x1 : df_X10_writeWaits n (nI o) (nI N) K.2.2.2 = some (bI bb, K.2.2.2)) : df_X5_mustWait n (nI q) K = some (bI bb, K) := by
  cases bb with
  | true => simp (disch := (first | assumption | decide | omega)) only [df_X5_mustWait_101, df_X5_mustWait_100, df_X5_mustWait_163, df_X5_mustWait_179, df_X5_mustWait_0, df_X5_mustWait, g10, g12, g17, op, x1, bI_t, eq_self, Nat.reduceEqDiff, Nat.reduceLeDiff, nl_0, nl_1, nl_3, nl_6, nl_7, nl_10, nl_12, nl_16, nl_17, nl_19, nl_21, no_1, no_1024, pk_mul, nI_add, nm_ck, nI_clamp, nI_ltI, nI_leI, nI_eq, nb_b2, nb_b1, ↓nb_let, nm_z0, nm_z1, nb_II, nb_IR, nb_RI, nb_RR, nm_IL, nm_IQ, nm_RL, nm_RQ, nm_LI, nm_LR, nm_LL, nm_LQ, nm_QI, nm_QR, nm_QL, nm_QQ, nm_rr, nm_ii, nm_eqm, not_false_eq_true, pk_sub, nm_div, nm_shl, nm_shr, nm_ush, nm_or8, nm_or64, nm_or256, nm_m1, nm_m3, nm_m7, nm_m15, nm_m31, nm_m63, nm_m255, nm_m511, nm_m1023, nm_m2047, nm_m65535, Nat.reduceMod, Nat.reducePow, Nat.reduceAdd, Nat.reduceSub, Nat.reduceMul, nm_bo, nm_bi, nm_rc, nm_ic, nm_ri, nm_rl, nm_rq, nm_ql, nm_qi, nm_li, nm_us, nm_uu, nm_cp, nm_sa31, nm_sa7, nm_m127, nm_m2, nm_nz, nm_nzk, nm_eq32, nm_nzf, if_true, if_false, ↓reduceIte, if_pos, if_neg]
  | false => simp (disch := (first | assumption | decide | omega)) only [df_X5_mustWait_101, df_X5_mustWait_100, df_X5_mustWait_163, df_X5_mustWait_179, df_X5_mustWait_0, df_X5_mustWait, g10, g12, g17, op, x1, bI_f, eq_self, Nat.reduceEqDiff, Nat.reduceLeDiff, nl_0, nl_1, nl_3, nl_6, nl_7, nl_10, nl_12, nl_16, nl_17, nl_19, nl_21, no_1, no_1024, pk_mul, nI_add, nm_ck, nI_clamp, nI_ltI, nI_leI, nI_eq, nb_b2, nb_b1, ↓nb_let, nm_z0, nm_z1, nb_II, nb_IR, nb_RI, nb_RR, nm_IL, nm_IQ, nm_RL, nm_RQ, nm_LI, nm_LR, nm_LL, nm_LQ, nm_QI, nm_QR, nm_QL, nm_QQ, nm_rr, nm_ii, nm_eqm, not_false_eq_true, pk_sub, nm_div, nm_shl, nm_shr, nm_ush, nm_or8, nm_or64, nm_or256, nm_m1, nm_m3, nm_m7, nm_m15, nm_m31, nm_m63, nm_m255, nm_m511, nm_m1023, nm_m2047, nm_m65535, Nat.reduceMod, Nat.reducePow, Nat.reduceAdd, Nat.reduceSub, Nat.reduceMul, nm_bo, nm_bi, nm_rc, nm_ic, nm_ri, nm_rl, nm_rq, nm_ql, nm_qi, nm_li, nm_us, nm_uu, nm_cp, nm_sa31, nm_sa7, nm_m127, nm_m2, nm_nz, nm_nzk, nm_eq32, nm_nzf, if_true, if_false, ↓reduceIte, if_pos, if_neg]
theorem mw_7R (n : Nat) {X : St × St} {q d N o : Nat} (hq : q < 16) (hd : d < 16) (bb : Bool) (w1 : sR X.1 7 q = nI 7) (v4 : sR X.1 9 (32 * q + 10) = nI d) (v6 : sR X.1 9 (32 * q + 12) = nI N) (v5 : sR X.1 14 (q * 16 + d) = nI o) (x2 : df_X16_waits n (nI o) (nI 0) (nI N) X = some (bI bb, X)) : df_X16_waitsStill n (nI q) X = some (bI bb, X) := by
  have u4 : 32 * q + 10 < 512 := by omega
  have u5 : 32 * q + 12 < 512 := by omega
  have u6 : q < 2 ^ 31 := by omega
  have u7 : 16 * q + d < 256 := by omega
  have u8 : 16 * q + d < 2 ^ 31 := by omega
  have u9 : 16 * q + d = q * 16 + d := by omega
  cases bb with
  | true => simp (disch := (first | assumption | decide | omega)) only [df_X16_waitsStill_101, df_X16_waitsStill_100, df_X16_waitsStill_157, df_X16_waitsStill_170, df_X16_waitsStill_0, df_X16_waitsStill, w1, v4, v6, u9, v5, x2, bI_t, eq_self, Nat.reduceEqDiff, Nat.reduceLeDiff, nl_0, nl_1, nl_3, nl_5, nl_6, nl_7, nl_9, nl_10, nl_12, nl_14, nl_16, nl_19, nl_32, nl_256, nl_512, no_1, no_1024, pk_mul, nI_add, nm_ck, nI_clamp, nI_ltI, nI_leI, nI_eq, nb_b2, nb_b1, ↓nb_let, nm_z0, nm_z1, nb_II, nb_IR, nb_RI, nb_RR, nm_IL, nm_IQ, nm_RL, nm_RQ, nm_LI, nm_LR, nm_LL, nm_LQ, nm_QI, nm_QR, nm_QL, nm_QQ, nm_rr, nm_ii, nm_eqm, not_false_eq_true, pk_sub, nm_div, nm_shl, nm_shr, nm_ush, nm_or8, nm_or64, nm_or256, nm_m1, nm_m3, nm_m7, nm_m15, nm_m31, nm_m63, nm_m255, nm_m511, nm_m1023, nm_m2047, nm_m65535, Nat.reduceMod, Nat.reducePow, Nat.reduceAdd, Nat.reduceSub, Nat.reduceMul, nm_bo, nm_bi, nm_rc, nm_ic, nm_ri, nm_rl, nm_rq, nm_ql, nm_qi, nm_li, nm_us, nm_uu, nm_cp, nm_sa31, nm_sa7, nm_m127, nm_m2, nm_nz, nm_nzk, nm_eq32, nm_nzf, if_true, if_false, ↓reduceIte, if_pos, if_neg]
  | false => simp (disch := (first | assumption | decide | omega)) only [df_X16_waitsStill_101, df_X16_waitsStill_100, df_X16_waitsStill_157, df_X16_waitsStill_170, df_X16_waitsStill_0, df_X16_waitsStill, w1, v4, v6, u9, v5, x2, bI_f, eq_self, Nat.reduceEqDiff, Nat.reduceLeDiff, nl_0, nl_1, nl_3, nl_5, nl_6, nl_7, nl_9, nl_10, nl_12, nl_14, nl_16, nl_19, nl_32, nl_256, nl_512, no_1, no_1024, pk_mul, nI_add, nm_ck, nI_clamp, nI_ltI, nI_leI, nI_eq, nb_b2, nb_b1, ↓nb_let, nm_z0, nm_z1, nb_II, nb_IR, nb_RI, nb_RR, nm_IL, nm_IQ, nm_RL, nm_RQ, nm_LI, nm_LR, nm_LL, nm_LQ, nm_QI, nm_QR, nm_QL, nm_QQ, nm_rr, nm_ii, nm_eqm, not_false_eq_true, pk_sub, nm_div, nm_shl, nm_shr, nm_ush, nm_or8, nm_or64, nm_or256, nm_m1, nm_m3, nm_m7, nm_m15, nm_m31, nm_m63, nm_m255, nm_m511, nm_m1023, nm_m2047, nm_m65535, Nat.reduceMod, Nat.reducePow, Nat.reduceAdd, Nat.reduceSub, Nat.reduceMul, nm_bo, nm_bi, nm_rc, nm_ic, nm_ri, nm_rl, nm_rq, nm_ql, nm_qi, nm_li, nm_us, nm_uu, nm_cp, nm_sa31, nm_sa7, nm_m127, nm_m2, nm_nz, nm_nzk, nm_eq32, nm_nzf, if_true, if_false, ↓reduceIte, if_pos, if_neg]
theorem mw_19C (n : Nat) {K : St × (St × (St × St))} {q : Nat} {a c : Int32} {x y : Int64} (hq : q < 16) (g10 : df_X5_argument n (nI q) (nI 10) K = some (a, K)) (g12 : df_X5_argument n (nI q) (nI 12) K = some (c, K)) (g17 : df_X5_argument n (nI q) (nI 17) K = some (nI 19, K)) (e0 : sL K.2.2.1 0 = x) (s1 : sQ K.2.2.1 0 q = y) : df_X5_mustWait n (nI q) K = some (bI (decide (¬ nI 0 ≤ lg_cmp x y)), K) := by
  have u6 : q < 2 ^ 31 := by omega
  by_cases cc : nI 0 ≤ lg_cmp x y
  · rw [decide_eq_false (fun z => z cc)]
    simp (disch := (first | assumption | decide | omega)) only [df_X5_mustWait_101, df_X5_mustWait_100, df_X5_mustWait_163, df_X5_mustWait_179, df_X5_mustWait_0, df_X5_mustWait, g10, g12, g17, e0, s1, cc, bI_f, eq_self, Nat.reduceEqDiff, Nat.reduceLeDiff, nl_0, nl_1, nl_3, nl_6, nl_7, nl_10, nl_12, nl_16, nl_17, nl_19, nl_21, no_1, no_1024, pk_mul, nI_add, nm_ck, nI_clamp, nI_ltI, nI_leI, nI_eq, nb_b2, nb_b1, ↓nb_let, nm_z0, nm_z1, nb_II, nb_IR, nb_RI, nb_RR, nm_IL, nm_IQ, nm_RL, nm_RQ, nm_LI, nm_LR, nm_LL, nm_LQ, nm_QI, nm_QR, nm_QL, nm_QQ, nm_rr, nm_ii, nm_eqm, not_false_eq_true, pk_sub, nm_div, nm_shl, nm_shr, nm_ush, nm_or8, nm_or64, nm_or256, nm_m1, nm_m3, nm_m7, nm_m15, nm_m31, nm_m63, nm_m255, nm_m511, nm_m1023, nm_m2047, nm_m65535, Nat.reduceMod, Nat.reducePow, Nat.reduceAdd, Nat.reduceSub, Nat.reduceMul, nm_bo, nm_bi, nm_rc, nm_ic, nm_ri, nm_rl, nm_rq, nm_ql, nm_qi, nm_li, nm_us, nm_uu, nm_cp, nm_sa31, nm_sa7, nm_m127, nm_m2, nm_nz, nm_nzk, nm_eq32, nm_nzf, if_true, if_false, ↓reduceIte, if_pos, if_neg]
  · rw [decide_eq_true cc]
    simp (disch := (first | assumption | decide | omega)) only [df_X5_mustWait_101, df_X5_mustWait_100, df_X5_mustWait_163, df_X5_mustWait_179, df_X5_mustWait_0, df_X5_mustWait, g10, g12, g17, e0, s1, cc, bI_t, eq_self, Nat.reduceEqDiff, Nat.reduceLeDiff, nl_0, nl_1, nl_3, nl_6, nl_7, nl_10, nl_12, nl_16, nl_17, nl_19, nl_21, no_1, no_1024, pk_mul, nI_add, nm_ck, nI_clamp, nI_ltI, nI_leI, nI_eq, nb_b2, nb_b1, ↓nb_let, nm_z0, nm_z1, nb_II, nb_IR, nb_RI, nb_RR, nm_IL, nm_IQ, nm_RL, nm_RQ, nm_LI, nm_LR, nm_LL, nm_LQ, nm_QI, nm_QR, nm_QL, nm_QQ, nm_rr, nm_ii, nm_eqm, not_false_eq_true, pk_sub, nm_div, nm_shl, nm_shr, nm_ush, nm_or8, nm_or64, nm_or256, nm_m1, nm_m3, nm_m7, nm_m15, nm_m31, nm_m63, nm_m255, nm_m511, nm_m1023, nm_m2047, nm_m65535, Nat.reduceMod, Nat.reducePow, Nat.reduceAdd, Nat.reduceSub, Nat.reduceMul, nm_bo, nm_bi, nm_rc, nm_ic, nm_ri, nm_rl, nm_rq, nm_ql, nm_qi, nm_li, nm_us, nm_uu, nm_cp, nm_sa31, nm_sa7, nm_m127, nm_m2, nm_nz, nm_nzk, nm_eq32, nm_nzf, if_true, if_false, ↓reduceIte, if_pos, if_neg]
theorem mw_19R (n : Nat) {X : St × St} {q : Nat} {x y : Int64} (hq : q < 16) (w1 : sR X.1 7 q = nI 19) (e0 : sL X.1 1 = x) (s1 : sQ X.1 0 q = y) : df_X16_waitsStill n (nI q) X = some (bI (decide (¬ nI 0 ≤ lg_cmp x y)), X) := by
  have u4 : 32 * q + 10 < 512 := by omega
  have u5 : 32 * q + 12 < 512 := by omega
  have u6 : q < 2 ^ 31 := by omega
  by_cases cc : nI 0 ≤ lg_cmp x y
  · rw [decide_eq_false (fun z => z cc)]
    simp (disch := (first | assumption | decide | omega)) only [df_X16_waitsStill_101, df_X16_waitsStill_100, df_X16_waitsStill_157, df_X16_waitsStill_170, df_X16_waitsStill_0, df_X16_waitsStill, w1, e0, s1, cc, bI_f, eq_self, Nat.reduceEqDiff, Nat.reduceLeDiff, nl_0, nl_1, nl_3, nl_5, nl_6, nl_7, nl_9, nl_10, nl_12, nl_14, nl_16, nl_19, nl_32, nl_256, nl_512, no_1, no_1024, pk_mul, nI_add, nm_ck, nI_clamp, nI_ltI, nI_leI, nI_eq, nb_b2, nb_b1, ↓nb_let, nm_z0, nm_z1, nb_II, nb_IR, nb_RI, nb_RR, nm_IL, nm_IQ, nm_RL, nm_RQ, nm_LI, nm_LR, nm_LL, nm_LQ, nm_QI, nm_QR, nm_QL, nm_QQ, nm_rr, nm_ii, nm_eqm, not_false_eq_true, pk_sub, nm_div, nm_shl, nm_shr, nm_ush, nm_or8, nm_or64, nm_or256, nm_m1, nm_m3, nm_m7, nm_m15, nm_m31, nm_m63, nm_m255, nm_m511, nm_m1023, nm_m2047, nm_m65535, Nat.reduceMod, Nat.reducePow, Nat.reduceAdd, Nat.reduceSub, Nat.reduceMul, nm_bo, nm_bi, nm_rc, nm_ic, nm_ri, nm_rl, nm_rq, nm_ql, nm_qi, nm_li, nm_us, nm_uu, nm_cp, nm_sa31, nm_sa7, nm_m127, nm_m2, nm_nz, nm_nzk, nm_eq32, nm_nzf, if_true, if_false, ↓reduceIte, if_pos, if_neg]
  · rw [decide_eq_true cc]
    simp (disch := (first | assumption | decide | omega)) only [df_X16_waitsStill_101, df_X16_waitsStill_100, df_X16_waitsStill_157, df_X16_waitsStill_170, df_X16_waitsStill_0, df_X16_waitsStill, w1, e0, s1, cc, bI_t, eq_self, Nat.reduceEqDiff, Nat.reduceLeDiff, nl_0, nl_1, nl_3, nl_5, nl_6, nl_7, nl_9, nl_10, nl_12, nl_14, nl_16, nl_19, nl_32, nl_256, nl_512, no_1, no_1024, pk_mul, nI_add, nm_ck, nI_clamp, nI_ltI, nI_leI, nI_eq, nb_b2, nb_b1, ↓nb_let, nm_z0, nm_z1, nb_II, nb_IR, nb_RI, nb_RR, nm_IL, nm_IQ, nm_RL, nm_RQ, nm_LI, nm_LR, nm_LL, nm_LQ, nm_QI, nm_QR, nm_QL, nm_QQ, nm_rr, nm_ii, nm_eqm, not_false_eq_true, pk_sub, nm_div, nm_shl, nm_shr, nm_ush, nm_or8, nm_or64, nm_or256, nm_m1, nm_m3, nm_m7, nm_m15, nm_m31, nm_m63, nm_m255, nm_m511, nm_m1023, nm_m2047, nm_m65535, Nat.reduceMod, Nat.reducePow, Nat.reduceAdd, Nat.reduceSub, Nat.reduceMul, nm_bo, nm_bi, nm_rc, nm_ic, nm_ri, nm_rl, nm_rq, nm_ql, nm_qi, nm_li, nm_us, nm_uu, nm_cp, nm_sa31, nm_sa7, nm_m127, nm_m2, nm_nz, nm_nzk, nm_eq32, nm_nzf, if_true, if_false, ↓reduceIte, if_pos, if_neg]
theorem mw_21C (n : Nat) {K : St × (St × (St × St))} {q k : Nat} {a c : Int32} (hq : q < 16) (hk : k ≤ 16) (g10 : df_X5_argument n (nI q) (nI 10) K = some (a, K)) (g12 : df_X5_argument n (nI q) (nI 12) K = some (c, K)) (g17 : df_X5_argument n (nI q) (nI 17) K = some (nI 21, K)) (x1 : sI K.2.2.1 1 = nI k) : df_X5_mustWait n (nI q) K = some (bI (decide (k = 0)), K) := by
  have u7 : k < 2 ^ 31 := by omega
  by_cases k0 : k = 0
  · rw [decide_eq_true k0]
    simp (disch := (first | assumption | decide | omega)) only [df_X5_mustWait_101, df_X5_mustWait_100, df_X5_mustWait_163, df_X5_mustWait_179, df_X5_mustWait_0, df_X5_mustWait, g10, g12, g17, x1, k0, bI_t, eq_self, Nat.reduceEqDiff, Nat.reduceLeDiff, nl_0, nl_1, nl_3, nl_6, nl_7, nl_10, nl_12, nl_16, nl_17, nl_19, nl_21, no_1, no_1024, pk_mul, nI_add, nm_ck, nI_clamp, nI_ltI, nI_leI, nI_eq, nb_b2, nb_b1, ↓nb_let, nm_z0, nm_z1, nb_II, nb_IR, nb_RI, nb_RR, nm_IL, nm_IQ, nm_RL, nm_RQ, nm_LI, nm_LR, nm_LL, nm_LQ, nm_QI, nm_QR, nm_QL, nm_QQ, nm_rr, nm_ii, nm_eqm, not_false_eq_true, pk_sub, nm_div, nm_shl, nm_shr, nm_ush, nm_or8, nm_or64, nm_or256, nm_m1, nm_m3, nm_m7, nm_m15, nm_m31, nm_m63, nm_m255, nm_m511, nm_m1023, nm_m2047, nm_m65535, Nat.reduceMod, Nat.reducePow, Nat.reduceAdd, Nat.reduceSub, Nat.reduceMul, nm_bo, nm_bi, nm_rc, nm_ic, nm_ri, nm_rl, nm_rq, nm_ql, nm_qi, nm_li, nm_us, nm_uu, nm_cp, nm_sa31, nm_sa7, nm_m127, nm_m2, nm_nz, nm_nzk, nm_eq32, nm_nzf, if_true, if_false, ↓reduceIte, if_pos, if_neg]
  · rw [decide_eq_false k0]
    simp (disch := (first | assumption | decide | omega)) only [df_X5_mustWait_101, df_X5_mustWait_100, df_X5_mustWait_163, df_X5_mustWait_179, df_X5_mustWait_0, df_X5_mustWait, g10, g12, g17, x1, k0, bI_f, eq_self, Nat.reduceEqDiff, Nat.reduceLeDiff, nl_0, nl_1, nl_3, nl_6, nl_7, nl_10, nl_12, nl_16, nl_17, nl_19, nl_21, no_1, no_1024, pk_mul, nI_add, nm_ck, nI_clamp, nI_ltI, nI_leI, nI_eq, nb_b2, nb_b1, ↓nb_let, nm_z0, nm_z1, nb_II, nb_IR, nb_RI, nb_RR, nm_IL, nm_IQ, nm_RL, nm_RQ, nm_LI, nm_LR, nm_LL, nm_LQ, nm_QI, nm_QR, nm_QL, nm_QQ, nm_rr, nm_ii, nm_eqm, not_false_eq_true, pk_sub, nm_div, nm_shl, nm_shr, nm_ush, nm_or8, nm_or64, nm_or256, nm_m1, nm_m3, nm_m7, nm_m15, nm_m31, nm_m63, nm_m255, nm_m511, nm_m1023, nm_m2047, nm_m65535, Nat.reduceMod, Nat.reducePow, Nat.reduceAdd, Nat.reduceSub, Nat.reduceMul, nm_bo, nm_bi, nm_rc, nm_ic, nm_ri, nm_rl, nm_rq, nm_ql, nm_qi, nm_li, nm_us, nm_uu, nm_cp, nm_sa31, nm_sa7, nm_m127, nm_m2, nm_nz, nm_nzk, nm_eq32, nm_nzf, if_true, if_false, ↓reduceIte, if_pos, if_neg]
theorem mw_21R (n : Nat) {X : St × St} {q k : Nat} (hq : q < 16) (hk : k ≤ 16) (w1 : sR X.1 7 q = nI 21) (x2 : sI X.1 5 = nI k) : df_X16_waitsStill n (nI q) X = some (bI (decide (k = 0)), X) := by
  have u4 : 32 * q + 10 < 512 := by omega
  have u5 : 32 * q + 12 < 512 := by omega
  have u6 : q < 2 ^ 31 := by omega
  have u7 : k < 2 ^ 31 := by omega
  by_cases k0 : k = 0
  · rw [decide_eq_true k0]
    simp (disch := (first | assumption | decide | omega)) only [df_X16_waitsStill_101, df_X16_waitsStill_100, df_X16_waitsStill_157, df_X16_waitsStill_170, df_X16_waitsStill_0, df_X16_waitsStill, w1, x2, k0, bI_t, eq_self, Nat.reduceEqDiff, Nat.reduceLeDiff, nl_0, nl_1, nl_3, nl_5, nl_6, nl_7, nl_9, nl_10, nl_12, nl_14, nl_16, nl_19, nl_32, nl_256, nl_512, no_1, no_1024, pk_mul, nI_add, nm_ck, nI_clamp, nI_ltI, nI_leI, nI_eq, nb_b2, nb_b1, ↓nb_let, nm_z0, nm_z1, nb_II, nb_IR, nb_RI, nb_RR, nm_IL, nm_IQ, nm_RL, nm_RQ, nm_LI, nm_LR, nm_LL, nm_LQ, nm_QI, nm_QR, nm_QL, nm_QQ, nm_rr, nm_ii, nm_eqm, not_false_eq_true, pk_sub, nm_div, nm_shl, nm_shr, nm_ush, nm_or8, nm_or64, nm_or256, nm_m1, nm_m3, nm_m7, nm_m15, nm_m31, nm_m63, nm_m255, nm_m511, nm_m1023, nm_m2047, nm_m65535, Nat.reduceMod, Nat.reducePow, Nat.reduceAdd, Nat.reduceSub, Nat.reduceMul, nm_bo, nm_bi, nm_rc, nm_ic, nm_ri, nm_rl, nm_rq, nm_ql, nm_qi, nm_li, nm_us, nm_uu, nm_cp, nm_sa31, nm_sa7, nm_m127, nm_m2, nm_nz, nm_nzk, nm_eq32, nm_nzf, if_true, if_false, ↓reduceIte, if_pos, if_neg]
  · rw [decide_eq_false k0]
    simp (disch := (first | assumption | decide | omega)) only [df_X16_waitsStill_101, df_X16_waitsStill_100, df_X16_waitsStill_157, df_X16_waitsStill_170, df_X16_waitsStill_0, df_X16_waitsStill, w1, x2, k0, bI_f, eq_self, Nat.reduceEqDiff, Nat.reduceLeDiff, nl_0, nl_1, nl_3, nl_5, nl_6, nl_7, nl_9, nl_10, nl_12, nl_14, nl_16, nl_19, nl_32, nl_256, nl_512, no_1, no_1024, pk_mul, nI_add, nm_ck, nI_clamp, nI_ltI, nI_leI, nI_eq, nb_b2, nb_b1, ↓nb_let, nm_z0, nm_z1, nb_II, nb_IR, nb_RI, nb_RR, nm_IL, nm_IQ, nm_RL, nm_RQ, nm_LI, nm_LR, nm_LL, nm_LQ, nm_QI, nm_QR, nm_QL, nm_QQ, nm_rr, nm_ii, nm_eqm, not_false_eq_true, pk_sub, nm_div, nm_shl, nm_shr, nm_ush, nm_or8, nm_or64, nm_or256, nm_m1, nm_m3, nm_m7, nm_m15, nm_m31, nm_m63, nm_m255, nm_m511, nm_m1023, nm_m2047, nm_m65535, Nat.reduceMod, Nat.reducePow, Nat.reduceAdd, Nat.reduceSub, Nat.reduceMul, nm_bo, nm_bi, nm_rc, nm_ic, nm_ri, nm_rl, nm_rq, nm_ql, nm_qi, nm_li, nm_us, nm_uu, nm_cp, nm_sa31, nm_sa7, nm_m127, nm_m2, nm_nz, nm_nzk, nm_eq32, nm_nzf, if_true, if_false, ↓reduceIte, if_pos, if_neg]
/-- who waits still, in both -/
theorem nk_mustWait (n : Nat) (hn : 1024 < n) {B : Nat} {K : St × (St × (St × St))} {X : St × St} (h : rM B K.2.2 X) {q : Nat} (hq : q < 16) (h2 : sR X.1 1 q = nI 2) : ∃ b : Bool, df_X5_mustWait n (nI q) K = some (bI b, K) ∧ df_X16_waitsStill n (nI q) X = some (bI b, X) := by
  have hst := rM_st h
  have hpa := rM_pa h
  obtain ⟨m1, m2, m3, m4, m5, m6, m7⟩ := h
  obtain ⟨t, c, w, b, e, ht, hc, hw, hb, he, a1, a2, a3, a4, a5, a6, a7, a8, a9, a10, a11, a12, a13, a14, a15, a16, a17, a18, a19, a20, a21⟩ := m3 q hq
  have k2 : t = 2 := nm_inI (by omega) (by omega) (a2.symm.trans h2)
  subst k2
  obtain ⟨r1, _⟩ := a17 (by omega)
  obtain ⟨_, s1, _⟩ := a18 (by omega)
  obtain ⟨w1, w2⟩ := a20 rfl
  have r10 := r1 10 (by omega)
  have r12 := r1 12 (by omega)
  have r17 := r1 17 (by omega)
  have u1 : q * 33 + 10 < 528 := by omega
  have u2 : q * 33 + 12 < 528 := by omega
  have u3 : q * 33 + 17 < 528 := by omega
  have u4 : 32 * q + 10 < 512 := by omega
  have u5 : 32 * q + 12 < 512 := by omega
  have u6 : q < 2 ^ 31 := by omega
  have g10 : df_X5_argument n (nI q) (nI 10) K = some (sR X.1 9 (32 * q + 10), K) := by simp (disch := (first | assumption | decide | omega)) only [df_X5_argument_0, df_X5_argument, r10, eq_self, Nat.reduceEqDiff, Nat.reduceLeDiff, nl_3, nl_33, nl_528, no_1, no_1024, pk_mul, nI_add, nm_ck, nI_clamp, nI_ltI, nI_leI, nI_eq, nb_b2, nb_b1, ↓nb_let, nm_z0, nm_z1, nb_II, nb_IR, nb_RI, nb_RR, nm_IL, nm_IQ, nm_RL, nm_RQ, nm_LI, nm_LR, nm_LL, nm_LQ, nm_QI, nm_QR, nm_QL, nm_QQ, nm_rr, nm_ii, nm_eqm, not_false_eq_true, pk_sub, nm_div, nm_shl, nm_shr, nm_ush, nm_or8, nm_or64, nm_or256, nm_m1, nm_m3, nm_m7, nm_m15, nm_m31, nm_m63, nm_m255, nm_m511, nm_m1023, nm_m2047, nm_m65535, Nat.reduceMod, Nat.reducePow, Nat.reduceAdd, Nat.reduceSub, Nat.reduceMul, nm_bo, nm_bi, nm_rc, nm_ic, nm_ri, nm_rl, nm_rq, nm_ql, nm_qi, nm_li, nm_us, nm_uu, nm_cp, nm_sa31, nm_sa7, nm_m127, nm_m2, nm_nz, nm_nzk, nm_eq32, nm_nzf, if_true, if_false, ↓reduceIte, if_pos, if_neg]
  have g12 : df_X5_argument n (nI q) (nI 12) K = some (sR X.1 9 (32 * q + 12), K) := by simp (disch := (first | assumption | decide | omega)) only [df_X5_argument_0, df_X5_argument, r12, eq_self, Nat.reduceEqDiff, Nat.reduceLeDiff, nl_3, nl_33, nl_528, no_1, no_1024, pk_mul, nI_add, nm_ck, nI_clamp, nI_ltI, nI_leI, nI_eq, nb_b2, nb_b1, ↓nb_let, nm_z0, nm_z1, nb_II, nb_IR, nb_RI, nb_RR, nm_IL, nm_IQ, nm_RL, nm_RQ, nm_LI, nm_LR, nm_LL, nm_LQ, nm_QI, nm_QR, nm_QL, nm_QQ, nm_rr, nm_ii, nm_eqm, not_false_eq_true, pk_sub, nm_div, nm_shl, nm_shr, nm_ush, nm_or8, nm_or64, nm_or256, nm_m1, nm_m3, nm_m7, nm_m15, nm_m31, nm_m63, nm_m255, nm_m511, nm_m1023, nm_m2047, nm_m65535, Nat.reduceMod, Nat.reducePow, Nat.reduceAdd, Nat.reduceSub, Nat.reduceMul, nm_bo, nm_bi, nm_rc, nm_ic, nm_ri, nm_rl, nm_rq, nm_ql, nm_qi, nm_li, nm_us, nm_uu, nm_cp, nm_sa31, nm_sa7, nm_m127, nm_m2, nm_nz, nm_nzk, nm_eq32, nm_nzf, if_true, if_false, ↓reduceIte, if_pos, if_neg]
  have g17 : df_X5_argument n (nI q) (nI 17) K = some (sR X.1 9 (32 * q + 17), K) := by simp (disch := (first | assumption | decide | omega)) only [df_X5_argument_0, df_X5_argument, r17, eq_self, Nat.reduceEqDiff, Nat.reduceLeDiff, nl_3, nl_33, nl_528, no_1, no_1024, pk_mul, nI_add, nm_ck, nI_clamp, nI_ltI, nI_leI, nI_eq, nb_b2, nb_b1, ↓nb_let, nm_z0, nm_z1, nb_II, nb_IR, nb_RI, nb_RR, nm_IL, nm_IQ, nm_RL, nm_RQ, nm_LI, nm_LR, nm_LL, nm_LQ, nm_QI, nm_QR, nm_QL, nm_QQ, nm_rr, nm_ii, nm_eqm, not_false_eq_true, pk_sub, nm_div, nm_shl, nm_shr, nm_ush, nm_or8, nm_or64, nm_or256, nm_m1, nm_m3, nm_m7, nm_m15, nm_m31, nm_m63, nm_m255, nm_m511, nm_m1023, nm_m2047, nm_m65535, Nat.reduceMod, Nat.reducePow, Nat.reduceAdd, Nat.reduceSub, Nat.reduceMul, nm_bo, nm_bi, nm_rc, nm_ic, nm_ri, nm_rl, nm_rq, nm_ql, nm_qi, nm_li, nm_us, nm_uu, nm_cp, nm_sa31, nm_sa7, nm_m127, nm_m2, nm_nz, nm_nzk, nm_eq32, nm_nzf, if_true, if_false, ↓reduceIte, if_pos, if_neg]
  rcases w2 with v | ⟨v, d, o, N, v1, v2, v3, v4, v5, v6⟩ | v | v
  · obtain ⟨c1, c2⟩ := nk_child n hn hst hpa q true
    obtain ⟨d1, d2⟩ := nk_child n hn hst hpa q false
    have c1 : df_X6_leastChild n (nI q) (nI 1) K.2.2 = _ := c1
    have d1 : df_X6_leastChild n (nI q) (nI 0) K.2.2 = _ := d1
    have c2 : df_X16_child n (nI q) (nI 0) X = _ := c2
    have d2 : df_X16_child n (nI q) (nI 1) X = _ := d2
    rw [v] at g17 w1
    generalize fN (chP X q true) 0 16 = f1 at c1 c2
    generalize fN (chP X q false) 0 16 = f2 at d1 d2
    by_cases x1 : f1 < 16
    · have y1 : ¬ f1 < 0 := by omega
      have y2 : f1 < 2 ^ 31 := by omega
      rw [cv_0 x1] at c1 c2
      by_cases x2 : f2 < 16
      · have y3 : 0 ≤ f2 := by omega
        have y4 : f2 < 2 ^ 31 := by omega
        rw [cv_0 x2] at d1 d2
        refine ⟨false, ?_, ?_⟩
        · simp (disch := (first | assumption | decide | omega)) only [df_X5_mustWait_101, df_X5_mustWait_100, df_X5_mustWait_163, df_X5_mustWait_179, df_X5_mustWait_0, df_X5_mustWait, g10, g12, g17, c1, d1, y1, y3, bI_f, eq_self, Nat.reduceEqDiff, Nat.reduceLeDiff, nl_0, nl_1, nl_3, nl_6, nl_7, nl_10, nl_12, nl_16, nl_17, nl_19, nl_21, no_1, no_1024, pk_mul, nI_add, nm_ck, nI_clamp, nI_ltI, nI_leI, nI_eq, nb_b2, nb_b1, ↓nb_let, nm_z0, nm_z1, nb_II, nb_IR, nb_RI, nb_RR, nm_IL, nm_IQ, nm_RL, nm_RQ, nm_LI, nm_LR, nm_LL, nm_LQ, nm_QI, nm_QR, nm_QL, nm_QQ, nm_rr, nm_ii, nm_eqm, not_false_eq_true, pk_sub, nm_div, nm_shl, nm_shr, nm_ush, nm_or8, nm_or64, nm_or256, nm_m1, nm_m3, nm_m7, nm_m15, nm_m31, nm_m63, nm_m255, nm_m511, nm_m1023, nm_m2047, nm_m65535, Nat.reduceMod, Nat.reducePow, Nat.reduceAdd, Nat.reduceSub, Nat.reduceMul, nm_bo, nm_bi, nm_rc, nm_ic, nm_ri, nm_rl, nm_rq, nm_ql, nm_qi, nm_li, nm_us, nm_uu, nm_cp, nm_sa31, nm_sa7, nm_m127, nm_m2, nm_nz, nm_nzk, nm_eq32, nm_nzf, if_true, if_false, ↓reduceIte, if_pos, if_neg]
        · simp (disch := (first | assumption | decide | omega)) only [df_X16_waitsStill_101, df_X16_waitsStill_100, df_X16_waitsStill_157, df_X16_waitsStill_170, df_X16_waitsStill_0, df_X16_waitsStill, w1, c2, d2, bI_f, eq_self, Nat.reduceEqDiff, Nat.reduceLeDiff, nl_0, nl_1, nl_3, nl_5, nl_6, nl_7, nl_9, nl_10, nl_12, nl_14, nl_16, nl_19, nl_32, nl_256, nl_512, no_1, no_1024, pk_mul, nI_add, nm_ck, nI_clamp, nI_ltI, nI_leI, nI_eq, nb_b2, nb_b1, ↓nb_let, nm_z0, nm_z1, nb_II, nb_IR, nb_RI, nb_RR, nm_IL, nm_IQ, nm_RL, nm_RQ, nm_LI, nm_LR, nm_LL, nm_LQ, nm_QI, nm_QR, nm_QL, nm_QQ, nm_rr, nm_ii, nm_eqm, not_false_eq_true, pk_sub, nm_div, nm_shl, nm_shr, nm_ush, nm_or8, nm_or64, nm_or256, nm_m1, nm_m3, nm_m7, nm_m15, nm_m31, nm_m63, nm_m255, nm_m511, nm_m1023, nm_m2047, nm_m65535, Nat.reduceMod, Nat.reducePow, Nat.reduceAdd, Nat.reduceSub, Nat.reduceMul, nm_bo, nm_bi, nm_rc, nm_ic, nm_ri, nm_rl, nm_rq, nm_ql, nm_qi, nm_li, nm_us, nm_uu, nm_cp, nm_sa31, nm_sa7, nm_m127, nm_m2, nm_nz, nm_nzk, nm_eq32, nm_nzf, if_true, if_false, ↓reduceIte, if_pos, if_neg]
      · rw [cv_1 x2] at d1 d2
        have z0 : ¬ (nI 0 : Int32) ≤ -nI 1 := by decide
        refine ⟨true, ?_, ?_⟩
        · simp (disch := (first | assumption | decide | omega)) only [df_X5_mustWait_101, df_X5_mustWait_100, df_X5_mustWait_163, df_X5_mustWait_179, df_X5_mustWait_0, df_X5_mustWait, g10, g12, g17, c1, d1, y1, z0, bI_t, eq_self, Nat.reduceEqDiff, Nat.reduceLeDiff, nl_0, nl_1, nl_3, nl_6, nl_7, nl_10, nl_12, nl_16, nl_17, nl_19, nl_21, no_1, no_1024, pk_mul, nI_add, nm_ck, nI_clamp, nI_ltI, nI_leI, nI_eq, nb_b2, nb_b1, ↓nb_let, nm_z0, nm_z1, nb_II, nb_IR, nb_RI, nb_RR, nm_IL, nm_IQ, nm_RL, nm_RQ, nm_LI, nm_LR, nm_LL, nm_LQ, nm_QI, nm_QR, nm_QL, nm_QQ, nm_rr, nm_ii, nm_eqm, not_false_eq_true, pk_sub, nm_div, nm_shl, nm_shr, nm_ush, nm_or8, nm_or64, nm_or256, nm_m1, nm_m3, nm_m7, nm_m15, nm_m31, nm_m63, nm_m255, nm_m511, nm_m1023, nm_m2047, nm_m65535, Nat.reduceMod, Nat.reducePow, Nat.reduceAdd, Nat.reduceSub, Nat.reduceMul, nm_bo, nm_bi, nm_rc, nm_ic, nm_ri, nm_rl, nm_rq, nm_ql, nm_qi, nm_li, nm_us, nm_uu, nm_cp, nm_sa31, nm_sa7, nm_m127, nm_m2, nm_nz, nm_nzk, nm_eq32, nm_nzf, if_true, if_false, ↓reduceIte, if_pos, if_neg]
        · simp (disch := (first | assumption | decide | omega)) only [df_X16_waitsStill_101, df_X16_waitsStill_100, df_X16_waitsStill_157, df_X16_waitsStill_170, df_X16_waitsStill_0, df_X16_waitsStill, w1, c2, d2, bI_t, eq_self, Nat.reduceEqDiff, Nat.reduceLeDiff, nl_0, nl_1, nl_3, nl_5, nl_6, nl_7, nl_9, nl_10, nl_12, nl_14, nl_16, nl_19, nl_32, nl_256, nl_512, no_1, no_1024, pk_mul, nI_add, nm_ck, nI_clamp, nI_ltI, nI_leI, nI_eq, nb_b2, nb_b1, ↓nb_let, nm_z0, nm_z1, nb_II, nb_IR, nb_RI, nb_RR, nm_IL, nm_IQ, nm_RL, nm_RQ, nm_LI, nm_LR, nm_LL, nm_LQ, nm_QI, nm_QR, nm_QL, nm_QQ, nm_rr, nm_ii, nm_eqm, not_false_eq_true, pk_sub, nm_div, nm_shl, nm_shr, nm_ush, nm_or8, nm_or64, nm_or256, nm_m1, nm_m3, nm_m7, nm_m15, nm_m31, nm_m63, nm_m255, nm_m511, nm_m1023, nm_m2047, nm_m65535, Nat.reduceMod, Nat.reducePow, Nat.reduceAdd, Nat.reduceSub, Nat.reduceMul, nm_bo, nm_bi, nm_rc, nm_ic, nm_ri, nm_rl, nm_rq, nm_ql, nm_qi, nm_li, nm_us, nm_uu, nm_cp, nm_sa31, nm_sa7, nm_m127, nm_m2, nm_nz, nm_nzk, nm_eq32, nm_nzf, if_true, if_false, ↓reduceIte, if_pos, if_neg]
    · rw [cv_1 x1] at c1 c2
      refine ⟨false, ?_, ?_⟩
      · simp (disch := (first | assumption | decide | omega)) only [df_X5_mustWait_101, df_X5_mustWait_100, df_X5_mustWait_163, df_X5_mustWait_179, df_X5_mustWait_0, df_X5_mustWait, g10, g12, g17, c1, nm_ltm, bI_f, eq_self, Nat.reduceEqDiff, Nat.reduceLeDiff, nl_0, nl_1, nl_3, nl_6, nl_7, nl_10, nl_12, nl_16, nl_17, nl_19, nl_21, no_1, no_1024, pk_mul, nI_add, nm_ck, nI_clamp, nI_ltI, nI_leI, nI_eq, nb_b2, nb_b1, ↓nb_let, nm_z0, nm_z1, nb_II, nb_IR, nb_RI, nb_RR, nm_IL, nm_IQ, nm_RL, nm_RQ, nm_LI, nm_LR, nm_LL, nm_LQ, nm_QI, nm_QR, nm_QL, nm_QQ, nm_rr, nm_ii, nm_eqm, not_false_eq_true, pk_sub, nm_div, nm_shl, nm_shr, nm_ush, nm_or8, nm_or64, nm_or256, nm_m1, nm_m3, nm_m7, nm_m15, nm_m31, nm_m63, nm_m255, nm_m511, nm_m1023, nm_m2047, nm_m65535, Nat.reduceMod, Nat.reducePow, Nat.reduceAdd, Nat.reduceSub, Nat.reduceMul, nm_bo, nm_bi, nm_rc, nm_ic, nm_ri, nm_rl, nm_rq, nm_ql, nm_qi, nm_li, nm_us, nm_uu, nm_cp, nm_sa31, nm_sa7, nm_m127, nm_m2, nm_nz, nm_nzk, nm_eq32, nm_nzf, if_true, if_false, ↓reduceIte, if_pos, if_neg]
      · simp (disch := (first | assumption | decide | omega)) only [df_X16_waitsStill_101, df_X16_waitsStill_100, df_X16_waitsStill_157, df_X16_waitsStill_170, df_X16_waitsStill_0, df_X16_waitsStill, w1, c2, bI_f, eq_self, Nat.reduceEqDiff, Nat.reduceLeDiff, nl_0, nl_1, nl_3, nl_5, nl_6, nl_7, nl_9, nl_10, nl_12, nl_14, nl_16, nl_19, nl_32, nl_256, nl_512, no_1, no_1024, pk_mul, nI_add, nm_ck, nI_clamp, nI_ltI, nI_leI, nI_eq, nb_b2, nb_b1, ↓nb_let, nm_z0, nm_z1, nb_II, nb_IR, nb_RI, nb_RR, nm_IL, nm_IQ, nm_RL, nm_RQ, nm_LI, nm_LR, nm_LL, nm_LQ, nm_QI, nm_QR, nm_QL, nm_QQ, nm_rr, nm_ii, nm_eqm, not_false_eq_true, pk_sub, nm_div, nm_shl, nm_shr, nm_ush, nm_or8, nm_or64, nm_or256, nm_m1, nm_m3, nm_m7, nm_m15, nm_m31, nm_m63, nm_m255, nm_m511, nm_m1023, nm_m2047, nm_m65535, Nat.reduceMod, Nat.reducePow, Nat.reduceAdd, Nat.reduceSub, Nat.reduceMul, nm_bo, nm_bi, nm_rc, nm_ic, nm_ri, nm_rl, nm_rq, nm_ql, nm_qi, nm_li, nm_us, nm_uu, nm_cp, nm_sa31, nm_sa7, nm_m127, nm_m2, nm_nz, nm_nzk, nm_eq32, nm_nzf, if_true, if_false, ↓reduceIte, if_pos, if_neg]
  · have nk : ¬ sR X.1 19 o = nI 0 := by
      rcases nk_opening n m2 hq (nI d) with ⟨_, _, z⟩ | ⟨d', o', y1, y2, y3, y4, y5, _⟩
      · exact absurd (v5.symm.trans (z d v1 rfl)) (nk_ne (by omega))
      · have e1 : d = d' := nm_inI (by omega) (by omega) y3
        subst e1
        have e2 : o = o' := nm_inI (by omega) (by omega) (v5.symm.trans y4)
        rw [e2]; exact y5
    have op : df_X10_openingOf n (nI q) (nI d) K.2.2.2 = some (nI o, K.2.2.2) := by
      rcases nk_opening n m2 hq (nI d) with ⟨_, _, z⟩ | ⟨d', o', y1, y2, y3, y4, y5, y6, _⟩
      · exact absurd (v5.symm.trans (z d v1 rfl)) (nk_ne (by omega))
      · have e1 : d = d' := nm_inI (by omega) (by omega) y3
        subst e1
        have e2 : o = o' := nm_inI (by omega) (by omega) (v5.symm.trans y4)
        rw [e2]; exact y6
    rw [v4] at g10
    rw [v6] at g12
    rcases v with v | v
    · obtain ⟨bb, x1, x2⟩ := nk_readWaits n hn m2 (rTT_l m7) (rTT_t m7) v2 nk v3
      rw [v] at g17 w1
      exact ⟨bb, mw_6C n bb g10 g12 g17 op x1, mw_6R n hq v1 bb w1 v4 v6 v5 x2⟩
    · obtain ⟨bb, x1, x2⟩ := nk_writeWaits n hn m2 (rTT_l m7) v2 nk v3
      rw [v] at g17 w1
      exact ⟨bb, mw_7C n bb g10 g12 g17 op x1, mw_7R n hq v1 bb w1 v4 v6 v5 x2⟩
  · rw [v] at g17 w1
    exact ⟨_, mw_19C n hq g10 g12 g17 m5.2.2.2.2.2.2.2.2.2.1 s1, mw_19R n hq w1 rfl rfl⟩
  · rw [v] at g17 w1
    obtain ⟨⟨k, hk, x1, x2, _⟩, _⟩ := m6
    exact ⟨_, mw_21C n hq hk g10 g12 g17 x1, mw_21R n hq hk w1 x2⟩

theorem cW_ch {st : Nat → Int32} {q : Nat} (hq : q < 16) (v : Int32) : cW (upd st q v) + (decide (st q = nI 2)).toNat = cW st + (decide (v = nI 2)).toNat := by
  have := cN_u (P := fun j => decide (st j = nI 2)) (Q := fun j => decide (upd st q v j = nI 2)) (j := q) (fun j hj => by rw [nm_un hj]) (N := 16) hq
  rw [nm_us] at this
  exact this
theorem cW_le (st : Nat → Int32) : cW st ≤ 16 := cN_le _ _
/-- a WAITING one becomes READY -/
theorem rM_wake {B : Nat} {M X : St × St} (h : rM B M X) {q : Nat} (hq : q < 16) (h2 : sR X.1 1 q = nI 2) : rM B (pI (pR M.1 6 (upd (sR M.1 6) (q * 7) (nI 1))) 2 (nI (cW (sR X.1 1) - 1)), M.2) (pR (pR X.1 1 (upd (sR X.1 1) q (nI 1))) 7 (upd (sR X.1 7) q (-nI 1)), X.2) := by
  obtain ⟨m1, m2, m3, m4, m5, m6, m7⟩ := h
  refine ⟨m1, m2, fun r hr => ?_, ?_, m5, m6, m7⟩
  · by_cases c : r = q
    · subst c
      obtain ⟨t, c, w, b, e, ht, hc, hw, hb, he, a1, a2, a3, a4, a5, a6, a7, a8, a9, a10, a11, a12, a13, a14, a15, a16, a17, a18, a19, a20, a21⟩ := m3 r hr
      have k2 : t = 2 := nm_inI (by omega) (by omega) (a2.symm.trans h2)
      subst k2
      exact ⟨1, c, w, b, e, by omega, hc, hw, hb, he, nm_us, nm_us, (nm_un (by omega)).trans a3, a4, a5, fun z => absurd z (by omega), fun _ => (nm_un (by omega)).trans (a7 (by omega)), (nm_un (by omega)).trans a8, a9, (nm_un (by omega)).trans a10, a11, (nm_un (by omega)).trans a12, a13, (nm_un (by omega)).trans a14, a15, a16, fun _ => a17 (by omega), fun _ => a18 (by omega), fun z => by omega, fun z => absurd z (by omega), fun _ => nm_us⟩
    · exact rP1_ag (m3 r hr) ⟨fun i hi => nm_un (by omega), fun _ _ => rfl, fun _ _ => rfl, fun _ _ => rfl, rfl⟩ ⟨⟨nm_un c, rfl, rfl, rfl, rfl, rfl, nm_un c, rfl⟩, fun _ _ => rfl, rfl, fun _ _ => rfl, rfl, fun _ _ => rfl, fun _ _ => rfl, fun _ _ => Iff.rfl, rfl⟩
  · have := cW_ch (st := sR X.1 1) hq (nI 1)
    rw [nm_dt h2, nm_df (show ¬ nI 1 = nI 2 by decide)] at this
    exact congrArg nI (show cW (sR X.1 1) - 1 = cW (upd (sR X.1 1) q (nI 1)) by omega)
/-- the current one is chosen, in both -/
theorem rM_cur {B : Nat} {M X : St × St} (h : rM B M X) {v l : Int32} (hv : okP v) (hl : ∃ k : Nat, k < 16 ∧ l = nI k) (hvl : v = -nI 1 ∨ l = v) : rM B (pI (pI M.1 3 v) 4 l, M.2) (pI (pI X.1 1 v) 2 l, X.2) := by
  obtain ⟨m1, m2, m3, m4, ⟨g1, g2, g3, g4, g5, g6, g7, g8⟩, m6, m7⟩ := h
  exact ⟨m1, m2, m3, m4, ⟨rfl, hv, rfl, hl, hvl, g6, g7, g8⟩, m6, m7⟩
theorem nk_chooseB (n : Nat) (hn : 1024 < n) {B : Nat} {M X : St × St} (h : rM B M X) : ∃ M' X' : St × St, df_X6_chooseCurrent n M = some M' ∧ (∀ g : Int32 → St × St → Option (St × St), dF_X16_settle_2 n g (nI 16) X = some X') ∧ rM B M' X' ∧ kX X X' ∧ kM M M' ∧ ((M' = M ∧ X' = X ∧ ∃ a : Nat, a < 16 ∧ sI X.1 1 = nI a ∧ sR X.1 1 a = nI 1) ∨ ((sI X.1 1 = -nI 1 ∨ ∃ a : Nat, a < 16 ∧ sI X.1 1 = nI a ∧ ¬ sR X.1 1 a = nI 1) ∧ ∃ v l : Int32, X' = (pI (pI X.1 1 v) 2 l, X.2) ∧ M' = (pI (pI M.1 3 v) 4 l, M.2) ∧ (v = -nI 1 → (∀ q : Nat, q < 16 → ¬ sR X.1 1 q = nI 1) ∧ l = sI X.1 2) ∧ ∀ a : Nat, a < 16 → v = nI a → sR X.1 1 a = nI 1)) := by
  have hst := rM_st h
  obtain ⟨g1, g2, g3, ⟨la, hla, g4⟩, g5, g6, g7, g8⟩ := h.2.2.2.2.1
  have em := g3.trans g4
  have ch := nk_choose n hn hst hla em
  have tu := nk_turn n hn (X := X) (fun q hq => by obtain ⟨t, h1, _, h3⟩ := hst q hq; exact ⟨t, h1, h3⟩) hla g4
  have key : ∀ q : Nat, q < 16 → ¬ nr (sR X.1 1) la < 17 → ¬ sR X.1 1 q = nI 1 := fun q hq hn e => by
    unfold nr at hn
    obtain ⟨x1, x2, x3, x4⟩ := fN_le (fun k => decide (sR X.1 1 ((la + k) % 16) = nI 1)) 16 1
    have := x4 (if q ≤ la then q + 16 - la else q - la) (by split <;> omega) (by split <;> omega)
    have := of_decide_eq_false this
    refine this ?_
    rw [show (la + if q ≤ la then q + 16 - la else q - la) % 16 = q by split <;> omega]
    exact e
  have nl := (nr_le (sR X.1 1) la).2.2
  generalize nr (sR X.1 1) la = f at ch tu key nl
  have fin : rM B (pI (pI M.1 3 (if f < 17 then nI ((la + f) % 16) else -nI 1)) 4 (if f < 17 then nI ((la + f) % 16) else nI la), M.2) (pI (pI X.1 1 (if f < 17 then nI ((la + f) % 16) else -nI 1)) 2 (if f < 17 then nI ((la + f) % 16) else nI la), X.2) := by
    by_cases c : f < 17
    · rw [if_pos c, if_pos c]
      exact rM_cur h (Or.inr ⟨_, by omega, rfl⟩) ⟨_, by omega, rfl⟩ (Or.inr rfl)
    · rw [if_neg c, if_neg c]
      exact rM_cur h (Or.inl rfl) ⟨la, hla, rfl⟩ (Or.inl rfl)
  have last : ∃ v l : Int32, (pI (pI X.1 1 (if f < 17 then nI ((la + f) % 16) else -nI 1)) 2 (if f < 17 then nI ((la + f) % 16) else nI la), X.2) = (pI (pI X.1 1 v) 2 l, X.2) ∧ (pI (pI M.1 3 (if f < 17 then nI ((la + f) % 16) else -nI 1)) 4 (if f < 17 then nI ((la + f) % 16) else nI la), M.2) = (pI (pI M.1 3 v) 4 l, M.2) ∧ (v = -nI 1 → (∀ q : Nat, q < 16 → ¬ sR X.1 1 q = nI 1) ∧ l = sI X.1 2) ∧ ∀ a : Nat, a < 16 → v = nI a → sR X.1 1 a = nI 1 := by
    refine ⟨_, _, rfl, rfl, fun z => ?_, fun a ha z => ?_⟩
    · by_cases c : f < 17
      · rw [if_pos c] at z
        exact absurd z (nk_ne (by omega))
      · rw [if_neg c]
        exact ⟨fun q hq => key q hq c, g4.symm⟩
    · by_cases c : f < 17
      · rw [if_pos c] at z
        have : (la + f) % 16 = a := nm_inI (by omega) (by omega) z
        rw [← this]; exact nl c
      · rw [if_neg c] at z
        exact absurd z.symm (nk_ne (by omega))
  rcases g2 with z | ⟨a, ha, z⟩
  · have z' := g1.trans z
    refine ⟨_, _, ?_, fun g => ?_, fin, ⟨rfl, rfl, rfl, rfl, rfl, rfl, rfl⟩, rfl, Or.inr ⟨Or.inl z, last⟩⟩
    · simp (disch := (first | assumption | decide | omega)) only [df_X6_chooseCurrent, df_X6_chooseCurrent_0, z', nm_ltm, ch, eq_self, Nat.reduceEqDiff, Nat.reduceLeDiff, nl_0, nl_1, nl_3, nl_15, no_1, no_1024, pk_mul, nI_add, nm_ck, nI_clamp, nI_ltI, nI_leI, nI_eq, nb_b2, nb_b1, ↓nb_let, nm_z0, nm_z1, nb_II, nb_IR, nb_RI, nb_RR, nm_IL, nm_IQ, nm_RL, nm_RQ, nm_LI, nm_LR, nm_LL, nm_LQ, nm_QI, nm_QR, nm_QL, nm_QQ, nm_rr, nm_ii, nm_eqm, not_false_eq_true, pk_sub, nm_div, nm_shl, nm_shr, nm_ush, nm_or8, nm_or64, nm_or256, nm_m1, nm_m3, nm_m7, nm_m15, nm_m31, nm_m63, nm_m255, nm_m511, nm_m1023, nm_m2047, nm_m65535, Nat.reduceMod, Nat.reducePow, Nat.reduceAdd, Nat.reduceSub, Nat.reduceMul, nm_bo, nm_bi, nm_rc, nm_ic, nm_ri, nm_rl, nm_rq, nm_ql, nm_qi, nm_li, nm_us, nm_uu, nm_cp, nm_sa31, nm_sa7, nm_m127, nm_m2, nm_nz, nm_nzk, nm_eq32, nm_nzf, if_true, if_false, ↓reduceIte, if_pos, if_neg]
    · simp (disch := (first | assumption | decide | omega)) only [dF_X16_settle_2, df_X16_settle_79, z, tu, eq_self, Nat.reduceEqDiff, Nat.reduceLeDiff, nl_0, nl_1, nl_2, nl_16, no_1, no_1024, pk_mul, nI_add, nm_ck, nI_clamp, nI_ltI, nI_leI, nI_eq, nb_b2, nb_b1, ↓nb_let, nm_z0, nm_z1, nb_II, nb_IR, nb_RI, nb_RR, nm_IL, nm_IQ, nm_RL, nm_RQ, nm_LI, nm_LR, nm_LL, nm_LQ, nm_QI, nm_QR, nm_QL, nm_QQ, nm_rr, nm_ii, nm_eqm, not_false_eq_true, pk_sub, nm_div, nm_shl, nm_shr, nm_ush, nm_or8, nm_or64, nm_or256, nm_m1, nm_m3, nm_m7, nm_m15, nm_m31, nm_m63, nm_m255, nm_m511, nm_m1023, nm_m2047, nm_m65535, Nat.reduceMod, Nat.reducePow, Nat.reduceAdd, Nat.reduceSub, Nat.reduceMul, nm_bo, nm_bi, nm_rc, nm_ic, nm_ri, nm_rl, nm_rq, nm_ql, nm_qi, nm_li, nm_us, nm_uu, nm_cp, nm_sa31, nm_sa7, nm_m127, nm_m2, nm_nz, nm_nzk, nm_eq32, nm_nzf, if_true, if_false, ↓reduceIte, if_pos, if_neg]
  · have z' := g1.trans z
    have u1 : a < 2 ^ 31 := by omega
    have u2 : ¬ a < 0 := by omega
    have u3 : a % 16 = a := by omega
    have u4 : a * 7 < 112 := by omega
    obtain ⟨t, ht, t1, t2⟩ := hst a ha
    have u5 : t < 2 ^ 31 := by omega
    by_cases c : t = 1
    · rw [c] at t1 t2
      refine ⟨M, X, ?_, fun g => ?_, h, ⟨rfl, rfl, rfl, rfl, rfl, rfl, rfl⟩, rfl, Or.inl ⟨rfl, rfl, a, ha, z, t2⟩⟩
      · simp (disch := (first | assumption | decide | omega)) only [df_X6_chooseCurrent, df_X6_chooseCurrent_0, df_X6_chooseCurrent_34, df_X6_status_0, df_X6_status, z', u2, u3, Nat.add_zero, t1, eq_self, Nat.reduceEqDiff, Nat.reduceLeDiff, nl_0, nl_1, nl_3, nl_6, nl_7, nl_15, nl_112, no_1, no_1024, pk_mul, nI_add, nm_ck, nI_clamp, nI_ltI, nI_leI, nI_eq, nb_b2, nb_b1, ↓nb_let, nm_z0, nm_z1, nb_II, nb_IR, nb_RI, nb_RR, nm_IL, nm_IQ, nm_RL, nm_RQ, nm_LI, nm_LR, nm_LL, nm_LQ, nm_QI, nm_QR, nm_QL, nm_QQ, nm_rr, nm_ii, nm_eqm, not_false_eq_true, pk_sub, nm_div, nm_shl, nm_shr, nm_ush, nm_or8, nm_or64, nm_or256, nm_m1, nm_m3, nm_m7, nm_m15, nm_m31, nm_m63, nm_m255, nm_m511, nm_m1023, nm_m2047, nm_m65535, Nat.reduceMod, Nat.reducePow, Nat.reduceAdd, Nat.reduceSub, Nat.reduceMul, nm_bo, nm_bi, nm_rc, nm_ic, nm_ri, nm_rl, nm_rq, nm_ql, nm_qi, nm_li, nm_us, nm_uu, nm_cp, nm_sa31, nm_sa7, nm_m127, nm_m2, nm_nz, nm_nzk, nm_eq32, nm_nzf, if_true, if_false, ↓reduceIte, if_pos, if_neg]
      · simp (disch := (first | assumption | decide | omega)) only [dF_X16_settle_2, df_X16_settle_79, z, t2, eq_self, Nat.reduceEqDiff, Nat.reduceLeDiff, nl_0, nl_1, nl_2, nl_16, no_1, no_1024, pk_mul, nI_add, nm_ck, nI_clamp, nI_ltI, nI_leI, nI_eq, nb_b2, nb_b1, ↓nb_let, nm_z0, nm_z1, nb_II, nb_IR, nb_RI, nb_RR, nm_IL, nm_IQ, nm_RL, nm_RQ, nm_LI, nm_LR, nm_LL, nm_LQ, nm_QI, nm_QR, nm_QL, nm_QQ, nm_rr, nm_ii, nm_eqm, not_false_eq_true, pk_sub, nm_div, nm_shl, nm_shr, nm_ush, nm_or8, nm_or64, nm_or256, nm_m1, nm_m3, nm_m7, nm_m15, nm_m31, nm_m63, nm_m255, nm_m511, nm_m1023, nm_m2047, nm_m65535, Nat.reduceMod, Nat.reducePow, Nat.reduceAdd, Nat.reduceSub, Nat.reduceMul, nm_bo, nm_bi, nm_rc, nm_ic, nm_ri, nm_rl, nm_rq, nm_ql, nm_qi, nm_li, nm_us, nm_uu, nm_cp, nm_sa31, nm_sa7, nm_m127, nm_m2, nm_nz, nm_nzk, nm_eq32, nm_nzf, if_true, if_false, ↓reduceIte, if_pos, if_neg]
    · refine ⟨_, _, ?_, fun g => ?_, fin, ⟨rfl, rfl, rfl, rfl, rfl, rfl, rfl⟩, rfl, Or.inr ⟨Or.inr ⟨a, ha, z, fun y => c (nm_inI (by omega) (by omega) (t2.symm.trans y))⟩, last⟩⟩
      · simp (disch := (first | assumption | decide | omega)) only [df_X6_chooseCurrent, df_X6_chooseCurrent_0, df_X6_chooseCurrent_34, df_X6_status_0, df_X6_status, z', u2, u3, Nat.add_zero, t1, c, ch, eq_self, Nat.reduceEqDiff, Nat.reduceLeDiff, nl_0, nl_1, nl_3, nl_6, nl_7, nl_15, nl_112, no_1, no_1024, pk_mul, nI_add, nm_ck, nI_clamp, nI_ltI, nI_leI, nI_eq, nb_b2, nb_b1, ↓nb_let, nm_z0, nm_z1, nb_II, nb_IR, nb_RI, nb_RR, nm_IL, nm_IQ, nm_RL, nm_RQ, nm_LI, nm_LR, nm_LL, nm_LQ, nm_QI, nm_QR, nm_QL, nm_QQ, nm_rr, nm_ii, nm_eqm, not_false_eq_true, pk_sub, nm_div, nm_shl, nm_shr, nm_ush, nm_or8, nm_or64, nm_or256, nm_m1, nm_m3, nm_m7, nm_m15, nm_m31, nm_m63, nm_m255, nm_m511, nm_m1023, nm_m2047, nm_m65535, Nat.reduceMod, Nat.reducePow, Nat.reduceAdd, Nat.reduceSub, Nat.reduceMul, nm_bo, nm_bi, nm_rc, nm_ic, nm_ri, nm_rl, nm_rq, nm_ql, nm_qi, nm_li, nm_us, nm_uu, nm_cp, nm_sa31, nm_sa7, nm_m127, nm_m2, nm_nz, nm_nzk, nm_eq32, nm_nzf, if_true, if_false, ↓reduceIte, if_pos, if_neg]
      · simp (disch := (first | assumption | decide | omega)) only [dF_X16_settle_2, df_X16_settle_79, z, t2, c, tu, eq_self, Nat.reduceEqDiff, Nat.reduceLeDiff, nl_0, nl_1, nl_2, nl_16, no_1, no_1024, pk_mul, nI_add, nm_ck, nI_clamp, nI_ltI, nI_leI, nI_eq, nb_b2, nb_b1, ↓nb_let, nm_z0, nm_z1, nb_II, nb_IR, nb_RI, nb_RR, nm_IL, nm_IQ, nm_RL, nm_RQ, nm_LI, nm_LR, nm_LL, nm_LQ, nm_QI, nm_QR, nm_QL, nm_QQ, nm_rr, nm_ii, nm_eqm, not_false_eq_true, pk_sub, nm_div, nm_shl, nm_shr, nm_ush, nm_or8, nm_or64, nm_or256, nm_m1, nm_m3, nm_m7, nm_m15, nm_m31, nm_m63, nm_m255, nm_m511, nm_m1023, nm_m2047, nm_m65535, Nat.reduceMod, Nat.reducePow, Nat.reduceAdd, Nat.reduceSub, Nat.reduceMul, nm_bo, nm_bi, nm_rc, nm_ic, nm_ri, nm_rl, nm_rq, nm_ql, nm_qi, nm_li, nm_us, nm_uu, nm_cp, nm_sa31, nm_sa7, nm_m127, nm_m2, nm_nz, nm_nzk, nm_eq32, nm_nzf, if_true, if_false, ↓reduceIte, if_pos, if_neg]
/-- the class's turn, one that WAITS -/
theorem st_C (n : Nat) {G : Int32 → St × (St × (St × St)) → Option (St × (St × (St × St)))} {K : St × (St × (St × St))} {q x : Nat} (hq : q < 16) (x0 : ¬ x ≤ 0) (hx : x ≤ 16) (m4 : sI K.2.2.1 2 = nI x) (t1 : sR K.2.2.1 6 (q * 7) = nI 2) {f : Nat} (hf : f < 16) (k1 : df_X6_takeable n (nI q) K.2.2 = some (nI f, K.2.2)) : dF_X5_settle_2 n G (nI q) K = if f = 0 then nd_b2 (df_X5_mustWait n (nI q) K) (fun v s => if v = 0 then df_X5_settle_49 n G (nI q) s else df_X5_settle_74 n G (nI q) s) else df_X5_settle_49 n G (nI q) K := by
  have u1 : q * 7 < 112 := by omega
  have u2 : q < 2 ^ 31 := by omega
  have u4 : q * 7 < 2 ^ 31 := by omega
  have u5 : x < 2 ^ 31 := by omega
  have u6 : f < 2 ^ 31 := by omega
  have q16 : ¬ 16 ≤ q := by omega
  by_cases f0 : f = 0
  · subst f0
    rw [if_pos rfl]
    simp (disch := (first | assumption | decide | omega)) only [dF_X5_settle_2, df_X6_status_0, df_X6_status, q16, m4, x0, Nat.add_zero, t1, k1, eq_self, Nat.reduceEqDiff, Nat.reduceLeDiff, nl_0, nl_2, nl_6, nl_7, nl_16, nl_112, no_1, no_1024, pk_mul, nI_add, nm_ck, nI_clamp, nI_ltI, nI_leI, nI_eq, nb_b2, nb_b1, ↓nb_let, nm_z0, nm_z1, nb_II, nb_IR, nb_RI, nb_RR, nm_IL, nm_IQ, nm_RL, nm_RQ, nm_LI, nm_LR, nm_LL, nm_LQ, nm_QI, nm_QR, nm_QL, nm_QQ, nm_rr, nm_ii, nm_eqm, not_false_eq_true, pk_sub, nm_div, nm_shl, nm_shr, nm_ush, nm_or8, nm_or64, nm_or256, nm_m1, nm_m3, nm_m7, nm_m15, nm_m31, nm_m63, nm_m255, nm_m511, nm_m1023, nm_m2047, nm_m65535, Nat.reduceMod, Nat.reducePow, Nat.reduceAdd, Nat.reduceSub, Nat.reduceMul, nm_bo, nm_bi, nm_rc, nm_ic, nm_ri, nm_rl, nm_rq, nm_ql, nm_qi, nm_li, nm_us, nm_uu, nm_cp, nm_sa31, nm_sa7, nm_m127, nm_m2, nm_nz, nm_nzk, nm_eq32, nm_nzf, if_true, if_false, ↓reduceIte, if_pos, if_neg]
  · rw [if_neg f0]
    simp (disch := (first | assumption | decide | omega)) only [dF_X5_settle_2, df_X6_status_0, df_X6_status, q16, m4, x0, Nat.add_zero, t1, k1, f0, eq_self, Nat.reduceEqDiff, Nat.reduceLeDiff, nl_0, nl_2, nl_6, nl_7, nl_16, nl_112, no_1, no_1024, pk_mul, nI_add, nm_ck, nI_clamp, nI_ltI, nI_leI, nI_eq, nb_b2, nb_b1, ↓nb_let, nm_z0, nm_z1, nb_II, nb_IR, nb_RI, nb_RR, nm_IL, nm_IQ, nm_RL, nm_RQ, nm_LI, nm_LR, nm_LL, nm_LQ, nm_QI, nm_QR, nm_QL, nm_QQ, nm_rr, nm_ii, nm_eqm, not_false_eq_true, pk_sub, nm_div, nm_shl, nm_shr, nm_ush, nm_or8, nm_or64, nm_or256, nm_m1, nm_m3, nm_m7, nm_m15, nm_m31, nm_m63, nm_m255, nm_m511, nm_m1023, nm_m2047, nm_m65535, Nat.reduceMod, Nat.reducePow, Nat.reduceAdd, Nat.reduceSub, Nat.reduceMul, nm_bo, nm_bi, nm_rc, nm_ic, nm_ri, nm_rl, nm_rq, nm_ql, nm_qi, nm_li, nm_us, nm_uu, nm_cp, nm_sa31, nm_sa7, nm_m127, nm_m2, nm_nz, nm_nzk, nm_eq32, nm_nzf, if_true, if_false, ↓reduceIte, if_pos, if_neg]
theorem st_49 (n : Nat) {G : Int32 → St × (St × (St × St)) → Option (St × (St × (St × St)))} {K : St × (St × (St × St))} {q x : Nat} (hq : q < 16) (x0 : ¬ x ≤ 0) (hx : x ≤ 16) (m4 : sI K.2.2.1 2 = nI x) : df_X5_settle_49 n G (nI q) K = G (nI (q + 1)) (K.1, (K.2.1, (pI (pR K.2.2.1 6 (upd (sR K.2.2.1 6) (q * 7) (nI 1))) 2 (nI (x - 1)), K.2.2.2))) := by
  have u1 : q * 7 < 112 := by omega
  have u2 : q < 2 ^ 31 := by omega
  have u4 : q * 7 < 2 ^ 31 := by omega
  have u5 : 1 ≤ x := by omega
  simp (disch := (first | assumption | decide | omega)) only [df_X5_settle_49, df_X5_settle_74, Nat.add_zero, m4, eq_self, Nat.reduceEqDiff, Nat.reduceLeDiff, nl_0, nl_1, nl_2, nl_6, nl_7, nl_112, no_1, no_1024, pk_mul, nI_add, nm_ck, nI_clamp, nI_ltI, nI_leI, nI_eq, nb_b2, nb_b1, ↓nb_let, nm_z0, nm_z1, nb_II, nb_IR, nb_RI, nb_RR, nm_IL, nm_IQ, nm_RL, nm_RQ, nm_LI, nm_LR, nm_LL, nm_LQ, nm_QI, nm_QR, nm_QL, nm_QQ, nm_rr, nm_ii, nm_eqm, not_false_eq_true, pk_sub, nm_div, nm_shl, nm_shr, nm_ush, nm_or8, nm_or64, nm_or256, nm_m1, nm_m3, nm_m7, nm_m15, nm_m31, nm_m63, nm_m255, nm_m511, nm_m1023, nm_m2047, nm_m65535, Nat.reduceMod, Nat.reducePow, Nat.reduceAdd, Nat.reduceSub, Nat.reduceMul, nm_bo, nm_bi, nm_rc, nm_ic, nm_ri, nm_rl, nm_rq, nm_ql, nm_qi, nm_li, nm_us, nm_uu, nm_cp, nm_sa31, nm_sa7, nm_m127, nm_m2, nm_nz, nm_nzk, nm_eq32, nm_nzf, if_true, if_false, ↓reduceIte, if_pos, if_neg]
/-- one turn of 'settle' -/
theorem nk_settleT (n : Nat) (hn : 1024 < n) {B : Nat} {K : St × (St × (St × St))} {X : St × St} (h : rM B K.2.2 X) {q : Nat} (hq : q < 16) : ∃ M' X' : St × St, (∀ m : Nat, df_X5_settle_2 n (m + 1 + 1) (nI q) K = df_X5_settle_2 n (m + 1) (nI (q + 1)) (K.1, (K.2.1, M')) ∧ df_X16_settle_2 n (m + 1) (nI q) X = df_X16_settle_2 n m (nI (q + 1)) X') ∧ rM B M' X' ∧ kX X X' ∧ kM K.2.2 M' ∧ ((M' = K.2.2 ∧ X' = X) ∨ (sR X.1 1 q = nI 2 ∧ M' = (pI (pR K.2.2.1 6 (upd (sR K.2.2.1 6) (q * 7) (nI 1))) 2 (nI (cW (sR X.1 1) - 1)), K.2.2.2) ∧ X' = (pR (pR X.1 1 (upd (sR X.1 1) q (nI 1))) 7 (upd (sR X.1 7) q (-nI 1)), X.2))) ∧ (sR X'.1 1 q = nI 2 → df_X16_waitsStill n (nI q) X = some (nI 1, X) ∧ df_X16_takeable n (nI q) X = some (nI 0, X)) := by
  have hst := rM_st h
  obtain ⟨t, ht, t1, t2⟩ := hst q hq
  have m4 := h.2.2.2.1
  have cl := cW_le (sR X.1 1)
  have u1 : q * 7 < 112 := by omega
  have u2 : q < 2 ^ 31 := by omega
  have u3 : t < 2 ^ 31 := by omega
  have u4 : q * 7 < 2 ^ 31 := by omega
  have q16 : ¬ 16 ≤ q := by omega
  by_cases k2 : t = 2
  · subst k2
    obtain ⟨b, w1, w2⟩ := nk_mustWait n hn h hq t2
    have hp := h.2.2.1 q hq
    obtain ⟨t', c, w, b', e, ht', hc, hw, hb, he, a1, a2, a3, a4, a5, a6, a7, a8, a9, a10, a11, _⟩ := hp
    obtain ⟨k1, k2, k3⟩ := nk_takeable n hn hq hc hw a8 a10 a9 a11
    have k1 : df_X6_takeable n (nI q) K.2.2 = some (nI (tk (2 * c) w), K.2.2) := k1
    have c1 : 0 < cW (sR X.1 1) := cN_p (P := fun j => decide (sR X.1 1 j = nI 2)) (i := q) (decide_eq_true t2) hq
    have wk := rM_wake h hq t2
    generalize cW (sR X.1 1) = x at m4 cl c1 wk ⊢
    have c0 : ¬ x ≤ 0 := by omega
    generalize tk (2 * c) w = f at k1 k2 k3
    have u5 : x < 2 ^ 31 := by omega
    have u6 : f < 2 ^ 31 := by omega
    have u7 : 1 ≤ x := by omega
    by_cases f0 : f = 0
    · subst f0
      cases b with
      | true =>
        rw [bI_t] at w1 w2
        refine ⟨K.2.2, X, fun m => ⟨?_, ?_⟩, h, ⟨rfl, rfl, rfl, rfl, rfl, rfl, rfl⟩, rfl, Or.inl ⟨rfl, rfl⟩, fun _ => ⟨w2, k2⟩⟩
        · rw [show df_X5_settle_2 n (m + 1 + 1) = dF_X5_settle_2 n (df_X5_settle_2 n (m + 1)) from rfl]
          generalize df_X5_settle_2 n (m + 1) = G
          rw [st_C n hq c0 cl m4 t1 k3 k1, if_pos rfl, w1, nb_b2]
          simp (disch := (first | assumption | decide | omega)) only [df_X5_settle_74, eq_self, Nat.reduceEqDiff, Nat.reduceLeDiff, nl_1, no_1, no_1024, pk_mul, nI_add, nm_ck, nI_clamp, nI_ltI, nI_leI, nI_eq, nb_b2, nb_b1, ↓nb_let, nm_z0, nm_z1, nb_II, nb_IR, nb_RI, nb_RR, nm_IL, nm_IQ, nm_RL, nm_RQ, nm_LI, nm_LR, nm_LL, nm_LQ, nm_QI, nm_QR, nm_QL, nm_QQ, nm_rr, nm_ii, nm_eqm, not_false_eq_true, pk_sub, nm_div, nm_shl, nm_shr, nm_ush, nm_or8, nm_or64, nm_or256, nm_m1, nm_m3, nm_m7, nm_m15, nm_m31, nm_m63, nm_m255, nm_m511, nm_m1023, nm_m2047, nm_m65535, Nat.reduceMod, Nat.reducePow, Nat.reduceAdd, Nat.reduceSub, Nat.reduceMul, nm_bo, nm_bi, nm_rc, nm_ic, nm_ri, nm_rl, nm_rq, nm_ql, nm_qi, nm_li, nm_us, nm_uu, nm_cp, nm_sa31, nm_sa7, nm_m127, nm_m2, nm_nz, nm_nzk, nm_eq32, nm_nzf, if_true, if_false, ↓reduceIte, if_pos, if_neg]
        · rw [show df_X16_settle_2 n (m + 1) = dF_X16_settle_2 n (df_X16_settle_2 n m) from rfl]
          simp (disch := (first | assumption | decide | omega)) only [dF_X16_settle_2, df_X16_settle_51, q16, t2, w2, k2, eq_self, Nat.reduceEqDiff, Nat.reduceLeDiff, nl_0, nl_1, nl_2, nl_16, no_1, no_1024, pk_mul, nI_add, nm_ck, nI_clamp, nI_ltI, nI_leI, nI_eq, nb_b2, nb_b1, ↓nb_let, nm_z0, nm_z1, nb_II, nb_IR, nb_RI, nb_RR, nm_IL, nm_IQ, nm_RL, nm_RQ, nm_LI, nm_LR, nm_LL, nm_LQ, nm_QI, nm_QR, nm_QL, nm_QQ, nm_rr, nm_ii, nm_eqm, not_false_eq_true, pk_sub, nm_div, nm_shl, nm_shr, nm_ush, nm_or8, nm_or64, nm_or256, nm_m1, nm_m3, nm_m7, nm_m15, nm_m31, nm_m63, nm_m255, nm_m511, nm_m1023, nm_m2047, nm_m65535, Nat.reduceMod, Nat.reducePow, Nat.reduceAdd, Nat.reduceSub, Nat.reduceMul, nm_bo, nm_bi, nm_rc, nm_ic, nm_ri, nm_rl, nm_rq, nm_ql, nm_qi, nm_li, nm_us, nm_uu, nm_cp, nm_sa31, nm_sa7, nm_m127, nm_m2, nm_nz, nm_nzk, nm_eq32, nm_nzf, if_true, if_false, ↓reduceIte, if_pos, if_neg]
      | false =>
        rw [bI_f] at w1 w2
        refine ⟨_, _, fun m => ⟨?_, ?_⟩, wk, ⟨rfl, rfl, rfl, rfl, rfl, rfl, rfl⟩, rfl, Or.inr ⟨t2, rfl, rfl⟩, fun z => absurd ((nm_us).symm.trans z) (by decide)⟩
        · rw [show df_X5_settle_2 n (m + 1 + 1) = dF_X5_settle_2 n (df_X5_settle_2 n (m + 1)) from rfl]
          generalize df_X5_settle_2 n (m + 1) = G
          rw [st_C n hq c0 cl m4 t1 k3 k1, if_pos rfl, w1, nb_b2]
          exact st_49 n hq c0 cl m4
        · rw [show df_X16_settle_2 n (m + 1) = dF_X16_settle_2 n (df_X16_settle_2 n m) from rfl]
          simp (disch := (first | assumption | decide | omega)) only [dF_X16_settle_2, df_X16_settle_51, df_X16_settle_37, q16, t2, w2, eq_self, Nat.reduceEqDiff, Nat.reduceLeDiff, nl_0, nl_1, nl_2, nl_7, nl_16, no_1, no_1024, pk_mul, nI_add, nm_ck, nI_clamp, nI_ltI, nI_leI, nI_eq, nb_b2, nb_b1, ↓nb_let, nm_z0, nm_z1, nb_II, nb_IR, nb_RI, nb_RR, nm_IL, nm_IQ, nm_RL, nm_RQ, nm_LI, nm_LR, nm_LL, nm_LQ, nm_QI, nm_QR, nm_QL, nm_QQ, nm_rr, nm_ii, nm_eqm, not_false_eq_true, pk_sub, nm_div, nm_shl, nm_shr, nm_ush, nm_or8, nm_or64, nm_or256, nm_m1, nm_m3, nm_m7, nm_m15, nm_m31, nm_m63, nm_m255, nm_m511, nm_m1023, nm_m2047, nm_m65535, Nat.reduceMod, Nat.reducePow, Nat.reduceAdd, Nat.reduceSub, Nat.reduceMul, nm_bo, nm_bi, nm_rc, nm_ic, nm_ri, nm_rl, nm_rq, nm_ql, nm_qi, nm_li, nm_us, nm_uu, nm_cp, nm_sa31, nm_sa7, nm_m127, nm_m2, nm_nz, nm_nzk, nm_eq32, nm_nzf, if_true, if_false, ↓reduceIte, if_pos, if_neg]
    · refine ⟨_, _, fun m => ⟨?_, ?_⟩, wk, ⟨rfl, rfl, rfl, rfl, rfl, rfl, rfl⟩, rfl, Or.inr ⟨t2, rfl, rfl⟩, fun z => absurd ((nm_us).symm.trans z) (by decide)⟩
      · rw [show df_X5_settle_2 n (m + 1 + 1) = dF_X5_settle_2 n (df_X5_settle_2 n (m + 1)) from rfl]
        generalize df_X5_settle_2 n (m + 1) = G
        rw [st_C n hq c0 cl m4 t1 k3 k1, if_neg f0]
        exact st_49 n hq c0 cl m4
      · rw [show df_X16_settle_2 n (m + 1) = dF_X16_settle_2 n (df_X16_settle_2 n m) from rfl]
        cases b with
        | true =>
          rw [bI_t] at w2
          simp (disch := (first | assumption | decide | omega)) only [dF_X16_settle_2, df_X16_settle_51, df_X16_settle_37, q16, t2, w2, k2, f0, eq_self, Nat.reduceEqDiff, Nat.reduceLeDiff, nl_0, nl_1, nl_2, nl_7, nl_16, no_1, no_1024, pk_mul, nI_add, nm_ck, nI_clamp, nI_ltI, nI_leI, nI_eq, nb_b2, nb_b1, ↓nb_let, nm_z0, nm_z1, nb_II, nb_IR, nb_RI, nb_RR, nm_IL, nm_IQ, nm_RL, nm_RQ, nm_LI, nm_LR, nm_LL, nm_LQ, nm_QI, nm_QR, nm_QL, nm_QQ, nm_rr, nm_ii, nm_eqm, not_false_eq_true, pk_sub, nm_div, nm_shl, nm_shr, nm_ush, nm_or8, nm_or64, nm_or256, nm_m1, nm_m3, nm_m7, nm_m15, nm_m31, nm_m63, nm_m255, nm_m511, nm_m1023, nm_m2047, nm_m65535, Nat.reduceMod, Nat.reducePow, Nat.reduceAdd, Nat.reduceSub, Nat.reduceMul, nm_bo, nm_bi, nm_rc, nm_ic, nm_ri, nm_rl, nm_rq, nm_ql, nm_qi, nm_li, nm_us, nm_uu, nm_cp, nm_sa31, nm_sa7, nm_m127, nm_m2, nm_nz, nm_nzk, nm_eq32, nm_nzf, if_true, if_false, ↓reduceIte, if_pos, if_neg]
        | false =>
          rw [bI_f] at w2
          simp (disch := (first | assumption | decide | omega)) only [dF_X16_settle_2, df_X16_settle_51, df_X16_settle_37, q16, t2, w2, eq_self, Nat.reduceEqDiff, Nat.reduceLeDiff, nl_0, nl_1, nl_2, nl_7, nl_16, no_1, no_1024, pk_mul, nI_add, nm_ck, nI_clamp, nI_ltI, nI_leI, nI_eq, nb_b2, nb_b1, ↓nb_let, nm_z0, nm_z1, nb_II, nb_IR, nb_RI, nb_RR, nm_IL, nm_IQ, nm_RL, nm_RQ, nm_LI, nm_LR, nm_LL, nm_LQ, nm_QI, nm_QR, nm_QL, nm_QQ, nm_rr, nm_ii, nm_eqm, not_false_eq_true, pk_sub, nm_div, nm_shl, nm_shr, nm_ush, nm_or8, nm_or64, nm_or256, nm_m1, nm_m3, nm_m7, nm_m15, nm_m31, nm_m63, nm_m255, nm_m511, nm_m1023, nm_m2047, nm_m65535, Nat.reduceMod, Nat.reducePow, Nat.reduceAdd, Nat.reduceSub, Nat.reduceMul, nm_bo, nm_bi, nm_rc, nm_ic, nm_ri, nm_rl, nm_rq, nm_ql, nm_qi, nm_li, nm_us, nm_uu, nm_cp, nm_sa31, nm_sa7, nm_m127, nm_m2, nm_nz, nm_nzk, nm_eq32, nm_nzf, if_true, if_false, ↓reduceIte, if_pos, if_neg]
  · refine ⟨K.2.2, X, fun m => ⟨?_, ?_⟩, h, ⟨rfl, rfl, rfl, rfl, rfl, rfl, rfl⟩, rfl, Or.inl ⟨rfl, rfl⟩, fun z => absurd (nm_inI (by omega) (by omega) (t2.symm.trans z)) k2⟩
    · generalize cW (sR X.1 1) = x at m4 cl
      have u5 : x < 2 ^ 31 := by omega
      by_cases c0 : x ≤ 0
      · rw [show df_X5_settle_2 n (m + 1 + 1) = dF_X5_settle_2 n (df_X5_settle_2 n (m + 1)) from rfl, show df_X5_settle_2 n (m + 1) = dF_X5_settle_2 n (df_X5_settle_2 n m) from rfl]
        generalize df_X5_settle_2 n m = G
        by_cases q15 : 16 ≤ q + 1
        · have u6 : q + 1 < 2 ^ 31 := by omega
          simp (disch := (first | assumption | decide | omega)) only [dF_X5_settle_2, q16, q15, m4, c0, eq_self, Nat.reduceEqDiff, Nat.reduceLeDiff, nl_0, nl_2, nl_16, no_1, no_1024, pk_mul, nI_add, nm_ck, nI_clamp, nI_ltI, nI_leI, nI_eq, nb_b2, nb_b1, ↓nb_let, nm_z0, nm_z1, nb_II, nb_IR, nb_RI, nb_RR, nm_IL, nm_IQ, nm_RL, nm_RQ, nm_LI, nm_LR, nm_LL, nm_LQ, nm_QI, nm_QR, nm_QL, nm_QQ, nm_rr, nm_ii, nm_eqm, not_false_eq_true, pk_sub, nm_div, nm_shl, nm_shr, nm_ush, nm_or8, nm_or64, nm_or256, nm_m1, nm_m3, nm_m7, nm_m15, nm_m31, nm_m63, nm_m255, nm_m511, nm_m1023, nm_m2047, nm_m65535, Nat.reduceMod, Nat.reducePow, Nat.reduceAdd, Nat.reduceSub, Nat.reduceMul, nm_bo, nm_bi, nm_rc, nm_ic, nm_ri, nm_rl, nm_rq, nm_ql, nm_qi, nm_li, nm_us, nm_uu, nm_cp, nm_sa31, nm_sa7, nm_m127, nm_m2, nm_nz, nm_nzk, nm_eq32, nm_nzf, if_true, if_false, ↓reduceIte, if_pos, if_neg]
        · have u6 : q + 1 < 2 ^ 31 := by omega
          simp (disch := (first | assumption | decide | omega)) only [dF_X5_settle_2, q16, q15, m4, c0, eq_self, Nat.reduceEqDiff, Nat.reduceLeDiff, nl_0, nl_2, nl_16, no_1, no_1024, pk_mul, nI_add, nm_ck, nI_clamp, nI_ltI, nI_leI, nI_eq, nb_b2, nb_b1, ↓nb_let, nm_z0, nm_z1, nb_II, nb_IR, nb_RI, nb_RR, nm_IL, nm_IQ, nm_RL, nm_RQ, nm_LI, nm_LR, nm_LL, nm_LQ, nm_QI, nm_QR, nm_QL, nm_QQ, nm_rr, nm_ii, nm_eqm, not_false_eq_true, pk_sub, nm_div, nm_shl, nm_shr, nm_ush, nm_or8, nm_or64, nm_or256, nm_m1, nm_m3, nm_m7, nm_m15, nm_m31, nm_m63, nm_m255, nm_m511, nm_m1023, nm_m2047, nm_m65535, Nat.reduceMod, Nat.reducePow, Nat.reduceAdd, Nat.reduceSub, Nat.reduceMul, nm_bo, nm_bi, nm_rc, nm_ic, nm_ri, nm_rl, nm_rq, nm_ql, nm_qi, nm_li, nm_us, nm_uu, nm_cp, nm_sa31, nm_sa7, nm_m127, nm_m2, nm_nz, nm_nzk, nm_eq32, nm_nzf, if_true, if_false, ↓reduceIte, if_pos, if_neg]
      · rw [show df_X5_settle_2 n (m + 1 + 1) = dF_X5_settle_2 n (df_X5_settle_2 n (m + 1)) from rfl]
        generalize df_X5_settle_2 n (m + 1) = G
        simp (disch := (first | assumption | decide | omega)) only [dF_X5_settle_2, df_X5_settle_74, df_X6_status_0, df_X6_status, q16, m4, c0, Nat.add_zero, t1, k2, eq_self, Nat.reduceEqDiff, Nat.reduceLeDiff, nl_0, nl_1, nl_2, nl_6, nl_7, nl_16, nl_112, no_1, no_1024, pk_mul, nI_add, nm_ck, nI_clamp, nI_ltI, nI_leI, nI_eq, nb_b2, nb_b1, ↓nb_let, nm_z0, nm_z1, nb_II, nb_IR, nb_RI, nb_RR, nm_IL, nm_IQ, nm_RL, nm_RQ, nm_LI, nm_LR, nm_LL, nm_LQ, nm_QI, nm_QR, nm_QL, nm_QQ, nm_rr, nm_ii, nm_eqm, not_false_eq_true, pk_sub, nm_div, nm_shl, nm_shr, nm_ush, nm_or8, nm_or64, nm_or256, nm_m1, nm_m3, nm_m7, nm_m15, nm_m31, nm_m63, nm_m255, nm_m511, nm_m1023, nm_m2047, nm_m65535, Nat.reduceMod, Nat.reducePow, Nat.reduceAdd, Nat.reduceSub, Nat.reduceMul, nm_bo, nm_bi, nm_rc, nm_ic, nm_ri, nm_rl, nm_rq, nm_ql, nm_qi, nm_li, nm_us, nm_uu, nm_cp, nm_sa31, nm_sa7, nm_m127, nm_m2, nm_nz, nm_nzk, nm_eq32, nm_nzf, if_true, if_false, ↓reduceIte, if_pos, if_neg]
    · rw [show df_X16_settle_2 n (m + 1) = dF_X16_settle_2 n (df_X16_settle_2 n m) from rfl]
      simp (disch := (first | assumption | decide | omega)) only [dF_X16_settle_2, df_X16_settle_51, q16, t2, k2, eq_self, Nat.reduceEqDiff, Nat.reduceLeDiff, nl_0, nl_1, nl_2, nl_16, no_1, no_1024, pk_mul, nI_add, nm_ck, nI_clamp, nI_ltI, nI_leI, nI_eq, nb_b2, nb_b1, ↓nb_let, nm_z0, nm_z1, nb_II, nb_IR, nb_RI, nb_RR, nm_IL, nm_IQ, nm_RL, nm_RQ, nm_LI, nm_LR, nm_LL, nm_LQ, nm_QI, nm_QR, nm_QL, nm_QQ, nm_rr, nm_ii, nm_eqm, not_false_eq_true, pk_sub, nm_div, nm_shl, nm_shr, nm_ush, nm_or8, nm_or64, nm_or256, nm_m1, nm_m3, nm_m7, nm_m15, nm_m31, nm_m63, nm_m255, nm_m511, nm_m1023, nm_m2047, nm_m65535, Nat.reduceMod, Nat.reducePow, Nat.reduceAdd, Nat.reduceSub, Nat.reduceMul, nm_bo, nm_bi, nm_rc, nm_ic, nm_ri, nm_rl, nm_rq, nm_ql, nm_qi, nm_li, nm_us, nm_uu, nm_cp, nm_sa31, nm_sa7, nm_m127, nm_m2, nm_nz, nm_nzk, nm_eq32, nm_nzf, if_true, if_false, ↓reduceIte, if_pos, if_neg]
theorem kX_r (X : St × St) : kX X X := ⟨rfl, rfl, rfl, rfl, rfl, rfl, rfl⟩
theorem kX_t {X Y Z : St × St} (h : kX X Y) (g : kX Y Z) : kX X Z := by
  obtain ⟨k1, k2, k3, k4, k5, k6, k7⟩ := g
  obtain ⟨j1, j2, j3, j4, j5, j6, j7⟩ := h
  exact ⟨k1.trans j1, k2.trans j2, k3.trans j3, k4.trans j4, k5.trans j5, k6.trans j6, k7.trans j7⟩
theorem kM_t {X Y Z : St × St} (h : kM X Y) (g : kM Y Z) : kM X Z := Eq.trans g h
/-- 'settle', in both -/
theorem nk_settle (n : Nat) (hn : 1024 < n) {B : Nat} {K : St × (St × (St × St))} {X : St × St} (h : rM B K.2.2 X) : ∃ M' X' : St × St, df_X5_settle n K = some (K.1, (K.2.1, M')) ∧ df_X16_settle n X = some X' ∧ rM B M' X' ∧ kX X X' ∧ kM K.2.2 M' := by
  obtain ⟨n1, rfl⟩ : ∃ n1 : Nat, n = n1 + 1 := ⟨n - 1, by omega⟩
  obtain ⟨m, s, t, ⟨i1, i2, i3⟩, e1, e2⟩ := nm_l2 (fun m k s => df_X5_settle_2 (n1 + 1) (m + 1) (nI k) (K.1, (K.2.1, s))) (fun m k t => df_X16_settle_2 (n1 + 1) (m + 1) (nI k) t) (fun k s t => rM B s t ∧ kX X t ∧ kM K.2.2 s) 16 n1 (by omega) (fun k m s t hk ⟨i1, i2, i3⟩ => by
    obtain ⟨M', X', f1, f2, f3, f4, _⟩ := nk_settleT (n1 + 1) hn (K := (K.1, (K.2.1, s))) i1 hk
    exact ⟨M', X', ⟨f2, kX_t i2 f3, kM_t i3 f4⟩, (f1 m).1, (f1 (m + 1)).2⟩) K.2.2 X ⟨h, kX_r X, rfl⟩
  obtain ⟨M', X', f1, f2, f3, f4, f5, _⟩ := nk_chooseB (n1 + 1) hn i1
  refine ⟨M', X', ?_, ?_, f3, kX_t i2 f4, kM_t i3 f5⟩
  · refine Eq.trans (b := df_X5_settle_2 (n1 + 1) (n1 + 1) (nI 0) K) rfl ?_
    refine Eq.trans e1 ?_
    show df_X5_settle_2 (n1 + 1) (m + 1 + 1) (nI 16) _ = _
    rw [show df_X5_settle_2 (n1 + 1) (m + 1 + 1) = dF_X5_settle_2 (n1 + 1) (df_X5_settle_2 (n1 + 1) (m + 1)) from rfl]
    simp (disch := (first | assumption | decide | omega)) only [dF_X5_settle_2, df_X5_settle_80, f1, eq_self, Nat.reduceEqDiff, Nat.reduceLeDiff, nl_0, nl_2, nl_16, no_1, no_1024, pk_mul, nI_add, nm_ck, nI_clamp, nI_ltI, nI_leI, nI_eq, nb_b2, nb_b1, ↓nb_let, nm_z0, nm_z1, nb_II, nb_IR, nb_RI, nb_RR, nm_IL, nm_IQ, nm_RL, nm_RQ, nm_LI, nm_LR, nm_LL, nm_LQ, nm_QI, nm_QR, nm_QL, nm_QQ, nm_rr, nm_ii, nm_eqm, not_false_eq_true, pk_sub, nm_div, nm_shl, nm_shr, nm_ush, nm_or8, nm_or64, nm_or256, nm_m1, nm_m3, nm_m7, nm_m15, nm_m31, nm_m63, nm_m255, nm_m511, nm_m1023, nm_m2047, nm_m65535, Nat.reduceMod, Nat.reducePow, Nat.reduceAdd, Nat.reduceSub, Nat.reduceMul, nm_bo, nm_bi, nm_rc, nm_ic, nm_ri, nm_rl, nm_rq, nm_ql, nm_qi, nm_li, nm_us, nm_uu, nm_cp, nm_sa31, nm_sa7, nm_m127, nm_m2, nm_nz, nm_nzk, nm_eq32, nm_nzf, if_true, if_false, ↓reduceIte, if_pos, if_neg]
  · refine Eq.trans (b := df_X16_settle_2 (n1 + 1) (n1 + 1) (nI 0) X) rfl ?_
    exact Eq.trans e2 (f2 _)

/-- the class's answer, the reference's, and its outcome -/
def an (v64 : Int64) (v oc : Int32) : Prop := (oc = nI 0 ∧ v64 = v.toInt64) ∨ (oc = nI 1 ∧ v64 = 1099511627776) ∨ (oc = nI 2 ∧ v64 = 2199023255552) ∨ (oc = nI 3 ∧ v64 = 4398046511104)
/-- what one waits for, of its call alone -/
def wtD (X : St × St) (q : Nat) : Prop := sR X.1 9 (32 * q + 17) = nI 3 ∨ ((sR X.1 9 (32 * q + 17) = nI 6 ∨ sR X.1 9 (32 * q + 17) = nI 7) ∧ ∃ d o N : Nat, d < 16 ∧ o < 48 ∧ N ≤ 512 ∧ sR X.1 9 (32 * q + 10) = nI d ∧ sR X.1 14 (q * 16 + d) = nI o ∧ sR X.1 9 (32 * q + 12) = nI N) ∨ sR X.1 9 (32 * q + 17) = nI 19 ∨ sR X.1 9 (32 * q + 17) = nI 21
/-- both kernels before a call -/
def cP (B p : Nat) (K : St × (St × (St × St))) (X : St × St) : Prop := rM B K.2.2 X ∧ p < 16 ∧ sI X.1 12 = nI p ∧ sI X.1 13 = nI 0 ∧ sR X.1 1 p = nI 1 ∧ sI K.2.2.1 7 = nI 0 ∧ sI X.1 16 = nI 0
/-- and behind it -/
def cO (B p : Nat) (K : St × (St × (St × St))) (X : St × St) (oc : Option (Int64 × (St × (St × (St × St))))) (or : Option (Int32 × (St × St))) : Prop := ∃ (v64 : Int64) (v : Int32) (K1 : St) (M' X' : St × St), oc = some (v64, (K1, (K.2.1, M'))) ∧ or = some (v, X') ∧ rM B M' X' ∧ (∀ i : Nat, sO K1 i = sO K.1 i) ∧ an v64 v (sI X'.1 13) ∧ (X'.2 = X.2 ∧ sI X'.1 0 = sI X.1 0 ∧ sI X'.1 12 = sI X.1 12 ∧ sI X'.1 14 = sI X.1 14 ∧ sI X'.1 15 = sI X.1 15) ∧ wrR X p (sI M'.1 7) (sI X'.1 16) ∧ (¬ sI X'.1 13 = nI 2 → sR X'.1 1 p = nI 1) ∧ (sI X'.1 13 = nI 1 → wtD X' p ∧ sR X'.1 9 (32 * p + 17) = sR X.1 9 (32 * p + 17))
theorem rP_all {M M' X X' : St × St} (m3 : ∀ q : Nat, q < 16 → rP1 M X q) {p : Nat} (hp : rP1 M' X' p) (ho : ∀ r : Nat, r ≠ p → agM M M' r ∧ agX X X' r) : ∀ q : Nat, q < 16 → rP1 M' X' q := fun q hq => by
  by_cases c : q = p
  · rw [c]; exact hp
  · exact rP1_ag (m3 q hq) (ho q c).1 (ho q c).2
theorem cO_id {B p : Nat} {K : St × (St × (St × St))} {X : St × St} (h : cP B p K X) {v64 : Int64} {v : Int32} (hv : v64 = v.toInt64) : cO B p K X (some (v64, K)) (some (v, X)) := by
  obtain ⟨h1, h2, h3, h4, h5, h6, h7⟩ := h
  exact ⟨v64, v, K.1, K.2.2, X, rfl, rfl, h1, fun _ => rfl, Or.inl ⟨h4, hv⟩, ⟨rfl, rfl, rfl, rfl, rfl⟩, Or.inl ⟨h6, h7⟩, fun _ => h5, fun z => absurd (h4.symm.trans z) (by decide)⟩
theorem cO_w {B p : Nat} {K : St × (St × (St × St))} {X : St × St} (h : cP B p K X) (hw : wtD X p) : cO B p K X (some (1099511627776, K)) (some (nI 0, (pI X.1 13 (nI 1), X.2))) := by
  obtain ⟨h1, h2, h3, h4, h5, h6, h7⟩ := h
  exact ⟨_, _, K.1, K.2.2, _, rfl, rfl, h1, fun _ => rfl, Or.inr (Or.inl ⟨rfl, rfl⟩), ⟨rfl, rfl, rfl, rfl, rfl⟩, Or.inl ⟨h6, h7⟩, fun _ => h5, fun _ => ⟨hw, rfl⟩⟩
theorem cO_f {B p : Nat} {K : St × (St × (St × St))} {X : St × St} (h : cP B p K X) : cO B p K X (some (4398046511104, K)) (some (nI 0, (pI X.1 13 (nI 3), X.2))) := by
  obtain ⟨h1, h2, h3, h4, h5, h6, h7⟩ := h
  exact ⟨_, _, K.1, K.2.2, _, rfl, rfl, h1, fun _ => rfl, Or.inr (Or.inr (Or.inr ⟨rfl, rfl⟩)), ⟨rfl, rfl, rfl, rfl, rfl⟩, Or.inl ⟨h6, h7⟩, fun _ => h5, fun z => absurd (show nI 3 = nI 1 from z) (by decide)⟩
/-- what is pending changes -/
theorem rM_pend {B : Nat} {M X : St × St} (h : rM B M X) {q c : Nat} (hq : q < 16) (hc : c < 32768) : rM B (pR M.1 6 (upd (sR M.1 6) (q * 7 + 3) (nI (2 * c))), M.2) (pR X.1 4 (upd (sR X.1 4) q (nI (2 * c))), X.2) := by
  obtain ⟨m1, m2, m3, m4, m5, m6, m7⟩ := h
  refine ⟨m1, m2, rP_all m3 (p := q) ?_ (fun r hr => ⟨⟨fun i hi => nm_un (by omega), fun _ _ => rfl, fun _ _ => rfl, fun _ _ => rfl, rfl⟩, ⟨⟨rfl, rfl, rfl, nm_un hr, rfl, rfl, rfl, rfl⟩, fun _ _ => rfl, rfl, fun _ _ => rfl, rfl, fun _ _ => rfl, fun _ _ => rfl, fun _ _ => Iff.rfl, rfl⟩⟩), m4, m5, m6, m7⟩
  obtain ⟨t, c', w, b, e, ht, hc', hw, hb, he, a1, a2, a3, a4, a5, a6, a7, a8, a9, a10, a11, a12, a13, a14, a15, a16, a17, a18, a19, a20, a21⟩ := m3 q hq
  refine ⟨t, c, w, b, e, ht, hc, hw, hb, he, (nm_un (by omega)).trans a1, a2, (nm_un (by omega)).trans a3, a4, a5, fun z => ?_, fun z => (nm_un (by omega)).trans (a7 z), nm_us, nm_us, (nm_un (by omega)).trans a10, a11, (nm_un (by omega)).trans a12, a13, (nm_un (by omega)).trans a14, a15, a16, a17, a18, a19, a20, a21⟩
  obtain ⟨y, y1, y2, y3⟩ := a6 z
  exact ⟨y, y1, (nm_un (by omega)).trans y2, y3⟩
/-- a handler is set -/
theorem rM_hand {B : Nat} {M X : St × St} (h : rM B M X) {p k : Nat} (hp : p < 16) (hk : k < 16) (v : Int32) : rM B (pR M.1 5 (upd (sR M.1 5) (p * 16 + k) v), M.2) (pR X.1 13 (upd (sR X.1 13) (16 * p + k) v), X.2) := by
  obtain ⟨m1, m2, m3, m4, m5, m6, m7⟩ := h
  refine ⟨m1, m2, rP_all m3 (p := p) ?_ (fun r hr => ⟨⟨fun _ _ => rfl, fun _ _ => rfl, fun _ _ => rfl, fun i hi => nm_un (by omega), rfl⟩, ⟨⟨rfl, rfl, rfl, rfl, rfl, rfl, rfl, rfl⟩, fun _ _ => rfl, rfl, fun _ _ => rfl, rfl, fun i hi => nm_un (by omega), fun _ _ => rfl, fun _ _ => Iff.rfl, rfl⟩⟩), m4, m5, m6, m7⟩
  obtain ⟨t, c', w, b, e, ht, hc', hw, hb, he, a1, a2, a3, a4, a5, a6, a7, a8, a9, a10, a11, a12, a13, a14, a15, a16, a17, a18, a19, a20, a21⟩ := m3 p hp
  refine ⟨t, c', w, b, e, ht, hc', hw, hb, he, a1, a2, a3, a4, a5, a6, a7, a8, a9, a10, a11, a12, a13, a14, a15, a16, a17, fun z => ⟨fun i hi => ?_, (a18 z).2⟩, a19, a20, a21⟩
  show upd _ _ _ (p * 16 + i) = upd _ _ _ (16 * p + i)
  by_cases c : i = k
  · rw [c, nm_us, nm_us]
  · rw [nm_un (by omega), nm_un (by omega)]; exact (a18 z).1 i hi
/-- the kernel's call 'signal' -/
theorem nq_signal (n : Nat) {B p : Nat} {K : St × (St × (St × St))} {X : St × St} (h : cP B p K X) (a b : Int32) : cO B p K X (df_X5_signal n a b K) (df_X16_signal n a b X) := by
  obtain ⟨v, K', X', e1, e2, e3⟩ := nk_signal n (K := K) (X := X) (fun q hq => by
    obtain ⟨t, c', w, b, e, ht, hc', hw, hb, he, a1, a2, a3, a4, a5, a6, a7, a8, a9, _⟩ := h.1.2.2.1 q hq
    exact ⟨t, c', ht, hc', a1, a2, a8, a9⟩) a b
  rw [e1, e2]
  rcases e3 with ⟨z1, z2⟩ | ⟨q, c, hq, hc, s0, s3, z1, z2⟩
  · subst z1 z2
    exact cO_id h rfl
  · subst z1 z2
    obtain ⟨h1, h2, h3, h4, h5, h6, h7⟩ := h
    exact ⟨_, _, _, _, _, rfl, rfl, rM_pend h1 hq hc, fun _ => rfl, Or.inl ⟨h4, rfl⟩, ⟨rfl, rfl, rfl, rfl, rfl⟩, Or.inl ⟨h6, h7⟩, fun _ => h5, fun z => absurd (h4.symm.trans z) (by decide)⟩
theorem nq_handle (n : Nat) {B p : Nat} {K : St × (St × (St × St))} {X : St × St} (h : cP B p K X) (a b : Int32) : cO B p K X (df_X5_handle n (nI p) a b K) (df_X16_handle n a b X) := by
  obtain ⟨t, c', w, b', e, ht, hc', hw, hb, he, a1, a2, a3, a4, a5, a6, a7, a8, a9, a10, a11, a12, a13, a14, a15, a16, a17, a18, a19, a20, a21⟩ := h.1.2.2.1 p h.2.1
  have t1 : t = 1 := nm_inI (by omega) (by omega) (a2.symm.trans h.2.2.2.2.1)
  obtain ⟨v, K', X', e1, e2, e3⟩ := nk_handle n (K := K) (X := X) h.2.1 h.2.2.1 (a18 (Or.inl t1)).1 a b
  rw [e1, e2]
  rcases e3 with ⟨z1, z2⟩ | ⟨k, hk, z1, z2⟩
  · subst z1 z2
    exact cO_id h rfl
  · subst z1 z2
    obtain ⟨h1, h2, h3, h4, h5, h6, h7⟩ := h
    exact ⟨_, _, _, _, _, rfl, rfl, rM_hand h1 h2 hk b, fun _ => rfl, Or.inl ⟨h4, rfl⟩, ⟨rfl, rfl, rfl, rfl, rfl⟩, Or.inl ⟨h6, h7⟩, fun _ => h5, fun z => absurd (h4.symm.trans z) (by decide)⟩
theorem va_i {f g : Nat → Int32} {a b k j : Nat} (h : b ≤ j ∧ j < b + k) : va_cpy f g a b k j = f (a + (j - b)) := if_pos h
theorem va_o {f g : Nat → Int32} {a b k j : Nat} (h : ¬ (b ≤ j ∧ j < b + k)) : va_cpy f g a b k j = g j := if_neg h
theorem cpx_i {f g : Nat → Int32} {a k j : Nat} (h : a ≤ j ∧ j < a + k) : cpx f g a k j = g j := if_pos h
theorem cpx_o {f g : Nat → Int32} {a k j : Nat} (h : ¬ (a ≤ j ∧ j < a + k)) : cpx f g a k j = f j := if_neg h
theorem nq_back (n : Nat) (hn : 1024 < n) {B p : Nat} {K : St × (St × (St × St))} {X : St × St} (h : cP B p K X) : cO B p K X (df_X5_back n (nI p) K) (df_X16_back n X) := by
  obtain ⟨h1, h2, h3, h4, h5, h6, h7⟩ := id h
  obtain ⟨m1, m2, m3, m4, m5, m6, m7⟩ := h1
  obtain ⟨t, c', w, b', e, ht, hc', hw, hb, he, a1, a2, a3, a4, a5, a6, a7, a8, a9, a10, a11, a12, a13, a14, a15, a16, a17, a18, a19, a20, a21⟩ := m3 p h2
  have t1 : t = 1 := nm_inI (by omega) (by omega) (a2.symm.trans h5)
  rw [nk_backC n h2 hw a10, nk_backR n hn h2 hw h3 a11]
  by_cases c : w = 0
  · rw [if_pos c, if_pos c]
    exact cO_id h (by decide)
  · rw [if_neg c, if_neg c]
    obtain ⟨s1, s2⟩ := (a18 (Or.inl t1)).2.2 (by omega)
    refine ⟨_, _, _, _, _, rfl, rfl, ⟨m1, m2, rP_all m3 (p := p) ?_ (fun r hr => ⟨⟨fun i hi => nm_un (by omega), fun i hi => va_o (by omega), fun _ _ => rfl, fun _ _ => rfl, rfl⟩, ⟨⟨rfl, rfl, rfl, rfl, rfl, rfl, rfl, nm_un hr⟩, fun i hi => cpx_o (by omega), nm_un hr, fun _ _ => rfl, rfl, fun _ _ => rfl, fun _ _ => rfl, fun _ _ => Iff.rfl, rfl⟩⟩), m4, m5, m6, m7⟩, fun _ => rfl, Or.inr (Or.inr (Or.inl ⟨rfl, rfl⟩)), ⟨rfl, rfl, rfl, rfl, rfl⟩, Or.inl ⟨h6, h7⟩, fun z => absurd rfl z, fun z => absurd (show nI 2 = nI 1 from z) (by decide)⟩
    refine ⟨t, c', 0, b', e, ht, hc', by omega, hb, he, (nm_un (by omega)).trans a1, a2, (nm_un (by omega)).trans a3, a4, a5, fun z => by omega, fun z => (nm_un (by omega)).trans (a7 z), (nm_un (by omega)).trans a8, a9, nm_us, nm_us, (nm_un (by omega)).trans a12, a13, (nm_un (by omega)).trans a14, a15, a16, fun z => ⟨fun r hr => ?_, ?_⟩, fun z => ⟨(a18 z).1, (a18 z).2.1, fun y => by omega⟩, a19, fun z => by omega, a21⟩
    · show va_cpy _ _ _ _ _ (p * 33 + r) = cpx _ _ _ _ (32 * p + r)
      rw [va_i (by omega), cpx_i (by omega), show p * 33 + (p * 33 + r - p * 33) = p * 33 + r by omega]
      exact s1 r hr
    · show va_cpy _ _ _ _ _ (p * 33 + 32) = upd _ _ _ p
      rw [va_i (by omega), nm_us, show p * 33 + (p * 33 + 32 - p * 33) = p * 33 + 32 by omega]
      exact s2
theorem nq_sleep (n : Nat) {B p : Nat} {K : St × (St × (St × St))} {X : St × St} (h : cP B p K X) (h17 : sR X.1 9 (32 * p + 17) = nI 19) (a : Int32) : cO B p K X (df_X5_sleep n (nI p) a K) (df_X16_sleep n a X) := by
  obtain ⟨h1, h2, h3, h4, h5, h6, h7⟩ := h
  obtain ⟨m1, m2, m3, m4, m5, m6, m7⟩ := h1
  obtain ⟨t, c', w, b', e, ht, hc', hw, hb, he, a1, a2, a3, a4, a5, a6, a7, a8, a9, a10, a11, a12, a13, a14, a15, a16, a17, a18, a19, a20, a21⟩ := id (m3 p h2)
  have t1 : t = 1 := nm_inI (by omega) (by omega) (a2.symm.trans h5)
  have es := (a18 (Or.inl t1)).2.1
  have u1 : p < 2 ^ 31 := by omega
  have ec := m5.2.2.2.2.2.2.2.2.2.1
  have upd2 : ∀ v : Int64, rM B (pQ K.2.2.1 0 (vp_updL (sQ K.2.2.1 0) p v), K.2.2.2) (pQ X.1 0 (vp_updL (sQ X.1 0) p v), X.2) := fun v => by
    refine ⟨m1, m2, rP_all m3 (p := p) ?_ (fun r hr => ⟨⟨fun _ _ => rfl, fun _ _ => rfl, fun _ _ => rfl, fun _ _ => rfl, up_o hr⟩, ⟨⟨rfl, rfl, rfl, rfl, rfl, rfl, rfl, rfl⟩, fun _ _ => rfl, rfl, fun _ _ => rfl, rfl, fun _ _ => rfl, fun _ _ => rfl, fun _ _ => Iff.rfl, up_o hr⟩⟩), m4, m5, m6, m7⟩
    exact ⟨t, c', w, b', e, ht, hc', hw, hb, he, a1, a2, a3, a4, a5, a6, a7, a8, a9, a10, a11, a12, a13, a14, a15, a16, a17, fun z => ⟨(a18 z).1, (show vp_updL (sQ K.2.2.1 0) p v p = vp_updL (sQ X.1 0) p v p from (if_pos rfl).trans (if_pos rfl).symm), (a18 z).2.2⟩, a19, a20, a21⟩
  have uid : ∀ f : Nat → Int64, vp_updL f p (f p) = f := fun f => by
    funext j
    by_cases c : j = p
    · rw [c]; exact if_pos rfl
    · exact if_neg c
  have uuu : ∀ (f : Nat → Int64) (v z : Int64), vp_updL (vp_updL f p v) p z = vp_updL f p z := fun f v z => by
    funext j
    by_cases c : j = p
    · rw [c]; exact (if_pos rfl).trans (if_pos rfl).symm
    · exact ((if_neg c).trans (if_neg c)).trans (if_neg c).symm
  have qq : ∀ (s : St) (f g : Nat → Int64), pQ (pQ s 0 f) 0 g = pQ s 0 g := fun s f g => by
    unfold pQ
    congr 4
    funext j
    dsimp only
    by_cases c : j = 0
    · rw [if_pos c, if_pos c]
    · rw [if_neg c, if_neg c, if_neg c]
  -- with since set to y
  have tail : ∀ y : Int64, cO B p K X (df_X5_sleep_37 n (nI p) (K.1, (K.2.1, (pQ K.2.2.1 0 (vp_updL (sQ K.2.2.1 0) p y), K.2.2.2)))) (df_X16_sleep_32 n (pQ X.1 0 (vp_updL (sQ X.1 0) p y), X.2)) := fun y => by
    have y1 : ∀ f : Nat → Int64, vp_updL f p y p = y := fun f => if_pos rfl
    by_cases cc : nI 0 ≤ lg_cmp (sL X.1 1) y
    · refine ⟨0, nI 0, K.1, _, _, ?_, ?_, upd2 (-1), fun _ => rfl, Or.inl ⟨h4, by decide⟩, ⟨rfl, rfl, rfl, rfl, rfl⟩, Or.inl ⟨h6, h7⟩, fun _ => h5, fun z => absurd (h4.symm.trans z) (by decide)⟩
      · simp (disch := (first | assumption | decide | omega)) only [df_X5_sleep_37, ec, y1, uuu, qq, eq_self, Nat.reduceEqDiff, Nat.reduceLeDiff, nl_0, nl_1, nl_16, nl_1099511627776, no_1, no_1024, pk_mul, nI_add, nm_ck, nI_clamp, nI_ltI, nI_leI, nI_eq, nb_b2, nb_b1, ↓nb_let, nm_z0, nm_z1, nb_II, nb_IR, nb_RI, nb_RR, nm_IL, nm_IQ, nm_RL, nm_RQ, nm_LI, nm_LR, nm_LL, nm_LQ, nm_QI, nm_QR, nm_QL, nm_QQ, nm_rr, nm_ii, nm_eqm, not_false_eq_true, pk_sub, nm_div, nm_shl, nm_shr, nm_ush, nm_or8, nm_or64, nm_or256, nm_m1, nm_m3, nm_m7, nm_m15, nm_m31, nm_m63, nm_m255, nm_m511, nm_m1023, nm_m2047, nm_m65535, Nat.reduceMod, Nat.reducePow, Nat.reduceAdd, Nat.reduceSub, Nat.reduceMul, nm_bo, nm_bi, nm_rc, nm_ic, nm_ri, nm_rl, nm_rq, nm_ql, nm_qi, nm_li, nm_us, nm_uu, nm_cp, nm_sa31, nm_sa7, nm_m127, nm_m2, nm_nz, nm_nzk, nm_eq32, nm_nzf, if_true, if_false, ↓reduceIte, if_pos, if_neg]
      · simp (disch := (first | assumption | decide | omega)) only [df_X16_sleep_32, h3, y1, uuu, qq, eq_self, Nat.reduceEqDiff, Nat.reduceLeDiff, nl_0, nl_1, nl_12, nl_16, no_1, no_1024, pk_mul, nI_add, nm_ck, nI_clamp, nI_ltI, nI_leI, nI_eq, nb_b2, nb_b1, ↓nb_let, nm_z0, nm_z1, nb_II, nb_IR, nb_RI, nb_RR, nm_IL, nm_IQ, nm_RL, nm_RQ, nm_LI, nm_LR, nm_LL, nm_LQ, nm_QI, nm_QR, nm_QL, nm_QQ, nm_rr, nm_ii, nm_eqm, not_false_eq_true, pk_sub, nm_div, nm_shl, nm_shr, nm_ush, nm_or8, nm_or64, nm_or256, nm_m1, nm_m3, nm_m7, nm_m15, nm_m31, nm_m63, nm_m255, nm_m511, nm_m1023, nm_m2047, nm_m65535, Nat.reduceMod, Nat.reducePow, Nat.reduceAdd, Nat.reduceSub, Nat.reduceMul, nm_bo, nm_bi, nm_rc, nm_ic, nm_ri, nm_rl, nm_rq, nm_ql, nm_qi, nm_li, nm_us, nm_uu, nm_cp, nm_sa31, nm_sa7, nm_m127, nm_m2, nm_nz, nm_nzk, nm_eq32, nm_nzf, if_true, if_false, ↓reduceIte, if_pos, if_neg]
    · refine ⟨1099511627776, nI 0, K.1, _, (pI (pQ X.1 0 (vp_updL (sQ X.1 0) p y)) 13 (nI 1), X.2), ?_, ?_, upd2 y, fun _ => rfl, Or.inr (Or.inl ⟨rfl, rfl⟩), ⟨rfl, rfl, rfl, rfl, rfl⟩, Or.inl ⟨h6, h7⟩, fun _ => h5, fun z => ⟨Or.inr (Or.inr (Or.inl h17)), rfl⟩⟩
      · simp (disch := (first | assumption | decide | omega)) only [df_X5_sleep_37, ec, y1, eq_self, Nat.reduceEqDiff, Nat.reduceLeDiff, nl_0, nl_1, nl_16, nl_1099511627776, no_1, no_1024, pk_mul, nI_add, nm_ck, nI_clamp, nI_ltI, nI_leI, nI_eq, nb_b2, nb_b1, ↓nb_let, nm_z0, nm_z1, nb_II, nb_IR, nb_RI, nb_RR, nm_IL, nm_IQ, nm_RL, nm_RQ, nm_LI, nm_LR, nm_LL, nm_LQ, nm_QI, nm_QR, nm_QL, nm_QQ, nm_rr, nm_ii, nm_eqm, not_false_eq_true, pk_sub, nm_div, nm_shl, nm_shr, nm_ush, nm_or8, nm_or64, nm_or256, nm_m1, nm_m3, nm_m7, nm_m15, nm_m31, nm_m63, nm_m255, nm_m511, nm_m1023, nm_m2047, nm_m65535, Nat.reduceMod, Nat.reducePow, Nat.reduceAdd, Nat.reduceSub, Nat.reduceMul, nm_bo, nm_bi, nm_rc, nm_ic, nm_ri, nm_rl, nm_rq, nm_ql, nm_qi, nm_li, nm_us, nm_uu, nm_cp, nm_sa31, nm_sa7, nm_m127, nm_m2, nm_nz, nm_nzk, nm_eq32, nm_nzf, if_true, if_false, ↓reduceIte, if_pos, if_neg]
      · simp (disch := (first | assumption | decide | omega)) only [df_X16_sleep_32, df_X16_tell_0, df_X16_tell, h3, y1, eq_self, Nat.reduceEqDiff, Nat.reduceLeDiff, nl_0, nl_1, nl_12, nl_13, nl_16, no_1, no_1024, pk_mul, nI_add, nm_ck, nI_clamp, nI_ltI, nI_leI, nI_eq, nb_b2, nb_b1, ↓nb_let, nm_z0, nm_z1, nb_II, nb_IR, nb_RI, nb_RR, nm_IL, nm_IQ, nm_RL, nm_RQ, nm_LI, nm_LR, nm_LL, nm_LQ, nm_QI, nm_QR, nm_QL, nm_QQ, nm_rr, nm_ii, nm_eqm, not_false_eq_true, pk_sub, nm_div, nm_shl, nm_shr, nm_ush, nm_or8, nm_or64, nm_or256, nm_m1, nm_m3, nm_m7, nm_m15, nm_m31, nm_m63, nm_m255, nm_m511, nm_m1023, nm_m2047, nm_m65535, Nat.reduceMod, Nat.reducePow, Nat.reduceAdd, Nat.reduceSub, Nat.reduceMul, nm_bo, nm_bi, nm_rc, nm_ic, nm_ri, nm_rl, nm_rq, nm_ql, nm_qi, nm_li, nm_us, nm_uu, nm_cp, nm_sa31, nm_sa7, nm_m127, nm_m2, nm_nz, nm_nzk, nm_eq32, nm_nzf, if_true, if_false, ↓reduceIte, if_pos, if_neg]
  by_cases c0 : nI 0 ≤ lg_cmp (sQ X.1 0 p) 0
  · have := tail (sQ X.1 0 p)
    have i1 : vp_updL (sQ K.2.2.1 0) p (sQ X.1 0 p) = sQ K.2.2.1 0 := by rw [← es]; exact uid _
    rw [i1, uid] at this
    have q0 : ∀ s : St, pQ s 0 (sQ s 0) = s := fun s => by
      unfold pQ sQ
      obtain ⟨a, b, c, d, e⟩ := s
      dsimp only
      congr 4
      funext j
      by_cases z : j = 0
      · rw [if_pos z, z]
      · rw [if_neg z]
    rw [q0, q0] at this
    have x1 : df_X5_sleep n (nI p) a K = df_X5_sleep_37 n (nI p) K := by
      simp (disch := (first | assumption | decide | omega)) only [df_X5_sleep, df_X5_sleep_0, es, eq_self, Nat.reduceEqDiff, Nat.reduceLeDiff, nl_0, nl_16, nl_4294967295, no_1, no_1024, pk_mul, nI_add, nm_ck, nI_clamp, nI_ltI, nI_leI, nI_eq, nb_b2, nb_b1, ↓nb_let, nm_z0, nm_z1, nb_II, nb_IR, nb_RI, nb_RR, nm_IL, nm_IQ, nm_RL, nm_RQ, nm_LI, nm_LR, nm_LL, nm_LQ, nm_QI, nm_QR, nm_QL, nm_QQ, nm_rr, nm_ii, nm_eqm, not_false_eq_true, pk_sub, nm_div, nm_shl, nm_shr, nm_ush, nm_or8, nm_or64, nm_or256, nm_m1, nm_m3, nm_m7, nm_m15, nm_m31, nm_m63, nm_m255, nm_m511, nm_m1023, nm_m2047, nm_m65535, Nat.reduceMod, Nat.reducePow, Nat.reduceAdd, Nat.reduceSub, Nat.reduceMul, nm_bo, nm_bi, nm_rc, nm_ic, nm_ri, nm_rl, nm_rq, nm_ql, nm_qi, nm_li, nm_us, nm_uu, nm_cp, nm_sa31, nm_sa7, nm_m127, nm_m2, nm_nz, nm_nzk, nm_eq32, nm_nzf, if_true, if_false, ↓reduceIte, if_pos, if_neg]
    have x2 : df_X16_sleep n a X = df_X16_sleep_32 n X := by
      simp (disch := (first | assumption | decide | omega)) only [df_X16_sleep, df_X16_sleep_0, h3, eq_self, Nat.reduceEqDiff, Nat.reduceLeDiff, nl_0, nl_1, nl_12, nl_16, no_1, no_1024, pk_mul, nI_add, nm_ck, nI_clamp, nI_ltI, nI_leI, nI_eq, nb_b2, nb_b1, ↓nb_let, nm_z0, nm_z1, nb_II, nb_IR, nb_RI, nb_RR, nm_IL, nm_IQ, nm_RL, nm_RQ, nm_LI, nm_LR, nm_LL, nm_LQ, nm_QI, nm_QR, nm_QL, nm_QQ, nm_rr, nm_ii, nm_eqm, not_false_eq_true, pk_sub, nm_div, nm_shl, nm_shr, nm_ush, nm_or8, nm_or64, nm_or256, nm_m1, nm_m3, nm_m7, nm_m15, nm_m31, nm_m63, nm_m255, nm_m511, nm_m1023, nm_m2047, nm_m65535, Nat.reduceMod, Nat.reducePow, Nat.reduceAdd, Nat.reduceSub, Nat.reduceMul, nm_bo, nm_bi, nm_rc, nm_ic, nm_ri, nm_rl, nm_rq, nm_ql, nm_qi, nm_li, nm_us, nm_uu, nm_cp, nm_sa31, nm_sa7, nm_m127, nm_m2, nm_nz, nm_nzk, nm_eq32, nm_nzf, if_true, if_false, ↓reduceIte, if_pos, if_neg]
    rw [x1, x2]
    exact this
  · have := tail (sL X.1 1 + (a.toInt64 &&& 4294967295))
    have x1 : df_X5_sleep n (nI p) a K = df_X5_sleep_37 n (nI p) (K.1, (K.2.1, (pQ K.2.2.1 0 (vp_updL (sQ K.2.2.1 0) p (sL X.1 1 + (a.toInt64 &&& 4294967295))), K.2.2.2))) := by
      simp (disch := (first | assumption | decide | omega)) only [df_X5_sleep, df_X5_sleep_0, es, ec, eq_self, Nat.reduceEqDiff, Nat.reduceLeDiff, nl_0, nl_16, nl_4294967295, no_1, no_1024, pk_mul, nI_add, nm_ck, nI_clamp, nI_ltI, nI_leI, nI_eq, nb_b2, nb_b1, ↓nb_let, nm_z0, nm_z1, nb_II, nb_IR, nb_RI, nb_RR, nm_IL, nm_IQ, nm_RL, nm_RQ, nm_LI, nm_LR, nm_LL, nm_LQ, nm_QI, nm_QR, nm_QL, nm_QQ, nm_rr, nm_ii, nm_eqm, not_false_eq_true, pk_sub, nm_div, nm_shl, nm_shr, nm_ush, nm_or8, nm_or64, nm_or256, nm_m1, nm_m3, nm_m7, nm_m15, nm_m31, nm_m63, nm_m255, nm_m511, nm_m1023, nm_m2047, nm_m65535, Nat.reduceMod, Nat.reducePow, Nat.reduceAdd, Nat.reduceSub, Nat.reduceMul, nm_bo, nm_bi, nm_rc, nm_ic, nm_ri, nm_rl, nm_rq, nm_ql, nm_qi, nm_li, nm_us, nm_uu, nm_cp, nm_sa31, nm_sa7, nm_m127, nm_m2, nm_nz, nm_nzk, nm_eq32, nm_nzf, if_true, if_false, ↓reduceIte, if_pos, if_neg]
    have x2 : df_X16_sleep n a X = df_X16_sleep_32 n (pQ X.1 0 (vp_updL (sQ X.1 0) p (sL X.1 1 + (a.toInt64 &&& 4294967295))), X.2) := by
      simp (disch := (first | assumption | decide | omega)) only [df_X16_sleep, df_X16_sleep_0, df_X16_plain_0, df_X16_plain, h3, eq_self, Nat.reduceEqDiff, Nat.reduceLeDiff, nl_0, nl_1, nl_12, nl_16, nl_4294967295, no_1, no_1024, pk_mul, nI_add, nm_ck, nI_clamp, nI_ltI, nI_leI, nI_eq, nb_b2, nb_b1, ↓nb_let, nm_z0, nm_z1, nb_II, nb_IR, nb_RI, nb_RR, nm_IL, nm_IQ, nm_RL, nm_RQ, nm_LI, nm_LR, nm_LL, nm_LQ, nm_QI, nm_QR, nm_QL, nm_QQ, nm_rr, nm_ii, nm_eqm, not_false_eq_true, pk_sub, nm_div, nm_shl, nm_shr, nm_ush, nm_or8, nm_or64, nm_or256, nm_m1, nm_m3, nm_m7, nm_m15, nm_m31, nm_m63, nm_m255, nm_m511, nm_m1023, nm_m2047, nm_m65535, Nat.reduceMod, Nat.reducePow, Nat.reduceAdd, Nat.reduceSub, Nat.reduceMul, nm_bo, nm_bi, nm_rc, nm_ic, nm_ri, nm_rl, nm_rq, nm_ql, nm_qi, nm_li, nm_us, nm_uu, nm_cp, nm_sa31, nm_sa7, nm_m127, nm_m2, nm_nz, nm_nzk, nm_eq32, nm_nzf, if_true, if_false, ↓reduceIte, if_pos, if_neg]
    rw [x1, x2]
    exact this
/-- the kernel's call 'wait' -/
theorem nq_wait (n : Nat) (hn : 1024 < n) {B p : Nat} {K : St × (St × (St × St))} {X : St × St} (h : cP B p K X) (h17 : sR X.1 9 (32 * p + 17) = nI 3) : cO B p K X (df_X5_waitForChild n (nI p) K) (df_X16_waitFor n X) := by
  have hst := rM_st h.1
  have hpa := rM_pa h.1
  obtain ⟨h1, h2, h3, h4, h5, h6, h7⟩ := id h
  obtain ⟨c1, c2⟩ := nk_child n hn hst hpa p true
  obtain ⟨d1, d2⟩ := nk_child n hn hst hpa p false
  have c1 : df_X6_leastChild n (nI p) (nI 1) K.2.2 = _ := c1
  have d1 : df_X6_leastChild n (nI p) (nI 0) K.2.2 = _ := d1
  have c2 : df_X16_child n (nI p) (nI 0) X = _ := c2
  have d2 : df_X16_child n (nI p) (nI 1) X = _ := d2
  obtain ⟨y1, y2, y3, y4⟩ := fN_le (chP X p false) 16 0
  generalize fN (chP X p true) 0 16 = f1 at c1 c2
  generalize fN (chP X p false) 0 16 = f2 at d1 d2 y1 y2 y3
  have z0 : ¬ (nI 0 : Int32) ≤ -nI 1 := by decide
  by_cases x1 : f1 < 16
  · rw [cv_0 x1] at c1 c2
    have u1 : 0 ≤ f1 := by omega
    have u2 : f1 < 2 ^ 31 := by omega
    by_cases x2 : f2 < 16
    · rw [cv_0 x2] at d1 d2
      have u3 : 0 ≤ f2 := by omega
      have u4 : f2 < 2 ^ 31 := by omega
      have u5 : f2 * 7 + 2 < 112 := by omega
      have u6 : f2 * 7 + 2 < 2 ^ 31 := by omega
      obtain ⟨t, ht, t1, t2⟩ := hst f2 x2
      obtain ⟨e1, e2, e3⟩ := (ch_cases X false ht t2).2 (y3 (by omega))
      have t3 : t = 3 := by
        rcases e3 with e3 | e3
        · exact nomatch e3
        · exact e3
      subst t3
      obtain ⟨m1, m2, m3, m4, m5, m6, m7⟩ := h1
      obtain ⟨t', c', w, b', e, ht', hc', hw, hb, he, a1, a2, a3, a4, a5, a6, a7, a8, a9, a10, a11, a12, a13, a14, a15, a16, a17, a18, a19, a20, a21⟩ := id (m3 f2 x2)
      have t3 : t' = 3 := nm_inI (by omega) (by omega) (a2.symm.trans t2)
      obtain ⟨z, hz, z1, z2⟩ := a6 t3
      have mk := nk_makeAbsent n hn K.2.2 x2
      have be := nk_begin n hn X x2
      have u7 : 256 * z < 2 ^ 31 := by omega
      have u8 : z < 2 ^ 31 := by omega
      have d16 : ∀ d : Nat, d < 16 → sR X.1 14 (16 * f2 + d) = -nI 1 := fun d hd => by
        have := (a19 (Or.inr t3)).2 d hd
        rw [Nat.mul_comm f2 16] at this
        exact this
      have fp : f2 ≠ p := fun y => by
        rw [y, h5] at t2
        exact absurd t2 (by decide)
      have r := rM_fX (sf := ab (sR K.2.2.1 6) f2 7) (fX_bg d16) m1 m2 m5 m6 m7
      obtain ⟨r1, r2, r3, r4, r5, ⟨k1, k2, k3, k4, k5, k6, k7⟩, r7⟩ := r
      refine ⟨(nI (f2 + 256 * z)).toInt64, nI (f2 + 256 * z), K.1, (pR K.2.2.1 6 (ab (sR K.2.2.1 6) f2 7), K.2.2.2), bg X f2 32 16, ?_, ?_, ⟨r1, r2, rP_all m3 (p := f2) ?_ (fun r hr => ⟨⟨fun i hi => ab_o (by omega), fun _ _ => rfl, fun _ _ => rfl, fun _ _ => rfl, rfl⟩, agX_bg hr⟩), ?_, r3, r4, r5⟩, fun _ => rfl, Or.inl ⟨k4.trans h4, rfl⟩, ⟨k1, k2, k3, k5, k6⟩, Or.inl ⟨h6, k7.trans h7⟩, fun _ => ?_, fun z => absurd ((k4.trans h4).symm.trans z) (by decide)⟩
      · simp (disch := (first | assumption | decide | omega)) only [df_X5_waitForChild_0, df_X5_waitForChild, c1, d1, u1, u3, z1, mk, eq_self, Nat.reduceEqDiff, Nat.reduceLeDiff, nl_0, nl_1, nl_2, nl_6, nl_7, nl_10, nl_112, nl_256, nl_1099511627776, no_1, no_1024, pk_mul, nI_add, nm_ck, nI_clamp, nI_ltI, nI_leI, nI_eq, nb_b2, nb_b1, ↓nb_let, nm_z0, nm_z1, nb_II, nb_IR, nb_RI, nb_RR, nm_IL, nm_IQ, nm_RL, nm_RQ, nm_LI, nm_LR, nm_LL, nm_LQ, nm_QI, nm_QR, nm_QL, nm_QQ, nm_rr, nm_ii, nm_eqm, not_false_eq_true, pk_sub, nm_div, nm_shl, nm_shr, nm_ush, nm_or8, nm_or64, nm_or256, nm_m1, nm_m3, nm_m7, nm_m15, nm_m31, nm_m63, nm_m255, nm_m511, nm_m1023, nm_m2047, nm_m65535, Nat.reduceMod, Nat.reducePow, Nat.reduceAdd, Nat.reduceSub, Nat.reduceMul, nm_bo, nm_bi, nm_rc, nm_ic, nm_ri, nm_rl, nm_rq, nm_ql, nm_qi, nm_li, nm_us, nm_uu, nm_cp, nm_sa31, nm_sa7, nm_m127, nm_m2, nm_nz, nm_nzk, nm_eq32, nm_nzf, if_true, if_false, ↓reduceIte, if_pos, if_neg]
      · simp (disch := (first | assumption | decide | omega)) only [df_X16_waitFor_0, df_X16_waitFor, h3, c2, d2, z2, be, eq_self, Nat.reduceEqDiff, Nat.reduceLeDiff, nl_0, nl_1, nl_3, nl_10, nl_12, nl_16, nl_256, no_1, no_1024, pk_mul, nI_add, nm_ck, nI_clamp, nI_ltI, nI_leI, nI_eq, nb_b2, nb_b1, ↓nb_let, nm_z0, nm_z1, nb_II, nb_IR, nb_RI, nb_RR, nm_IL, nm_IQ, nm_RL, nm_RQ, nm_LI, nm_LR, nm_LL, nm_LQ, nm_QI, nm_QR, nm_QL, nm_QQ, nm_rr, nm_ii, nm_eqm, not_false_eq_true, pk_sub, nm_div, nm_shl, nm_shr, nm_ush, nm_or8, nm_or64, nm_or256, nm_m1, nm_m3, nm_m7, nm_m15, nm_m31, nm_m63, nm_m255, nm_m511, nm_m1023, nm_m2047, nm_m65535, Nat.reduceMod, Nat.reducePow, Nat.reduceAdd, Nat.reduceSub, Nat.reduceMul, nm_bo, nm_bi, nm_rc, nm_ic, nm_ri, nm_rl, nm_rq, nm_ql, nm_qi, nm_li, nm_us, nm_uu, nm_cp, nm_sa31, nm_sa7, nm_m127, nm_m2, nm_nz, nm_nzk, nm_eq32, nm_nzf, if_true, if_false, ↓reduceIte, if_pos, if_neg]
      · exact rP1_bg (fun i hi => ab_i hi) x2 (a19 (Or.inr t3)).1
      · rw [bg_r1]
        refine Eq.trans m4 (congrArg nI ?_)
        have := cW_ch (st := sR X.1 1) x2 (nI 0)
        rw [t2, nm_df (show ¬ nI 3 = nI 2 by decide), nm_df (show ¬ nI 0 = nI 2 by decide)] at this
        exact this.symm
      · rw [bg_r1, nm_un (fun y => fp y.symm)]
        exact h5
    · rw [cv_1 x2] at d1 d2
      have e1 : df_X5_waitForChild n (nI p) K = some (1099511627776, K) := by simp (disch := (first | assumption | decide | omega)) only [df_X5_waitForChild_0, df_X5_waitForChild, c1, d1, u1, z0, eq_self, Nat.reduceEqDiff, Nat.reduceLeDiff, nl_0, nl_1, nl_2, nl_6, nl_7, nl_10, nl_112, nl_256, nl_1099511627776, no_1, no_1024, pk_mul, nI_add, nm_ck, nI_clamp, nI_ltI, nI_leI, nI_eq, nb_b2, nb_b1, ↓nb_let, nm_z0, nm_z1, nb_II, nb_IR, nb_RI, nb_RR, nm_IL, nm_IQ, nm_RL, nm_RQ, nm_LI, nm_LR, nm_LL, nm_LQ, nm_QI, nm_QR, nm_QL, nm_QQ, nm_rr, nm_ii, nm_eqm, not_false_eq_true, pk_sub, nm_div, nm_shl, nm_shr, nm_ush, nm_or8, nm_or64, nm_or256, nm_m1, nm_m3, nm_m7, nm_m15, nm_m31, nm_m63, nm_m255, nm_m511, nm_m1023, nm_m2047, nm_m65535, Nat.reduceMod, Nat.reducePow, Nat.reduceAdd, Nat.reduceSub, Nat.reduceMul, nm_bo, nm_bi, nm_rc, nm_ic, nm_ri, nm_rl, nm_rq, nm_ql, nm_qi, nm_li, nm_us, nm_uu, nm_cp, nm_sa31, nm_sa7, nm_m127, nm_m2, nm_nz, nm_nzk, nm_eq32, nm_nzf, if_true, if_false, ↓reduceIte, if_pos, if_neg]
      have e2 : df_X16_waitFor n X = some (nI 0, (pI X.1 13 (nI 1), X.2)) := by simp (disch := (first | assumption | decide | omega)) only [df_X16_waitFor_0, df_X16_waitFor, df_X16_tell_0, df_X16_tell, h3, c2, d2, eq_self, Nat.reduceEqDiff, Nat.reduceLeDiff, nl_0, nl_1, nl_3, nl_10, nl_12, nl_13, nl_16, nl_256, no_1, no_1024, pk_mul, nI_add, nm_ck, nI_clamp, nI_ltI, nI_leI, nI_eq, nb_b2, nb_b1, ↓nb_let, nm_z0, nm_z1, nb_II, nb_IR, nb_RI, nb_RR, nm_IL, nm_IQ, nm_RL, nm_RQ, nm_LI, nm_LR, nm_LL, nm_LQ, nm_QI, nm_QR, nm_QL, nm_QQ, nm_rr, nm_ii, nm_eqm, not_false_eq_true, pk_sub, nm_div, nm_shl, nm_shr, nm_ush, nm_or8, nm_or64, nm_or256, nm_m1, nm_m3, nm_m7, nm_m15, nm_m31, nm_m63, nm_m255, nm_m511, nm_m1023, nm_m2047, nm_m65535, Nat.reduceMod, Nat.reducePow, Nat.reduceAdd, Nat.reduceSub, Nat.reduceMul, nm_bo, nm_bi, nm_rc, nm_ic, nm_ri, nm_rl, nm_rq, nm_ql, nm_qi, nm_li, nm_us, nm_uu, nm_cp, nm_sa31, nm_sa7, nm_m127, nm_m2, nm_nz, nm_nzk, nm_eq32, nm_nzf, if_true, if_false, ↓reduceIte, if_pos, if_neg]
      rw [e1, e2]
      exact cO_w h (Or.inl h17)
  · rw [cv_1 x1] at c1 c2
    have e1 : df_X5_waitForChild n (nI p) K = some (-10, K) := by simp (disch := (first | assumption | decide | omega)) only [df_X5_waitForChild_0, df_X5_waitForChild, c1, z0, eq_self, Nat.reduceEqDiff, Nat.reduceLeDiff, nl_0, nl_1, nl_2, nl_6, nl_7, nl_10, nl_112, nl_256, nl_1099511627776, no_1, no_1024, pk_mul, nI_add, nm_ck, nI_clamp, nI_ltI, nI_leI, nI_eq, nb_b2, nb_b1, ↓nb_let, nm_z0, nm_z1, nb_II, nb_IR, nb_RI, nb_RR, nm_IL, nm_IQ, nm_RL, nm_RQ, nm_LI, nm_LR, nm_LL, nm_LQ, nm_QI, nm_QR, nm_QL, nm_QQ, nm_rr, nm_ii, nm_eqm, not_false_eq_true, pk_sub, nm_div, nm_shl, nm_shr, nm_ush, nm_or8, nm_or64, nm_or256, nm_m1, nm_m3, nm_m7, nm_m15, nm_m31, nm_m63, nm_m255, nm_m511, nm_m1023, nm_m2047, nm_m65535, Nat.reduceMod, Nat.reducePow, Nat.reduceAdd, Nat.reduceSub, Nat.reduceMul, nm_bo, nm_bi, nm_rc, nm_ic, nm_ri, nm_rl, nm_rq, nm_ql, nm_qi, nm_li, nm_us, nm_uu, nm_cp, nm_sa31, nm_sa7, nm_m127, nm_m2, nm_nz, nm_nzk, nm_eq32, nm_nzf, if_true, if_false, ↓reduceIte, if_pos, if_neg]
    have e2 : df_X16_waitFor n X = some (-nI 10, X) := by simp (disch := (first | assumption | decide | omega)) only [df_X16_waitFor_0, df_X16_waitFor, h3, c2, eq_self, Nat.reduceEqDiff, Nat.reduceLeDiff, nl_0, nl_1, nl_3, nl_10, nl_12, nl_16, nl_256, no_1, no_1024, pk_mul, nI_add, nm_ck, nI_clamp, nI_ltI, nI_leI, nI_eq, nb_b2, nb_b1, ↓nb_let, nm_z0, nm_z1, nb_II, nb_IR, nb_RI, nb_RR, nm_IL, nm_IQ, nm_RL, nm_RQ, nm_LI, nm_LR, nm_LL, nm_LQ, nm_QI, nm_QR, nm_QL, nm_QQ, nm_rr, nm_ii, nm_eqm, not_false_eq_true, pk_sub, nm_div, nm_shl, nm_shr, nm_ush, nm_or8, nm_or64, nm_or256, nm_m1, nm_m3, nm_m7, nm_m15, nm_m31, nm_m63, nm_m255, nm_m511, nm_m1023, nm_m2047, nm_m65535, Nat.reduceMod, Nat.reducePow, Nat.reduceAdd, Nat.reduceSub, Nat.reduceMul, nm_bo, nm_bi, nm_rc, nm_ic, nm_ri, nm_rl, nm_rq, nm_ql, nm_qi, nm_li, nm_us, nm_uu, nm_cp, nm_sa31, nm_sa7, nm_m127, nm_m2, nm_nz, nm_nzk, nm_eq32, nm_nzf, if_true, if_false, ↓reduceIte, if_pos, if_neg]
    rw [e1, e2]
    exact cO_id h (by decide)

theorem cD_stand {de : Nat → Int32} {i o : Nat} (hi : i < 256) (ho : o < 48) (e : de i = -nI 1) : (∀ a : Nat, a < 48 → a ≠ o → cD (upd de i (nI o)) a = cD de a) ∧ cD (upd de i (nI o)) o = cD de o + 1 := by
  refine ⟨fun a ha hne => ?_, ?_⟩
  · have := cD_ch de (nI o) hi a
    rw [e, nm_df (show ¬ nI o = nI a from fun z => hne (nm_inI (by omega) (by omega) z).symm), nm_df (show ¬ (-nI 1 : Int32) = nI a from fun z => nk_ne (by omega) z.symm)] at this
    omega
  · have := cD_ch de (nI o) hi o
    rw [e, nm_dt rfl, nm_df (show ¬ (-nI 1 : Int32) = nI o from fun z => nk_ne (by omega) z.symm)] at this
    omega
/-- one more descriptor to an opening -/
theorem rD_link {l op pi fi de kd th po rt ip isf nam : Nat → Int32} (h : rD l op pi fi de kd th po rt ip isf nam) {i o : Nat} (hi : i < 256) (ho : o < 48) (e : de i = -nI 1) (hk : ¬ kd o = nI 0) : rD (upd l i (nI (o + 1))) (upd op (o * 5 + 1) (nI (cD de o + 1))) pi fi (upd de i (nI o)) kd th po rt ip isf nam := by
  obtain ⟨h1, h2, h3, h4⟩ := h
  obtain ⟨c1, c2⟩ := cD_stand hi ho e
  refine ⟨fun j hj => ?_, fun j hj => ?_, h3, h4⟩
  · by_cases c : j = i
    · right
      rw [c, nm_us, nm_us]
      exact ⟨o, ho, rfl, rfl⟩
    · rw [nm_un c, nm_un c]; exact h1 j hj
  · by_cases c : j = o
    · subst c
      rcases h2 j hj with ⟨z1, _⟩ | ⟨k, t, y1, y2, y3, y4, y5, y6, y7, y8, y9, y10, y11, y12, y13, y14, y15⟩
      · exact absurd z1 hk
      · right
        rw [c2, nm_un (show j * 5 ≠ j * 5 + 1 by omega), nm_us, nm_un (show j * 5 + 2 ≠ j * 5 + 1 by omega), nm_un (show j * 5 + 4 ≠ j * 5 + 1 by omega), nm_un (show j * 5 + 3 ≠ j * 5 + 1 by omega)]
        exact ⟨k, t, y1, y2, by omega, y4, y5, rfl, y7, y8, y9, y10, y11, y12, y13, y14, y15⟩
    · rw [c1 j hj c, nm_un (show j * 5 ≠ o * 5 + 1 by omega), nm_un (show j * 5 + 1 ≠ o * 5 + 1 by omega), nm_un (show j * 5 + 2 ≠ o * 5 + 1 by omega), nm_un (show j * 5 + 4 ≠ o * 5 + 1 by omega), nm_un (show j * 5 + 3 ≠ o * 5 + 1 by omega)]
      exact h2 j hj
/-- a free descriptor -/
def fd (X : St × St) (p d : Nat) : Bool := decide (sR X.1 14 (p * 16 + d) = -nI 1)
theorem nk_freeLink (n : Nat) (hn : 1024 < n) {D : St} {X : St × St} (h : ∀ i : Nat, i < 256 → (sR X.1 14 i = -nI 1 ∧ sR D 0 i = nI 0) ∨ ∃ o : Nat, o < 48 ∧ sR X.1 14 i = nI o ∧ sR D 0 i = nI (o + 1)) {p f : Nat} (hp : p < 16) (hf : f ≤ 16) : df_X10_freeLink n (nI p) (nI f) D = some (cv (fN (fd X p) f (16 - f)), D) := by
  have l0 : ∀ d : Nat, d < 16 → (fd X p d = true ↔ sR D 0 (p * 16 + d) = nI 0) := fun d hd => by
    unfold fd
    rw [decide_eq_true_iff]
    rcases h (p * 16 + d) (by omega) with ⟨z1, z2⟩ | ⟨o, ho, z1, z2⟩
    · exact ⟨fun _ => z2, fun _ => z1⟩
    · exact ⟨fun z => absurd (z1.symm.trans z) (nk_ne (by omega)), fun z => by have := nm_inI (by omega) (by omega) (z2.symm.trans z); omega⟩
  obtain ⟨x1, x2, x3, x4⟩ := fN_le (fd X p) (16 - f) f
  obtain ⟨m, hm⟩ := nm_ls (fun m k => df_X10_freeLink_6 n m (nI p) (nI k) D) (fd X p) f (16 - f) n (by omega) (fun k m h0 hk c => by
    have u1 : p * 16 + k < 256 := by omega
    have u2 : p * 16 + k < 2 ^ 31 := by omega
    have u3 : k < 2 ^ 31 := by omega
    have k16 : ¬ 16 ≤ k := by omega
    have c0 : ¬ sR D 0 (p * 16 + k) = nI 0 := fun z => by rw [(l0 k (by omega)).mpr z] at c; exact nomatch c
    rw [show df_X10_freeLink_6 n (m + 1) = dF_X10_freeLink_6 n (df_X10_freeLink_6 n m) from rfl]
    simp (disch := (first | assumption | decide | omega)) only [dF_X10_freeLink_6, k16, c0, eq_self, Nat.reduceEqDiff, Nat.reduceLeDiff, nl_0, nl_1, nl_16, nl_256, no_1, no_1024, pk_mul, nI_add, nm_ck, nI_clamp, nI_ltI, nI_leI, nI_eq, nb_b2, nb_b1, ↓nb_let, nm_z0, nm_z1, nb_II, nb_IR, nb_RI, nb_RR, nm_IL, nm_IQ, nm_RL, nm_RQ, nm_LI, nm_LR, nm_LL, nm_LQ, nm_QI, nm_QR, nm_QL, nm_QQ, nm_rr, nm_ii, nm_eqm, not_false_eq_true, pk_sub, nm_div, nm_shl, nm_shr, nm_ush, nm_or8, nm_or64, nm_or256, nm_m1, nm_m3, nm_m7, nm_m15, nm_m31, nm_m63, nm_m255, nm_m511, nm_m1023, nm_m2047, nm_m65535, Nat.reduceMod, Nat.reducePow, Nat.reduceAdd, Nat.reduceSub, Nat.reduceMul, nm_bo, nm_bi, nm_rc, nm_ic, nm_ri, nm_rl, nm_rq, nm_ql, nm_qi, nm_li, nm_us, nm_uu, nm_cp, nm_sa31, nm_sa7, nm_m127, nm_m2, nm_nz, nm_nzk, nm_eq32, nm_nzf, if_true, if_false, ↓reduceIte, if_pos, if_neg])
  have e0 : df_X10_freeLink n (nI p) (nI f) D = df_X10_freeLink_6 n n (nI p) (nI f) D := by
    have u1 : f < 2 ^ 31 := by omega
    by_cases c : 0 < f
    · simp (disch := (first | assumption | decide | omega)) only [df_X10_freeLink, df_X10_freeLink_0, c, eq_self, Nat.reduceEqDiff, Nat.reduceLeDiff, nl_0, no_1, no_1024, pk_mul, nI_add, nm_ck, nI_clamp, nI_ltI, nI_leI, nI_eq, nb_b2, nb_b1, ↓nb_let, nm_z0, nm_z1, nb_II, nb_IR, nb_RI, nb_RR, nm_IL, nm_IQ, nm_RL, nm_RQ, nm_LI, nm_LR, nm_LL, nm_LQ, nm_QI, nm_QR, nm_QL, nm_QQ, nm_rr, nm_ii, nm_eqm, not_false_eq_true, pk_sub, nm_div, nm_shl, nm_shr, nm_ush, nm_or8, nm_or64, nm_or256, nm_m1, nm_m3, nm_m7, nm_m15, nm_m31, nm_m63, nm_m255, nm_m511, nm_m1023, nm_m2047, nm_m65535, Nat.reduceMod, Nat.reducePow, Nat.reduceAdd, Nat.reduceSub, Nat.reduceMul, nm_bo, nm_bi, nm_rc, nm_ic, nm_ri, nm_rl, nm_rq, nm_ql, nm_qi, nm_li, nm_us, nm_uu, nm_cp, nm_sa31, nm_sa7, nm_m127, nm_m2, nm_nz, nm_nzk, nm_eq32, nm_nzf, if_true, if_false, ↓reduceIte, if_pos, if_neg]
    · have : f = 0 := by omega
      subst this
      simp (disch := (first | assumption | decide | omega)) only [df_X10_freeLink, df_X10_freeLink_0, Nat.lt_irrefl, eq_self, Nat.reduceEqDiff, Nat.reduceLeDiff, nl_0, no_1, no_1024, pk_mul, nI_add, nm_ck, nI_clamp, nI_ltI, nI_leI, nI_eq, nb_b2, nb_b1, ↓nb_let, nm_z0, nm_z1, nb_II, nb_IR, nb_RI, nb_RR, nm_IL, nm_IQ, nm_RL, nm_RQ, nm_LI, nm_LR, nm_LL, nm_LQ, nm_QI, nm_QR, nm_QL, nm_QQ, nm_rr, nm_ii, nm_eqm, not_false_eq_true, pk_sub, nm_div, nm_shl, nm_shr, nm_ush, nm_or8, nm_or64, nm_or256, nm_m1, nm_m3, nm_m7, nm_m15, nm_m31, nm_m63, nm_m255, nm_m511, nm_m1023, nm_m2047, nm_m65535, Nat.reduceMod, Nat.reducePow, Nat.reduceAdd, Nat.reduceSub, Nat.reduceMul, nm_bo, nm_bi, nm_rc, nm_ic, nm_ri, nm_rl, nm_rq, nm_ql, nm_qi, nm_li, nm_us, nm_uu, nm_cp, nm_sa31, nm_sa7, nm_m127, nm_m2, nm_nz, nm_nzk, nm_eq32, nm_nzf, if_true, if_false, ↓reduceIte, if_pos, if_neg]
  rw [e0]
  refine Eq.trans hm ?_
  show df_X10_freeLink_6 n (m + 1) (nI p) (nI (fN (fd X p) f (16 - f))) D = _
  rw [show df_X10_freeLink_6 n (m + 1) = dF_X10_freeLink_6 n (df_X10_freeLink_6 n m) from rfl]
  have x3' : fN (fd X p) f (16 - f) < 16 → sR D 0 (p * 16 + fN (fd X p) f (16 - f)) = nI 0 := fun z => (l0 _ z).mp (x3 (by omega))
  generalize fN (fd X p) f (16 - f) = k at x2 x3'
  have u3 : k < 2 ^ 31 := by omega
  by_cases c : k < 16
  · have x3 := x3' c
    have k16 : ¬ 16 ≤ k := by omega
    have u1 : p * 16 + k < 256 := by omega
    have u2 : p * 16 + k < 2 ^ 31 := by omega
    rw [cv_0 c]
    simp (disch := (first | assumption | decide | omega)) only [dF_X10_freeLink_6, k16, x3, eq_self, Nat.reduceEqDiff, Nat.reduceLeDiff, nl_0, nl_1, nl_16, nl_256, no_1, no_1024, pk_mul, nI_add, nm_ck, nI_clamp, nI_ltI, nI_leI, nI_eq, nb_b2, nb_b1, ↓nb_let, nm_z0, nm_z1, nb_II, nb_IR, nb_RI, nb_RR, nm_IL, nm_IQ, nm_RL, nm_RQ, nm_LI, nm_LR, nm_LL, nm_LQ, nm_QI, nm_QR, nm_QL, nm_QQ, nm_rr, nm_ii, nm_eqm, not_false_eq_true, pk_sub, nm_div, nm_shl, nm_shr, nm_ush, nm_or8, nm_or64, nm_or256, nm_m1, nm_m3, nm_m7, nm_m15, nm_m31, nm_m63, nm_m255, nm_m511, nm_m1023, nm_m2047, nm_m65535, Nat.reduceMod, Nat.reducePow, Nat.reduceAdd, Nat.reduceSub, Nat.reduceMul, nm_bo, nm_bi, nm_rc, nm_ic, nm_ri, nm_rl, nm_rq, nm_ql, nm_qi, nm_li, nm_us, nm_uu, nm_cp, nm_sa31, nm_sa7, nm_m127, nm_m2, nm_nz, nm_nzk, nm_eq32, nm_nzf, if_true, if_false, ↓reduceIte, if_pos, if_neg]
  · have k16 : 16 ≤ k := by omega
    rw [cv_1 c]
    simp (disch := (first | assumption | decide | omega)) only [dF_X10_freeLink_6, k16, eq_self, Nat.reduceEqDiff, Nat.reduceLeDiff, nl_0, nl_1, nl_16, nl_256, no_1, no_1024, pk_mul, nI_add, nm_ck, nI_clamp, nI_ltI, nI_leI, nI_eq, nb_b2, nb_b1, ↓nb_let, nm_z0, nm_z1, nb_II, nb_IR, nb_RI, nb_RR, nm_IL, nm_IQ, nm_RL, nm_RQ, nm_LI, nm_LR, nm_LL, nm_LQ, nm_QI, nm_QR, nm_QL, nm_QQ, nm_rr, nm_ii, nm_eqm, not_false_eq_true, pk_sub, nm_div, nm_shl, nm_shr, nm_ush, nm_or8, nm_or64, nm_or256, nm_m1, nm_m3, nm_m7, nm_m15, nm_m31, nm_m63, nm_m255, nm_m511, nm_m1023, nm_m2047, nm_m65535, Nat.reduceMod, Nat.reducePow, Nat.reduceAdd, Nat.reduceSub, Nat.reduceMul, nm_bo, nm_bi, nm_rc, nm_ic, nm_ri, nm_rl, nm_rq, nm_ql, nm_qi, nm_li, nm_us, nm_uu, nm_cp, nm_sa31, nm_sa7, nm_m127, nm_m2, nm_nz, nm_nzk, nm_eq32, nm_nzf, if_true, if_false, ↓reduceIte, if_pos, if_neg]
theorem nk_freeDescriptor (n : Nat) (hn : 1024 < n) {X : St × St} {p : Nat} (hp : p < 16) (e12 : sI X.1 12 = nI p) : df_X16_freeDescriptor n X = some (cv (fN (fd X p) 0 16), X) := by
  obtain ⟨x1, x2, x3, x4⟩ := fN_le (fd X p) 16 0
  obtain ⟨m, hm⟩ := nm_ls (fun m k => df_X16_freeDescriptor_2 n m (nI k) X) (fd X p) 0 16 n (by omega) (fun k m h0 hk c => by
    have u1 : 16 * p + k < 256 := by omega
    have u2 : 16 * p + k < 2 ^ 31 := by omega
    have u3 : k < 2 ^ 31 := by omega
    have u4 : 16 * p + k = p * 16 + k := by omega
    have k16 : ¬ 16 ≤ k := by omega
    have c0 : ¬ sR X.1 14 (p * 16 + k) = -nI 1 := of_decide_eq_false c
    rw [show df_X16_freeDescriptor_2 n (m + 1) = dF_X16_freeDescriptor_2 n (df_X16_freeDescriptor_2 n m) from rfl]
    simp (disch := (first | assumption | decide | omega)) only [dF_X16_freeDescriptor_2, k16, e12, u4, c0, eq_self, Nat.reduceEqDiff, Nat.reduceLeDiff, nl_1, nl_12, nl_14, nl_16, nl_256, no_1, no_1024, pk_mul, nI_add, nm_ck, nI_clamp, nI_ltI, nI_leI, nI_eq, nb_b2, nb_b1, ↓nb_let, nm_z0, nm_z1, nb_II, nb_IR, nb_RI, nb_RR, nm_IL, nm_IQ, nm_RL, nm_RQ, nm_LI, nm_LR, nm_LL, nm_LQ, nm_QI, nm_QR, nm_QL, nm_QQ, nm_rr, nm_ii, nm_eqm, not_false_eq_true, pk_sub, nm_div, nm_shl, nm_shr, nm_ush, nm_or8, nm_or64, nm_or256, nm_m1, nm_m3, nm_m7, nm_m15, nm_m31, nm_m63, nm_m255, nm_m511, nm_m1023, nm_m2047, nm_m65535, Nat.reduceMod, Nat.reducePow, Nat.reduceAdd, Nat.reduceSub, Nat.reduceMul, nm_bo, nm_bi, nm_rc, nm_ic, nm_ri, nm_rl, nm_rq, nm_ql, nm_qi, nm_li, nm_us, nm_uu, nm_cp, nm_sa31, nm_sa7, nm_m127, nm_m2, nm_nz, nm_nzk, nm_eq32, nm_nzf, if_true, if_false, ↓reduceIte, if_pos, if_neg])
  refine Eq.trans (b := df_X16_freeDescriptor_2 n n (nI 0) X) rfl (Eq.trans hm ?_)
  show df_X16_freeDescriptor_2 n (m + 1) (nI (fN (fd X p) 0 16)) X = _
  rw [show df_X16_freeDescriptor_2 n (m + 1) = dF_X16_freeDescriptor_2 n (df_X16_freeDescriptor_2 n m) from rfl]
  have x3' : fN (fd X p) 0 16 < 16 → sR X.1 14 (p * 16 + fN (fd X p) 0 16) = -nI 1 := fun z => of_decide_eq_true (x3 (by omega))
  generalize fN (fd X p) 0 16 = k at x2 x3'
  have u3 : k < 2 ^ 31 := by omega
  by_cases c : k < 16
  · have x3 := x3' c
    have k16 : ¬ 16 ≤ k := by omega
    have u1 : 16 * p + k < 256 := by omega
    have u2 : 16 * p + k < 2 ^ 31 := by omega
    have u4 : 16 * p + k = p * 16 + k := by omega
    rw [cv_0 c]
    simp (disch := (first | assumption | decide | omega)) only [dF_X16_freeDescriptor_2, df_X16_freeDescriptor_32, df_X16_freeDescriptor_43, k16, e12, u4, x3, eq_self, Nat.reduceEqDiff, Nat.reduceLeDiff, nl_1, nl_12, nl_14, nl_16, nl_256, no_1, no_1024, pk_mul, nI_add, nm_ck, nI_clamp, nI_ltI, nI_leI, nI_eq, nb_b2, nb_b1, ↓nb_let, nm_z0, nm_z1, nb_II, nb_IR, nb_RI, nb_RR, nm_IL, nm_IQ, nm_RL, nm_RQ, nm_LI, nm_LR, nm_LL, nm_LQ, nm_QI, nm_QR, nm_QL, nm_QQ, nm_rr, nm_ii, nm_eqm, not_false_eq_true, pk_sub, nm_div, nm_shl, nm_shr, nm_ush, nm_or8, nm_or64, nm_or256, nm_m1, nm_m3, nm_m7, nm_m15, nm_m31, nm_m63, nm_m255, nm_m511, nm_m1023, nm_m2047, nm_m65535, Nat.reduceMod, Nat.reducePow, Nat.reduceAdd, Nat.reduceSub, Nat.reduceMul, nm_bo, nm_bi, nm_rc, nm_ic, nm_ri, nm_rl, nm_rq, nm_ql, nm_qi, nm_li, nm_us, nm_uu, nm_cp, nm_sa31, nm_sa7, nm_m127, nm_m2, nm_nz, nm_nzk, nm_eq32, nm_nzf, if_true, if_false, ↓reduceIte, if_pos, if_neg]
  · have k16 : 16 ≤ k := by omega
    rw [cv_1 c]
    simp (disch := (first | assumption | decide | omega)) only [dF_X16_freeDescriptor_2, df_X16_freeDescriptor_32, df_X16_freeDescriptor_43, k16, eq_self, Nat.reduceEqDiff, Nat.reduceLeDiff, nl_1, nl_12, nl_14, nl_16, nl_256, no_1, no_1024, pk_mul, nI_add, nm_ck, nI_clamp, nI_ltI, nI_leI, nI_eq, nb_b2, nb_b1, ↓nb_let, nm_z0, nm_z1, nb_II, nb_IR, nb_RI, nb_RR, nm_IL, nm_IQ, nm_RL, nm_RQ, nm_LI, nm_LR, nm_LL, nm_LQ, nm_QI, nm_QR, nm_QL, nm_QQ, nm_rr, nm_ii, nm_eqm, not_false_eq_true, pk_sub, nm_div, nm_shl, nm_shr, nm_ush, nm_or8, nm_or64, nm_or256, nm_m1, nm_m3, nm_m7, nm_m15, nm_m31, nm_m63, nm_m255, nm_m511, nm_m1023, nm_m2047, nm_m65535, Nat.reduceMod, Nat.reducePow, Nat.reduceAdd, Nat.reduceSub, Nat.reduceMul, nm_bo, nm_bi, nm_rc, nm_ic, nm_ri, nm_rl, nm_rq, nm_ql, nm_qi, nm_li, nm_us, nm_uu, nm_cp, nm_sa31, nm_sa7, nm_m127, nm_m2, nm_nz, nm_nzk, nm_eq32, nm_nzf, if_true, if_false, ↓reduceIte, if_pos, if_neg]
/-- the descriptors of a running one change -/
theorem rM_de {B : Nat} {M X : St × St} (h : rM B M X) {p : Nat} (hp : p < 16) (h1 : sR X.1 1 p = nI 1) {l op pi fi de kd ip isf : Nat → Int32} (hk : kpL (sR M.2 2) (sR M.2 4) pi fi) (hr : rD l op pi fi de kd (sR X.1 20) (sR X.1 21) (sR X.1 22) ip isf (sR X.1 25)) (hde : ∀ i : Nat, i < p * 16 ∨ p * 16 + 16 ≤ i → de i = sR X.1 14 i) (hip : ∀ k : Nat, k < 8 → ip k = nI 1 → sR X.1 23 k = nI 1) (hisf : ∀ k : Nat, k < 16 → isf k = nI 1 → sR X.1 24 k = nI 1) : rM B (M.1, dU M.2 l op pi fi) (pR (pR (pR (pR X.1 14 de) 19 kd) 23 ip) 24 isf, X.2) := by
  obtain ⟨m1, m2, m3, m4, m5, m6, m7⟩ := h
  refine ⟨m1, hr, rP_all m3 (p := p) ?_ (fun r hr => ⟨⟨fun _ _ => rfl, fun _ _ => rfl, fun _ _ => rfl, fun _ _ => rfl, rfl⟩, ⟨⟨rfl, rfl, rfl, rfl, rfl, rfl, rfl, rfl⟩, fun _ _ => rfl, rfl, fun _ _ => rfl, rfl, fun _ _ => rfl, fun i hi => hde _ (by omega), fun _ _ => Iff.rfl, rfl⟩⟩), m4, m5, m6, rT_go m7 hk hip hisf⟩
  obtain ⟨t, c', w, b', e, ht, hc', hw, hb, he, a1, a2, a3, a4, a5, a6, a7, a8, a9, a10, a11, a12, a13, a14, a15, a16, a17, a18, a19, a20, a21⟩ := m3 p hp
  have t1 : t = 1 := nm_inI (by omega) (by omega) (a2.symm.trans h1)
  exact ⟨t, c', w, b', e, ht, hc', hw, hb, he, a1, a2, a3, a4, a5, a6, a7, a8, a9, a10, a11, a12, a13, a14, a15, a16, a17, a18, fun z => by omega, fun z => by omega, a21⟩
/-- the kernel's call 'close' -/
theorem nq_close (n : Nat) (hn : 1024 < n) {B p : Nat} {K : St × (St × (St × St))} {X : St × St} (h : cP B p K X) (a : Int32) : cO B p K X (df_X5_close n (nI p) a K) (df_X16_close n a X) := by
  obtain ⟨h1, h2, h3, h4, h5, h6, h7⟩ := id h
  have m2 := h1.2.1
  have z0 : ¬ (nI 0 : Int32) ≤ -nI 1 := by decide
  rcases nk_opening n m2 h2 a with ⟨o1, o2, _⟩ | ⟨d, o, hd, ho, ed, de, kn, o1, o2⟩
  · have e1 : df_X5_close n (nI p) a K = some (-1, K) := by simp (disch := (first | assumption | decide | omega)) only [df_X5_close_0, df_X5_close, o1, z0, eq_self, Nat.reduceEqDiff, Nat.reduceLeDiff, nl_0, nl_1, no_1, no_1024, pk_mul, nI_add, nm_ck, nI_clamp, nI_ltI, nI_leI, nI_eq, nb_b2, nb_b1, ↓nb_let, nm_z0, nm_z1, nb_II, nb_IR, nb_RI, nb_RR, nm_IL, nm_IQ, nm_RL, nm_RQ, nm_LI, nm_LR, nm_LL, nm_LQ, nm_QI, nm_QR, nm_QL, nm_QQ, nm_rr, nm_ii, nm_eqm, not_false_eq_true, pk_sub, nm_div, nm_shl, nm_shr, nm_ush, nm_or8, nm_or64, nm_or256, nm_m1, nm_m3, nm_m7, nm_m15, nm_m31, nm_m63, nm_m255, nm_m511, nm_m1023, nm_m2047, nm_m65535, Nat.reduceMod, Nat.reducePow, Nat.reduceAdd, Nat.reduceSub, Nat.reduceMul, nm_bo, nm_bi, nm_rc, nm_ic, nm_ri, nm_rl, nm_rq, nm_ql, nm_qi, nm_li, nm_us, nm_uu, nm_cp, nm_sa31, nm_sa7, nm_m127, nm_m2, nm_nz, nm_nzk, nm_eq32, nm_nzf, if_true, if_false, ↓reduceIte, if_pos, if_neg]
    have e2 : df_X16_close n a X = some (-nI 1, X) := by simp (disch := (first | assumption | decide | omega)) only [df_X16_close_0, df_X16_close, h3, o2, eq_self, Nat.reduceEqDiff, Nat.reduceLeDiff, nl_0, nl_1, nl_12, nl_14, nl_16, nl_256, no_1, no_1024, pk_mul, nI_add, nm_ck, nI_clamp, nI_ltI, nI_leI, nI_eq, nb_b2, nb_b1, ↓nb_let, nm_z0, nm_z1, nb_II, nb_IR, nb_RI, nb_RR, nm_IL, nm_IQ, nm_RL, nm_RQ, nm_LI, nm_LR, nm_LL, nm_LQ, nm_QI, nm_QR, nm_QL, nm_QQ, nm_rr, nm_ii, nm_eqm, not_false_eq_true, pk_sub, nm_div, nm_shl, nm_shr, nm_ush, nm_or8, nm_or64, nm_or256, nm_m1, nm_m3, nm_m7, nm_m15, nm_m31, nm_m63, nm_m255, nm_m511, nm_m1023, nm_m2047, nm_m65535, Nat.reduceMod, Nat.reducePow, Nat.reduceAdd, Nat.reduceSub, Nat.reduceMul, nm_bo, nm_bi, nm_rc, nm_ic, nm_ri, nm_rl, nm_rq, nm_ql, nm_qi, nm_li, nm_us, nm_uu, nm_cp, nm_sa31, nm_sa7, nm_m127, nm_m2, nm_nz, nm_nzk, nm_eq32, nm_nzf, if_true, if_false, ↓reduceIte, if_pos, if_neg]
    rw [e1, e2]
    exact cO_id h (by decide)
  · subst ed
    obtain ⟨l, op, pi, fi, c1, c2, c3⟩ := nk_close n m2 h2 hd
    have sw := nk_sweep n hn (pR X.1 14 (upd (sR X.1 14) (p * 16 + d) (-nI 1)), X.2)
    have u1 : 16 * p + d = p * 16 + d := by omega
    have u2 : p * 16 + d < 256 := by omega
    have u3 : p * 16 + d < 2 ^ 31 := by omega
    have u4 : o < 2 ^ 31 := by omega
    have u5 : 0 ≤ o := by omega
    refine ⟨0, nI 0, K.1, _, _, ?_, ?_, rM_de h1 h2 h5 c2 c3 (fun i hi => nm_un (by omega)) (fun k hk e => rD_p m2 (de' := sR X.1 14) hk e) (fun k hk e => rD_f m2 hk e), fun _ => rfl, Or.inl ⟨h4, by decide⟩, ⟨rfl, rfl, rfl, rfl, rfl⟩, Or.inl ⟨h6, h7⟩, fun _ => h5, fun z => absurd (h4.symm.trans z) (by decide)⟩
    · simp (disch := (first | assumption | decide | omega)) only [df_X5_close_0, df_X5_close, o1, u5, c1, eq_self, Nat.reduceEqDiff, Nat.reduceLeDiff, nl_0, nl_1, no_1, no_1024, pk_mul, nI_add, nm_ck, nI_clamp, nI_ltI, nI_leI, nI_eq, nb_b2, nb_b1, ↓nb_let, nm_z0, nm_z1, nb_II, nb_IR, nb_RI, nb_RR, nm_IL, nm_IQ, nm_RL, nm_RQ, nm_LI, nm_LR, nm_LL, nm_LQ, nm_QI, nm_QR, nm_QL, nm_QQ, nm_rr, nm_ii, nm_eqm, not_false_eq_true, pk_sub, nm_div, nm_shl, nm_shr, nm_ush, nm_or8, nm_or64, nm_or256, nm_m1, nm_m3, nm_m7, nm_m15, nm_m31, nm_m63, nm_m255, nm_m511, nm_m1023, nm_m2047, nm_m65535, Nat.reduceMod, Nat.reducePow, Nat.reduceAdd, Nat.reduceSub, Nat.reduceMul, nm_bo, nm_bi, nm_rc, nm_ic, nm_ri, nm_rl, nm_rq, nm_ql, nm_qi, nm_li, nm_us, nm_uu, nm_cp, nm_sa31, nm_sa7, nm_m127, nm_m2, nm_nz, nm_nzk, nm_eq32, nm_nzf, if_true, if_false, ↓reduceIte, if_pos, if_neg]
    · simp (disch := (first | assumption | decide | omega)) only [df_X16_close_0, df_X16_close, h3, o2, u1, eq_self, Nat.reduceEqDiff, Nat.reduceLeDiff, nl_0, nl_1, nl_12, nl_14, nl_16, nl_256, no_1, no_1024, pk_mul, nI_add, nm_ck, nI_clamp, nI_ltI, nI_leI, nI_eq, nb_b2, nb_b1, ↓nb_let, nm_z0, nm_z1, nb_II, nb_IR, nb_RI, nb_RR, nm_IL, nm_IQ, nm_RL, nm_RQ, nm_LI, nm_LR, nm_LL, nm_LQ, nm_QI, nm_QR, nm_QL, nm_QQ, nm_rr, nm_ii, nm_eqm, not_false_eq_true, pk_sub, nm_div, nm_shl, nm_shr, nm_ush, nm_or8, nm_or64, nm_or256, nm_m1, nm_m3, nm_m7, nm_m15, nm_m31, nm_m63, nm_m255, nm_m511, nm_m1023, nm_m2047, nm_m65535, Nat.reduceMod, Nat.reducePow, Nat.reduceAdd, Nat.reduceSub, Nat.reduceMul, nm_bo, nm_bi, nm_rc, nm_ic, nm_ri, nm_rl, nm_rq, nm_ql, nm_qi, nm_li, nm_us, nm_uu, nm_cp, nm_sa31, nm_sa7, nm_m127, nm_m2, nm_nz, nm_nzk, nm_eq32, nm_nzf, if_true, if_false, ↓reduceIte, if_pos, if_neg]
      rw [sw]
      rfl

