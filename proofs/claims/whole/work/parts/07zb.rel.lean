/-- none, or a process -/
def okP (v : Int32) : Prop := v = -nI 1 ∨ ∃ a : Nat, a < 16 ∧ v = nI a
/-- what a WAITING one waits for -/
def wtC (X : St × St) (q : Nat) : Prop := sR X.1 7 q = sR X.1 9 (32 * q + 17) ∧ (sR X.1 9 (32 * q + 17) = nI 3 ∨ ((sR X.1 9 (32 * q + 17) = nI 6 ∨ sR X.1 9 (32 * q + 17) = nI 7) ∧ ∃ d o N : Nat, d < 16 ∧ o < 48 ∧ N ≤ 512 ∧ sR X.1 9 (32 * q + 10) = nI d ∧ sR X.1 14 (q * 16 + d) = nI o ∧ sR X.1 9 (32 * q + 12) = nI N) ∨ sR X.1 9 (32 * q + 17) = nI 19 ∨ sR X.1 9 (32 * q + 17) = nI 21)
/-- one process in both -/
def rP1 (M X : St × St) (q : Nat) : Prop := ∃ t c w b e : Nat, t < 4 ∧ c < 32768 ∧ w < 2 ∧ b ≤ 61440 ∧ e ≤ 61440 ∧ sR M.1 6 (q * 7) = nI t ∧ sR X.1 1 q = nI t ∧ sR M.1 6 (q * 7 + 1) = sR X.1 2 q ∧ okP (sR X.1 2 q) ∧ ¬ sR X.1 2 q = nI q ∧ (t = 3 → ∃ z : Nat, z < 256 ∧ sR M.1 6 (q * 7 + 2) = nI z ∧ sR X.1 3 q = nI z) ∧ (t ≠ 3 → sR M.1 6 (q * 7 + 2) = nI 0) ∧ sR M.1 6 (q * 7 + 3) = nI (2 * c) ∧ sR X.1 4 q = nI (2 * c) ∧ sR M.1 6 (q * 7 + 4) = nI w ∧ sR X.1 8 q = nI w ∧ sR M.1 6 (q * 7 + 5) = nI b ∧ sR X.1 5 q = nI b ∧ sR M.1 6 (q * 7 + 6) = nI e ∧ sR X.1 6 q = nI e ∧ (∀ k : Nat, k < 60 → e ≤ k * 1024 → sR X.1 16 (64 * q + k) = -nI 1) ∧ (t ≠ 0 → (∀ r : Nat, r < 32 → sR M.1 3 (q * 33 + r) = sR X.1 9 (32 * q + r)) ∧ sR M.1 3 (q * 33 + 32) = sR X.1 10 q) ∧ (t = 1 ∨ t = 2 → (∀ k : Nat, k < 16 → sR M.1 5 (q * 16 + k) = sR X.1 13 (16 * q + k)) ∧ sQ M.1 0 q = sQ X.1 0 q ∧ (w = 1 → (∀ r : Nat, r < 32 → sR M.1 4 (q * 33 + r) = sR X.1 11 (32 * q + r)) ∧ sR M.1 4 (q * 33 + 32) = sR X.1 12 q)) ∧ (t = 0 ∨ t = 3 → (∀ k : Nat, k < 64 → sR X.1 16 (64 * q + k) = -nI 1) ∧ ∀ d : Nat, d < 16 → sR X.1 14 (q * 16 + d) = -nI 1) ∧ (t = 2 → wtC X q) ∧ (t ≠ 2 → sR X.1 7 q = -nI 1)
/-- the rows of one process are as they were -/
def agM (M M' : St × St) (q : Nat) : Prop := (∀ i : Nat, i < 7 → sR M'.1 6 (q * 7 + i) = sR M.1 6 (q * 7 + i)) ∧ (∀ i : Nat, i < 33 → sR M'.1 3 (q * 33 + i) = sR M.1 3 (q * 33 + i)) ∧ (∀ i : Nat, i < 33 → sR M'.1 4 (q * 33 + i) = sR M.1 4 (q * 33 + i)) ∧ (∀ i : Nat, i < 16 → sR M'.1 5 (q * 16 + i) = sR M.1 5 (q * 16 + i)) ∧ sQ M'.1 0 q = sQ M.1 0 q
def agX (X X' : St × St) (q : Nat) : Prop := (sR X'.1 1 q = sR X.1 1 q ∧ sR X'.1 2 q = sR X.1 2 q ∧ sR X'.1 3 q = sR X.1 3 q ∧ sR X'.1 4 q = sR X.1 4 q ∧ sR X'.1 5 q = sR X.1 5 q ∧ sR X'.1 6 q = sR X.1 6 q ∧ sR X'.1 7 q = sR X.1 7 q ∧ sR X'.1 8 q = sR X.1 8 q) ∧ (∀ i : Nat, i < 32 → sR X'.1 9 (32 * q + i) = sR X.1 9 (32 * q + i)) ∧ sR X'.1 10 q = sR X.1 10 q ∧ (∀ i : Nat, i < 32 → sR X'.1 11 (32 * q + i) = sR X.1 11 (32 * q + i)) ∧ sR X'.1 12 q = sR X.1 12 q ∧ (∀ i : Nat, i < 16 → sR X'.1 13 (16 * q + i) = sR X.1 13 (16 * q + i)) ∧ (∀ i : Nat, i < 16 → sR X'.1 14 (q * 16 + i) = sR X.1 14 (q * 16 + i)) ∧ (∀ i : Nat, i < 64 → (sR X'.1 16 (64 * q + i) = -nI 1 ↔ sR X.1 16 (64 * q + i) = -nI 1)) ∧ sQ X'.1 0 q = sQ X.1 0 q
theorem agM_r (M : St × St) (q : Nat) : agM M M q := ⟨fun _ _ => rfl, fun _ _ => rfl, fun _ _ => rfl, fun _ _ => rfl, rfl⟩
theorem agX_r (X : St × St) (q : Nat) : agX X X q := ⟨⟨rfl, rfl, rfl, rfl, rfl, rfl, rfl, rfl⟩, fun _ _ => rfl, rfl, fun _ _ => rfl, rfl, fun _ _ => rfl, fun _ _ => rfl, fun _ _ => Iff.rfl, rfl⟩
theorem agM_t {M M' N : St × St} {q : Nat} (h : agM M M' q) (g : agM M' N q) : agM M N q := ⟨fun i hi => (g.1 i hi).trans (h.1 i hi), fun i hi => (g.2.1 i hi).trans (h.2.1 i hi), fun i hi => (g.2.2.1 i hi).trans (h.2.2.1 i hi), fun i hi => (g.2.2.2.1 i hi).trans (h.2.2.2.1 i hi), g.2.2.2.2.trans h.2.2.2.2⟩
theorem agX_t {X X' Y : St × St} {q : Nat} (h : agX X X' q) (g : agX X' Y q) : agX X Y q := by
  obtain ⟨⟨h1, h2, h3, h4, h5, h6, h7, h8⟩, h9, h10, h11, h12, h13, h14, h16, hq⟩ := h
  obtain ⟨⟨g1, g2, g3, g4, g5, g6, g7, g8⟩, g9, g10, g11, g12, g13, g14, g16, gq⟩ := g
  exact ⟨⟨g1.trans h1, g2.trans h2, g3.trans h3, g4.trans h4, g5.trans h5, g6.trans h6, g7.trans h7, g8.trans h8⟩, fun i hi => (g9 i hi).trans (h9 i hi), g10.trans h10, fun i hi => (g11 i hi).trans (h11 i hi), g12.trans h12, fun i hi => (g13 i hi).trans (h13 i hi), fun i hi => (g14 i hi).trans (h14 i hi), fun i hi => (g16 i hi).trans (h16 i hi), gq.trans hq⟩
theorem rP1_ag {M M' X X' : St × St} {q : Nat} (h : rP1 M X q) (hm : agM M M' q) (hx : agX X X' q) : rP1 M' X' q := by
  obtain ⟨m6, m3, m4, m5, mq⟩ := hm
  obtain ⟨⟨x1, x2, x3, x4, x5, x6, x7, x8⟩, x9, x10, x11, x12, x13, x14, x16, xq⟩ := hx
  have m60 := m6 0 (by omega)
  rw [Nat.add_zero] at m60
  obtain ⟨t, c, w, b, e, ht, hc, hw, hb, he, a1, a2, a3, a4, a5, a6, a7, a8, a9, a10, a11, a12, a13, a14, a15, a16, a17, a18, a19, a20, a21⟩ := h
  refine ⟨t, c, w, b, e, ht, hc, hw, hb, he, m60.trans a1, x1.trans a2, (m6 1 (by omega)).trans (a3.trans x2.symm), by rw [x2]; exact a4, by rw [x2]; exact a5, fun z => ?_, fun z => (m6 2 (by omega)).trans (a7 z), (m6 3 (by omega)).trans a8, x4.trans a9, (m6 4 (by omega)).trans a10, x8.trans a11, (m6 5 (by omega)).trans a12, x5.trans a13, (m6 6 (by omega)).trans a14, x6.trans a15, fun k hk z => (x16 k (by omega)).mpr (a16 k hk z), fun z => ⟨fun r hr => ?_, ?_⟩, fun z => ⟨fun k hk => ?_, ?_, fun y => ⟨fun r hr => ?_, ?_⟩⟩, fun z => ⟨fun k hk => (x16 k hk).mpr ((a19 z).1 k hk), fun d hd => (x14 d hd).trans ((a19 z).2 d hd)⟩, fun z => ?_, fun z => x7.trans (a21 z)⟩
  · obtain ⟨y, y1, y2, y3⟩ := a6 z
    exact ⟨y, y1, (m6 2 (by omega)).trans y2, x3.trans y3⟩
  · rw [m3 r (by omega), x9 r hr]; exact (a17 z).1 r hr
  · rw [m3 32 (by omega), x10]; exact (a17 z).2
  · rw [m5 k hk, x13 k hk]; exact (a18 z).1 k hk
  · rw [mq, xq]; exact (a18 z).2.1
  · rw [m4 r (by omega), x11 r hr]; exact ((a18 z).2.2 y).1 r hr
  · rw [m4 32 (by omega), x12]; exact ((a18 z).2.2 y).2
  · obtain ⟨z1, z2⟩ := a20 z
    unfold wtC
    rw [x7, x9 17 (by omega), x9 10 (by omega), x9 12 (by omega)]
    refine ⟨z1, ?_⟩
    rcases z2 with z2 | ⟨z2, d, o, N, y1, y2, y3, y4, y5, y6⟩ | z2
    · exact Or.inl z2
    · exact Or.inr (Or.inl ⟨z2, d, o, N, y1, y2, y3, y4, (x14 d y1).trans y5, y6⟩)
    · exact Or.inr (Or.inr z2)
/-- the numbers that both keep -/
def rG (M X : St × St) : Prop := sI M.1 3 = sI X.1 1 ∧ okP (sI X.1 1) ∧ sI M.1 4 = sI X.1 2 ∧ (∃ l : Nat, l < 16 ∧ sI X.1 2 = nI l) ∧ (sI X.1 1 = -nI 1 ∨ sI X.1 2 = sI X.1 1) ∧ sI M.1 5 = sI X.1 3 ∧ okP (sI X.1 3) ∧ sI M.1 6 = sI X.1 4 ∧ okR (sI X.1 4) ∧ sL M.1 0 = sL X.1 1 ∧ sL M.1 1 = sL X.1 0
/-- a byte's cell holds a byte -/
def fb8 (v : Int32) : Prop := fits .byte (.int v) = true
/-- the class's rows of bytes -/
def okY (D : St) : Prop := (∀ i : Nat, i < 4096 → fb8 (sR D 3 i)) ∧ (∀ i : Nat, i < 8192 → fb8 (sR D 5 i)) ∧ (∀ i : Nat, i < 256 → fb8 (sR D 6 i)) ∧ (∀ i : Nat, i < 512 → fb8 (sR D 7 i)) ∧ ∀ i : Nat, i < 2048 → fb8 (sR D 8 i)
/-- the random words that wait -/
def rA (M X : St × St) : Prop := (∃ k : Nat, k ≤ 16 ∧ sI M.1 1 = nI k ∧ sI X.1 5 = nI k ∧ ∀ i : Nat, i < k → sR M.1 7 i = sR X.1 0 i) ∧ okY M.2
/-- how many WAIT -/
def cW (st : Nat → Int32) : Nat := cN (fun q => decide (st q = nI 2)) 16
/-- a byte: the class's and the reference's -/
def b8 (v u : Int32) : Prop := ∃ z : Nat, z < 256 ∧ u = nI z ∧ v = vp_nar .byte ((nI z).toInt8.toInt32)
/-- what lies in pipes, files, names, what was typed and shown -/
def rT (B : Nat) (pi pd fi fd nm ty sh : Nat → Int32) (tb : Int32) (sa : Int64) (ip isf nam pl pb le fb ns tp sw : Nat → Int32) (tn : Int32) (sn : Int64) : Prop := (∀ k : Nat, k < 8 → ip k = nI 1 → ∃ L o : Nat, L ≤ 512 ∧ o < 512 ∧ pi (k * 4) = nI L ∧ pl k = nI L ∧ pi (k * 4 + 3) = nI o ∧ ∀ i : Nat, i < L → b8 (pd (k * 512 + (o + i) % 512)) (pb (512 * k + i))) ∧ (∀ k : Nat, k < 16 → isf k = nI 1 → ∃ L : Nat, L ≤ 512 ∧ fi (k * 3) = nI L ∧ le k = nI L ∧ ∀ i : Nat, i < L → b8 (fd (k * 512 + i)) (fb (512 * k + i))) ∧ (∀ k : Nat, k < 16 → nam k = nI 1 → ∀ i : Nat, i < 16 → b8 (nm (k * 16 + i)) (ns (16 * k + i))) ∧ (∃ T : Nat, T ≤ 512 ∧ tb = nI T ∧ tn = nI T ∧ ∀ i : Nat, i < T → b8 (ty i) (tp i)) ∧ sa = sn ∧ ∃ S : Nat, S ≤ B ∧ sn = Int64.ofNat S ∧ ∀ i : Nat, i < S → i < 2048 → b8 (sh ((if S ≤ 2048 then i else S + i) % 2048)) (sw i)
def rTT (B : Nat) (M X : St × St) : Prop := rT B (sR M.2 2) (sR M.2 3) (sR M.2 4) (sR M.2 5) (sR M.2 6) (sR M.2 7) (sR M.2 8) (sI M.2 0) (sL M.2 0) (sR X.1 23) (sR X.1 24) (sR X.1 25) (sR X.1 26) (sR X.1 27) (sR X.1 28) (sR X.1 29) (sR X.1 30) (sR X.1 31) (sR X.1 32) (sI X.1 7) (sL X.1 2)
def rDD (M X : St × St) : Prop := rD (sR M.2 0) (sR M.2 1) (sR M.2 2) (sR M.2 4) (sR X.1 14) (sR X.1 19) (sR X.1 20) (sR X.1 21) (sR X.1 22) (sR X.1 23) (sR X.1 24) (sR X.1 25)
/-- the two machines -/
def rM (B : Nat) (M X : St × St) : Prop := rK M X ∧ rDD M X ∧ (∀ q : Nat, q < 16 → rP1 M X q) ∧ sI M.1 2 = nI (cW (sR X.1 1)) ∧ rG M X ∧ rA M X ∧ rTT B M X
/-- what the kernel's calls leave -/
def kX (X X' : St × St) : Prop := X'.2 = X.2 ∧ sI X'.1 0 = sI X.1 0 ∧ sI X'.1 12 = sI X.1 12 ∧ sI X'.1 13 = sI X.1 13 ∧ sI X'.1 14 = sI X.1 14 ∧ sI X'.1 15 = sI X.1 15 ∧ sI X'.1 16 = sI X.1 16
def kM (M M' : St × St) : Prop := sI M'.1 7 = sI M.1 7
