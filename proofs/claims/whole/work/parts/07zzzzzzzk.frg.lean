/-- registers that a letter takes -/
theorem fr0_d : ∀ r : Fin 32, df_X7_fits 0 100 (nI r.1) () = some (bI (true), ()) := by decide +kernel
theorem fr1_d (n : Nat) {r : Nat} (h : r < 32) : df_X7_fits n 100 (nI r) () = some (bI (true), ()) := (show df_X7_fits n 100 (nI r) () = df_X7_fits 0 100 (nI r) () from rfl).trans (fr0_d ⟨r, h⟩)
theorem fr0_a : ∀ r : Fin 32, df_X7_fits 0 97 (nI r.1) () = some (bI (true), ()) := by decide +kernel
theorem fr1_a (n : Nat) {r : Nat} (h : r < 32) : df_X7_fits n 97 (nI r) () = some (bI (true), ()) := (show df_X7_fits n 97 (nI r) () = df_X7_fits 0 97 (nI r) () from rfl).trans (fr0_a ⟨r, h⟩)
theorem fr0_b : ∀ r : Fin 32, df_X7_fits 0 98 (nI r.1) () = some (bI (true), ()) := by decide +kernel
theorem fr1_b (n : Nat) {r : Nat} (h : r < 32) : df_X7_fits n 98 (nI r) () = some (bI (true), ()) := (show df_X7_fits n 98 (nI r) () = df_X7_fits 0 98 (nI r) () from rfl).trans (fr0_b ⟨r, h⟩)
theorem fr0_s : ∀ r : Fin 32, df_X7_fits 0 115 (nI r.1) () = some (bI (true), ()) := by decide +kernel
theorem fr1_s (n : Nat) {r : Nat} (h : r < 32) : df_X7_fits n 115 (nI r) () = some (bI (true), ()) := (show df_X7_fits n 115 (nI r) () = df_X7_fits 0 115 (nI r) () from rfl).trans (fr0_s ⟨r, h⟩)
theorem fr0_n : ∀ r : Fin 32, df_X7_fits 0 110 (nI r.1) () = some (bI (!decide (r.1 = 0)), ()) := by decide +kernel
theorem fr1_n (n : Nat) {r : Nat} (h : r < 32) : df_X7_fits n 110 (nI r) () = some (bI (!decide (r = 0)), ()) := (show df_X7_fits n 110 (nI r) () = df_X7_fits 0 110 (nI r) () from rfl).trans (fr0_n ⟨r, h⟩)
theorem fr0_z : ∀ r : Fin 32, df_X7_fits 0 122 (nI r.1) () = some (bI (!decide (r.1 = 0)), ()) := by decide +kernel
theorem fr1_z (n : Nat) {r : Nat} (h : r < 32) : df_X7_fits n 122 (nI r) () = some (bI (!decide (r = 0)), ()) := (show df_X7_fits n 122 (nI r) () = df_X7_fits 0 122 (nI r) () from rfl).trans (fr0_z ⟨r, h⟩)
theorem fr0_m : ∀ r : Fin 32, df_X7_fits 0 109 (nI r.1) () = some (bI (!decide (r.1 = 2)), ()) := by decide +kernel
theorem fr1_m (n : Nat) {r : Nat} (h : r < 32) : df_X7_fits n 109 (nI r) () = some (bI (!decide (r = 2)), ()) := (show df_X7_fits n 109 (nI r) () = df_X7_fits 0 109 (nI r) () from rfl).trans (fr0_m ⟨r, h⟩)
theorem fr0_p : ∀ r : Fin 32, df_X7_fits 0 112 (nI r.1) () = some (bI (decide (8 ≤ r.1 ∧ r.1 ≤ 15)), ()) := by decide +kernel
theorem fr1_p (n : Nat) {r : Nat} (h : r < 32) : df_X7_fits n 112 (nI r) () = some (bI (decide (8 ≤ r ∧ r ≤ 15)), ()) := (show df_X7_fits n 112 (nI r) () = df_X7_fits 0 112 (nI r) () from rfl).trans (fr0_p ⟨r, h⟩)
theorem fr0_q : ∀ r : Fin 32, df_X7_fits 0 113 (nI r.1) () = some (bI (decide (8 ≤ r.1 ∧ r.1 ≤ 15)), ()) := by decide +kernel
theorem fr1_q (n : Nat) {r : Nat} (h : r < 32) : df_X7_fits n 113 (nI r) () = some (bI (decide (8 ≤ r ∧ r ≤ 15)), ()) := (show df_X7_fits n 113 (nI r) () = df_X7_fits 0 113 (nI r) () from rfl).trans (fr0_q ⟨r, h⟩)
/-- a register of the class, letter by letter: fault or bits -/
theorem isT_0 : ∀ l : Fin 128, df_X7_isTarget 0 (nI l.1) () = some (bI (decide (l.1 = 84 ∨ l.1 = 74 ∨ l.1 = 75 ∨ l.1 = 76)), ()) := by decide +kernel
theorem isT_1 (n : Nat) {l : Nat} (h : l < 128) : df_X7_isTarget n (nI l) () = some (bI (decide (l = 84 ∨ l = 74 ∨ l = 75 ∨ l = 76)), ()) := (show df_X7_isTarget n (nI l) () = df_X7_isTarget 0 (nI l) () from rfl).trans (isT_0 ⟨l, h⟩)
/-- the forms of the class's statements are short -/
theorem fo_l : ∀ i : Fin 128, ks_n (ko_f i.1) ≤ 8 ∧ ko_f i.1 < 190 := by decide +kernel
