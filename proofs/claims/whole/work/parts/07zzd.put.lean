/-- one byte is put, in both -/
theorem nk_put1 (n : Nat) {M : St × St} {w u g b fr ri ho : Nat → Int32} {fu us : Int32} (h : rQ w u g b fr ri ho fu us) {p a f : Nat} (hp : p < 16) (ha : a < 65536) (hf : f < 256) (e : fr (64 * p + a / 1024) = nI f) (c : cF fr f = 1) (v : Int32) : ∃ w' : Nat → Int32, df_X6_put n (nI p) (nI a) (nI 255) v (mU M w u g fu) = some (mU M w' u g fu) ∧ rQ w' u g (pb b (65536 * p + a) v) fr ri ho fu us := by
  refine ⟨_, nk_cput n h hp ha hf e (nI 255) v, ?_⟩
  have e1 := pb_is b (p := p) (A := a) (j := 0) (by omega) v
  rw [Nat.add_zero, Nat.add_zero] at e1
  rw [e1]
  exact rQ_put h (by omega) hf e c (by omega) _
/-- bytes are put one after the other: the class's words fit the reference's -/
theorem nk_puts (n : Nat) {M : St × St} {w u g b fr ri ho : Nat → Int32} {fu us : Int32} (h : rQ w u g b fr ri ho fu us) {p a m : Nat} (hp : p < 16) (ha : a + m ≤ 65536) (hc : ∀ k : Nat, k < m → ∃ f : Nat, f < 256 ∧ fr (64 * p + (a + k) / 1024) = nI f ∧ cF fr f = 1) (v : Nat → Int32) : ∀ k : Nat, k ≤ m → ∃ w' : Nat → Int32, rQ w' u g (pbs b p a v k) fr ri ho fu us ∧ (k < m → ∃ w'' : Nat → Int32, df_X6_put n (nI p) (nI (a + k)) (nI 255) (v k) (mU M w' u g fu) = some (mU M w'' u g fu) ∧ rQ w'' u g (pbs b p a v (k + 1)) fr ri ho fu us) := by
  have st : ∀ (k : Nat) (w' : Nat → Int32), k < m → rQ w' u g (pbs b p a v k) fr ri ho fu us → ∃ w'' : Nat → Int32, df_X6_put n (nI p) (nI (a + k)) (nI 255) (v k) (mU M w' u g fu) = some (mU M w'' u g fu) ∧ rQ w'' u g (pbs b p a v (k + 1)) fr ri ho fu us := fun k w' hk hr => by
    obtain ⟨f, f1, f2, f3⟩ := hc k hk
    exact nk_put1 n hr hp (by omega) f1 f2 f3 (v k)
  intro k
  induction k with
  | zero => exact fun _ => ⟨w, h, fun hk => st 0 w hk h⟩
  | succ k ih =>
    intro hk
    obtain ⟨w', r1, r2⟩ := ih (by omega)
    obtain ⟨w'', r3, r4⟩ := r2 (by omega)
    exact ⟨w'', r4, fun hk => st (k + 1) w'' hk r4⟩
