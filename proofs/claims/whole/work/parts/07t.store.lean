/-- a page comes into a frame of its own, in both machines -/
theorem nk_wo (n : Nat) (hn : 1024 < n) {M X : St × St} {w u g b fr ri ho : Nat → Int32} {fu us : Int32} (h : rQ w u g b fr ri ho fu us) {p a f : Nat} (hp : p < 16) (ha : a < 65536) (hf : f < 256) (e : fr (64 * p + a / 1024) = nI f) (hc : cF fr f = 1 ∨ cU fr < 256) : ∃ (w' u' g' : Nat → Int32) (fu' : Int32) (fr' ho' : Nat → Int32) (us' : Int32) (f' : Nat), f' < 256 ∧ df_X6_own n (nI p) (nI a) (mU M w u g fu) = some (nI 1, mU M w' u' g' fu') ∧ rQ w' u' g' b fr' ri ho' fu' us' ∧ fr' (64 * p + a / 1024) = nI f' ∧ cF fr' f' = 1 ∧ (∀ j : Nat, j ≠ 64 * p + a / 1024 → fr' j = fr j) ∧ (∀ q : Nat, q < 256 → q ≠ f' → cF fr' q ≤ cF fr q) ∧ cU fr' = cU fr + (if cF fr f = 1 then 0 else 1) ∧ ∀ (b' : Nat → Int32) (re wr v : Int32) (a' : Nat), a' < 65536 → a' / 1024 = a / 1024 → okR re → okB wr → df_X16_write n (nI p) (nI a') v (wX X b' fr ri ho us re wr) = some (wX X (pb b' (65536 * p + a') v) fr' ri ho' us' (rv re a') (wv X wr p a')) := by
  by_cases c : cF fr f = 1
  · refine ⟨w, u, g, fu, fr, ho, us, f, hf, nk_own1 n (M := mU M w u g fu) (X := xU X b fr ri ho us) h hp ha hf e c, h, e, c, fun _ _ => rfl, fun _ _ _ => Nat.le_refl _, by rw [if_pos c, Nat.add_zero], fun b' re wr v a' ha' ea hre hwr => ?_⟩
    exact nk_wr1 n hp ha' hf (by rw [ea]; exact e) (by rw [(h.2.1 f hf).2, c]) v hre hwr
  · have c0 : 0 < cF fr f := cN_p (P := fun i => decide (fr i = nI f)) (i := 64 * p + a / 1024) (decide_eq_true e) (by omega)
    have c1 : 1 < cF fr f := by omega
    have hu : cU fr < 256 := by omega
    obtain ⟨r, hr, eg, eo⟩ := (nk_own2 n hn (M := mU M w u g fu) (X := xU X b fr ri ho us) h hp ha hf e c1).2 hu
    have eo : df_X6_own n (nI p) (nI a) (mU M w u g fu) = some (nI 1, mU (mU M w u g fu) (va_cpy w w (f * 256) (fF fr * 256) 256) (upd (upd u f (nI (cF fr f - 1))) (fF fr) (nI 1)) (upd g (64 * p + a / 1024) (nI (fF fr * 8 + r))) (fu + nI 1)) := eo
    rw [mU_mU] at eo
    obtain ⟨f1, f2, f3⟩ := fF_lt hu
    obtain ⟨q1, q2, q3, q4⟩ := rQ_own h (i := 64 * p + a / 1024) (by omega) hf f1 hr e eg c1 f2
    refine ⟨_, _, _, _, upd fr (64 * p + a / 1024) (nI (fF fr)), _, _, fF fr, f1, eo, q1, nm_us, q3, fun j hj => nm_un hj, fun q hq hne => ?_, by rw [if_neg c]; exact q2, fun b' re wr v a' ha' ea hre hwr => ?_⟩
    · obtain ⟨l1, l2⟩ := cF_leave (i := 64 * p + a / 1024) (by omega) hf e
      obtain ⟨s1, s2⟩ := cF_stand (fr := upd fr (64 * p + a / 1024) (-nI 1)) (i := 64 * p + a / 1024) (by omega) f1 nm_us
      rw [nm_uu] at s1 s2
      rw [s1 q hq hne]
      by_cases cq : q = f
      · rw [cq]; omega
      · rw [l1 q hq cq]; exact Nat.le_refl _
    · rw [← ea]
      exact nk_wr2 n hn hp ha' hf (by rw [ea]; exact e) (fun q hq => (h.2.1 q hq).2) c1 hu v hre hwr
/-- the reference's writes, one after the other -/
def wrs (n p a : Nat) (v : Nat → Int32) : Nat → St × St → Option (St × St)
  | 0, X => some X
  | k + 1, X => nd_b1 (wrs n p a v k X) (fun s => df_X16_write n (nI p) (nI (a + k)) (v k) s)
def pbs (b : Nat → Int32) (p a : Nat) (v : Nat → Int32) : Nat → Nat → Int32
  | 0 => b
  | k + 1 => pb (pbs b p a v k) (65536 * p + (a + k)) (v k)
def rvs (re : Int32) (a : Nat) : Nat → Int32
  | 0 => re
  | k + 1 => rv (rvs re a k) (a + k)
def wvs (X : St × St) (wr : Int32) (p a : Nat) : Nat → Int32
  | 0 => wr
  | k + 1 => wv X (wvs X wr p a k) p (a + k)
theorem okR_rvs {re : Int32} (h : okR re) (a : Nat) : ∀ k : Nat, okR (rvs re a k)
  | 0 => h
  | k + 1 => okR_rv (okR_rvs h a k) _
theorem okB_wvs {X : St × St} {wr : Int32} (h : okB wr) {p a : Nat} : ∀ k : Nat, okB (wvs X wr p a k)
  | 0 => h
  | _ + 1 => okB_wv
/-- how many frames are wanted for two pages -/
def wt (fr : Nat → Int32) (i j : Nat) : Nat := (if cF fr (Int32.toNatClampNeg (fr i)) = 1 then 0 else 1) + if i = j then 0 else if cF fr (Int32.toNatClampNeg (fr j)) = 1 then 0 else 1
theorem nk_write (n : Nat) (hn : 1024 < n) {M X : St × St} (h : rK M X) {p a m f1 f2 : Nat} (hp : p < 16) (hm : 1 ≤ m) (hm2 : m ≤ 1024) (ha : a + m ≤ 65536) (h1 : f1 < 256) (h2 : f2 < 256) (e1 : sR X.1 16 (64 * p + a / 1024) = nI f1) (e2 : sR X.1 16 (64 * p + (a + m - 1) / 1024) = nI f2) (hw : cU (sR X.1 16) + wt (sR X.1 16) (64 * p + a / 1024) (64 * p + (a + m - 1) / 1024) ≤ 256) (hre : okR (sI X.1 4)) (hwr : okB (sI X.1 16)) : ∃ (M1 : St × St) (w u g : Nat → Int32) (fu : Int32) (fr ho : Nat → Int32) (us : Int32), df_X6_own n (nI p) (nI a) M = some (nI 1, M1) ∧ df_X6_own n (nI p) (nI (a + m - 1)) M1 = some (nI 1, mU M w u g fu) ∧ rQ w u g (sR X.1 15) fr (sR X.1 17) ho fu us ∧ (∀ k : Nat, k < m → ∃ f : Nat, f < 256 ∧ fr (64 * p + (a + k) / 1024) = nI f ∧ cF fr f = 1) ∧ (∀ v : Nat → Int32, wrs n p a v m X = some (wX X (pbs (sR X.1 15) p a v m) fr (sR X.1 17) ho us (rvs (sI X.1 4) a m) (wvs X (sI X.1 16) p a m))) ∧ (∀ j : Nat, sR X.1 16 j = -nI 1 → j < 1024 → fr j = -nI 1) ∧ (∀ j : Nat, j < 1024 → ¬ sR X.1 16 j = -nI 1 → ¬ fr j = -nI 1) ∧ ((a + m - 1) / 1024 = a / 1024 → M1 = mU M w u g fu) ∧ (∀ (v : Nat → Int32) (k : Nat), k ≤ m → ∃ (b' fr' ho' : Nat → Int32) (us' re' wr' : Int32), wrs n p a v k X = some (wX X b' fr' (sR X.1 17) ho' us' re' wr')) := by
  unfold wt at hw
  rw [e1, e2, nI_clamp (by omega), nI_clamp (by omega)] at hw
  obtain ⟨w1, u1, g1, fu1, fr1, ho1, us1, f1', k1, k2, k3, k4, k5, k6, k7, k8, k9⟩ := nk_wo n hn (M := M) (X := X) h hp (a := a) (by omega) h1 e1 (by
    by_cases c : cF (sR X.1 16) f1 = 1
    · exact Or.inl c
    · rw [if_neg c] at hw; right; omega)
  rw [mU_id] at k2
  have B1 : ∀ (v : Nat → Int32) (k : Nat), 1 ≤ k → k ≤ m → a + k ≤ (a / 1024 + 1) * 1024 → wrs n p a v k X = some (wX X (pbs (sR X.1 15) p a v k) fr1 (sR X.1 17) ho1 us1 (rvs (sI X.1 4) a k) (wvs X (sI X.1 16) p a k)) := by
    intro v k
    induction k with
    | zero => intro z; exact absurd z (by omega)
    | succ k ih =>
      intro _ hk hl
      show nd_b1 (wrs n p a v k X) _ = _
      by_cases c : k = 0
      · subst c
        have := k9 (sR X.1 15) (sI X.1 4) (sI X.1 16) (v 0) a (by omega) rfl hre hwr
        rw [wX_id] at this
        exact this
      · rw [ih (by omega) (by omega) (by omega), nb_b1]
        exact nk_wr1 n (a := a + k) (fr := fr1) (ho := ho1) hp (by omega) k1 (by rw [show (a + k) / 1024 = a / 1024 from by omega]; exact k4) (by rw [(k3.2.1 f1' k1).2, k5]) _ (okR_rvs hre a k) (okB_wvs hwr k)
  by_cases cp : (a + m - 1) / 1024 = a / 1024
  · refine ⟨mU M w1 u1 g1 fu1, w1, u1, g1, fu1, fr1, ho1, us1, k2, ?_, k3, fun k hk => ⟨f1', k1, by rw [show (a + k) / 1024 = a / 1024 from by omega]; exact k4, k5⟩, fun v => B1 v m hm (Nat.le_refl m) (by omega), fun j hj _ => ?_, fun j hj z => ?_, fun _ => rfl, fun v k hk => ?_⟩
    · exact nk_own1 n (M := mU M w1 u1 g1 fu1) (X := xU X (sR X.1 15) fr1 (sR X.1 17) ho1 us1) k3 hp (by omega) k1 (by rw [cp]; exact k4) k5
    · by_cases c : j = 64 * p + a / 1024
      · rw [c, e1] at hj; exact absurd hj (nk_ne (by omega))
      · rw [k6 j c]; exact hj
    · by_cases c : j = 64 * p + a / 1024
      · rw [c, k4]; exact nk_ne (by omega)
      · rw [k6 j c]; exact z
    · by_cases k0 : k = 0
      · rw [k0]
        exact ⟨_, _, _, _, _, _, congrArg some (wX_id X).symm⟩
      · exact ⟨_, _, _, _, _, _, B1 v k (by omega) hk (by omega)⟩
  · have c64 : 64 * p + (a + m - 1) / 1024 ≠ 64 * p + a / 1024 := by omega
    rw [if_neg (show ¬ 64 * p + a / 1024 = 64 * p + (a + m - 1) / 1024 by omega)] at hw
    have e2' : fr1 (64 * p + (a + m - 1) / 1024) = nI f2 := by rw [k6 _ c64]; exact e2
    have hne : f2 ≠ f1' := fun q => cF_one (i := 64 * p + a / 1024) (by omega) k1 k4 k5 (j := 64 * p + (a + m - 1) / 1024) (by omega) c64 (by rw [e2', q])
    have le2 := k7 f2 h2 hne
    have p2 : 0 < cF fr1 f2 := cN_p (P := fun i => decide (fr1 i = nI f2)) (i := 64 * p + (a + m - 1) / 1024) (decide_eq_true e2') (by omega)
    obtain ⟨w2, u2, g2, fu2, fr2, ho2, us2, f2', m1, m2, m3, m4, m5, m6, m7, m8, m9⟩ := nk_wo n hn (M := M) (X := X) k3 hp (a := a + m - 1) (by omega) h2 e2' (by
      by_cases c : cF fr1 f2 = 1
      · exact Or.inl c
      · rw [if_neg (show ¬ cF (sR X.1 16) f2 = 1 by omega)] at hw; right; omega)
    have i1 : fr2 (64 * p + a / 1024) = nI f1' := by rw [m6 _ (by omega)]; exact k4
    have hne2 : f1' ≠ f2' := fun q => cF_one (i := 64 * p + (a + m - 1) / 1024) (by omega) m1 m4 m5 (j := 64 * p + a / 1024) (by omega) (by omega) (by rw [i1, q])
    have le1 := m7 f1' k1 hne2
    have p1 : 0 < cF fr2 f1' := cN_p (P := fun i => decide (fr2 i = nI f1')) (i := 64 * p + a / 1024) (decide_eq_true i1) (by omega)
    have B2 : ∀ (v : Nat → Int32) (k : Nat), (a / 1024 + 1) * 1024 < a + k → k ≤ m → wrs n p a v k X = some (wX X (pbs (sR X.1 15) p a v k) fr2 (sR X.1 17) ho2 us2 (rvs (sI X.1 4) a k) (wvs X (sI X.1 16) p a k)) := by
      intro v k
      induction k with
      | zero => intro z; exact absurd z (by omega)
      | succ k ih =>
        intro hl hk
        show nd_b1 (wrs n p a v k X) _ = _
        by_cases c : (a / 1024 + 1) * 1024 < a + k
        · rw [ih c (by omega), nb_b1]
          exact nk_wr1 n (a := a + k) (fr := fr2) (ho := ho2) hp (by omega) m1 (by rw [show (a + k) / 1024 = (a + m - 1) / 1024 from by omega]; exact m4) (by rw [(m3.2.1 f2' m1).2, m5]) _ (okR_rvs hre a k) (okB_wvs hwr k)
        · rw [B1 v k (by omega) (by omega) (by omega), nb_b1]
          exact m9 _ _ _ _ (a + k) (by omega) (by omega) (okR_rvs hre a k) (okB_wvs hwr k)
    refine ⟨mU M w1 u1 g1 fu1, w2, u2, g2, fu2, fr2, ho2, us2, k2, m2, m3, fun k hk => ?_, fun v => B2 v m (by omega) (Nat.le_refl m), fun j hj _ => ?_, fun j hj z => ?_, fun z => absurd z cp, fun v k hk => ?_⟩
    · by_cases ck : (a + k) / 1024 = a / 1024
      · exact ⟨f1', k1, by rw [ck]; exact i1, by omega⟩
      · exact ⟨f2', m1, by rw [show (a + k) / 1024 = (a + m - 1) / 1024 from by omega]; exact m4, m5⟩
    · by_cases c : j = 64 * p + (a + m - 1) / 1024
      · rw [c, e2] at hj; exact absurd hj (nk_ne (by omega))
      · rw [m6 j c]
        by_cases c' : j = 64 * p + a / 1024
        · rw [c', e1] at hj; exact absurd hj (nk_ne (by omega))
        · rw [k6 j c']; exact hj
    · by_cases c : j = 64 * p + (a + m - 1) / 1024
      · rw [c, m4]; exact nk_ne (by omega)
      · rw [m6 j c]
        by_cases c' : j = 64 * p + a / 1024
        · rw [c', k4]; exact nk_ne (by omega)
        · rw [k6 j c']; exact z
    · by_cases k0 : k = 0
      · rw [k0]
        exact ⟨_, _, _, _, _, _, congrArg some (wX_id X).symm⟩
      · by_cases c : (a / 1024 + 1) * 1024 < a + k
        · exact ⟨_, _, _, _, _, _, B2 v k c hk⟩
        · exact ⟨_, _, _, _, _, _, B1 v k (by omega) hk (by omega)⟩
