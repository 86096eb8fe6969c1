/-- what the class looks for in what a tick wrote -/
def hb (P A x : Int32) : Bool := decide ((x >>> ((26 : Int32) &&& 31)) = P) && (!decide (A < ((x >>> ((10 : Int32) &&& 31)) &&& 65535)) && !decide ((((x >>> ((10 : Int32) &&& 31)) &&& 65535) + (x &&& 1023)) ≤ A))
/-- the last of them below k -/
def lw (f : Nat → Bool) : Nat → Int32
  | 0 => -nI 1
  | k + 1 => if f k = true then nI k else lw f k
theorem nI_ne {a A : Nat} (ha : a < 65536) (hA : 65536 ≤ A) (h2 : A < 2 ^ 32) : ¬ nI a = nI A := fun z => by
  have := (nm_eq32 (by omega) h2).mp z
  omega
theorem wvs_0 {X : St × St} {p a A : Nat} (e : sI X.1 15 = nI A) (hA : 65536 ≤ A) (h2 : A < 2 ^ 32) : ∀ k : Nat, a + k ≤ 65536 → wvs X (nI 0) p a k = nI 0
  | 0, _ => rfl
  | k + 1, h => by
    show wv X (wvs X (nI 0) p a k) p (a + k) = nI 0
    rw [wvs_0 e hA h2 k (by omega)]
    unfold wv
    rw [if_pos rfl, e, if_neg (fun z => nI_ne (by omega) hA h2 z.2)]
theorem wvs_b {X : St × St} {p P a A : Nat} (hp : p < 16) (hP : P < 16) (hA : A < 65536) (e1 : sI X.1 14 = nI P) (e2 : sI X.1 15 = nI A) : ∀ k : Nat, a + k ≤ 65536 → wvs X (nI 0) p a k = bI (decide (p = P ∧ a ≤ A ∧ A < a + k))
  | 0, _ => by
    rw [decide_eq_false (by omega)]
    rfl
  | k + 1, h => by
    show wv X (wvs X (nI 0) p a k) p (a + k) = _
    rw [wvs_b hp hP hA e1 e2 k (by omega)]
    unfold wv
    rw [e1, e2]
    by_cases c : p = P ∧ a ≤ A ∧ A < a + k
    · rw [decide_eq_true c, if_neg (by decide), decide_eq_true (by omega)]
      rfl
    · rw [decide_eq_false c, if_pos bI_f]
      by_cases d : nI p = nI P ∧ nI (a + k) = nI A
      · have d1 := nm_inI (by omega) (by omega) d.1
        have d2 := nm_inI (by omega) (by omega) d.2
        rw [if_pos d, decide_eq_true (by omega)]
        rfl
      · have d' : ¬ (p = P ∧ a + k = A) := fun z => d ⟨by rw [z.1], by rw [z.2]⟩
        rw [if_neg d, decide_eq_false (by omega)]
        rfl
theorem hb_w {X : St × St} {p P A : Nat} {x w : Int32} (h : wrR X p x w) (hp : p < 16) (hP : P < 16) (hA : A < 65536) (e1 : sI X.1 14 = nI P) (e2 : sI X.1 15 = nI A) : w = bI (hb (nI P) (nI A) x) := by
  have s26 : (26 : Int32) &&& 31 = nI 26 := by decide
  have s10 : (10 : Int32) &&& 31 = nI 10 := by decide
  have k1 : (65535 : Int32) = nI 65535 := rfl
  have k2 : (1023 : Int32) = nI 1023 := rfl
  rcases h with ⟨z1, z2⟩ | ⟨a, k, k0, k5, ak, z1, z2⟩
  · rw [z1, z2]
    unfold hb
    rw [s26, s10, k1, k2, nm_shr (by omega) (by omega), nm_shr (by omega) (by omega), nm_m65535 (by omega), nm_m1023 (by omega), nI_add]
    have : decide (nI (0 / 2 ^ 10 % 65536 + 0 % 1024) ≤ nI A) = true := decide_eq_true (by rw [nI_leI (by omega) (by omega)]; omega)
    rw [this, Bool.not_true, Bool.and_false, Bool.and_false]
    rfl
  · rw [z1, z2, wvs_b hp hP hA e1 e2 k ak]
    unfold hb
    rw [s26, s10, k1, k2, nm_shr (by omega) (by omega), nm_shr (by omega) (by omega), nm_m65535 (by omega), nm_m1023 (by omega), nI_add]
    rw [show (p * 67108864 + a * 1024 + k) / 2 ^ 26 = p by omega, show (p * 67108864 + a * 1024 + k) / 2 ^ 10 % 65536 = a by omega, show (p * 67108864 + a * 1024 + k) % 1024 = k by omega]
    have d1 : decide (nI p = nI P) = decide (p = P) := decide_eq_decide.mpr (nI_eq (by omega) (by omega))
    have d2 : decide (nI A < nI a) = decide (A < a) := decide_eq_decide.mpr (nI_ltI (by omega) (by omega))
    have d3 : decide (nI (a + k) ≤ nI A) = decide (a + k ≤ A) := decide_eq_decide.mpr (nI_leI (by omega) (by omega))
    rw [d1, d2, d3]
    congr 1
    by_cases c1 : p = P
    · by_cases c2 : A < a
      · rw [decide_eq_true c2, decide_eq_false (by omega), Bool.not_true, Bool.false_and, Bool.and_false]
      · by_cases c3 : a + k ≤ A
        · rw [decide_eq_true c3, decide_eq_false (by omega), Bool.not_true, Bool.and_false, Bool.and_false]
        · rw [decide_eq_true c1, decide_eq_false c2, decide_eq_false c3, decide_eq_true (by omega)]
          rfl
    · rw [decide_eq_false c1, decide_eq_false (by omega), Bool.false_and]
theorem hb_n {X : St × St} {p A : Nat} {x w : Int32} (h : wrR X p x w) (hA : 65536 ≤ A) (h2 : A < 2 ^ 32) (e2 : sI X.1 15 = nI A) : w = nI 0 := by
  rcases h with ⟨_, z2⟩ | ⟨a, k, _, _, ak, _, z2⟩
  · exact z2
  · rw [z2]; exact wvs_0 e2 hA h2 k ak
/-- the class looks back -/
theorem cw_15 (n : Nat) {s : S11} {P A : Int32} : ∀ k g : Nat, k < g → k ≤ 60000 → df_X11_latestWrite_15 n g P A (nI k - nI 1) s = some (lw (fun j => hb P A (sR s.1 0 j)) k, s)
  | 0, g, hg, _ => by
    obtain ⟨g', rfl⟩ : ∃ g' : Nat, g = g' + 1 := ⟨g - 1, by omega⟩
    rw [show df_X11_latestWrite_15 n (g' + 1) = dF_X11_latestWrite_15 n (df_X11_latestWrite_15 n g') from rfl]
    unfold dF_X11_latestWrite_15
    rw [if_pos (show nI 0 - nI 1 < (0 : Int32) by decide)]
    rfl
  | k + 1, g, hg, hk => by
    obtain ⟨g', rfl⟩ : ∃ g' : Nat, g = g' + 1 := ⟨g - 1, by omega⟩
    have ih := cw_15 n (s := s) (P := P) (A := A) k g' (by omega) (by omega)
    rw [show df_X11_latestWrite_15 n (g' + 1) = dF_X11_latestWrite_15 n (df_X11_latestWrite_15 n g') from rfl, show nI (k + 1) - nI 1 = nI k from (pk_sub (show 1 ≤ k + 1 by omega)).trans (by rw [Nat.add_sub_cancel])]
    generalize df_X11_latestWrite_15 n g' = G at ih
    have st : nI k + Int32.ofInt (-1) = nI k - nI 1 := by rw [Int32.sub_eq_add_neg]; rfl
    have nx : df_X11_latestWrite_71 n G P A (nI k) s = some (lw (fun j => hb P A (sR s.1 0 j)) k, s) := by
      unfold df_X11_latestWrite_71
      rw [nb_let, st]
      exact ih
    have up : lw (fun j => hb P A (sR s.1 0 j)) (k + 1) = if hb P A (sR s.1 0 k) = true then nI k else lw (fun j => hb P A (sR s.1 0 j)) k := rfl
    rw [up]
    unfold dF_X11_latestWrite_15
    rw [if_neg (show ¬ nI k < (0 : Int32) from fun z => by have z : nI k < nI 0 := z; rw [nI_ltI (by omega) (by omega)] at z; omega), nm_ck (by omega) (by omega), nI_clamp (by omega), nb_let, nm_ck (by omega) (by omega), nx, nm_ck (by omega) (by omega)]
    generalize sR s.1 0 k = x
    by_cases c1 : (x >>> ((26 : Int32) &&& 31)) = P
    · rw [if_pos c1]
      by_cases c2 : A < ((x >>> ((10 : Int32) &&& 31)) &&& 65535)
      · have h0 : hb P A x = false := by
          unfold hb
          rw [decide_eq_true c2, Bool.not_true, Bool.false_and, Bool.and_false]
        rw [if_pos c2, h0, if_neg Bool.false_ne_true]
      · rw [if_neg c2]
        by_cases c3 : ((x >>> ((10 : Int32) &&& 31)) &&& 65535) + (x &&& 1023) ≤ A
        · have h0 : hb P A x = false := by
            unfold hb
            rw [decide_eq_true c3, Bool.not_true, Bool.and_false, Bool.and_false]
          rw [if_pos c3, h0, if_neg Bool.false_ne_true]
        · have h0 : hb P A x = true := by
            unfold hb
            rw [decide_eq_true c1, decide_eq_false c2, decide_eq_false c3]
            rfl
          rw [if_neg c3, h0, if_pos rfl]
    · have h0 : hb P A x = false := by
        unfold hb
        rw [decide_eq_false c1, Bool.false_and]
      rw [if_neg c1, h0, if_neg Bool.false_ne_true]
theorem cw_all (n : Nat) (hn : 70000 < n) {c : Nat} {s : S11} {P A : Int32} (h3 : sI s.1 3 = nI c) (hc : c ≤ 60000) : df_X11_latestWrite n P A s = some (lw (fun j => hb P A (sR s.1 0 j)) c, s) := by
  unfold df_X11_latestWrite df_X11_latestWrite_0
  rw [h3, if_neg (show ¬ (60000 : Int32) < nI c from fun z => by have z : nI 60000 < nI c := z; rw [nI_ltI (by omega) (by omega)] at z; omega), nb_let]
  exact cw_15 n c n (by omega) hc
/-- the reference looks on -/
theorem rw_44 (n : Nat) (hn : 70000 < n) {vn : Nat} {Q V : St} {N T e c : Nat} {lo : Nat → Nat} {t : S11} {P A : Nat} (hI : cI n vn Q V N T e c lo t) (hP : P < 16) (hA : A < 2 ^ 32) : ∀ (m k g : Nat) (τ : S19), m < g → k + m = c → rLg τ.1 N e lo → (∀ i : Nat, i < N → evT τ.1 i = evK V i) → RA n (nI vn) Q (lgL (evK V) lo) k τ.2.2.1.2 → sI τ.1 10 = nI (lo (k + 1)) → sI τ.1 5 = nI c → sI τ.2.2.1.2.1 14 = nI P → sI τ.2.2.1.2.1 15 = nI A → ∃ X' : St × St, df_X19_wrote_44 n g (lw (fun j => decide (A < 65536) && hb (nI P) (nI A) (sR t.1 0 j)) k) (nI k) τ = some (lw (fun j => decide (A < 65536) && hb (nI P) (nI A) (sR t.1 0 j)) c, (pI τ.1 10 (nI (lo (c + 1))), (τ.2.1, ((τ.2.2.1.1, X'), τ.2.2.2)))) ∧ RA n (nI vn) Q (lgL (evK V) lo) c X' ∧ sI X'.1 14 = -nI 1
  | 0, k, g, τ, hg, hk, hL, hev, hX, ht, h5, w1, w2 => by
    obtain ⟨g', rfl⟩ : ∃ g' : Nat, g = g' + 1 := ⟨g - 1, by omega⟩
    have hk : k = c := by omega
    subst hk
    refine ⟨(pI (pI τ.2.2.1.2.1 14 (-1)) 15 0, τ.2.2.1.2.2), ?_, RA_w hX (-1) 0, rfl⟩
    rw [show df_X19_wrote_44 n (g' + 1) = dF_X19_wrote_44 n (df_X19_wrote_44 n g') from rfl]
    generalize df_X19_wrote_44 n g' = G
    have e6 := hL.2.2.2.2.2
    have hce : k ≤ e := hI.2.2.2.2.1
    unfold dF_X19_wrote_44
    rw [h5, if_pos (by rw [nI_leI (by omega) (by omega)]; exact Nat.le_refl k)]
    rw [show df_X16_watch n (-1) 0 τ.2.2.1.2 = some (pI (pI τ.2.2.1.2.1 14 (-1)) 15 0, τ.2.2.1.2.2) from rfl, nb_b1, nb_let, ← ht, nm_i0]
  | m + 1, k, g, τ, hg, hk, hL, hev, hX, ht, h5, w1, w2 => by
    obtain ⟨g', rfl⟩ : ∃ g' : Nat, g = g' + 1 := ⟨g - 1, by omega⟩
    obtain ⟨_, _, hs, hPp, hce, _, _, _, _, _, hW⟩ := id hI
    have e6 := hL.2.2.2.2.2
    have lq := lg_eq hL.2.2.1 hev
    obtain ⟨w, X1, X2, t1, t2, t3, t4, t5⟩ := rf_tick n (by omega) (v := nI vn) (Q := Q) (by rw [lq]; exact hs) hPp hL (show k < e by omega) (by rw [lq]; exact hX) ht
    rw [lq] at t3
    obtain ⟨p, w', X1', p1, p2, p3, p4⟩ := hW k (by omega) _ hX
    rw [t1] at p3
    injection p3 with p3
    injection p3 with p3 _
    subst p3
    have hw : w = bI (decide (A < 65536) && hb (nI P) (nI A) (sR t.1 0 k)) := by
      by_cases y : A < 65536
      · rw [decide_eq_true y, Bool.true_and]; exact hb_w p4 p1 hP y w1 w2
      · rw [decide_eq_false y, Bool.false_and]; exact hb_n p4 (by omega) hA w2
    obtain ⟨X', g1, g2, g3⟩ := rw_44 n hn hI hP hA m (k + 1) g' (pI τ.1 10 (nI (lo (k + 2))), (τ.2.1, ((τ.2.2.1.1, X2), τ.2.2.2))) (by omega) (by omega) hL hev t3 rfl h5 (t4.trans w1) (t5.trans w2)
    refine ⟨X', ?_, g2, g3⟩
    have g1 : df_X19_wrote_44 n g' (lw (fun j => decide (A < 65536) && hb (nI P) (nI A) (sR t.1 0 j)) (k + 1)) (nI (k + 1)) (pI τ.1 10 (nI (lo (k + 2))), (τ.2.1, ((τ.2.2.1.1, X2), τ.2.2.2))) = some (lw (fun j => decide (A < 65536) && hb (nI P) (nI A) (sR t.1 0 j)) c, (pI (pI τ.1 10 (nI (lo (k + 2)))) 10 (nI (lo (c + 1))), (τ.2.1, ((τ.2.2.1.1, X'), τ.2.2.2)))) := g1
    rw [nm_ii] at g1
    rw [show df_X19_wrote_44 n (g' + 1) = dF_X19_wrote_44 n (df_X19_wrote_44 n g') from rfl]
    generalize df_X19_wrote_44 n g' = G at g1
    have up : lw (fun j => decide (A < 65536) && hb (nI P) (nI A) (sR t.1 0 j)) (k + 1) = if (decide (A < 65536) && hb (nI P) (nI A) (sR t.1 0 k)) = true then nI k else lw (fun j => decide (A < 65536) && hb (nI P) (nI A) (sR t.1 0 j)) k := rfl
    rw [up] at g1
    have k1 : nI k + Int32.ofInt 1 = nI (k + 1) := nI_add ..
    unfold dF_X19_wrote_44
    rw [h5, if_neg (show ¬ nI c ≤ nI k from fun z => by rw [nI_leI (by omega) (by omega)] at z; omega), t2, nb_b2, hw]
    unfold df_X19_wrote_66
    rw [nb_let, k1]
    cases hd : (decide (A < 65536) && hb (nI P) (nI A) (sR t.1 0 k)) with
    | true =>
      rw [hd, if_pos rfl] at g1
      rw [if_neg (show ¬ bI true = (0 : Int32) by decide)]
      exact g1
    | false =>
      rw [hd, if_neg Bool.false_ne_true] at g1
      rw [if_pos (show bI false = (0 : Int32) from rfl)]
      exact g1
theorem lw_0 {f : Nat → Bool} : ∀ c : Nat, (∀ k : Nat, k < c → f k = false) → lw f c = -nI 1
  | 0, _ => rfl
  | c + 1, h => by
    show (if f c = true then nI c else lw f c) = _
    rw [h c (by omega), if_neg Bool.false_ne_true]
    exact lw_0 c (fun k hk => h k (by omega))
/-- what was written last, in both -/
theorem jm_wrote (n : Nat) (hn : 70000 < n) {vn : Nat} {Q V : St} {N T e c k : Nat} {lo : Nat → Nat} {t : S11} {τ : S19} (h : jM n vn Q V N T e c k lo t τ) (hbt : ¬ sI τ.1 3 = 0) {P A : Nat} (hP : P < 16) (hA : A < 2 ^ 32) : ∃ X' : St × St, df_X19_wrote n (nI P) (nI A) τ = some (lw (fun j => decide (A < 65536) && hb (nI P) (nI A) (sR t.1 0 j)) c, (pI (pI τ.1 0 0) 10 (nI (lo (c + 1))), (τ.2.1, ((τ.2.2.1.1, X'), τ.2.2.2)))) ∧ jM n vn Q V N T e c c lo t (pI (pI τ.1 0 0) 10 (nI (lo (c + 1))), (τ.2.1, ((τ.2.2.1.1, X'), τ.2.2.2))) := by
  obtain ⟨Pg, T', Z, pg⟩ := jm_pg h
  obtain ⟨hI, hL, hev, hv, ⟨h4, h5, h6⟩, hk, hX, h10, h14, hS, h11⟩ := h
  obtain ⟨_, _, hs, hPp, hce, _⟩ := id hI
  have lq := lg_eq hL.2.2.1 hev
  have e6 := hL.2.2.2.2.2
  obtain ⟨X1, a1, a2, a3⟩ := rf_anew n (by omega) (τ := (pI τ.1 0 0, τ.2)) hv.1 pg (show hsT n (nI vn) Q (lgL (evT τ.1) lo) e by rw [lq]; exact hs) hL h4 (show τ.2.2.1.2.2 = Q from (RA_n hs hk hX).2)
  have a2 : RA n (nI vn) Q (lgL (evT τ.1) lo) 0 X1 := a2
  rw [lq] at a2
  obtain ⟨X', g1, g2, g3⟩ := rw_44 n hn hI hP hA c 0 n (pI (pI τ.1 0 0) 10 (nI (lo 1)), (τ.2.1, ((τ.2.2.1.1, (pI (pI X1.1 14 (nI P)) 15 (nI A), X1.2)), τ.2.2.2))) (by omega) (by omega) hL hev (RA_w a2 _ _) rfl h5 rfl rfl
  have g1 : df_X19_wrote_44 n n (-nI 1) (nI 0) (pI (pI τ.1 0 0) 10 (nI (lo 1)), (τ.2.1, ((τ.2.2.1.1, (pI (pI X1.1 14 (nI P)) 15 (nI A), X1.2)), τ.2.2.2))) = some (lw (fun j => decide (A < 65536) && hb (nI P) (nI A) (sR t.1 0 j)) c, (pI (pI (pI τ.1 0 0) 10 (nI (lo 1))) 10 (nI (lo (c + 1))), (τ.2.1, ((τ.2.2.1.1, X'), τ.2.2.2)))) := g1
  rw [nm_ii] at g1
  refine ⟨X', ?_, ⟨hI, hL, hev, hv, ⟨h4, h5, h6⟩, hce, g2, rfl, g3, hS, h11⟩⟩
  unfold df_X19_wrote df_X19_wrote_0
  have in1 : df_X19_in n (nI P).toInt64 0 15 () = some (nI 1, ()) := by
    refine (nb_in32 n (nI P) 0 15).trans ?_
    rw [if_pos (by rw [nI_toInt (by omega)]; exact ⟨(show (0 : Int32).toInt ≤ (P : Int) by rw [show (0 : Int32).toInt = 0 from rfl]; omega), (show (P : Int) ≤ (15 : Int32).toInt by rw [show (15 : Int32).toInt = 15 from rfl]; omega)⟩)]
    rfl
  rw [nb_let, if_neg (show ¬ sI (pI τ.1 0 0) 3 = 0 from hbt), in1, nb_b2, if_neg (show ¬ nI 1 = (0 : Int32) by decide), a1, nb_b1]
  rw [show df_X16_watch n (nI P) (nI A) X1 = some (pI (pI X1.1 14 (nI P)) 15 (nI A), X1.2) from rfl, nb_b1, nb_let]
  exact g1

theorem nz_0 {α : Type} {x : Option α} : nd_z .boolean (0 : Int32) x = x := nm_z0
theorem nz_1 {α : Type} {x : Option α} : nd_z .boolean (1 : Int32) x = x := nm_z1
/-- the class's line of time, and it put back -/
def tl (σ : S12) : S11 := (σ.2.2.2.2.1, σ.2.1, σ.2.2.2.2.2.1, σ.2.2.2.2.2.2.1, σ.2.2.2.2.2.2.2.1, σ.2.2.2.2.2.2.2.2.1, σ.2.2.2.2.2.2.2.2.2.1, σ.2.2.2.2.2.2.2.2.2.2)
def pl (σ : S12) (t : S11) : S12 := (σ.1, nd_mix 4 t.2.1 σ.2.1, σ.2.2.1, σ.2.2.2.1, t.1, t.2.2.1, t.2.2.2.1, t.2.2.2.2.1, t.2.2.2.2.2.1, t.2.2.2.2.2.2.1, t.2.2.2.2.2.2.2)
/-- what calls that go in time leave of the class, of the reference -/
def kC (t t' : S11) : Prop := sI t'.1 0 = sI t.1 0 ∧ sI t'.1 7 = sI t.1 7 ∧ (∀ k : Nat, sO t'.1 k = sO t.1 k) ∧ (∀ r : Nat, ¬ r = 3 → t'.2.1 r = t.2.1 r) ∧ t'.2.2.2.2.2.1 = t.2.2.2.2.2.1 ∧ t'.2.2.2.2.2.2.1 = t.2.2.2.2.2.2.1
def kR (τ τ' : S19) : Prop := (∀ j : Nat, j = 1 ∨ j = 2 ∨ j = 3 ∨ j = 7 ∨ j = 12 → sI τ'.1 j = sI τ.1 j) ∧ (∀ j : Nat, j < 5 ∨ 10 ≤ j → sR τ'.1 j = sR τ.1 j) ∧ (∀ j : Nat, sO τ'.1 j = sO τ.1 j) ∧ τ'.2.1 = τ.2.1 ∧ τ'.2.2.1.1 = τ.2.2.1.1 ∧ τ'.2.2.2 = τ.2.2.2
theorem kC_r (t : S11) : kC t t := ⟨rfl, rfl, fun _ => rfl, fun _ _ => rfl, rfl, rfl⟩
theorem kR_r (τ : S19) : kR τ τ := ⟨fun _ _ => rfl, fun _ _ => rfl, fun _ => rfl, rfl, rfl, rfl⟩
theorem kC_t {a b c : S11} (h : kC a b) (g : kC b c) : kC a c := ⟨g.1.trans h.1, g.2.1.trans h.2.1, fun k => (g.2.2.1 k).trans (h.2.2.1 k), fun r z => (g.2.2.2.1 r z).trans (h.2.2.2.1 r z), g.2.2.2.2.1.trans h.2.2.2.2.1, g.2.2.2.2.2.trans h.2.2.2.2.2⟩
theorem kR_t {a b c : S19} (h : kR a b) (g : kR b c) : kR a c := ⟨fun j z => (g.1 j z).trans (h.1 j z), fun j z => (g.2.1 j z).trans (h.2.1 j z), fun j => (g.2.2.1 j).trans (h.2.2.1 j), g.2.2.2.1.trans h.2.2.2.1, g.2.2.2.2.1.trans h.2.2.2.2.1, g.2.2.2.2.2.trans h.2.2.2.2.2⟩
theorem kC_f {t t' : S11} (h : fI t t') : kC t t' := ⟨h.1 0 (by omega), h.1 7 (by omega), h.2.1, h.2.2.1, h.2.2.2.2.2.2.1, h.2.2.2.2.2.2.2⟩
/-- the code, the machine, where it stands -/
theorem kR_m (τ : S19) (x y : Int32) (X' : St × St) : kR τ (pI (pI τ.1 0 x) 10 y, (τ.2.1, ((τ.2.2.1.1, X'), τ.2.2.2))) := by
  refine ⟨fun j hj => ?_, fun _ _ => rfl, fun _ => rfl, rfl, rfl, rfl⟩
  show sI (pI (pI τ.1 0 x) 10 y) j = _
  rw [nb_II, if_neg (by omega), nb_II, if_neg (by omega)]
theorem kR_0 (τ : S19) (x : Int32) : kR τ (pI τ.1 0 x, τ.2) := by
  refine ⟨fun j hj => ?_, fun _ _ => rfl, fun _ => rfl, rfl, rfl, rfl⟩
  show sI (pI τ.1 0 x) j = _
  rw [nb_II, if_neg (by omega)]
theorem tl_pl {σ : S12} {t' : S11} (h : kC (tl σ) t') : tl (pl σ t') = t' := by
  have r : nd_mix 4 t'.2.1 σ.2.1 = t'.2.1 := by
    funext i
    by_cases c : i < 4
    · exact if_pos c
    · exact (if_neg c).trans (h.2.2.2.1 i (by omega)).symm
  show (t'.1, nd_mix 4 t'.2.1 σ.2.1, t'.2.2.1, t'.2.2.2.1, t'.2.2.2.2.1, t'.2.2.2.2.2.1, t'.2.2.2.2.2.2.1, t'.2.2.2.2.2.2.2) = t'
  rw [r]
/-- the two recordings of the class change places -/
def sp2 (t : S11) : Prop := (sO t.1 0 = some 27 ∧ sO t.1 1 = some 32) ∨ (sO t.1 0 = some 32 ∧ sO t.1 1 = some 27)
/-- before a first boot -/
def jN (t : S11) (τ : S19) : Prop := (∃ V : St, eA t V ∧ sI V 0 = nI 0 ∧ sI V 1 = nI 0) ∧ okY t.2.2.1.2.2.2 ∧ sO t.2.2.1.1 0 = some 34 ∧ (∃ ix : Nat → Nat, (∀ i : Nat, i < 8 → t.2.1 3 i = some (ix i) ∧ ix i < 8) ∧ ∀ i j : Nat, i < 8 → j < 8 → ix i = ix j → i = j) ∧ sI τ.1 8 = nI 0 ∧ ∀ v : Nat, v < 4 → t.2.1 0 v = none
def jA (n : Nat) (t : S11) (τ : S19) : Prop := sp2 t ∧ ((sI t.1 0 = nI 0 ∧ sI τ.1 3 = nI 0 ∧ jN t τ) ∨ (sI t.1 0 = nI 1 ∧ sI τ.1 3 = nI 1 ∧ ∃ (vn : Nat) (Q V : St) (N T e c k : Nat) (lo : Nat → Nat), jM n vn Q V N T e c k lo t τ))
theorem sp2_k {t t' : S11} (h : sp2 t) (g : kC t t') : sp2 t' := by
  unfold sp2
  rw [g.2.2.1 0, g.2.2.1 1]
  exact h
theorem jA_0 {n : Nat} {t : S11} {τ : S19} (h : jA n t τ) (x : Int32) : jA n t (pI τ.1 0 x, τ.2) := by
  obtain ⟨h0, h1 | ⟨h1, h2, vn, Q, V, N, T, e, c, k, lo, h3⟩⟩ := h
  · exact ⟨h0, Or.inl h1⟩
  · exact ⟨h0, Or.inr ⟨h1, h2, vn, Q, V, N, T, e, c, k, lo, h3⟩⟩
theorem in_b (n : Nat) {A B : Nat} {b : Int32} (hA : A < 2 ^ 32) (hB : B < 2 ^ 31) (e : b = nI B) : df_X19_in n (nI A).toInt64 0 b.toInt64 () = some (if A ≤ B then nI 1 else nI 0, ()) := by
  refine (nb_in32 n (nI A) 0 b).trans ?_
  have z0 : (0 : Int32).toInt = 0 := rfl
  rw [e, nI_toInt hB, z0]
  by_cases c : A < 2 ^ 31
  · rw [nI_toInt c]
    by_cases d : A ≤ B
    · rw [if_pos (by omega), if_pos d]; rfl
    · rw [if_neg (by omega), if_neg d]; rfl
  · have g := nm_neg (by omega) hA
    rw [Int32.lt_iff_toInt_lt, show (nI 0).toInt = 0 from rfl] at g
    rw [if_neg (by omega), if_neg (by omega)]; rfl
theorem lz_0 {A : Nat} (hA : A < 2 ^ 32) : nI A < (0 : Int32) ↔ 2 ^ 31 ≤ A := by
  by_cases c : A < 2 ^ 31
  · refine ⟨fun z => ?_, fun z => by omega⟩
    have z : nI A < nI 0 := z
    rw [nI_ltI c (by omega)] at z
    omega
  · exact ⟨fun _ => by omega, fun _ => nm_neg (by omega) hA⟩
/-- go -/
theorem jc_go (n T L : Nat) (hn : 70000 < n) (v : Int32) (σ : S12) (τ : S19) (h : jA n (tl σ) τ) : (df_X12_go n T L v σ = some (Sum.inr ("java/lang/IllegalArgumentException", σ)) ∧ df_X19_go n v τ = some (pI τ.1 0 1, τ.2)) ∨ ∃ (t' : S11) (τ' : S19), df_X12_go n T L v σ = some (Sum.inl (pl σ t')) ∧ df_X19_go n v τ = some τ' ∧ sI τ'.1 0 = 0 ∧ jA n t' τ' ∧ kC (tl σ) t' ∧ kR τ τ' := by
  obtain ⟨h0, ⟨h1, h2, _⟩ | ⟨h1, h2, vn, Q, V, N, T', e, c, k, lo, h3⟩⟩ := h
  · refine Or.inl ⟨?_, ?_⟩
    · unfold df_X12_go df_X12_go_0
      rw [if_pos (show sI σ.2.2.2.2.1 0 = 0 from h1)]
      rfl
    · unfold df_X19_go df_X19_go_0 df_X19_go_22 df_X19_go_27
      rw [if_pos (show sI τ.1 3 = 0 from h2), nb_fails, nb_b2]
      rfl
  · obtain ⟨A, hA, rfl⟩ := nI_ex v
    obtain ⟨hI, hL, hev, hv, ⟨h4, h5, h6⟩, hk, hX, h10, h14, hS, h11⟩ := id h3
    have e6 := hL.2.2.2.2.2
    have c4 : sI (tl σ).1 4 = nI e := hI.2.2.2.2.2.2.1
    have b1 : ¬ sI σ.2.2.2.2.1 0 = 0 := by
      rw [show sI σ.2.2.2.2.1 0 = nI 1 from h1]; decide
    have b2 : ¬ sI τ.1 3 = 0 := by rw [h2]; decide
    have inE := in_b n (b := sI τ.1 6) hA (show e < 2 ^ 31 by omega) h6
    by_cases d : A ≤ e
    · refine Or.inr ?_
      obtain ⟨t', g1, g2, g3⟩ := jm_go n hn h3 d
      refine ⟨t', (pI (pI τ.1 0 0) 5 (nI A), τ.2), ?_, ?_, rfl, ⟨sp2_k h0 (kC_f g3), Or.inr ⟨(kC_f g3).1.trans h1, h2, vn, Q, V, N, T', e, A, k, lo, g2⟩⟩, kC_f g3, ?_⟩
      · unfold df_X12_go df_X12_go_0
        rw [if_neg b1, if_neg (show ¬ nI A < (0 : Int32) from fun z => by rw [lz_0 hA] at z; omega), show sI σ.2.2.2.2.1 4 = nI e from c4, if_pos (by rw [nI_leI (by omega) (by omega)]; exact d)]
        have g1 : df_X11_moveTo n (nI A) (σ.2.2.2.2.1, σ.2.1, σ.2.2.2.2.2.1, σ.2.2.2.2.2.2.1, σ.2.2.2.2.2.2.2.1, σ.2.2.2.2.2.2.2.2.1, σ.2.2.2.2.2.2.2.2.2.1, σ.2.2.2.2.2.2.2.2.2.2) = some t' := g1
        rw [g1, nb_b1, nb_let]
        rfl
      · unfold df_X19_go df_X19_go_0 df_X19_go_27
        rw [if_neg b2, inE, nb_b2, if_pos d, if_neg (show ¬ nI 1 = (0 : Int32) by decide), nb_fails, nb_b2, if_pos (show (0 : Int32) = 0 ∧ (0 : Int32) = 0 from ⟨rfl, rfl⟩), if_pos rfl, nb_let]
        rfl
      · refine ⟨fun j hj => ?_, fun _ _ => rfl, fun _ => rfl, rfl, rfl, rfl⟩
        show sI (pI (pI τ.1 0 0) 5 _) j = _
        rw [nb_II, if_neg (by omega), nb_II, if_neg (by omega)]
    · refine Or.inl ⟨?_, ?_⟩
      · unfold df_X12_go df_X12_go_0
        rw [if_neg b1]
        by_cases y : A < 2 ^ 31
        · rw [if_neg (show ¬ nI A < (0 : Int32) from fun z => by rw [lz_0 hA] at z; omega), show sI σ.2.2.2.2.1 4 = nI e from c4, if_neg (show ¬ nI A ≤ nI e from fun z => by rw [nI_leI y (by omega)] at z; exact d z)]
          rfl
        · rw [if_pos (show nI A < (0 : Int32) by rw [lz_0 hA]; omega)]
          rfl
      · unfold df_X19_go df_X19_go_0 df_X19_go_22 df_X19_go_27
        rw [if_neg b2, inE, nb_b2, if_neg d, if_pos (show nI 0 = (0 : Int32) from rfl), nb_fails, nb_b2]
        rfl
/-- cut -/
theorem jc_cut (n T L : Nat) (hn : 70000 < n) (σ : S12) (τ : S19) (h : jA n (tl σ) τ) : ∃ (r : Int32) (t' : S11) (τ' : S19), df_X12_cut n T L σ = some (r, pl σ t') ∧ df_X19_cut n τ = some (r, τ') ∧ jA n t' τ' ∧ kC (tl σ) t' ∧ kR τ τ' := by
  obtain ⟨h0, ⟨h1, h2, h3⟩ | ⟨h1, h2, vn, Q, V, N, T', e, c, k, lo, h3⟩⟩ := h
  · refine ⟨0, tl σ, (pI τ.1 0 0, τ.2), ?_, ?_, jA_0 ⟨h0, Or.inl ⟨h1, h2, h3⟩⟩ 0, kC_r _, kR_0 τ 0⟩
    · unfold df_X12_cut df_X12_cut_0
      rw [if_pos (show sI σ.2.2.2.2.1 0 = 0 from h1)]
      have r : nd_mix 4 σ.2.1 σ.2.1 = σ.2.1 := by
        funext i
        by_cases c : i < 4
        · exact if_pos c
        · exact if_neg c
      show some ((0 : Int32), σ) = some ((0 : Int32), (σ.1, nd_mix 4 σ.2.1 σ.2.1, σ.2.2))
      rw [r]
    · unfold df_X19_cut df_X19_cut_0
      rw [nb_let, if_pos (show sI (pI τ.1 0 0) 3 = 0 from h2)]
  · have b1 : ¬ sI σ.2.2.2.2.1 0 = 0 := by
      rw [show sI σ.2.2.2.2.1 0 = nI 1 from h1]; decide
    have b2 : ¬ sI τ.1 3 = 0 := by rw [h2]; decide
    obtain ⟨V', L', lo', t', X', g1, g2, g3, g4⟩ := jm_cut n hn h3 b2
    have kc : kC (tl σ) t' := ⟨g4.1, g4.2.1, g4.2.2.1, fun r _ => by rw [g4.2.2.2.1], congrArg Prod.fst g4.2.2.2.2.2, congrArg (fun p => p.2.1) g4.2.2.2.2.2⟩
    refine ⟨_, t', _, ?_, g2, ⟨sp2_k h0 kc, Or.inr ⟨kc.1.trans h1, h2, vn, Q, V', L', L', c, c, c, lo', g3⟩⟩, kc, ?_⟩
    · unfold df_X12_cut df_X12_cut_0
      rw [if_neg b1]
      have g1 : df_X11_forgetBehind n (σ.2.2.2.2.1, σ.2.1, σ.2.2.2.2.2.1, σ.2.2.2.2.2.2.1, σ.2.2.2.2.2.2.2.1, σ.2.2.2.2.2.2.2.2.1, σ.2.2.2.2.2.2.2.2.2.1, σ.2.2.2.2.2.2.2.2.2.2) = some (nI (e - c), t') := g1
      rw [g1, nb_b2, nb_let]
      rfl
    · refine ⟨fun j hj => ?_, fun _ _ => rfl, fun _ => rfl, rfl, rfl, rfl⟩
      show sI (pI (pI (pI (pI (pI (pI (pI τ.1 0 0) 10 _) 6 _) 8 _) 10 _) 9 0) 11 0) j = _
      rw [nb_II, if_neg (by omega), nb_II, if_neg (by omega), nb_II, if_neg (by omega), nb_II, if_neg (by omega), nb_II, if_neg (by omega), nb_II, if_neg (by omega), nb_II, if_neg (by omega)]
/-- wrote -/
theorem jc_wrote (n T L : Nat) (hn : 70000 < n) (p a : Int32) (σ : S12) (τ : S19) (h : jA n (tl σ) τ) : ∃ (r : Int32) (τ' : S19), df_X12_wrote n T L p a σ = some (r, σ) ∧ df_X19_wrote n p a τ = some (r, τ') ∧ jA n (tl σ) τ' ∧ kR τ τ' := by
  have mx : nd_mix 4 σ.2.1 σ.2.1 = σ.2.1 := by
    funext i
    by_cases c : i < 4
    · exact if_pos c
    · exact if_neg c
  obtain ⟨h0, ⟨h1, h2, h3⟩ | ⟨h1, h2, vn, Q, V, N, T', e, c, k, lo, h3⟩⟩ := h
  · refine ⟨-1, (pI τ.1 0 0, τ.2), ?_, ?_, jA_0 ⟨h0, Or.inl ⟨h1, h2, h3⟩⟩ 0, kR_0 τ 0⟩
    · unfold df_X12_wrote df_X12_wrote_0 df_X12_isThere df_X12_isThere_0
      rw [if_pos (show sI σ.2.2.2.2.1 0 = 0 from h1)]
      unfold df_X12_isThere_24 df_X12_isThere_25
      rw [nz_0, nb_b2, if_pos rfl]
      rfl
    · unfold df_X19_wrote df_X19_wrote_0
      rw [nb_let, if_pos (show sI (pI τ.1 0 0) 3 = 0 from h2)]
      rfl
  · have b1 : ¬ sI σ.2.2.2.2.1 0 = 0 := by
      rw [show sI σ.2.2.2.2.1 0 = nI 1 from h1]; decide
    have b2 : ¬ sI τ.1 3 = 0 := by rw [h2]; decide
    obtain ⟨P, hP, rfl⟩ := nI_ex p
    obtain ⟨A, hA, rfl⟩ := nI_ex a
    have i16 : df_X12_isThere n T L (nI P) σ = some (if P < 16 then nI 1 else nI 0, σ) := by
      unfold df_X12_isThere df_X12_isThere_0 df_X12_isThere_24 df_X12_isThere_25
      rw [if_neg b1]
      by_cases y : P < 2 ^ 31
      · rw [if_neg (show ¬ nI P < (0 : Int32) from fun z => by rw [lz_0 hP] at z; omega)]
        by_cases y2 : P < 16
        · rw [if_neg (show ¬ (16 : Int32) ≤ nI P from fun z => by have z : nI 16 ≤ nI P := z; rw [nI_leI (by omega) y] at z; omega), if_pos y2, nz_1]
          rfl
        · rw [if_pos (show (16 : Int32) ≤ nI P from (show nI 16 ≤ nI P by rw [nI_leI (by omega) y]; omega)), if_neg y2, nz_0]
          rfl
      · rw [if_pos (show nI P < (0 : Int32) by rw [lz_0 hP]; omega), if_neg (by omega), nz_0]
        rfl
    by_cases y : P < 16
    · obtain ⟨X', g1, g2⟩ := jm_wrote n hn h3 b2 y hA
      refine ⟨_, _, ?_, g1, ⟨h0, Or.inr ⟨h1, h2, vn, Q, V, N, T', e, c, c, lo, g2⟩⟩, kR_m τ _ _ _⟩
      unfold df_X12_wrote df_X12_wrote_0 df_X12_wrote_30 df_X12_wrote_31
      rw [i16, nb_b2, if_pos y, if_neg (show ¬ nI 1 = (0 : Int32) by decide)]
      by_cases z : A < 65536
      · rw [if_neg (show ¬ nI A < (0 : Int32) from fun z => by rw [lz_0 hA] at z; omega), if_neg (show ¬ (65536 : Int32) ≤ nI A from fun z => by have z : nI 65536 ≤ nI A := z; rw [nI_leI (by omega) (by omega)] at z; omega)]
        have c3 : sI σ.2.2.2.2.1 3 = nI c := h3.1.2.2.2.2.2.1
        have e6 := h3.2.1.2.2.2.2.2
        have hce : c ≤ e := h3.1.2.2.2.2.1
        rw [cw_all n hn (s := (σ.2.2.2.2.1, σ.2.1, σ.2.2.2.2.2.1, σ.2.2.2.2.2.2.1, σ.2.2.2.2.2.2.2.1, σ.2.2.2.2.2.2.2.2.1, σ.2.2.2.2.2.2.2.2.2.1, σ.2.2.2.2.2.2.2.2.2.2)) c3 (by omega), nb_b2, nb_let, mx]
        rw [decide_eq_true z]
        rfl
      · have l0 : lw (fun j => decide (A < 65536) && hb (nI P) (nI A) (sR (tl σ).1 0 j)) c = -1 := lw_0 c (fun j _ => by rw [decide_eq_false z, Bool.false_and])
        rw [l0]
        by_cases y2 : A < 2 ^ 31
        · rw [if_neg (show ¬ nI A < (0 : Int32) from fun z => by rw [lz_0 hA] at z; omega), if_pos (show (65536 : Int32) ≤ nI A from (show nI 65536 ≤ nI A by rw [nI_leI (by omega) y2]; omega))]
        · rw [if_pos (show nI A < (0 : Int32) by rw [lz_0 hA]; omega)]
    · refine ⟨-1, (pI τ.1 0 0, τ.2), ?_, ?_, jA_0 ⟨h0, Or.inr ⟨h1, h2, vn, Q, V, N, T', e, c, k, lo, h3⟩⟩ 0, kR_0 τ 0⟩
      · unfold df_X12_wrote df_X12_wrote_0
        rw [i16, nb_b2, if_neg y, if_pos (show nI 0 = (0 : Int32) from rfl)]
        rfl
      · unfold df_X19_wrote df_X19_wrote_0
        rw [nb_let, if_neg (show ¬ sI (pI τ.1 0 0) 3 = 0 from b2)]
        have i15 : df_X19_in n (nI P).toInt64 0 15 () = some (if P ≤ 15 then nI 1 else nI 0, ()) := in_b n (b := 15) hP (by omega) rfl
        rw [i15, nb_b2, if_neg (show ¬ P ≤ 15 by omega), if_pos (show nI 0 = (0 : Int32) from rfl)]
        rfl
/-- what shows: the reference's machine comes to now -/
theorem jc_shows (n : Nat) (hn : 70000 < n) {t : S11} {τ : S19} (h : jA n t τ) : (sI t.1 0 = nI 0 ∧ df_X19_shows n τ = some (nI 0, (pI τ.1 0 0, τ.2)) ∧ jN t τ) ∨ ∃ (vn : Nat) (Q V : St) (N T e c : Nat) (lo : Nat → Nat) (τ' : S19), sI t.1 0 = nI 1 ∧ df_X19_shows n τ = some (nI 1, τ') ∧ jM n vn Q V N T e c c lo t τ' ∧ sI τ'.1 3 = nI 1 ∧ rM (512 * c) t.2.2.1.2.2 τ'.2.2.1.2 ∧ sD n τ'.2.2.1.2 ∧ kR τ τ' ∧ jA n t τ' := by
  obtain ⟨h0, ⟨h1, h2, h3⟩ | ⟨h1, h2, vn, Q, V, N, T', e, c, k, lo, h3⟩⟩ := h
  · refine Or.inl ⟨h1, ?_, h3⟩
    unfold df_X19_shows df_X19_shows_0
    rw [nb_let, if_pos (show sI (pI τ.1 0 0) 3 = 0 from h2)]
    unfold df_X19_shows_20
    rw [show sI (pI τ.1 0 0) 3 = 0 from h2]
    exact nm_z0
  · refine Or.inr ?_
    have hce : c ≤ e := h3.1.2.2.2.2.1
    obtain ⟨X', g1, g2⟩ := jm_come n hn (jm_0 h3 0) hce
    have tx := h3.1.2.2.2.2.2.2.2.2.1.2 X' g2.2.2.2.2.2.2.1
    refine ⟨vn, Q, V, N, T', e, c, lo, (pI (pI τ.1 0 0) 10 (nI (lo (c + 1))), (τ.2.1, ((τ.2.2.1.1, X'), τ.2.2.2))), h1, ?_, g2, h2, tx.1, tx.2.1, kR_m τ _ _ _, h0, Or.inr ⟨h1, h2, vn, Q, V, N, T', e, c, c, lo, g2⟩⟩
    unfold df_X19_shows df_X19_shows_0
    rw [nb_let, if_neg (show ¬ sI (pI τ.1 0 0) 3 = 0 from (show ¬ sI τ.1 3 = 0 by rw [h2]; decide)), show sI (pI τ.1 0 0) 5 = nI c from h3.2.2.2.2.1.2.1, g1, nb_b1]
    unfold df_X19_shows_20
    dsimp only
    rw [show sI (pI (pI τ.1 0 0) 10 (nI (lo (c + 1)))) 3 = nI 1 from h2]
    exact nm_z1

theorem lcm (a b : Int64) : (a.toInt < b.toInt ∧ lg_cmp a b = -nI 1) ∨ (a.toInt = b.toInt ∧ lg_cmp a b = nI 0) ∨ (b.toInt < a.toInt ∧ lg_cmp a b = nI 1) := by
  unfold lg_cmp
  by_cases c : b < a
  · rw [if_pos c]
    rw [Int64.lt_iff_toInt_lt] at c
    exact Or.inr (Or.inr ⟨c, rfl⟩)
  · rw [if_neg c]
    rw [Int64.lt_iff_toInt_lt] at c
    by_cases d : a = b
    · rw [if_pos d, d]
      exact Or.inr (Or.inl ⟨rfl, rfl⟩)
    · rw [if_neg d]
      have : a.toInt ≠ b.toInt := fun y => d (Int64.toInt_inj.mp y)
      exact Or.inl ⟨by omega, rfl⟩
theorem lcA (a b : Int64) : lg_cmp a b < (0 : Int32) ↔ a.toInt < b.toInt := by
  rcases lcm a b with ⟨x, y⟩ | ⟨x, y⟩ | ⟨x, y⟩
  · rw [y]; exact ⟨fun _ => x, fun _ => by decide⟩
  · rw [y]; exact ⟨fun z => absurd z (by decide), fun z => by omega⟩
  · rw [y]; exact ⟨fun z => absurd z (by decide), fun z => by omega⟩
theorem lcB (a b : Int64) : (0 : Int32) ≤ lg_cmp a b ↔ b.toInt ≤ a.toInt := by
  rcases lcm a b with ⟨x, y⟩ | ⟨x, y⟩ | ⟨x, y⟩
  · rw [y]; exact ⟨fun z => absurd z (by decide), fun z => by omega⟩
  · rw [y]; exact ⟨fun _ => by omega, fun _ => by decide⟩
  · rw [y]; exact ⟨fun _ => by omega, fun _ => by decide⟩
theorem lcC (a b : Int64) : (0 : Int32) < lg_cmp a b ↔ b.toInt < a.toInt := by
  rcases lcm a b with ⟨x, y⟩ | ⟨x, y⟩ | ⟨x, y⟩
  · rw [y]; exact ⟨fun z => absurd z (by decide), fun z => by omega⟩
  · rw [y]; exact ⟨fun z => absurd z (by decide), fun z => by omega⟩
  · rw [y]; exact ⟨fun _ => x, fun _ => by decide⟩
theorem lcD (a b : Int64) : lg_cmp a b ≤ (0 : Int32) ↔ a.toInt ≤ b.toInt := by
  rcases lcm a b with ⟨x, y⟩ | ⟨x, y⟩ | ⟨x, y⟩
  · rw [y]; exact ⟨fun _ => by omega, fun _ => by decide⟩
  · rw [y]; exact ⟨fun _ => by omega, fun _ => by decide⟩
  · rw [y]; exact ⟨fun z => absurd z (by decide), fun z => by omega⟩
theorem lcE (a b : Int64) : lg_cmp a b = (0 : Int32) ↔ a = b := by
  rcases lcm a b with ⟨x, y⟩ | ⟨x, y⟩ | ⟨x, y⟩
  · rw [y]; exact ⟨fun z => absurd z (by decide), fun z => by rw [z] at x; omega⟩
  · rw [y]; exact ⟨fun _ => Int64.toInt_inj.mp x, fun _ => rfl⟩
  · rw [y]; exact ⟨fun z => absurd z (by decide), fun z => by rw [z] at x; omega⟩
theorem in_64 (n : Nat) (x a b : Int64) : df_X19_in n x a b () = some (if a.toInt ≤ x.toInt ∧ x.toInt ≤ b.toInt then nI 1 else nI 0, ()) := by
  unfold df_X19_in df_X19_in_0 df_X19_in_17 df_X19_in_18
  by_cases c : x.toInt < a.toInt
  · rw [if_pos ((lcA x a).mpr c), if_neg (by omega)]
    exact nm_z0
  · rw [if_neg (fun z => c ((lcA x a).mp z))]
    by_cases d : b.toInt < x.toInt
    · rw [if_pos ((lcC x b).mpr d), if_neg (by omega)]
      exact nm_z0
    · rw [if_neg (fun z => d ((lcC x b).mp z)), if_pos (by omega)]
      exact nm_z1
theorem to_64 (b : Int32) : b.toInt64.toInt = b.toInt := Int32.toInt_toInt64 b
theorem nz_n {α : Type} {x : Option α} {p : Prop} [Decidable p] : nd_z .boolean (if p then nI 1 else nI 0) x = x := by
  by_cases c : p
  · rw [if_pos c]; exact nm_z1
  · rw [if_neg c]; exact nm_z0
theorem b1_lt (b : Int32) : b < 1 ↔ b.toInt < 1 := by rw [Int32.lt_iff_toInt_lt]; rfl
theorem b8_lt (b : Int32) : (8 : Int32) < b ↔ 8 < b.toInt := by rw [Int32.lt_iff_toInt_lt]; rfl
theorem b31_lt (b : Int32) : (31 : Int32) < b ↔ 31 < b.toInt := by rw [Int32.lt_iff_toInt_lt]; rfl
theorem b8_le (b : Int32) : (8 : Int32) ≤ b ↔ 8 ≤ b.toInt := by rw [Int32.le_iff_toInt_le]; rfl
theorem b7_le (b : Int32) : b ≤ (7 : Int32) ↔ b.toInt ≤ 7 := by rw [Int32.le_iff_toInt_le]; rfl
/-- a number of few bits -/
theorem ix_nI {b : Int32} {k : Nat} (h : 0 ≤ b.toInt) (h1 : b.toInt ≤ k) : ∃ j : Nat, j ≤ k ∧ b = nI j ∧ b.toInt = j := by
  have lt := Int32.toInt_lt b
  refine ⟨b.toInt.toNat, by omega, Int32.toInt_inj.mp ?_, by omega⟩
  rw [nI_toInt (by omega)]
  omega
theorem ix_32 {x : Int64} {k : Nat} (hk : k < 2 ^ 31) (h : 0 ≤ x.toInt) (h1 : x.toInt ≤ k) : ∃ j : Nat, j ≤ k ∧ x.toInt32 = nI j := by
  refine ⟨x.toInt.toNat, by omega, ?_⟩
  have e : x = Int64.ofInt (x.toInt.toNat : Int) := by
    rw [show (x.toInt.toNat : Int) = x.toInt by omega, Int64.ofInt_toInt]
  apply Int32.toInt_inj.mp
  rw [nI_toInt (by omega), Int64.toInt_toInt32]
  rw [Int.bmod_eq_of_le (by omega) (by omega)]
  omega
/-- what may come, as each side asks it -/
def sdd (k : Int32) (x : Int64) (b : Int32) : Prop := (k = 0 ∧ 0 ≤ x.toInt ∧ x.toInt ≤ 15) ∨ (k = 1 ∧ 1 ≤ b.toInt ∧ b.toInt ≤ 8) ∨ (k = 2 ∧ (0 ≤ x.toInt ∧ x.toInt ≤ 15) ∧ 1 ≤ b.toInt ∧ b.toInt ≤ 31) ∨ (k = 3 ∧ 0 ≤ x.toInt ∧ x.toInt ≤ 1099511627776) ∨ k = 4
theorem sd_R (n : Nat) (k : Int32) (x : Int64) (b : Int32) : (sdd k x b → df_X19_isSaid n k x b () = some (nI 1, ())) ∧ (¬ sdd k x b → df_X19_isSaid n k x b () = some (nI 0, ())) := by
  unfold df_X19_isSaid df_X19_isSaid_0 df_X19_isSaid_94 df_X19_isSaid_64 df_X19_isSaid_94
  have e0 : (0 : Int64).toInt = 0 := by decide
  have e1 : (1 : Int64).toInt = 1 := by decide
  have e8 : (8 : Int64).toInt = 8 := by decide
  have e15 : (15 : Int64).toInt = 15 := by decide
  have e31 : (31 : Int64).toInt = 31 := by decide
  have eL : (1099511627776 : Int64).toInt = 1099511627776 := by decide
  have n01 : ¬ (1 : Int32) = 0 := by decide
  have n02 : ¬ (2 : Int32) = 0 := by decide
  have n03 : ¬ (3 : Int32) = 0 := by decide
  have n04 : ¬ (4 : Int32) = 0 := by decide
  have n12 : ¬ (2 : Int32) = 1 := by decide
  have n13 : ¬ (3 : Int32) = 1 := by decide
  have n14 : ¬ (4 : Int32) = 1 := by decide
  have n23 : ¬ (3 : Int32) = 2 := by decide
  have n24 : ¬ (4 : Int32) = 2 := by decide
  have n34 : ¬ (4 : Int32) = 3 := by decide
  have i01 : ¬ nI 1 = (0 : Int32) := by decide
  have m1 : ∀ {α : Type} {y : Option α}, nd_z .boolean (1 : Int32) y = y := nm_z1
  have m0 : ∀ {α : Type} {y : Option α}, nd_z .boolean (0 : Int32) y = y := nm_z0
  rw [in_64, in_64, in_64, in_64, to_64, e0, e1, e8, e15, e31, eL, nb_b2, nb_b2, nb_b2, nb_b2, nb_b2, nz_n, nz_n, nz_n, m1, m0]
  unfold sdd
  by_cases k0 : k = 0
  · subst k0
    rw [if_pos rfl]
    exact ⟨fun h => by rw [if_pos (by rcases h with h | h | h | h | h; exact h.2; exact absurd h.1.symm n01; exact absurd h.1.symm n02; exact absurd h.1.symm n03; exact absurd h.symm n04)], fun h => by rw [if_neg (fun z => h (Or.inl ⟨rfl, z⟩))]⟩
  · rw [if_neg k0]
    by_cases k1 : k = 1
    · subst k1
      rw [if_pos rfl]
      exact ⟨fun h => by rw [if_pos (by rcases h with h | h | h | h | h; exact absurd h.1 n01; exact h.2; exact absurd h.1.symm n12; exact absurd h.1.symm n13; exact absurd h.symm n14)], fun h => by rw [if_neg (fun z => h (Or.inr (Or.inl ⟨rfl, z⟩)))]⟩
    · rw [if_neg k1]
      by_cases k2 : k = 2
      · subst k2
        rw [if_pos rfl]
        by_cases c : 0 ≤ x.toInt ∧ x.toInt ≤ 15
        · rw [if_pos c, if_neg i01]
          by_cases d : 1 ≤ b.toInt ∧ b.toInt ≤ 31
          · rw [if_pos d, if_neg i01]
            exact ⟨fun _ => rfl, fun h => absurd (Or.inr (Or.inr (Or.inl ⟨rfl, c, d⟩))) h⟩
          · rw [if_neg d, if_pos (show nI 0 = (0 : Int32) from rfl)]
            exact ⟨fun h => by rcases h with h | h | h | h | h; exact absurd h.1 n02; exact absurd h.1 n12; exact absurd h.2.2 d; exact absurd h.1.symm n23; exact absurd h.symm n24, fun _ => rfl⟩
        · rw [if_neg c, if_pos (show nI 0 = (0 : Int32) from rfl)]
          exact ⟨fun h => by rcases h with h | h | h | h | h; exact absurd h.1 n02; exact absurd h.1 n12; exact absurd h.2.1 c; exact absurd h.1.symm n23; exact absurd h.symm n24, fun _ => rfl⟩
      · rw [if_neg k2]
        by_cases k3 : k = 3
        · subst k3
          rw [if_pos rfl]
          exact ⟨fun h => by rw [if_pos (by rcases h with h | h | h | h | h; exact absurd h.1 n03; exact absurd h.1 n13; exact absurd h.1 n23; exact h.2; exact absurd h.symm n34)], fun h => by rw [if_neg (fun z => h (Or.inr (Or.inr (Or.inr (Or.inl ⟨rfl, z⟩)))))]⟩
        · rw [if_neg k3]
          by_cases k4 : k = 4
          · rw [if_pos k4]
            exact ⟨fun _ => rfl, fun h => absurd (Or.inr (Or.inr (Or.inr (Or.inr k4)))) h⟩
          · rw [if_neg k4]
            exact ⟨fun h => by rcases h with h | h | h | h | h; exact absurd h.1 k0; exact absurd h.1 k1; exact absurd h.1 k2; exact absurd h.1 k3; exact absurd h k4, fun _ => rfl⟩
theorem sd_C (n : Nat) (k : Int32) (x : Int64) (b : Int32) : (sdd k x b → df_X3_isEvent n k x b () = some (nI 1, ())) ∧ (¬ sdd k x b → df_X3_isEvent n k x b () = some (nI 0, ())) := by
  have e0 : (0 : Int64).toInt = 0 := by decide
  have e16 : (16 : Int64).toInt = 16 := by decide
  have eL : (1099511627776 : Int64).toInt = 1099511627776 := by decide
  have m1 : ∀ {α : Type} {y : Option α}, nd_z .boolean (1 : Int32) y = y := nm_z1
  have m0 : ∀ {α : Type} {y : Option α}, nd_z .boolean (0 : Int32) y = y := nm_z0
  unfold df_X3_isEvent df_X3_isEvent_0 df_X3_isEvent_50 df_X3_isEvent_51 df_X3_isEvent_67 df_X3_isEvent_68 df_X3_isEvent_98 df_X3_isEvent_99 df_X3_isEvent_118 df_X3_isEvent_119 df_X3_isEvent_130
  simp only [lcA, lcB, lcC, e0, e16, eL, b1_lt, b8_lt, b31_lt, m0, m1]
  unfold sdd
  by_cases k0 : k = 0
  · subst k0
    rw [if_pos rfl]
    refine ⟨fun h => ?_, fun h => ?_⟩
    · have h : 0 ≤ x.toInt ∧ x.toInt ≤ 15 := by
        rcases h with h | h | h | h | h
        · exact h.2
        · exact absurd h.1.symm (by decide)
        · exact absurd h.1.symm (by decide)
        · exact absurd h.1.symm (by decide)
        · exact absurd h.symm (by decide)
      rw [if_neg (by omega), if_neg (by omega)]; rfl
    · by_cases c : x.toInt < 0
      · rw [if_pos c]; rfl
      · rw [if_neg c, if_pos (by have : ¬ x.toInt ≤ 15 := fun z => h (Or.inl ⟨rfl, by omega, z⟩); omega)]; rfl
  · rw [if_neg k0]
    by_cases k1 : k = 1
    · subst k1
      rw [if_pos rfl]
      refine ⟨fun h => ?_, fun h => ?_⟩
      · have h : 1 ≤ b.toInt ∧ b.toInt ≤ 8 := by
          rcases h with h | h | h | h | h
          · exact absurd h.1 (by decide)
          · exact h.2
          · exact absurd h.1.symm (by decide)
          · exact absurd h.1.symm (by decide)
          · exact absurd h.symm (by decide)
        rw [if_neg (by omega), if_neg (by omega)]; rfl
      · by_cases c : b.toInt < 1
        · rw [if_pos c]; rfl
        · rw [if_neg c, if_pos (by have : ¬ b.toInt ≤ 8 := fun z => h (Or.inr (Or.inl ⟨rfl, by omega, z⟩)); omega)]; rfl
    · rw [if_neg k1]
      by_cases k2 : k = 2
      · subst k2
        rw [if_pos rfl]
        refine ⟨fun h => ?_, fun h => ?_⟩
        · have h : (0 ≤ x.toInt ∧ x.toInt ≤ 15) ∧ 1 ≤ b.toInt ∧ b.toInt ≤ 31 := by
            rcases h with h | h | h | h | h
            · exact absurd h.1 (by decide)
            · exact absurd h.1 (by decide)
            · exact h.2
            · exact absurd h.1.symm (by decide)
            · exact absurd h.symm (by decide)
          rw [if_neg (by omega), if_neg (by omega), if_neg (by omega), if_neg (by omega)]; rfl
        · by_cases c : x.toInt < 0
          · rw [if_pos c]; rfl
          · rw [if_neg c]
            by_cases c2 : 16 ≤ x.toInt
            · rw [if_pos c2]; rfl
            · rw [if_neg c2]
              by_cases c3 : b.toInt < 1
              · rw [if_pos c3]; rfl
              · rw [if_neg c3, if_pos (by have : ¬ b.toInt ≤ 31 := fun z => h (Or.inr (Or.inr (Or.inl ⟨rfl, ⟨by omega, by omega⟩, by omega, z⟩))); omega)]; rfl
      · rw [if_neg k2]
        by_cases k3 : k = 3
        · subst k3
          rw [if_pos rfl]
          refine ⟨fun h => ?_, fun h => ?_⟩
          · have h : 0 ≤ x.toInt ∧ x.toInt ≤ 1099511627776 := by
              rcases h with h | h | h | h | h
              · exact absurd h.1 (by decide)
              · exact absurd h.1 (by decide)
              · exact absurd h.1 (by decide)
              · exact h.2
              · exact absurd h.symm (by decide)
            rw [if_neg (by omega), if_neg (by omega)]; rfl
          · by_cases c : x.toInt < 0
            · rw [if_pos c]; rfl
            · rw [if_neg c, if_pos (by have : ¬ x.toInt ≤ 1099511627776 := fun z => h (Or.inr (Or.inr (Or.inr (Or.inl ⟨rfl, by omega, z⟩)))); omega)]; rfl
        · rw [if_neg k3]
          by_cases k4 : k = 4
          · rw [if_pos k4]
            exact ⟨fun _ => rfl, fun h => absurd (Or.inr (Or.inr (Or.inr (Or.inr k4)))) h⟩
          · rw [if_neg k4]
            exact ⟨fun h => by rcases h with h | h | h | h | h; exact absurd h.1 k0; exact absurd h.1 k1; exact absurd h.1 k2; exact absurd h.1 k3; exact absurd h k4, fun _ => rfl⟩
/-- what counts of an event, in both -/
theorem sd_V (n : Nat) (k : Int32) (x : Int64) (b : Int32) (h : sdd k x b) : ∃ (K : Nat) (A : Int64) (B : Int32), K < 5 ∧ k = nI K ∧ df_X3_first n k x b () = some (A, ()) ∧ df_X3_second n k b () = some (B, ()) ∧ evV K A B ∧ ∀ s : S19, (if k = 1 then nd_b2 (df_X19_low n x b ()) (fun q27 _ => df_X19_outside_115 n k b k q27 s) else (if k = 4 then nd_b2 (df_X19_low n x 4 ()) (fun q24 _ => df_X19_outside_115 n k b k q24 s) else df_X19_outside_115 n k b k x s)) = df_X19_outside_131 n k A B s := by
  rcases h with ⟨rfl, h1, h2⟩ | ⟨rfl, h1, h2⟩ | ⟨rfl, ⟨h1, h2⟩, h3, h4⟩ | ⟨rfl, h1, h2⟩ | rfl
  · obtain ⟨j, j1, j2⟩ := ix_32 (k := 15) (by omega) h1 h2
    exact ⟨0, x, 0, by omega, rfl, rfl, rfl, Or.inl ⟨rfl, j, by omega, j2⟩, fun s => rfl⟩
  · obtain ⟨j, j1, j2, j3⟩ := ix_nI (k := 8) (by omega) h2
    by_cases c : b.toInt ≤ 7
    · refine ⟨1, x &&& (((1 : Int64) <<< ((8 * b).toInt64 &&& 63)) - 1), b, by omega, rfl, ?_, rfl, Or.inr (Or.inl ⟨rfl, j, j1, j2⟩), fun s => ?_⟩
      · unfold df_X3_first df_X3_first_0
        rw [if_pos rfl, if_neg (fun z => by rw [b8_le] at z; omega)]
      · unfold df_X19_low df_X19_low_0 df_X19_low_20
        rw [if_pos rfl, if_pos ((b7_le b).mpr c), nb_b2]
        rfl
    · refine ⟨1, x, b, by omega, rfl, ?_, rfl, Or.inr (Or.inl ⟨rfl, j, j1, j2⟩), fun s => ?_⟩
      · unfold df_X3_first df_X3_first_0
        rw [if_pos rfl, if_pos (by rw [b8_le]; omega)]
        rfl
      · unfold df_X19_low df_X19_low_0 df_X19_low_20
        rw [if_pos rfl, if_neg (fun z => c ((b7_le b).mp z)), nb_b2]
        rfl
  · obtain ⟨q, q1, q2⟩ := ix_32 (k := 15) (by omega) h1 h2
    obtain ⟨j, j1, j2, j3⟩ := ix_nI (k := 31) (by omega) h4
    exact ⟨2, x, b, by omega, rfl, rfl, rfl, Or.inr (Or.inr (Or.inl ⟨rfl, q, j, by omega, by omega, by omega, q2, j2⟩)), fun s => rfl⟩
  · exact ⟨3, x, 0, by omega, rfl, rfl, rfl, Or.inr (Or.inr (Or.inr (Or.inl ⟨rfl, h1, h2⟩))), fun s => rfl⟩
  · refine ⟨4, x &&& 4294967295, 0, by omega, rfl, rfl, rfl, Or.inr (Or.inr (Or.inr (Or.inr rfl))), fun s => ?_⟩
    unfold df_X19_low df_X19_low_0 df_X19_low_20
    rw [if_neg (show ¬ (4 : Int32) = 1 by decide), if_pos rfl, if_pos (show (4 : Int32) ≤ 7 by decide), nb_b2, show ((1 : Int64) <<< ((8 * 4 : Int32).toInt64 &&& 63)) - 1 = 4294967295 by decide]
    rfl
theorem mx4 (f : Rw) : nd_mix 4 f f = f := by
  funext i
  by_cases c : i < 4
  · exact if_pos c
  · exact if_neg c
theorem pl_tl (σ : S12) : pl σ (tl σ) = σ := by
  show (σ.1, nd_mix 4 σ.2.1 σ.2.1, σ.2.2) = σ
  rw [mx4]
theorem jM_t {n vn : Nat} {Q V : St} {N T e c k : Nat} {lo : Nat → Nat} {t t' : S11} {τ : S19} (h : jM n vn Q V N T e c k lo t τ) (g : cI n vn Q V N T e c lo t') (h6 : sI t'.1 6 = sI t.1 6) : jM n vn Q V N T e c k lo t' τ := by
  obtain ⟨hI, hL, hev, hv, h4, hk, hX, h10, h14, hS, h11⟩ := h
  exact ⟨g, hL, hev, hv, h4, hk, hX, h10, h14, hS, h6.trans h11.1, h11.2⟩
/-- what comes from outside, where the machine has been booted -/
theorem jm_out (n : Nat) (hn : 70000 < n) {vn : Nat} {Q V : St} {N T e c k : Nat} {lo : Nat → Nat} {t : S11} {τ : S19} (h : jM n vn Q V N T e c k lo t τ) {K : Nat} (hK : K < 5) {A : Int64} {B : Int32} (hv : evV K A B) (kk bb : Int32) (xx : Int64) (hs : ∀ s : S19, (if kk = 1 then nd_b2 (df_X19_low n xx bb ()) (fun q27 _ => df_X19_outside_115 n kk bb kk q27 s) else (if kk = 4 then nd_b2 (df_X19_low n xx 4 ()) (fun q24 _ => df_X19_outside_115 n kk bb kk q24 s) else df_X19_outside_115 n kk bb kk xx s)) = df_X19_outside_131 n (nI K) A B s) : ∃ (r : Int32) (t' : S11) (τ' : S19) (V' : St) (N' T' e' c' k' : Nat) (lo' : Nat → Nat), df_X11_come n (nI K) A B t = some (r, t') ∧ df_X19_outside_37 n kk xx bb 0 0 τ = some (r, τ') ∧ jM n vn Q V' N' T' e' c' k' lo' t' τ' ∧ kC t t' ∧ kR τ τ' ∧ sI τ'.1 0 = 0 := by
  have h0 := jm_0 h 0
  obtain ⟨hI, hL, hev, hvn, ⟨h4, h5, h6⟩, hk, hX, h10, h14, hS, h11⟩ := id h
  obtain ⟨hV, hC, hs', hP, hce, c3, c4, c5, hA, hCp, hW⟩ := id hI
  obtain ⟨l1, l2, l3, l4, l5, l6, l7, l8⟩ := id hC
  have fl : ∀ G : Int32 → S19 → Option (Int32 × S19), nd_b2 (df_X19_fails n 0 0 τ) G = G 0 (pI τ.1 0 0, τ.2) := fun G => by
    rw [nb_fails, nb_b2, if_pos (show (0 : Int32) = 0 ∧ (0 : Int32) = 0 from ⟨rfl, rfl⟩), if_pos rfl, if_pos rfl]
  have e5 : sI (pI τ.1 0 0) 5 = nI c := h5
  have e6 : sI (pI τ.1 0 0) 6 = nI e := h6
  have e9 : sI (pI τ.1 0 0) 9 = nI (T - N) := hS.1
  have e8 : sI (pI τ.1 0 0) 8 = nI N := hL.1
  have ue : e < 2 ^ 31 := by omega
  have uN : N < 2 ^ 31 := by omega
  have uT : T < 2 ^ 31 := by omega
  have uc : c < 2 ^ 31 := by omega
  by_cases ce : c = e
  · subst ce
    by_cases tn : T = N
    · subst tn
      by_cases n8 : T < 2048
      · obtain ⟨X', r1, r2⟩ := jm_come n hn h0 (Nat.le_refl c)
        obtain ⟨r, s', rr, q1, q2, q3, q4⟩ := co_1 n (by omega) hI n8 hK hv
        obtain ⟨X2, x1, x2, x3, x4⟩ := q2 X' r2.2.2.2.2.2.2.1
        have r14 : sI X'.1 14 = -nI 1 := r2.2.2.2.2.2.2.2.2.1
        obtain ⟨w0, w1⟩ := rc_rec n (τ := (pI (pI τ.1 0 0) 10 (nI (lo (c + 1))), (τ.2.1, ((τ.2.2.1.1, X'), τ.2.2.2)))) r2.2.1 n8 h6 rr x1
        have lc : lo (c + 1) = T := l5.2.2 (c + 1) (by omega)
        have go : df_X19_outside_37 n kk xx bb 0 0 τ = df_X19_outside_131 n (nI K) A B (pI (pI τ.1 0 0) 10 (nI (lo (c + 1))), (τ.2.1, ((τ.2.2.1.1, X'), τ.2.2.2))) := by
          unfold df_X19_outside_37
          rw [fl, if_pos rfl, e5, e6, if_pos rfl, e9, if_pos (show nI (T - T) ≤ (0 : Int32) by rw [Nat.sub_self]; decide), e8, if_neg (show ¬ nI T = (2048 : Int32) from fun z => by have z : nI T = nI 2048 := z; rw [nI_eq uN (by omega)] at z; omega), r1, nb_b1, hs]
        rcases rr with z | z
        · obtain ⟨d1, d2⟩ := q3 z
          have hX2 := x3 z
          refine ⟨nI 1, s', (pI (pI τ.1 0 0) 10 (nI (lo (c + 1))), (τ.2.1, ((τ.2.2.1.1, X'), τ.2.2.2))), V, T, T, c, c, c, lo, ?_, ?_, jM_t r2 d1 (d2.1 6 (by omega)), kC_f d2, kR_m τ _ _ _, rfl⟩
          · rw [q1, if_pos z]
          · rw [go]
            unfold df_X19_outside_131 df_X19_outside_142
            rw [w0 z, nb_b2, if_pos (show nI 0 = (0 : Int32) from rfl), hX2]
            rfl
        · obtain ⟨d1, d2, d3, d4, d5⟩ := q4 z
          obtain ⟨a1, a2, a3, a4, a5, a6, a7⟩ := aT_r (pI (pI τ.1 0 0) 10 (nI (lo (c + 1)))) T c K A B
          obtain ⟨f1, f2⟩ := aT_e (T := pI (pI τ.1 0 0) 10 (nI (lo (c + 1)))) (N := T) (e := c) hK (a := A) (b := B)
          have z0 : ¬ r = nI 0 := by rw [z]; decide
          refine ⟨nI 0, s', (aT (pI (pI τ.1 0 0) 10 (nI (lo (c + 1)))) T c K A B, (τ.2.1, ((τ.2.2.1.1, X2), τ.2.2.2))), aV V T c K A B, T + 1, T + 1, c, c, c, loA lo c T, ?_, ?_, ⟨d1, rLg_a r2.2.1 n8 hK hv, fun i hi => ?_, hvn, ⟨(a7 4 (by omega) (by omega)).trans h4, (a7 5 (by omega) (by omega)).trans h5, (a7 6 (by omega) (by omega)).trans h6⟩, Nat.le_refl c, x4 z, ?_, x2.trans r14, ⟨?_, fun i hi => by omega⟩, ?_⟩, ?_, ?_, (a7 0 (by omega) (by omega)).trans rfl⟩
          · rw [q1, if_neg z0]
          · rw [go]
            unfold df_X19_outside_131 df_X19_outside_142
            rw [w1 z, nb_b2, if_neg (show ¬ nI 1 = (0 : Int32) by decide)]
            rfl
          · by_cases y : i = T
            · rw [y]
              refine f2.trans ?_
              obtain ⟨r1, r2, r3, r4, r5, r6⟩ := aV_r V T c K A B
              unfold evK
              rw [r1, r3, r4, nm_us, ul_s, nm_us, nI_clamp (by omega)]
            · refine (f1 i (by omega)).trans ((hev i (by omega)).trans ?_)
              obtain ⟨r1, r2, r3, r4, r5, r6⟩ := aV_r V T c K A B
              unfold evK
              rw [r1, r3, r4, nm_un y, up_o y, nm_un y]
          · refine a6.trans ?_
            rw [show loA lo c T (c + 1) = T + 1 from if_neg (by omega)]
          · refine (a7 9 (by omega) (by omega)).trans ?_
            refine Eq.trans e9 ?_
            rw [Nat.sub_self, Nat.sub_self]
          · rw [d2 6 (by omega)]
            have a11 : sI (aT (pI (pI τ.1 0 0) 10 (nI (lo (c + 1)))) T c K A B) 11 = sI τ.1 11 := (a7 11 (by omega) (by omega)).trans rfl
            show sI t.1 6 = sI (aT (pI (pI τ.1 0 0) 10 (nI (lo (c + 1)))) T c K A B) 11 ∧ okB (sI (aT (pI (pI τ.1 0 0) 10 (nI (lo (c + 1)))) T c K A B) 11)
            rw [a11]
            exact h11
          · exact ⟨d2 0 (by omega), d2 7 (by omega), d3, fun r _ => by rw [d4], congrArg Prod.fst d5, congrArg (fun p => p.2.1) d5⟩
          · refine ⟨fun j hj => ?_, fun j hj => ?_, fun j => rfl, rfl, rfl, rfl⟩
            · refine (a7 j (by omega) (by omega)).trans ?_
              rw [nb_II, if_neg (by omega), nb_II, if_neg (by omega)]
            · show sR (aT (pI (pI τ.1 0 0) 10 (nI (lo (c + 1)))) T c K A B) j = _
              unfold aT
              show sR (pR (pR (pQ (pR _ 5 _) 0 _) 6 _) 7 _) j = _
              rw [nb_RR, if_neg (by omega), nb_RR, if_neg (by omega), nm_RQ, nb_RR, if_neg (by omega)]
              rfl
      · refine ⟨3, t, (pI τ.1 0 0, τ.2), V, T, T, c, c, k, lo, ?_, ?_, h0, kC_r t, kR_0 τ 0, rfl⟩
        · unfold df_X11_come df_X11_come_0
          have l8' : ¬ nI T < (2048 : Int32) := fun z => by have z : nI T < nI 2048 := z; rw [nI_ltI uN (by omega)] at z; omega
          rw [c3, c4, if_pos rfl]
          rcases hV with ⟨o1, o2⟩ | ⟨o1, o2⟩
          · rw [if_pos o1, o2, l1, l2, if_pos (show nI T ≤ nI T by rw [nI_leI uN uN]; exact Nat.le_refl T), if_neg l8']
          · rw [if_neg (show ¬ sO t.1 0 = some 27 by rw [o1]; decide), if_pos o1, o2, l1, l2, if_pos (show nI T ≤ nI T by rw [nI_leI uN uN]; exact Nat.le_refl T), if_neg l8']
        · unfold df_X19_outside_37
          rw [fl, if_pos rfl, e5, e6, if_pos rfl, e9, if_pos (show nI (T - T) ≤ (0 : Int32) by rw [Nat.sub_self]; decide), e8, if_pos (show nI T = (2048 : Int32) from (show nI T = nI 2048 by rw [show T = 2048 by omega]))]
    · refine ⟨2, t, (pI τ.1 0 0, τ.2), V, N, T, c, c, k, lo, ?_, ?_, h0, kC_r t, kR_0 τ 0, rfl⟩
      · unfold df_X11_come df_X11_come_0 df_X11_come_28
        have l8' : ¬ nI T ≤ nI N := fun z => by rw [nI_leI uT uN] at z; omega
        rw [c3, c4, if_pos rfl]
        rcases hV with ⟨o1, o2⟩ | ⟨o1, o2⟩
        · rw [if_pos o1, o2, l1, l2, if_neg l8']
        · rw [if_neg (show ¬ sO t.1 0 = some 27 by rw [o1]; decide), if_pos o1, o2, l1, l2, if_neg l8']
      · unfold df_X19_outside_37 df_X19_outside_63
        rw [fl, if_pos rfl, e5, e6, if_pos rfl, e9, if_neg (show ¬ nI (T - N) ≤ (0 : Int32) from fun z => by have z : nI (T - N) ≤ nI 0 := z; rw [nI_leI (by omega) (by omega)] at z; omega)]
  · refine ⟨2, t, (pI τ.1 0 0, τ.2), V, N, T, e, c, k, lo, ?_, ?_, h0, kC_r t, kR_0 τ 0, rfl⟩
    · unfold df_X11_come df_X11_come_0 df_X11_come_28
      rw [c3, c4, if_neg (show ¬ nI c = nI e from fun z => by rw [nI_eq uc ue] at z; exact ce z)]
    · unfold df_X19_outside_37 df_X19_outside_63
      rw [fl, if_pos rfl, e5, e6, if_neg (show ¬ nI c = nI e from fun z => by rw [nI_eq uc ue] at z; exact ce z)]
/-- outside -/
theorem jc_outside (n T L : Nat) (hn : 70000 < n) (k : Int32) (x : Int64) (b : Int32) (σ : S12) (τ : S19) (h : jA n (tl σ) τ) : (df_X12_outside n T L k x b σ = some (Sum.inr ("java/lang/IllegalArgumentException", σ)) ∧ df_X19_outside n k x b τ = some (0, (pI τ.1 0 1, τ.2))) ∨ (df_X12_outside n T L k x b σ = some (Sum.inr ("java/lang/IllegalStateException", σ)) ∧ df_X19_outside n k x b τ = some (0, (pI τ.1 0 2, τ.2))) ∨ ∃ (r : Int32) (t' : S11) (τ' : S19), df_X12_outside n T L k x b σ = some (Sum.inl (r, pl σ t')) ∧ df_X19_outside n k x b τ = some (r, τ') ∧ sI τ'.1 0 = 0 ∧ jA n t' τ' ∧ kC (tl σ) t' ∧ kR τ τ' := by
  have n1 : ¬ nI 1 = (0 : Int32) := by decide
  by_cases s : sdd k x b
  · have sC := (sd_C n k x b).1 s
    have sR := (sd_R n k x b).1 s
    obtain ⟨K, A, B, hK, ek, v1, v2, v3, v4⟩ := sd_V n k x b s
    obtain ⟨h0, ⟨h1, h2, h3⟩ | ⟨h1, h2, vn, Q, V, N, T', e, c, k', lo, h3⟩⟩ := h
    · refine Or.inr (Or.inl ⟨?_, ?_⟩)
      · unfold df_X12_outside df_X12_outside_0
        rw [sC, nb_b2, if_neg n1, if_pos (show sI σ.2.2.2.2.1 0 = 0 from h1)]
      · unfold df_X19_outside df_X19_outside_0 df_X19_outside_20 df_X19_outside_37
        rw [sR, nb_b2, if_neg n1, if_neg n1, if_pos (show sI τ.1 3 = 0 from h2), nb_fails, nb_b2]
        rfl
    · refine Or.inr (Or.inr ?_)
      obtain ⟨r, t', τ', V', N', T'', e', c', k'', lo', g1, g2, g3, g4, g5, g6⟩ := jm_out n hn h3 hK v3 k b x (fun s => by rw [v4 s, ek])
      refine ⟨r, t', τ', ?_, ?_, g6, ⟨sp2_k h0 g4, Or.inr ⟨g4.1.trans h1, (g5.1 3 (by omega)).trans h2, vn, Q, V', N', T'', e', c', k'', lo', g3⟩⟩, g4, g5⟩
      · unfold df_X12_outside df_X12_outside_0
        have b1 : ¬ sI σ.2.2.2.2.1 0 = 0 := by
          rw [show sI σ.2.2.2.2.1 0 = nI 1 from h1]; decide
        have g1 : df_X11_come n k A B (σ.2.2.2.2.1, σ.2.1, σ.2.2.2.2.2.1, σ.2.2.2.2.2.2.1, σ.2.2.2.2.2.2.2.1, σ.2.2.2.2.2.2.2.2.1, σ.2.2.2.2.2.2.2.2.2.1, σ.2.2.2.2.2.2.2.2.2.2) = some (r, t') := by rw [ek]; exact g1
        rw [sC, nb_b2, if_neg n1, if_neg b1, v1, nb_b2, v2, nb_b2, g1, nb_b2, nb_let]
        rfl
      · unfold df_X19_outside df_X19_outside_0 df_X19_outside_20 df_X19_outside_36
        rw [sR, nb_b2, if_neg n1, if_neg n1, if_neg (show ¬ sI τ.1 3 = 0 by rw [h2]; decide)]
        exact g2
  · have sC := (sd_C n k x b).2 s
    have sR := (sd_R n k x b).2 s
    refine Or.inl ⟨?_, ?_⟩
    · unfold df_X12_outside df_X12_outside_0
      rw [sC, nb_b2, if_pos (show nI 0 = (0 : Int32) from rfl)]
    · unfold df_X19_outside df_X19_outside_0 df_X19_outside_20 df_X19_outside_36 df_X19_outside_37
      rw [sR, nb_b2, if_pos (show nI 0 = (0 : Int32) from rfl), if_pos (show nI 0 = (0 : Int32) from rfl), nb_fails, nb_b2]
      rfl

/-- a program that was assembled, in both: its image, its lines -/
def rqP (P : St) (q : Nat) (im : Nat → Int32) (tx da en : Int32) : Prop := ∃ T Z : Nat, T ≤ 32768 ∧ Z ≤ 32768 ∧ (Z = T ∨ (T + 1023) / 1024 * 1024 < Z) ∧ sI P 0 = nI T ∧ sI P 1 = nI ((T + 1023) / 1024 * 1024) ∧ sI P 2 = nI Z ∧ tx = nI T ∧ da = nI ((T + 1023) / 1024 * 1024) ∧ en = nI Z ∧ ∀ i : Nat, i < Z → ∃ z l : Nat, z < 256 ∧ l < 2 ^ 22 ∧ sR P 0 i = vp_nar .byte ((nI z).toInt8.toInt32) ∧ im (32768 * q + i) = nI (l * 256 + z) ∧ ∀ n : Nat, 40000 < n → df_X8_lineOf n (nI i) P = some (nI l, P)
/-- the four programs -/
def rpP (row : Nat → Option Nat) (pool : Nat → St) (T1 : St) (im : Nat → Int32) : Prop := ∀ q : Nat, q < 4 → (row q = none ∧ sR T1 0 q = nI 0) ∨ ∃ j : Nat, j < 9 ∧ row q = some j ∧ sR T1 0 q = nI 1 ∧ rqP (pool j) q im (sR T1 1 q) (sR T1 2 q) (sR T1 3 q)

/-- four bytes as a word -/
def bwd (im : Nat → Int32) (k : Nat) : Int32 := ((((im k) &&& 255) ||| (((im (k + 1)) &&& 255) <<< ((8 : Int32) &&& 31))) ||| (((im (k + 2)) &&& 255) <<< ((16 : Int32) &&& 31))) ||| ((im (k + 3)) <<< ((24 : Int32) &&& 31))
theorem bwd_0 (a b c d : Int32) : (((((a &&& 255) ||| ((b &&& 255) <<< ((8 : Int32) &&& 31))) ||| ((c &&& 255) <<< ((16 : Int32) &&& 31))) ||| (d <<< ((24 : Int32) &&& 31))).toUInt32 >>> ((nI 0).toUInt32 &&& Int32.toUInt32 (nI 31))).toInt32 &&& nI 255 = a &&& nI 255 := by
  show (((((a &&& nI 255) ||| ((b &&& nI 255) <<< nI 8)) ||| ((c &&& nI 255) <<< nI 16)) ||| (d <<< nI 24)).toUInt32 >>> ((nI 0).toUInt32 &&& Int32.toUInt32 (nI 31))).toInt32 &&& nI 255 = a &&& nI 255
  (apply gb_ext; apply all32; simp (disch := decide) only [gb_or, gb_and, gb_xor, gb_shl, gb_shr, gb_ush, gb_n, gb_m, gb_hi, Nat.reduceAdd, Nat.reduceSub, Nat.reduceLT, Nat.reduceLeDiff, Nat.testBit, Nat.reduceShiftRight, Nat.reduceBNe, Nat.reduceAnd, Nat.one_and_eq_mod_two, Nat.reduceMod, decide_true, decide_false, Bool.and_true, Bool.true_and, Bool.and_false, Bool.false_and, Bool.or_false, Bool.false_or, Bool.or_true, Bool.true_or, Bool.not_true, Bool.not_false, Bool.xor_true, Bool.xor_false, Bool.true_xor, Bool.false_xor, if_true, if_false, ↓reduceIte, and_self, bne_self_eq_false, Bool.or_self, Bool.and_self, Bool.not_not])
theorem bwd_1 (a b c d : Int32) : (((((a &&& 255) ||| ((b &&& 255) <<< ((8 : Int32) &&& 31))) ||| ((c &&& 255) <<< ((16 : Int32) &&& 31))) ||| (d <<< ((24 : Int32) &&& 31))).toUInt32 >>> ((nI 8).toUInt32 &&& Int32.toUInt32 (nI 31))).toInt32 &&& nI 255 = b &&& nI 255 := by
  show (((((a &&& nI 255) ||| ((b &&& nI 255) <<< nI 8)) ||| ((c &&& nI 255) <<< nI 16)) ||| (d <<< nI 24)).toUInt32 >>> ((nI 8).toUInt32 &&& Int32.toUInt32 (nI 31))).toInt32 &&& nI 255 = b &&& nI 255
  (apply gb_ext; apply all32; simp (disch := decide) only [gb_or, gb_and, gb_xor, gb_shl, gb_shr, gb_ush, gb_n, gb_m, gb_hi, Nat.reduceAdd, Nat.reduceSub, Nat.reduceLT, Nat.reduceLeDiff, Nat.testBit, Nat.reduceShiftRight, Nat.reduceBNe, Nat.reduceAnd, Nat.one_and_eq_mod_two, Nat.reduceMod, decide_true, decide_false, Bool.and_true, Bool.true_and, Bool.and_false, Bool.false_and, Bool.or_false, Bool.false_or, Bool.or_true, Bool.true_or, Bool.not_true, Bool.not_false, Bool.xor_true, Bool.xor_false, Bool.true_xor, Bool.false_xor, if_true, if_false, ↓reduceIte, and_self, bne_self_eq_false, Bool.or_self, Bool.and_self, Bool.not_not])
theorem bwd_2 (a b c d : Int32) : (((((a &&& 255) ||| ((b &&& 255) <<< ((8 : Int32) &&& 31))) ||| ((c &&& 255) <<< ((16 : Int32) &&& 31))) ||| (d <<< ((24 : Int32) &&& 31))).toUInt32 >>> ((nI 16).toUInt32 &&& Int32.toUInt32 (nI 31))).toInt32 &&& nI 255 = c &&& nI 255 := by
  show (((((a &&& nI 255) ||| ((b &&& nI 255) <<< nI 8)) ||| ((c &&& nI 255) <<< nI 16)) ||| (d <<< nI 24)).toUInt32 >>> ((nI 16).toUInt32 &&& Int32.toUInt32 (nI 31))).toInt32 &&& nI 255 = c &&& nI 255
  (apply gb_ext; apply all32; simp (disch := decide) only [gb_or, gb_and, gb_xor, gb_shl, gb_shr, gb_ush, gb_n, gb_m, gb_hi, Nat.reduceAdd, Nat.reduceSub, Nat.reduceLT, Nat.reduceLeDiff, Nat.testBit, Nat.reduceShiftRight, Nat.reduceBNe, Nat.reduceAnd, Nat.one_and_eq_mod_two, Nat.reduceMod, decide_true, decide_false, Bool.and_true, Bool.true_and, Bool.and_false, Bool.false_and, Bool.or_false, Bool.false_or, Bool.or_true, Bool.true_or, Bool.not_true, Bool.not_false, Bool.xor_true, Bool.xor_false, Bool.true_xor, Bool.false_xor, if_true, if_false, ↓reduceIte, and_self, bne_self_eq_false, Bool.or_self, Bool.and_self, Bool.not_not])
theorem bwd_3 (a b c d : Int32) : (((((a &&& 255) ||| ((b &&& 255) <<< ((8 : Int32) &&& 31))) ||| ((c &&& 255) <<< ((16 : Int32) &&& 31))) ||| (d <<< ((24 : Int32) &&& 31))).toUInt32 >>> ((nI 24).toUInt32 &&& Int32.toUInt32 (nI 31))).toInt32 &&& nI 255 = d &&& nI 255 := by
  show (((((a &&& nI 255) ||| ((b &&& nI 255) <<< nI 8)) ||| ((c &&& nI 255) <<< nI 16)) ||| (d <<< nI 24)).toUInt32 >>> ((nI 24).toUInt32 &&& Int32.toUInt32 (nI 31))).toInt32 &&& nI 255 = d &&& nI 255
  (apply gb_ext; apply all32; simp (disch := decide) only [gb_or, gb_and, gb_xor, gb_shl, gb_shr, gb_ush, gb_n, gb_m, gb_hi, Nat.reduceAdd, Nat.reduceSub, Nat.reduceLT, Nat.reduceLeDiff, Nat.testBit, Nat.reduceShiftRight, Nat.reduceBNe, Nat.reduceAnd, Nat.one_and_eq_mod_two, Nat.reduceMod, decide_true, decide_false, Bool.and_true, Bool.true_and, Bool.and_false, Bool.false_and, Bool.or_false, Bool.false_or, Bool.or_true, Bool.true_or, Bool.not_true, Bool.not_false, Bool.xor_true, Bool.xor_false, Bool.true_xor, Bool.false_xor, if_true, if_false, ↓reduceIte, and_self, bne_self_eq_false, Bool.or_self, Bool.and_self, Bool.not_not])
theorem bwd_r (im : Nat → Int32) (k r : Nat) (h : r < 4) : ((bwd im k).toUInt32 >>> ((nI (8 * r)).toUInt32 &&& Int32.toUInt32 (nI 31))).toInt32 &&& nI 255 = im (k + r) &&& nI 255 := by
  have h : r = 0 ∨ r = 1 ∨ r = 2 ∨ r = 3 := by omega
  rcases h with rfl | rfl | rfl | rfl
  · exact bwd_0 ..
  · exact bwd_1 ..
  · exact bwd_2 ..
  · exact bwd_3 ..
theorem by_17 (n : Nat) {Q : St} {im : Nat → Int32} {v i : Nat} (hv : v < 4) (hi : i < 32768) (hw : ∀ w : Nat, w < 32768 → sR Q 4 w = bwd im (4 * w)) : df_X17_byteAt n (nI v) (nI i) Q = some (im (32768 * v + i) &&& nI 255, Q) := by
  have e := bwd_r im (4 * (8192 * v + i / 4)) (i - i / 4 * 4) (by omega)
  rw [show 4 * (8192 * v + i / 4) + (i - i / 4 * 4) = 32768 * v + i by omega, ← hw _ (by omega)] at e
  rw [← e]
  unfold df_X17_byteAt df_X17_byteAt_0
  have d1 : nI i / 4 = nI (i / 4) := nm_div (d := 4) (show i < 2 ^ 31 by omega) (by decide) (by decide)
  have d2 : (8192 : Int32) * nI v + nI (i / 4) = nI (8192 * v + i / 4) := by
    rw [show (8192 : Int32) * nI v = nI (8192 * v) from pk_mul .., nI_add]
  have d3 : (8 : Int32) * (nI i - nI (i / 4) * 4) = nI (8 * (i - i / 4 * 4)) := by
    rw [show nI (i / 4) * 4 = nI (i / 4 * 4) from pk_mul .., pk_sub (show i / 4 * 4 ≤ i by omega)]
    exact pk_mul ..
  rw [d1, d2, d3, nm_ck (by omega) (by omega), nI_clamp (by omega)]
  rfl
/-- the reference begins, up to its machine's boot -/
theorem bg_R (n : Nat) (hn : 70000 < n) (v : Int32) (τ : S19) : ∃ Q' : St, df_X19_begin n v τ = nd_b1 (df_X19_anew n (pI (pI (pI (pI (pI (pI (pI τ.1 3 1) 4 v) 9 0) 8 0) 6 0) 5 0) 11 0, (τ.2.1, ((τ.2.2.1.1, (τ.2.2.1.2.1, Q')), τ.2.2.2)))) (fun s11 => some s11) ∧ (∀ i : Nat, i < 4 → sR Q' 0 i = vp_nar .boolean (sR τ.1 0 i) ∧ sR Q' 1 i = sR τ.1 1 i ∧ sR Q' 2 i = sR τ.1 2 i ∧ sR Q' 3 i = sR τ.1 3 i) ∧ ∀ w : Nat, w < 32768 → sR Q' 4 w = bwd (sR τ.2.1 9) (4 * w) := by
  obtain ⟨m, Q1, i1, e1⟩ := nm_l1 (S := St) (fun g k Q => df_X19_begin_2 n g v (nI k) (τ.1, (τ.2.1, ((τ.2.2.1.1, (τ.2.2.1.2.1, Q)), τ.2.2.2)))) (fun k Q => ∀ i : Nat, i < k → sR Q 0 i = vp_nar .boolean (sR τ.1 0 i) ∧ sR Q 1 i = sR τ.1 1 i ∧ sR Q 2 i = sR τ.1 2 i ∧ sR Q 3 i = sR τ.1 3 i) 4 n (by omega) (fun k m Q hk hI => by
    refine ⟨pR (pR (pR (pR Q 0 (upd (sR Q 0) k (vp_nar .boolean (sR τ.1 0 k)))) 1 (upd (sR Q 1) k (sR τ.1 1 k))) 2 (upd (sR Q 2) k (sR τ.1 2 k))) 3 (upd (sR Q 3) k (sR τ.1 3 k)), fun i hi => ?_, ?_⟩
    · by_cases y : i = k
      · subst y
        exact ⟨nm_us, nm_us, nm_us, nm_us⟩
      · obtain ⟨a, b, c, d⟩ := hI i (by omega)
        exact ⟨(nm_un y).trans a, (nm_un y).trans b, (nm_un y).trans c, (nm_un y).trans d⟩
    · show dF_X19_begin_2 n (df_X19_begin_2 n m) v (nI k) _ = _
      generalize df_X19_begin_2 n m = G
      unfold dF_X19_begin_2
      rw [if_neg (show ¬ (4 : Int32) ≤ nI k from fun z => by have z : nI 4 ≤ nI k := z; rw [nI_leI (by omega) (by omega)] at z; omega)]
      simp only [nm_ck (show k < 4 from hk) (show k < 2 ^ 31 by omega), nb_let, nI_clamp (show k < 2 ^ 31 by omega)]
      rw [show nI k + Int32.ofInt 1 = nI (k + 1) from nI_add ..]
      rfl) τ.2.2.1.2.2 (fun i hi => by omega)
  have e1 : df_X19_begin n v τ = df_X19_begin_2 n (m + 1) v (nI 4) (τ.1, (τ.2.1, ((τ.2.2.1.1, (τ.2.2.1.2.1, Q1)), τ.2.2.2))) := e1
  have e2 : df_X19_begin_2 n (m + 1) v (nI 4) (τ.1, (τ.2.1, ((τ.2.2.1.1, (τ.2.2.1.2.1, Q1)), τ.2.2.2))) = df_X19_begin_75 n n v (nI 0) (τ.1, (τ.2.1, ((τ.2.2.1.1, (τ.2.2.1.2.1, Q1)), τ.2.2.2))) := by
    show dF_X19_begin_2 n (df_X19_begin_2 n m) v (nI 4) _ = _
    unfold dF_X19_begin_2
    rw [if_pos (show (4 : Int32) ≤ nI 4 by decide)]
    rfl
  obtain ⟨m2, e3⟩ := nm_lq (fun g k => df_X19_begin_75 n g v (nI (4 * k)) (τ.1, (τ.2.1, ((τ.2.2.1.1, (τ.2.2.1.2.1, pR Q1 4 (fun w => if w < k then bwd (sR τ.2.1 9) (4 * w) else sR Q1 4 w))), τ.2.2.2)))) 32768 n (by omega) (fun k m hk => by
    have st : pR (pR Q1 4 (fun w => if w < k then bwd (sR τ.2.1 9) (4 * w) else sR Q1 4 w)) 4 (upd (fun w => if w < k then bwd (sR τ.2.1 9) (4 * w) else sR Q1 4 w) k (bwd (sR τ.2.1 9) (4 * k))) = pR Q1 4 (fun w => if w < k + 1 then bwd (sR τ.2.1 9) (4 * w) else sR Q1 4 w) := by
      rw [nm_rr]
      congr 1
      funext w
      by_cases y : w = k
      · rw [y, nm_us, if_pos (by omega)]
      · rw [nm_un y]
        by_cases z : w < k
        · rw [if_pos z, if_pos (by omega)]
        · rw [if_neg z, if_neg (by omega)]
    show dF_X19_begin_75 n (df_X19_begin_75 n m) v (nI (4 * k)) _ = df_X19_begin_75 n m v (nI (4 * (k + 1))) _
    rw [← st]
    generalize df_X19_begin_75 n m = G
    unfold dF_X19_begin_75
    rw [if_neg (show ¬ (131072 : Int32) ≤ nI (4 * k) from fun z => by have z : nI 131072 ≤ nI (4 * k) := z; rw [nI_leI (by omega) (by omega)] at z; omega), show nI (4 * k) + 1 = nI (4 * k + 1) from nI_add .., show nI (4 * k) + 2 = nI (4 * k + 2) from nI_add .., show nI (4 * k) + 3 = nI (4 * k + 3) from nI_add .., show nI (4 * k) / 4 = nI k from (nm_div (show 4 * k < 2 ^ 31 by omega) (show 0 < 4 by omega) (by omega)).trans (by rw [show 4 * k / 4 = k by omega]), nm_ck (by omega) (by omega), nm_ck (by omega) (by omega), nm_ck (by omega) (by omega), nm_ck (by omega) (by omega), nm_ck (by omega) (by omega), nI_clamp (by omega), nI_clamp (by omega), nI_clamp (by omega), nI_clamp (by omega), nI_clamp (by omega), nb_let, nb_let, show nI (4 * k) + Int32.ofInt 4 = nI (4 * (k + 1)) from nI_add ..]
    rfl)
  have e3 : df_X19_begin_75 n n v (nI 0) (τ.1, (τ.2.1, ((τ.2.2.1.1, (τ.2.2.1.2.1, pR Q1 4 (fun w => if w < 0 then bwd (sR τ.2.1 9) (4 * w) else sR Q1 4 w))), τ.2.2.2))) = df_X19_begin_75 n (m2 + 1) v (nI 131072) (τ.1, (τ.2.1, ((τ.2.2.1.1, (τ.2.2.1.2.1, pR Q1 4 (fun w => if w < 32768 then bwd (sR τ.2.1 9) (4 * w) else sR Q1 4 w))), τ.2.2.2))) := e3
  have e0 : pR Q1 4 (fun w => if w < 0 then bwd (sR τ.2.1 9) (4 * w) else sR Q1 4 w) = Q1 := by
    have : (fun w => if w < 0 then bwd (sR τ.2.1 9) (4 * w) else sR Q1 4 w) = sR Q1 4 := by
      funext w
      rw [if_neg (by omega)]
    rw [this, nm_r0]
  rw [e0] at e3
  refine ⟨pR Q1 4 (fun w => if w < 32768 then bwd (sR τ.2.1 9) (4 * w) else sR Q1 4 w), ?_, i1, fun w hw => if_pos hw⟩
  rw [e1, e2, e3]
  show dF_X19_begin_75 n (df_X19_begin_75 n m2) v (nI 131072) _ = _
  unfold dF_X19_begin_75
  rw [if_pos (show (131072 : Int32) ≤ nI 131072 by decide), nb_let, nb_let, nb_let, nb_let, nb_let, nb_let, nb_let]
theorem pw_pw (R : Rw) (k : Nat) (f g : Nat → Option Nat) : pW (pW R k f) k g = pW R k g := by
  funext r
  unfold pW
  by_cases c : r = k
  · rw [if_pos c, if_pos c]
  · rw [if_neg c, if_neg c, if_neg c]
/-- the class starts -/
theorem st_1 (n : Nat) (hn : 70000 < n) {vn j j0 : Nat} {t : S11} {M' Mc : St × St} (hv : vn < 4) (hr : ∀ q : Nat, q < 4 → ∀ j : Nat, t.2.1 1 q = some j → j < 9) (ej : t.2.1 1 vn = some j) (e0 : t.2.1 3 0 = some j0) (h0 : j0 < 8) (hb : df_X6_start n (nd_st0, (t.2.2.1.2.2, t.2.2.2.2.2.1 j)) = some (nd_st0, (M', t.2.2.2.2.2.1 j))) (hc : df_X6_become n (nd_st0, (t.2.2.2.2.2.2.2 j0, M')) = some (nd_st0, (Mc, M'))) : ∃ W : Rw, (∀ q : Nat, q < 4 → W 0 q = t.2.1 1 q) ∧ (∀ r : Nat, ¬ r = 0 → W r = t.2.1 r) ∧ df_X11_start n (nI vn) t = some (pI (pR (pI (pI (pI (pI (pI (pI (pI t.1 0 1) 3 0) 4 0) 5 0) 6 0) 1 0) 2 256) 1 (upd (sR t.1 1) 0 (nI 0))) 1 (nI (0 + 1)), (W, ((t.2.2.1.1, (t.2.2.1.2.1, M')), (t.2.2.2.1, (t.2.2.2.2.1, (t.2.2.2.2.2.1, (t.2.2.2.2.2.2.1, fun i => if i = j0 then Mc else t.2.2.2.2.2.2.2 i))))))) := by
  obtain ⟨m, e1⟩ := nm_lq (fun g k => df_X11_start_2 n g (nI vn) (nI k) (t.1, (pW t.2.1 0 (fun i => if i < k then t.2.1 1 i else t.2.1 0 i), t.2.2))) 4 n (by omega) (fun k m hk => by
    have st : ∀ x : Option Nat, t.2.1 1 k = x → pW (pW t.2.1 0 (fun i => if i < k then t.2.1 1 i else t.2.1 0 i)) 0 (va_up (fun i => if i < k then t.2.1 1 i else t.2.1 0 i) k x) = pW t.2.1 0 (fun i => if i < k + 1 then t.2.1 1 i else t.2.1 0 i) := fun x hx => by
      rw [pw_pw]
      congr 1
      funext i
      show (if i = k then x else if i < k then t.2.1 1 i else t.2.1 0 i) = _
      by_cases y : i = k
      · rw [if_pos y, if_pos (by omega), y, hx]
      · rw [if_neg y]
        by_cases z : i < k
        · rw [if_pos z, if_pos (by omega)]
        · rw [if_neg z, if_neg (by omega)]
    show dF_X11_start_2 n (df_X11_start_2 n m) (nI vn) (nI k) _ = df_X11_start_2 n m (nI vn) (nI (k + 1)) _
    generalize df_X11_start_2 n m = G
    unfold dF_X11_start_2
    rw [if_neg (show ¬ (4 : Int32) ≤ nI k from fun z => by have z : nI 4 ≤ nI k := z; rw [nI_leI (by omega) (by omega)] at z; omega), nm_ck (by omega) (by omega), nI_clamp (by omega)]
    show nd_m (t.2.1 1 k) _ _ = _
    cases x : t.2.1 1 k with
    | none =>
      rw [nb_mN, nm_ck (by omega) (by omega), nb_let, nb_let, show nI k + Int32.ofInt 1 = nI (k + 1) from nI_add .., ← st none x]
      rfl
    | some i =>
      rw [nb_mS, nm_ck (by omega) (by omega), nb_lt (hr k hk i x), nb_let, nb_let, show nI k + Int32.ofInt 1 = nI (k + 1) from nI_add .., ← st (some i) x]
      rfl)
  have e1 : df_X11_start_2 n n (nI vn) (nI 0) (t.1, (pW t.2.1 0 (fun i => if i < 0 then t.2.1 1 i else t.2.1 0 i), t.2.2)) = df_X11_start_2 n (m + 1) (nI vn) (nI 4) (t.1, (pW t.2.1 0 (fun i => if i < 4 then t.2.1 1 i else t.2.1 0 i), t.2.2)) := e1
  have p0 : pW t.2.1 0 (fun i => if i < 0 then t.2.1 1 i else t.2.1 0 i) = t.2.1 := by
    funext r
    unfold pW
    by_cases c : r = 0
    · rw [if_pos c, c]
      funext i
      rw [if_neg (by omega)]
    · rw [if_neg c]
  rw [p0] at e1
  refine ⟨pW t.2.1 0 (fun i => if i < 4 then t.2.1 1 i else t.2.1 0 i), fun q hq => if_pos hq, fun r hr => if_neg hr, ?_⟩
  have pf : (fun i => if i = j then t.2.2.2.2.2.1 j else t.2.2.2.2.2.1 i) = t.2.2.2.2.2.1 := by
    funext i
    by_cases c : i = j
    · rw [if_pos c, c]
    · rw [if_neg c]
  unfold df_X11_start df_X11_start_0
  refine Eq.trans e1 ?_
  show dF_X11_start_2 n (df_X11_start_2 n m) (nI vn) (nI 4) _ = _
  generalize df_X11_start_2 n m = G
  unfold dF_X11_start_2
  rw [if_pos (show (4 : Int32) ≤ nI 4 by decide), nm_ck hv (by omega), nI_clamp (by omega)]
  dsimp only
  rw [show pW t.2.1 0 (fun i => if i < 4 then t.2.1 1 i else t.2.1 0 i) 0 vn = some j from (if_pos hv).trans ej, nb_mS, nb_lt (hr vn hv j ej), hb, nb_b1, nb_let]
  dsimp only
  rw [pf, nb_let, nb_let, nb_let, nb_let, nb_let, nb_let, nb_let]
  have kc := kc_1 n (s := (pI (pI (pI (pI (pI (pI (pI t.1 0 1) 3 0) 4 0) 5 0) 6 0) 1 0) 2 256, (pW t.2.1 0 (fun i => if i < 4 then t.2.1 1 i else t.2.1 0 i), ((t.2.2.1.1, (t.2.2.1.2.1, M')), (t.2.2.2.1, (t.2.2.2.2.1, (t.2.2.2.2.2.1, t.2.2.2.2.2.2))))))) (cp := 0) (c := 0) (j := j0) (M' := Mc) (by omega) rfl rfl e0 h0 hc
  dsimp only
  rw [kc, nb_b1]
  rfl
/-- what a start wants of what was before -/
theorem jA_b {n : Nat} {t : S11} {τ : S19} (h : jA n t τ) : (∃ V : St, eA t V) ∧ okY t.2.2.1.2.2.2 ∧ sO t.2.2.1.1 0 = some 34 ∧ ∃ ix : Nat → Nat, (∀ i : Nat, i < 8 → t.2.1 3 i = some (ix i) ∧ ix i < 8) ∧ ∀ i j : Nat, i < 8 → j < 8 → ix i = ix j → i = j := by
  obtain ⟨h0, ⟨h1, h2, ⟨V, v1, v2, v3⟩, h4, h5, h6, h7⟩ | ⟨h1, h2, vn, Q, V, N, T, e, c, k, lo, h3⟩⟩ := h
  · exact ⟨⟨V, v1⟩, h4, h5, h6⟩
  · obtain ⟨hV, hL, hs, hP, hce, c3, c4, c5, hA, ⟨cp, sp, at_, ix, hC⟩, hW⟩ := h3.1
    obtain ⟨⟨X, hX⟩, hT⟩ := hA
    exact ⟨⟨V, hV⟩, (hT X hX).1.2.2.2.2.2.1.2, hP.1, ix, hC.2.1, hC.2.2.1⟩
/-- what a start leaves of the class, of the reference -/
def kB (t t' : S11) : Prop := sI t'.1 7 = sI t.1 7 ∧ (∀ r : Nat, ¬ r = 3 → ¬ r = 0 → t'.2.1 r = t.2.1 r) ∧ t'.2.2.2.2.2.1 = t.2.2.2.2.2.1 ∧ t'.2.2.2.2.2.2.1 = t.2.2.2.2.2.2.1
def kQ (τ τ' : S19) : Prop := (∀ j : Nat, j = 1 ∨ j = 2 ∨ j = 7 ∨ j = 12 → sI τ'.1 j = sI τ.1 j) ∧ (∀ j : Nat, j < 5 ∨ 10 ≤ j → sR τ'.1 j = sR τ.1 j) ∧ (∀ j : Nat, sO τ'.1 j = sO τ.1 j) ∧ τ'.2.1 = τ.2.1 ∧ τ'.2.2.1.1 = τ.2.2.1.1 ∧ τ'.2.2.2 = τ.2.2.2
/-- both start: nothing is recorded, what is scheduled comes later -/
theorem jm_start (n : Nat) (hn : 70000 < n) {t : S11} {τ : S19} {V : St} {vn Tt : Nat} (hv : vn < 4) (hV : eA t V) (hV0 : sI V 0 = nI 0) (hV1 : sI V 1 = nI Tt) (hTt : Tt ≤ 2048) (hev : ∀ i : Nat, i < Tt → ∃ k : Nat, k < 5 ∧ sR V 0 i = nI k ∧ evV k (sQ V 1 i) (sR V 1 i)) (oy : okY t.2.2.1.2.2.2) (o34 : sO t.2.2.1.1 0 = some 34) {ix : Nat → Nat} (hix : ∀ i : Nat, i < 8 → t.2.1 3 i = some (ix i) ∧ ix i < 8) (hin : ∀ i j : Nat, i < 8 → j < 8 → ix i = ix j → i = j) (hp : rpP (t.2.1 1) t.2.2.2.2.2.1 τ.1 (sR τ.2.1 9)) (hj : ∃ j : Nat, t.2.1 1 vn = some j) : ∃ (Q : St) (t' : S11) (τ' : S19), df_X11_start n (nI vn) t = some t' ∧ df_X19_begin n (nI vn) τ = some τ' ∧ cI n vn Q V 0 Tt 0 0 (fun _ => 0) t' ∧ rLg τ'.1 0 0 (fun _ => 0) ∧ (vn < 4 ∧ ¬ sR Q 0 vn = nI 0) ∧ (sI τ'.1 4 = nI vn ∧ sI τ'.1 5 = nI 0 ∧ sI τ'.1 6 = nI 0) ∧ RA n (nI vn) Q (lgL (evK V) (fun _ => 0)) 0 τ'.2.2.1.2 ∧ sI τ'.1 10 = nI 0 ∧ sI τ'.2.2.1.2.1 14 = -nI 1 ∧ sI τ'.1 9 = nI 0 ∧ (sI t'.1 6 = nI 0 ∧ sI τ'.1 11 = nI 0) ∧ sI t'.1 0 = nI 1 ∧ sI τ'.1 3 = nI 1 ∧ sI τ'.1 0 = sI τ.1 0 ∧ kB t t' ∧ (∀ k : Nat, sO t'.1 k = sO t.1 k) ∧ kQ τ τ' := by
  obtain ⟨Q, r1, r2, r3⟩ := bg_R n hn (nI vn) τ
  have pg : ∀ q : Nat, q < 4 → ∀ j : Nat, t.2.1 1 q = some j → j < 9 ∧ sR τ.1 0 q = nI 1 ∧ ∃ T Z : Nat, rPg (t.2.2.2.2.2.1 j) Q q T Z := fun q hq j hj => by
    rcases hp q hq with ⟨a, b⟩ | ⟨j', a1, a2, a3, T, Z, a4, a5, a6, a7, a8, a9, b1, b2, b3, b4⟩
    · rw [a] at hj; exact nomatch hj
    · rw [a2] at hj
      injection hj with hj
      subst hj
      obtain ⟨s0, s1, s2, s3⟩ := r2 q hq
      refine ⟨a1, a3, T, Z, a4, a5, a6, a7, a8, a9, s1.trans b1, s2.trans b2, s3.trans b3, fun i hi => ?_⟩
      obtain ⟨z, l, z1, z2, z3, z4, z5⟩ := b4 i hi
      refine ⟨nI z, ⟨z, z1, rfl, z3⟩, fun n' => ?_⟩
      rw [by_17 n' hq (show i < 32768 by omega) r3, z4, nm_m255 (by omega), show (l * 256 + z) % 256 = z by omega]
  have sQ0 : ∀ q : Nat, q < 4 → sR τ.1 0 q = nI 1 → ¬ sR Q 0 q = nI 0 := fun q hq e => by
    rw [(r2 q hq).1, e]; decide
  obtain ⟨j, ej⟩ := hj
  obtain ⟨j9, p1, T, Z, pgv⟩ := pg vn hv j ej
  obtain ⟨e0, h0⟩ := hix 0 (by omega)
  have nil : ∀ c : Nat, lgL (evK V) (fun _ => 0) c = [] := fun c => rfl
  obtain ⟨M', b1, b2⟩ := tB_boot n (by omega) (M := t.2.2.1.2.2) (s0 := nd_st0) oy hv pgv (lgL (evK V) (fun _ => 0))
  obtain ⟨X, hX⟩ := b2.1
  obtain ⟨Mc, c1, c2⟩ := rM_become n (by omega) (A := t.2.2.2.2.2.2.2 (ix 0)) (s0 := nd_st0) (b2.2 X hX).1
  obtain ⟨W, w1, w2, w3⟩ := st_1 n hn hv (fun q hq j hj => (pg q hq j hj).1) ej e0 h0 b1 c1
  have tBc : tB n (nI vn) Q (lgL (evK V) (fun _ => 0)) 0 Mc := ⟨b2.1, fun Y hY => by
    obtain ⟨y1, y2⟩ := b2.2 Y hY
    exact ⟨c2 _ _ y1, y2⟩⟩
  have tAm : tA n (nI vn) Q (lgL (evK V) (fun _ => 0)) 0 M' := by
    obtain ⟨M2, f1, f2⟩ := tB_A n (by omega) (K := (t.2.2.1.1, (t.2.2.1.2.1, M'))) b2 (fun x hx => nomatch hx)
    have f1 : some (t.2.2.1.1, (t.2.2.1.2.1, M')) = some (t.2.2.1.1, (t.2.2.1.2.1, M2)) := f1
    injection f1 with f1
    injection f1 with _ f1
    injection f1 with _ f1
    rw [f1]
    exact f2
  have hsT0 : hsT n (nI vn) Q (lgL (evK V) (fun _ => 0)) 0 := ⟨fun k hk => ⟨M', by rw [show k = 0 by omega]; exact b2⟩, fun k hk => ⟨M', by rw [show k = 0 by omega]; exact tAm, fun z => by omega⟩⟩
  have okL0 : okL 0 0 (fun _ => 0) := ⟨rfl, fun _ => Nat.le_refl 0, fun _ _ => rfl⟩
  have hL' : rLg (pI (pI (pI (pI (pI (pI (pI τ.1 3 1) 4 (nI vn)) 9 0) 8 0) 6 0) 5 0) 11 0) 0 0 (fun _ => 0) := ⟨rfl, by omega, okL0, fun i c _ q1 q2 => absurd (show i < 0 from q2) (by omega), fun i hi => by omega, by omega⟩
  have lq : lgL (evT (pI (pI (pI (pI (pI (pI (pI τ.1 3 1) 4 (nI vn)) 9 0) 8 0) 6 0) 5 0) 11 0)) (fun _ => 0) = lgL (evK V) (fun _ => 0) := lg_eq okL0 (fun i hi => absurd hi (by omega))
  obtain ⟨X', x1, x2, x3⟩ := rf_anew n (by omega) (N := 0) (e := 0) (lo := fun _ => 0) (τ := (pI (pI (pI (pI (pI (pI (pI τ.1 3 1) 4 (nI vn)) 9 0) 8 0) 6 0) 5 0) 11 0, (τ.2.1, ((τ.2.2.1.1, (τ.2.2.1.2.1, Q)), τ.2.2.2)))) hv pgv (by rw [lq]; exact hsT0) hL' rfl rfl
  rw [lq] at x2
  refine ⟨Q, _, (pI (pI (pI (pI (pI (pI (pI (pI τ.1 3 1) 4 (nI vn)) 9 0) 8 0) 6 0) 5 0) 11 0) 10 (nI 0), (τ.2.1, ((τ.2.2.1.1, X'), τ.2.2.2))), w3, ?_, ⟨?_, ⟨hV0, hV1, by omega, hTt, okL0, fun i c _ q1 q2 => absurd (show i < 0 from q2) (by omega), hev, by omega⟩, hsT0, ?_, Nat.le_refl 0, rfl, rfl, rfl, tAm, ⟨1, 256, fun _ => 0, ix, ⟨by omega, by omega, rfl, rfl, by omega, by omega⟩, fun i hi => ?_, hin, rfl, fun i hi => by omega, fun i hi => ?_⟩, fun k hk => by omega⟩, hL', ⟨hv, sQ0 vn hv p1⟩, ⟨rfl, rfl, rfl⟩, x2, rfl, x3, rfl, ⟨rfl, rfl⟩, rfl, rfl, rfl, ⟨rfl, fun r a b => w2 r b, rfl, rfl⟩, fun _ => rfl, ⟨fun j hj => ?_, fun _ _ => rfl, fun _ => rfl, rfl, rfl, rfl⟩⟩
  · rw [r1, x1, nb_b1]
  · exact hV
  · refine ⟨o34, fun q hq => ?_⟩
    show (W 0 q = none ∧ _) ∨ ∃ j T Z : Nat, j < 9 ∧ W 0 q = some j ∧ _
    rw [w1 q hq]
    cases x : t.2.1 1 q with
    | none =>
      refine Or.inl ⟨rfl, ?_⟩
      rcases hp q hq with ⟨a, b⟩ | ⟨j', a1, a2, _⟩
      · rw [(r2 q hq).1, b]; decide
      · rw [a2] at x; exact nomatch x
    | some j' =>
      obtain ⟨y1, y2, T', Z', y3⟩ := pg q hq j' x
      exact Or.inr ⟨j', T', Z', y1, rfl, sQ0 q hq y2, y3⟩
  · show W 3 i = _ ∧ _
    rw [w2 3 (by omega)]
    exact hix i hi
  · have i0 : i = 0 := by omega
    subst i0
    refine ⟨show 0 * 256 ≤ 0 by decide, Nat.le_refl 0, rfl, ?_⟩
    show tB n (nI vn) Q _ 0 (if ix 0 = ix 0 then Mc else _)
    rw [if_pos rfl]
    exact tBc
  · show sI (pI (pI (pI (pI (pI (pI (pI (pI τ.1 3 1) 4 (nI vn)) 9 0) 8 0) 6 0) 5 0) 11 0) 10 (nI 0)) j = _
    rw [nb_II, if_neg (by omega), nb_II, if_neg (by omega), nb_II, if_neg (by omega), nb_II, if_neg (by omega), nb_II, if_neg (by omega), nb_II, if_neg (by omega), nb_II, if_neg (by omega), nb_II, if_neg (by omega)]
/-- boot -/
theorem jc_boot (n T L : Nat) (hn : 70000 < n) (v : Int32) (σ : S12) (τ : S19) (h : jA n (tl σ) τ) (hp : rpP (σ.2.1 1) σ.2.2.2.2.2.2.2.2.1 τ.1 (sR τ.2.1 9)) : (df_X12_boot n T L v σ = some (Sum.inr ("java/lang/IllegalArgumentException", σ)) ∧ df_X19_boot n v τ = some (pI τ.1 0 1, τ.2)) ∨ (df_X12_boot n T L v σ = some (Sum.inr ("java/lang/IllegalStateException", σ)) ∧ df_X19_boot n v τ = some (pI τ.1 0 2, τ.2)) ∨ ∃ (t' : S11) (τ' : S19), df_X12_boot n T L v σ = some (Sum.inl (pl σ t')) ∧ df_X19_boot n v τ = some τ' ∧ sI τ'.1 0 = 0 ∧ jA n t' τ' ∧ kB (tl σ) t' ∧ kQ τ τ' := by
  have n1 : ¬ nI 1 = (0 : Int32) := by decide
  obtain ⟨A, hA, rfl⟩ := nI_ex v
  have inE : df_X19_in n (nI A).toInt64 0 3 () = some (if A ≤ 3 then nI 1 else nI 0, ()) := in_b n (b := 3) hA (by omega) rfl
  by_cases d : A ≤ 3
  · have lt0 : ¬ nI A < (0 : Int32) := fun z => by rw [lz_0 hA] at z; omega
    have lt4 : nI A < (4 : Int32) := (show nI A < nI 4 by rw [nI_ltI (by omega) (by omega)]; omega)
    have a3 : nI A &&& 3 = nI A := (nm_m3 (by omega)).trans (by rw [Nat.mod_eq_of_lt (by omega)])
    cases x : σ.2.1 1 A with
    | none =>
      have e0 : sR τ.1 0 A = nI 0 := by
        rcases hp A (by omega) with ⟨a, b⟩ | ⟨j', a1, a2, _⟩
        · exact b
        · rw [a2] at x; exact nomatch x
      refine Or.inr (Or.inl ⟨?_, ?_⟩)
      · unfold df_X12_boot df_X12_boot_0
        rw [if_neg lt0, if_pos lt4, nm_ck (by omega) (by omega), nI_clamp (by omega), x, nb_mN]
      · unfold df_X19_boot df_X19_boot_0 df_X19_boot_18 df_X19_boot_46 df_X19_boot_57
        rw [inE, nb_b2, if_pos d, if_neg n1, nb_b2, if_neg n1, a3, nm_ck (by omega) (by omega), nI_clamp (by omega), e0, if_pos (show nI 0 = (0 : Int32) from rfl), nb_fails, nb_b2]
        rfl
    | some j =>
      have e0 : ¬ sR τ.1 0 A = (0 : Int32) := by
        rcases hp A (by omega) with ⟨a, b⟩ | ⟨j', a1, a2, a3, _⟩
        · rw [a] at x; exact nomatch x
        · rw [a3]; decide
      refine Or.inr (Or.inr ?_)
      obtain ⟨⟨V, hV⟩, oy, o34, ix, hix, hin⟩ := jA_b h
      have hV' : ∃ t1 : S11, df_X11_startWithout n (nI A) (tl σ) = nd_b1 (df_X11_start n (nI A) t1) (fun s7 => some s7) ∧ eA t1 (pI (pI V 0 0) 1 0) ∧ t1.1 = (tl σ).1 ∧ t1.2.1 = (tl σ).2.1 ∧ t1.2.2.1 = (tl σ).2.2.1 ∧ t1.2.2.2.2.2 = (tl σ).2.2.2.2.2 := by
        unfold df_X11_startWithout df_X11_startWithout_0 df_X3_clear df_X3_clear_0
        rcases hV with ⟨o1, o2⟩ | ⟨o1, o2⟩
        · refine ⟨((tl σ).1, ((tl σ).2.1, ((tl σ).2.2.1, (pI (pI V 0 0) 1 0, (tl σ).2.2.2.2)))), ?_, Or.inl ⟨o1, rfl⟩, rfl, rfl, rfl, rfl⟩
          rw [if_pos o1, o2, nb_let, nb_let, nb_b1, nb_let]
        · refine ⟨((tl σ).1, ((tl σ).2.1, ((tl σ).2.2.1, ((tl σ).2.2.2.1, (pI (pI V 0 0) 1 0, (tl σ).2.2.2.2.2))))), ?_, Or.inr ⟨o1, rfl⟩, rfl, rfl, rfl, rfl⟩
          rw [if_neg (show ¬ sO (tl σ).1 0 = some 27 by rw [o1]; decide), if_pos o1, o2, nb_let, nb_let, nb_b1, nb_let]
      obtain ⟨t1, s1, s2, s3, s4, s5, s6⟩ := hV'
      have s7 : t1.2.2.2.2.2.1 = (tl σ).2.2.2.2.2.1 := congrArg Prod.fst s6
      have s8 : t1.2.2.2.2.2.2.1 = (tl σ).2.2.2.2.2.2.1 := congrArg (fun p => p.2.1) s6
      obtain ⟨Q, t', τ', q1, q2, q3, q4, q5, q6, q7, q8, q9, qa, qb, qc, qd, qe, qf, qg, qh⟩ := jm_start n hn (t := t1) (τ := (pI τ.1 0 0, τ.2)) (V := pI (pI V 0 0) 1 0) (vn := A) (Tt := 0) (by omega) s2 rfl rfl (by omega) (fun i hi => by omega) (by rw [s5]; exact oy) (by rw [s5]; exact o34) (ix := ix) (by rw [s4]; exact hix) hin (by rw [s4, s7]; exact hp) (by rw [s4]; exact ⟨j, x⟩)
      have sp := h.1
      refine ⟨t', τ', ?_, ?_, qe.trans rfl, ⟨?_, Or.inr ⟨qc, qd, A, Q, pI (pI V 0 0) 1 0, 0, 0, 0, 0, 0, fun _ => 0, q3, q4, fun i hi => by omega, q5, q6, Nat.le_refl 0, q7, q8, q9, ⟨qa, fun i hi => by omega⟩, qb.1.trans qb.2.symm, Or.inl qb.2⟩⟩, ⟨by rw [qf.1, s3], fun r a b => by rw [qf.2.1 r a b, s4], qf.2.2.1.trans s7, qf.2.2.2.trans s8⟩, ⟨fun i hi => ?_, qh.2.1, qh.2.2.1, qh.2.2.2.1, qh.2.2.2.2.1, qh.2.2.2.2.2⟩⟩
      · unfold df_X12_boot df_X12_boot_0
        have s1 : df_X11_startWithout n (nI A) (σ.2.2.2.2.1, σ.2.1, σ.2.2.2.2.2.1, σ.2.2.2.2.2.2.1, σ.2.2.2.2.2.2.2.1, σ.2.2.2.2.2.2.2.2.1, σ.2.2.2.2.2.2.2.2.2.1, σ.2.2.2.2.2.2.2.2.2.2) = nd_b1 (df_X11_start n (nI A) t1) (fun s7 => some s7) := s1
        rw [if_neg lt0, if_pos lt4, nm_ck (by omega) (by omega), nI_clamp (by omega), x, nb_mS, s1, q1, nb_b1, nb_b1, nb_let]
        rfl
      · unfold df_X19_boot df_X19_boot_0 df_X19_boot_18 df_X19_boot_45 df_X19_boot_46 df_X19_boot_57
        rw [inE, nb_b2, if_pos d, if_neg n1, nb_b2, if_neg n1, a3, nm_ck (by omega) (by omega), nI_clamp (by omega), if_neg e0, nb_fails, nb_b2, if_pos (show (0 : Int32) = 0 ∧ (0 : Int32) = 0 from ⟨rfl, rfl⟩), if_pos rfl, if_pos rfl, if_pos rfl, q2, nb_b1]
      · unfold sp2
        rw [qg 0, qg 1, s3]
        exact sp
      · refine (qh.1 i hi).trans ?_
        show sI (pI τ.1 0 0) i = _
        rw [nb_II, if_neg (by omega)]
  · refine Or.inl ⟨?_, ?_⟩
    · unfold df_X12_boot df_X12_boot_0 df_X12_boot_9
      by_cases y : A < 2 ^ 31
      · rw [if_neg (show ¬ nI A < (0 : Int32) from fun z => by rw [lz_0 hA] at z; omega), if_neg (show ¬ nI A < (4 : Int32) from fun z => by have z : nI A < nI 4 := z; rw [nI_ltI y (by omega)] at z; omega)]
      · rw [if_pos (show nI A < (0 : Int32) by rw [lz_0 hA]; omega)]
    · unfold df_X19_boot df_X19_boot_0 df_X19_boot_18 df_X19_boot_45 df_X19_boot_46 df_X19_boot_57
      rw [inE, nb_b2, if_neg d, if_pos (show nI 0 = (0 : Int32) from rfl), nb_b2, if_pos (show nI 0 = (0 : Int32) from rfl), nb_fails, nb_b2]
      rfl

theorem it_1 (n T L : Nat) {σ : S12} (h : sI (tl σ).1 0 = nI 1) {P : Nat} (hP : P < 2 ^ 32) : df_X12_isThere n T L (nI P) σ = some (if P < 16 then nI 1 else nI 0, σ) := by
  have b1 : ¬ sI σ.2.2.2.2.1 0 = 0 := by
    rw [show sI σ.2.2.2.2.1 0 = nI 1 from h]; decide
  unfold df_X12_isThere df_X12_isThere_0 df_X12_isThere_24 df_X12_isThere_25
  rw [if_neg b1]
  by_cases y : P < 2 ^ 31
  · rw [if_neg (show ¬ nI P < (0 : Int32) from fun z => by rw [lz_0 hP] at z; omega)]
    by_cases y2 : P < 16
    · rw [if_neg (show ¬ (16 : Int32) ≤ nI P from fun z => by have z : nI 16 ≤ nI P := z; rw [nI_leI (by omega) y] at z; omega), if_pos y2, nz_1]
      rfl
    · rw [if_pos (show (16 : Int32) ≤ nI P from (show nI 16 ≤ nI P by rw [nI_leI (by omega) y]; omega)), if_neg y2, nz_0]
      rfl
  · rw [if_pos (show nI P < (0 : Int32) by rw [lz_0 hP]; omega), if_neg (by omega), nz_0]
    rfl
theorem it_0 (n T L : Nat) {σ : S12} (h : sI (tl σ).1 0 = nI 0) (p : Int32) : df_X12_isThere n T L p σ = some (0, σ) := by
  unfold df_X12_isThere df_X12_isThere_0 df_X12_isThere_24 df_X12_isThere_25
  rw [if_pos (show sI σ.2.2.2.2.1 0 = 0 from h), nz_0]
theorem rg_a {A k : Nat} (hA : A < 2 ^ 32) (hk : k < 2 ^ 31) (d : A ≤ k) : ¬ nI A < (0 : Int32) ∧ ¬ nI k < nI A := ⟨fun z => by rw [lz_0 hA] at z; omega, fun z => by rw [nI_ltI hk (by omega)] at z; omega⟩
theorem rg_b {A k : Nat} (hA : A < 2 ^ 32) (hk : k < 2 ^ 31) (d : ¬ A ≤ k) : nI A < (0 : Int32) ∨ (¬ nI A < (0 : Int32) ∧ nI k < nI A) := by
  by_cases y : A < 2 ^ 31
  · exact Or.inr ⟨fun z => by rw [lz_0 hA] at z; omega, by rw [nI_ltI hk y]; omega⟩
  · exact Or.inl (by rw [lz_0 hA]; omega)
theorem rg_c {A k : Nat} (hA : A < 2 ^ 32) (hk : k < 2 ^ 31) (d : A < k) : ¬ nI A < (0 : Int32) ∧ ¬ nI k ≤ nI A := ⟨fun z => by rw [lz_0 hA] at z; omega, fun z => by rw [nI_leI hk (by omega)] at z; omega⟩
theorem rg_d {A k : Nat} (hA : A < 2 ^ 32) (hk : k < 2 ^ 31) (d : ¬ A < k) : nI A < (0 : Int32) ∨ (¬ nI A < (0 : Int32) ∧ nI k ≤ nI A) := by
  by_cases y : A < 2 ^ 31
  · exact Or.inr ⟨fun z => by rw [lz_0 hA] at z; omega, by rw [nI_leI hk y]; omega⟩
  · exact Or.inl (by rw [lz_0 hA]; omega)
theorem rg_e {A k : Nat} (hA : A < 2 ^ 32) (hk : k < 2 ^ 31) (d : ¬ A ≤ k) : nI A < (0 : Int32) ∨ (¬ nI A < (0 : Int32) ∧ ¬ nI A ≤ nI k) := by
  by_cases y : A < 2 ^ 31
  · exact Or.inr ⟨fun z => by rw [lz_0 hA] at z; omega, fun z => by rw [nI_leI y hk] at z; omega⟩
  · exact Or.inl (by rw [lz_0 hA]; omega)
/-- a register, in both -/
theorem sg_reg (n : Nat) {B : Nat} {M X : St × St} (h : rM B M X) {p R : Nat} (hp : p < 16) (hR : R < 33) : ∃ r : Int32, df_X6_registerOf n (nI p) (nI R) M = some (r, M) ∧ df_X16_register n (nI p) (nI R) X = some (r, X) := by
  obtain ⟨t, c, w, b, e, t4, _, _, _, _, e1, e2, _, _, _, _, _, _, _, _, _, _, _, _, _, _, hr, _⟩ := h.2.2.1 p hp
  have u1 : p < 2 ^ 31 := by omega
  have u2 : R < 2 ^ 31 := by omega
  have u3 : t < 2 ^ 31 := by omega
  have u4 : p * 7 < 112 := by omega
  have u5 : p * 33 + R < 528 := by omega
  have k1 : ¬ 15 < p := by omega
  have k2 : ¬ 32 < R := by omega
  by_cases t0 : t = 0
  · subst t0
    refine ⟨nI 0, ?_, ?_⟩
    · simp (disch := (first | assumption | decide | omega)) only [df_X6_registerOf_23, df_X6_registerOf_0, df_X6_registerOf, df_X6_status_0, df_X6_status, e1, Nat.add_zero, eq_self, Nat.reduceEqDiff, Nat.reduceLeDiff, nl_0, nl_3, nl_6, nl_7, nl_33, nl_112, nl_528, no_1, no_1024, pk_mul, nI_add, nm_ck, nI_clamp, nI_ltI, nI_leI, nI_eq, nb_b2, nb_b1, ↓nb_let, nm_z0, nm_z1, nb_II, nb_IR, nb_RI, nb_RR, nm_IL, nm_IQ, nm_RL, nm_RQ, nm_LI, nm_LR, nm_LL, nm_LQ, nm_QI, nm_QR, nm_QL, nm_QQ, nm_rr, nm_ii, nm_eqm, not_false_eq_true, pk_sub, nm_div, nm_shl, nm_shr, nm_ush, nm_or8, nm_or64, nm_or256, nm_m1, nm_m3, nm_m7, nm_m15, nm_m31, nm_m63, nm_m255, nm_m511, nm_m1023, nm_m2047, nm_m65535, Nat.reduceMod, Nat.reducePow, Nat.reduceAdd, Nat.reduceSub, Nat.reduceMul, nm_bo, nm_bi, nm_rc, nm_ic, nm_ri, nm_rl, nm_rq, nm_ql, nm_qi, nm_li, nm_us, nm_uu, nm_cp, nm_sa31, nm_sa7, nm_m127, nm_m2, nm_nz, nm_nzk, nm_eq32, nm_nzf, if_true, if_false, ↓reduceIte, if_pos, if_neg]
    · simp (disch := (first | assumption | decide | omega)) only [df_X16_register_59, df_X16_register_29, df_X16_register_0, df_X16_register, e2, eq_self, Nat.reduceEqDiff, Nat.reduceLeDiff, nl_0, nl_1, nl_9, nl_10, nl_15, nl_16, nl_32, nl_512, no_1, no_1024, pk_mul, nI_add, nm_ck, nI_clamp, nI_ltI, nI_leI, nI_eq, nb_b2, nb_b1, ↓nb_let, nm_z0, nm_z1, nb_II, nb_IR, nb_RI, nb_RR, nm_IL, nm_IQ, nm_RL, nm_RQ, nm_LI, nm_LR, nm_LL, nm_LQ, nm_QI, nm_QR, nm_QL, nm_QQ, nm_rr, nm_ii, nm_eqm, not_false_eq_true, pk_sub, nm_div, nm_shl, nm_shr, nm_ush, nm_or8, nm_or64, nm_or256, nm_m1, nm_m3, nm_m7, nm_m15, nm_m31, nm_m63, nm_m255, nm_m511, nm_m1023, nm_m2047, nm_m65535, Nat.reduceMod, Nat.reducePow, Nat.reduceAdd, Nat.reduceSub, Nat.reduceMul, nm_bo, nm_bi, nm_rc, nm_ic, nm_ri, nm_rl, nm_rq, nm_ql, nm_qi, nm_li, nm_us, nm_uu, nm_cp, nm_sa31, nm_sa7, nm_m127, nm_m2, nm_nz, nm_nzk, nm_eq32, nm_nzf, if_true, if_false, ↓reduceIte, if_pos, if_neg]
  · obtain ⟨r1, r2⟩ := hr t0
    have k3 : ¬ nI t = nI 0 := fun z => by rw [nI_eq u3 (by omega)] at z; exact t0 z
    by_cases c : R = 32
    · subst c
      refine ⟨sR X.1 10 p, ?_, ?_⟩
      · rw [← r2]
        simp (disch := (first | assumption | decide | omega)) only [df_X6_registerOf_23, df_X6_registerOf_0, df_X6_registerOf, df_X6_status_0, df_X6_status, e1, Nat.add_zero, k3, eq_self, Nat.reduceEqDiff, Nat.reduceLeDiff, nl_0, nl_3, nl_6, nl_7, nl_33, nl_112, nl_528, no_1, no_1024, pk_mul, nI_add, nm_ck, nI_clamp, nI_ltI, nI_leI, nI_eq, nb_b2, nb_b1, ↓nb_let, nm_z0, nm_z1, nb_II, nb_IR, nb_RI, nb_RR, nm_IL, nm_IQ, nm_RL, nm_RQ, nm_LI, nm_LR, nm_LL, nm_LQ, nm_QI, nm_QR, nm_QL, nm_QQ, nm_rr, nm_ii, nm_eqm, not_false_eq_true, pk_sub, nm_div, nm_shl, nm_shr, nm_ush, nm_or8, nm_or64, nm_or256, nm_m1, nm_m3, nm_m7, nm_m15, nm_m31, nm_m63, nm_m255, nm_m511, nm_m1023, nm_m2047, nm_m65535, Nat.reduceMod, Nat.reducePow, Nat.reduceAdd, Nat.reduceSub, Nat.reduceMul, nm_bo, nm_bi, nm_rc, nm_ic, nm_ri, nm_rl, nm_rq, nm_ql, nm_qi, nm_li, nm_us, nm_uu, nm_cp, nm_sa31, nm_sa7, nm_m127, nm_m2, nm_nz, nm_nzk, nm_eq32, nm_nzf, if_true, if_false, ↓reduceIte, if_pos, if_neg]
      · simp (disch := (first | assumption | decide | omega)) only [df_X16_register_59, df_X16_register_29, df_X16_register_0, df_X16_register, e2, k3, eq_self, Nat.reduceEqDiff, Nat.reduceLeDiff, nl_0, nl_1, nl_9, nl_10, nl_15, nl_16, nl_32, nl_512, no_1, no_1024, pk_mul, nI_add, nm_ck, nI_clamp, nI_ltI, nI_leI, nI_eq, nb_b2, nb_b1, ↓nb_let, nm_z0, nm_z1, nb_II, nb_IR, nb_RI, nb_RR, nm_IL, nm_IQ, nm_RL, nm_RQ, nm_LI, nm_LR, nm_LL, nm_LQ, nm_QI, nm_QR, nm_QL, nm_QQ, nm_rr, nm_ii, nm_eqm, not_false_eq_true, pk_sub, nm_div, nm_shl, nm_shr, nm_ush, nm_or8, nm_or64, nm_or256, nm_m1, nm_m3, nm_m7, nm_m15, nm_m31, nm_m63, nm_m255, nm_m511, nm_m1023, nm_m2047, nm_m65535, Nat.reduceMod, Nat.reducePow, Nat.reduceAdd, Nat.reduceSub, Nat.reduceMul, nm_bo, nm_bi, nm_rc, nm_ic, nm_ri, nm_rl, nm_rq, nm_ql, nm_qi, nm_li, nm_us, nm_uu, nm_cp, nm_sa31, nm_sa7, nm_m127, nm_m2, nm_nz, nm_nzk, nm_eq32, nm_nzf, if_true, if_false, ↓reduceIte, if_pos, if_neg]
    · have k4 : R < 32 := by omega
      have k5 : ¬ nI R = nI 32 := fun z => by rw [nI_eq u2 (by omega)] at z; exact c z
      have u6 : 32 * p + R < 512 := by omega
      refine ⟨sR X.1 9 (32 * p + R), ?_, ?_⟩
      · rw [← r1 R k4]
        simp (disch := (first | assumption | decide | omega)) only [df_X6_registerOf_23, df_X6_registerOf_0, df_X6_registerOf, df_X6_status_0, df_X6_status, e1, Nat.add_zero, k3, eq_self, Nat.reduceEqDiff, Nat.reduceLeDiff, nl_0, nl_3, nl_6, nl_7, nl_33, nl_112, nl_528, no_1, no_1024, pk_mul, nI_add, nm_ck, nI_clamp, nI_ltI, nI_leI, nI_eq, nb_b2, nb_b1, ↓nb_let, nm_z0, nm_z1, nb_II, nb_IR, nb_RI, nb_RR, nm_IL, nm_IQ, nm_RL, nm_RQ, nm_LI, nm_LR, nm_LL, nm_LQ, nm_QI, nm_QR, nm_QL, nm_QQ, nm_rr, nm_ii, nm_eqm, not_false_eq_true, pk_sub, nm_div, nm_shl, nm_shr, nm_ush, nm_or8, nm_or64, nm_or256, nm_m1, nm_m3, nm_m7, nm_m15, nm_m31, nm_m63, nm_m255, nm_m511, nm_m1023, nm_m2047, nm_m65535, Nat.reduceMod, Nat.reducePow, Nat.reduceAdd, Nat.reduceSub, Nat.reduceMul, nm_bo, nm_bi, nm_rc, nm_ic, nm_ri, nm_rl, nm_rq, nm_ql, nm_qi, nm_li, nm_us, nm_uu, nm_cp, nm_sa31, nm_sa7, nm_m127, nm_m2, nm_nz, nm_nzk, nm_eq32, nm_nzf, if_true, if_false, ↓reduceIte, if_pos, if_neg]
      · simp (disch := (first | assumption | decide | omega)) only [df_X16_register_59, df_X16_register_29, df_X16_register_0, df_X16_register, e2, k3, k5, eq_self, Nat.reduceEqDiff, Nat.reduceLeDiff, nl_0, nl_1, nl_9, nl_10, nl_15, nl_16, nl_32, nl_512, no_1, no_1024, pk_mul, nI_add, nm_ck, nI_clamp, nI_ltI, nI_leI, nI_eq, nb_b2, nb_b1, ↓nb_let, nm_z0, nm_z1, nb_II, nb_IR, nb_RI, nb_RR, nm_IL, nm_IQ, nm_RL, nm_RQ, nm_LI, nm_LR, nm_LL, nm_LQ, nm_QI, nm_QR, nm_QL, nm_QQ, nm_rr, nm_ii, nm_eqm, not_false_eq_true, pk_sub, nm_div, nm_shl, nm_shr, nm_ush, nm_or8, nm_or64, nm_or256, nm_m1, nm_m3, nm_m7, nm_m15, nm_m31, nm_m63, nm_m255, nm_m511, nm_m1023, nm_m2047, nm_m65535, Nat.reduceMod, Nat.reducePow, Nat.reduceAdd, Nat.reduceSub, Nat.reduceMul, nm_bo, nm_bi, nm_rc, nm_ic, nm_ri, nm_rl, nm_rq, nm_ql, nm_qi, nm_li, nm_us, nm_uu, nm_cp, nm_sa31, nm_sa7, nm_m127, nm_m2, nm_nz, nm_nzk, nm_eq32, nm_nzf, if_true, if_false, ↓reduceIte, if_pos, if_neg]
theorem sg_reg0 (n : Nat) (X : St × St) {p R : Nat} (hp : p < 2 ^ 32) (hR : R < 2 ^ 32) (d : ¬ (p < 16 ∧ R < 33)) : df_X16_register n (nI p) (nI R) X = some (0, X) := by
  unfold df_X16_register df_X16_register_0 df_X16_register_29 df_X16_register_59
  by_cases a : p ≤ 15
  · obtain ⟨a1, a2⟩ := rg_a hp (k := 15) (by omega) a
    rw [if_neg a1, if_neg (show ¬ (15 : Int32) < nI p from a2)]
    rcases rg_b hR (k := 32) (by omega) (by omega) with b | ⟨b1, b2⟩
    · rw [if_pos b]
    · rw [if_neg b1, if_pos (show (32 : Int32) < nI R from b2)]
  · rcases rg_b hp (k := 15) (by omega) a with b | ⟨b1, b2⟩
    · rw [if_pos b]
    · rw [if_neg b1, if_pos (show (15 : Int32) < nI p from b2)]
/-- register -/
theorem jc_register (n T L : Nat) (hn : 70000 < n) (p r : Int32) (σ : S12) (τ : S19) (h : jA n (tl σ) τ) : ∃ (v : Int32) (τ' : S19), df_X12_register n T L p r σ = some (v, σ) ∧ df_X19_register n p r τ = some (v, τ') ∧ jA n (tl σ) τ' ∧ kR τ τ' := by
  have n1 : ¬ nI 1 = (0 : Int32) := by decide
  rcases jc_shows n hn h with ⟨h1, h2, h3⟩ | ⟨vn, Q, V, N, T', e, c, lo, τ', h1, h2, h3, h4, h5, h6, h7, h8⟩
  · refine ⟨0, (pI τ.1 0 0, τ.2), ?_, ?_, jA_0 h 0, kR_0 τ 0⟩
    · unfold df_X12_register df_X12_register_0 df_X12_register_33 df_X12_register_34
      rw [it_0 n T L h1, nb_b2, if_pos rfl]
    · unfold df_X19_register df_X19_register_0 df_X19_register_20
      rw [h2, nb_b2, if_pos (show nI 0 = (0 : Int32) from rfl)]
  · obtain ⟨P, hP, rfl⟩ := nI_ex p
    obtain ⟨R, hR, rfl⟩ := nI_ex r
    by_cases d : P < 16 ∧ R < 33
    · obtain ⟨v, e1, e2⟩ := sg_reg n h5 d.1 d.2
      refine ⟨v, τ', ?_, ?_, h8, h7⟩
      · obtain ⟨a1, a2⟩ := rg_c hR (k := 33) (by omega) d.2
        have e1 : df_X6_registerOf n (nI P) (nI R) σ.2.2.2.2.2.1.2.2 = some (v, σ.2.2.2.2.2.1.2.2) := e1
        unfold df_X12_register df_X12_register_0 df_X12_register_34
        rw [it_1 n T L h1 hP, nb_b2, if_pos d.1, if_neg n1, if_neg a1, if_neg (show ¬ (33 : Int32) ≤ nI R from a2), e1, nb_b2, nb_let]
      · unfold df_X19_register df_X19_register_0 df_X19_register_20
        rw [h2, nb_b2, if_neg n1, e2, nb_b2, nb_let]
    · refine ⟨0, τ', ?_, ?_, h8, h7⟩
      · unfold df_X12_register df_X12_register_0 df_X12_register_33 df_X12_register_34
        rw [it_1 n T L h1 hP, nb_b2]
        by_cases y : P < 16
        · rw [if_pos y, if_neg n1]
          rcases rg_d hR (k := 33) (by omega) (fun z => d ⟨y, z⟩) with b | ⟨b1, b2⟩
          · rw [if_pos b]
          · rw [if_neg b1, if_pos (show (33 : Int32) ≤ nI R from b2)]
        · rw [if_neg y, if_pos (show nI 0 = (0 : Int32) from rfl)]
      · unfold df_X19_register df_X19_register_0 df_X19_register_20
        rw [h2, nb_b2, if_neg n1, sg_reg0 n _ hP hR d, nb_b2, nb_let]
/-- how many pages a process has, in both -/
def pgB (X : St × St) (p k : Nat) : Bool := !decide (sR X.1 16 (64 * p + k) = -nI 1)
theorem sg_pgs (n : Nat) (hn : 1024 < n) {B : Nat} {M X : St × St} (h : rM B M X) {p W : Nat} (hp : p < 16) (hW : W ≤ 7) : df_X6_pagesOf n (nI p) M = some (nI (cN (pgB X p) 64), M) ∧ ∃ m : Nat, df_X16_process n (nI p) (nI W) X = df_X16_process_27 n (m + 1) (nI p) (nI W) (nI (cN (pgB X p) 64)) (nI 64) X := by
  have hk : ∀ k : Nat, k < 64 → (sR X.1 16 (64 * p + k) = -nI 1 ∧ sR M.1 2 (64 * p + k) = nI 0) ∨ ((¬ sR X.1 16 (64 * p + k) = -nI 1) ∧ ¬ sR M.1 2 (64 * p + k) = nI 0) := fun k hk => by
    rcases h.1.1 (64 * p + k) (by omega) with a | ⟨f, r, f1, f2, f3, f4, f5, f6, f7⟩
    · exact Or.inl a
    · exact Or.inr ⟨by rw [f4]; exact nk_ne (by omega), by rw [f6]; exact nI_ne0 (by omega) (by omega)⟩
  have cle : ∀ k : Nat, k ≤ 64 → cN (pgB X p) k ≤ 64 := fun k hk => Nat.le_trans (cN_le _ _) hk
  constructor
  · obtain ⟨m, e⟩ := nm_lq (fun g k => df_X6_pagesOf_4 n g (nI p) (nI (cN (pgB X p) k)) (nI k) M) 64 n (by omega) (fun k m hk' => by
      have u1 : p < 2 ^ 31 := by omega
      have u2 : k < 2 ^ 31 := by omega
      have or_ : (nI p <<< ((6 : Int32) &&& 31)) ||| nI k = nI (64 * p + k) := nb_or hp hk'
      show dF_X6_pagesOf_4 n (df_X6_pagesOf_4 n m) (nI p) (nI (cN (pgB X p) k)) (nI k) M = df_X6_pagesOf_4 n m (nI p) (nI (cN (pgB X p) (k + 1))) (nI (k + 1)) M
      generalize df_X6_pagesOf_4 n m = G
      unfold dF_X6_pagesOf_4 df_X6_pagesOf_27
      rw [if_neg (show ¬ (64 : Int32) ≤ nI k from fun z => by have z : nI 64 ≤ nI k := z; rw [nI_leI (by omega) u2] at z; omega), or_, nm_ck (by omega) (by omega), nI_clamp (by omega), show nI k + Int32.ofInt 1 = nI (k + 1) from nI_add .., cN_s]
      rcases hk k hk' with ⟨a, b⟩ | ⟨a, b⟩
      · rw [if_pos (show sR M.1 2 (64 * p + k) = 0 from b), nb_let, show pgB X p k = false by unfold pgB; rw [decide_eq_true a]; rfl]
        rfl
      · rw [if_neg (show ¬ sR M.1 2 (64 * p + k) = 0 from b), nb_let, nb_let, show pgB X p k = true by unfold pgB; rw [decide_eq_false a]; rfl, show nI (cN (pgB X p) k) + Int32.ofInt 1 = nI (cN (pgB X p) k + 1) from nI_add ..]
        rfl)
    refine Eq.trans e ?_
    show dF_X6_pagesOf_4 n (df_X6_pagesOf_4 n m) (nI p) (nI (cN (pgB X p) 64)) (nI 64) M = _
    unfold dF_X6_pagesOf_4
    rw [if_pos (show (64 : Int32) ≤ nI 64 by decide)]
  · obtain ⟨m, e⟩ := nm_lq (fun g k => df_X16_process_27 n g (nI p) (nI W) (nI (cN (pgB X p) k)) (nI k) X) 64 n (by omega) (fun k m hk' => by
      have u2 : k < 2 ^ 31 := by omega
      show dF_X16_process_27 n (df_X16_process_27 n m) (nI p) (nI W) (nI (cN (pgB X p) k)) (nI k) X = df_X16_process_27 n m (nI p) (nI W) (nI (cN (pgB X p) (k + 1))) (nI (k + 1)) X
      generalize df_X16_process_27 n m = G
      unfold dF_X16_process_27 df_X16_process_57
      rw [if_neg (show ¬ (64 : Int32) ≤ nI k from fun z => by have z : nI 64 ≤ nI k := z; rw [nI_leI (by omega) u2] at z; omega), show (64 : Int32) * nI p + nI k = nI (64 * p + k) by rw [show (64 : Int32) * nI p = nI (64 * p) from pk_mul .., nI_add], nm_ck (by omega) (by omega), nI_clamp (by omega), show nI k + Int32.ofInt 1 = nI (k + 1) from nI_add .., cN_s, nb_let, nb_let]
      rcases hk k hk' with ⟨a, b⟩ | ⟨a, b⟩
      · rw [if_pos (show sR X.1 16 (64 * p + k) = -1 from a), show pgB X p k = false by unfold pgB; rw [decide_eq_true a]; rfl]
        rfl
      · rw [if_neg (show ¬ sR X.1 16 (64 * p + k) = -1 from a), show pgB X p k = true by unfold pgB; rw [decide_eq_false a]; rfl, show nI (cN (pgB X p) k) + 1 = nI (cN (pgB X p) k + 1) from nI_add ..]
        rfl)
    refine ⟨m, ?_⟩
    unfold df_X16_process df_X16_process_0
    obtain ⟨a1, a2⟩ := rg_a (A := p) (k := 15) (by omega) (by omega) (by omega)
    obtain ⟨b1, b2⟩ := rg_a (A := W) (k := 7) (by omega) (by omega) (by omega)
    rw [if_neg a1, if_neg (show ¬ (15 : Int32) < nI p from a2), if_neg b1, if_pos (show nI W ≤ (7 : Int32) from (show nI W ≤ nI 7 by rw [nI_leI (by omega) (by omega)]; exact hW))]
    exact e
/-- what is told of a process, in both -/
theorem sg_told (n : Nat) (hn : 1024 < n) {B : Nat} {M X : St × St} (h : rM B M X) {p W : Nat} (hp : p < 16) (hW : W ≤ 7) : ∃ r : Int32, df_X6_told n (nI p) (nI W) M = some (r, M) ∧ df_X16_process n (nI p) (nI W) X = some (r, X) := by
  obtain ⟨g1, m, g2⟩ := sg_pgs n hn h hp hW
  obtain ⟨t, c, w, b, e, t4, c5, w2, b6, e6, e1, e2, e3, e4, e5, ee, en, f1, f2, f3, f4, f5, f6, f7, f8, _, hr, _, _, hw, hw2⟩ := h.2.2.1 p hp
  have u1 : p < 2 ^ 31 := by omega
  have u3 : t < 2 ^ 31 := by omega
  have v0 : p * 7 < 112 := by omega
  have v1 : p * 7 + 1 < 112 := by omega
  have v2 : p * 7 + 2 < 112 := by omega
  have v3 : p * 7 + 3 < 112 := by omega
  have v4 : p * 7 + 4 < 112 := by omega
  have v6 : p * 7 + 6 < 112 := by omega
  rw [g2]
  show ∃ r : Int32, _ ∧ dF_X16_process_27 n (df_X16_process_27 n m) (nI p) (nI W) (nI (cN (pgB X p) 64)) (nI 64) X = some (r, X)
  generalize df_X16_process_27 n m = G
  have q64 : ¬ ¬ (64 : Int32) ≤ nI 64 := fun z => z (by decide)
  have hWs : W = 0 ∨ W = 1 ∨ W = 2 ∨ W = 3 ∨ W = 4 ∨ W = 5 ∨ W = 6 ∨ W = 7 := by omega
  unfold dF_X16_process_27
  rw [if_pos (show (64 : Int32) ≤ nI 64 by decide)]
  rcases hWs with rfl | rfl | rfl | rfl | rfl | rfl | rfl | rfl
  · refine ⟨nI t, ?_, ?_⟩
    · simp (disch := (first | assumption | decide | omega)) only [df_X6_told_72, df_X6_told_0, df_X6_told, e1, Nat.add_zero, eq_self, Nat.reduceEqDiff, Nat.reduceLeDiff, nl_1, nl_2, nl_3, nl_5, nl_6, nl_7, nl_17, nl_33, nl_112, nl_528, no_1, no_1024, pk_mul, nI_add, nm_ck, nI_clamp, nI_ltI, nI_leI, nI_eq, nb_b2, nb_b1, ↓nb_let, nm_z0, nm_z1, nb_II, nb_IR, nb_RI, nb_RR, nm_IL, nm_IQ, nm_RL, nm_RQ, nm_LI, nm_LR, nm_LL, nm_LQ, nm_QI, nm_QR, nm_QL, nm_QQ, nm_rr, nm_ii, nm_eqm, not_false_eq_true, pk_sub, nm_div, nm_shl, nm_shr, nm_ush, nm_or8, nm_or64, nm_or256, nm_m1, nm_m3, nm_m7, nm_m15, nm_m31, nm_m63, nm_m255, nm_m511, nm_m1023, nm_m2047, nm_m65535, Nat.reduceMod, Nat.reducePow, Nat.reduceAdd, Nat.reduceSub, Nat.reduceMul, nm_bo, nm_bi, nm_rc, nm_ic, nm_ri, nm_rl, nm_rq, nm_ql, nm_qi, nm_li, nm_us, nm_uu, nm_cp, nm_sa31, nm_sa7, nm_m127, nm_m2, nm_nz, nm_nzk, nm_eq32, nm_nzf, if_true, if_false, ↓reduceIte, if_pos, if_neg]
    · simp (disch := (first | assumption | decide | omega)) only [df_X16_process_20, df_X16_process_142, df_X16_process_164, df_X16_process_57, df_X16_process_0, df_X16_process, e2, eq_self, Nat.reduceEqDiff, Nat.reduceLeDiff, nl_0, nl_1, nl_7, nl_15, no_1, no_1024, pk_mul, nI_add, nm_ck, nI_clamp, nI_ltI, nI_leI, nI_eq, nb_b2, nb_b1, ↓nb_let, nm_z0, nm_z1, nb_II, nb_IR, nb_RI, nb_RR, nm_IL, nm_IQ, nm_RL, nm_RQ, nm_LI, nm_LR, nm_LL, nm_LQ, nm_QI, nm_QR, nm_QL, nm_QQ, nm_rr, nm_ii, nm_eqm, not_false_eq_true, pk_sub, nm_div, nm_shl, nm_shr, nm_ush, nm_or8, nm_or64, nm_or256, nm_m1, nm_m3, nm_m7, nm_m15, nm_m31, nm_m63, nm_m255, nm_m511, nm_m1023, nm_m2047, nm_m65535, Nat.reduceMod, Nat.reducePow, Nat.reduceAdd, Nat.reduceSub, Nat.reduceMul, nm_bo, nm_bi, nm_rc, nm_ic, nm_ri, nm_rl, nm_rq, nm_ql, nm_qi, nm_li, nm_us, nm_uu, nm_cp, nm_sa31, nm_sa7, nm_m127, nm_m2, nm_nz, nm_nzk, nm_eq32, nm_nzf, if_true, if_false, ↓reduceIte, if_pos, if_neg]
  · refine ⟨sR X.1 2 p, ?_, ?_⟩
    · simp (disch := (first | assumption | decide | omega)) only [df_X6_told_72, df_X6_told_0, df_X6_told, e3, eq_self, Nat.reduceEqDiff, Nat.reduceLeDiff, nl_1, nl_2, nl_3, nl_5, nl_6, nl_7, nl_17, nl_33, nl_112, nl_528, no_1, no_1024, pk_mul, nI_add, nm_ck, nI_clamp, nI_ltI, nI_leI, nI_eq, nb_b2, nb_b1, ↓nb_let, nm_z0, nm_z1, nb_II, nb_IR, nb_RI, nb_RR, nm_IL, nm_IQ, nm_RL, nm_RQ, nm_LI, nm_LR, nm_LL, nm_LQ, nm_QI, nm_QR, nm_QL, nm_QQ, nm_rr, nm_ii, nm_eqm, not_false_eq_true, pk_sub, nm_div, nm_shl, nm_shr, nm_ush, nm_or8, nm_or64, nm_or256, nm_m1, nm_m3, nm_m7, nm_m15, nm_m31, nm_m63, nm_m255, nm_m511, nm_m1023, nm_m2047, nm_m65535, Nat.reduceMod, Nat.reducePow, Nat.reduceAdd, Nat.reduceSub, Nat.reduceMul, nm_bo, nm_bi, nm_rc, nm_ic, nm_ri, nm_rl, nm_rq, nm_ql, nm_qi, nm_li, nm_us, nm_uu, nm_cp, nm_sa31, nm_sa7, nm_m127, nm_m2, nm_nz, nm_nzk, nm_eq32, nm_nzf, if_true, if_false, ↓reduceIte, if_pos, if_neg]
    · simp (disch := (first | assumption | decide | omega)) only [df_X16_process_20, df_X16_process_142, df_X16_process_164, df_X16_process_57, df_X16_process_0, df_X16_process, e2, eq_self, Nat.reduceEqDiff, Nat.reduceLeDiff, nl_0, nl_1, nl_7, nl_15, no_1, no_1024, pk_mul, nI_add, nm_ck, nI_clamp, nI_ltI, nI_leI, nI_eq, nb_b2, nb_b1, ↓nb_let, nm_z0, nm_z1, nb_II, nb_IR, nb_RI, nb_RR, nm_IL, nm_IQ, nm_RL, nm_RQ, nm_LI, nm_LR, nm_LL, nm_LQ, nm_QI, nm_QR, nm_QL, nm_QQ, nm_rr, nm_ii, nm_eqm, not_false_eq_true, pk_sub, nm_div, nm_shl, nm_shr, nm_ush, nm_or8, nm_or64, nm_or256, nm_m1, nm_m3, nm_m7, nm_m15, nm_m31, nm_m63, nm_m255, nm_m511, nm_m1023, nm_m2047, nm_m65535, Nat.reduceMod, Nat.reducePow, Nat.reduceAdd, Nat.reduceSub, Nat.reduceMul, nm_bo, nm_bi, nm_rc, nm_ic, nm_ri, nm_rl, nm_rq, nm_ql, nm_qi, nm_li, nm_us, nm_uu, nm_cp, nm_sa31, nm_sa7, nm_m127, nm_m2, nm_nz, nm_nzk, nm_eq32, nm_nzf, if_true, if_false, ↓reduceIte, if_pos, if_neg]
  · by_cases t3 : t = 3
    · obtain ⟨z, z1, z2, z3⟩ := ee t3
      subst t3
      refine ⟨nI z, ?_, ?_⟩
      · simp (disch := (first | assumption | decide | omega)) only [df_X6_told_72, df_X6_told_0, df_X6_told, z2, eq_self, Nat.reduceEqDiff, Nat.reduceLeDiff, nl_1, nl_2, nl_3, nl_5, nl_6, nl_7, nl_17, nl_33, nl_112, nl_528, no_1, no_1024, pk_mul, nI_add, nm_ck, nI_clamp, nI_ltI, nI_leI, nI_eq, nb_b2, nb_b1, ↓nb_let, nm_z0, nm_z1, nb_II, nb_IR, nb_RI, nb_RR, nm_IL, nm_IQ, nm_RL, nm_RQ, nm_LI, nm_LR, nm_LL, nm_LQ, nm_QI, nm_QR, nm_QL, nm_QQ, nm_rr, nm_ii, nm_eqm, not_false_eq_true, pk_sub, nm_div, nm_shl, nm_shr, nm_ush, nm_or8, nm_or64, nm_or256, nm_m1, nm_m3, nm_m7, nm_m15, nm_m31, nm_m63, nm_m255, nm_m511, nm_m1023, nm_m2047, nm_m65535, Nat.reduceMod, Nat.reducePow, Nat.reduceAdd, Nat.reduceSub, Nat.reduceMul, nm_bo, nm_bi, nm_rc, nm_ic, nm_ri, nm_rl, nm_rq, nm_ql, nm_qi, nm_li, nm_us, nm_uu, nm_cp, nm_sa31, nm_sa7, nm_m127, nm_m2, nm_nz, nm_nzk, nm_eq32, nm_nzf, if_true, if_false, ↓reduceIte, if_pos, if_neg]
      · simp (disch := (first | assumption | decide | omega)) only [df_X16_process_20, df_X16_process_142, df_X16_process_164, df_X16_process_57, df_X16_process_0, df_X16_process, e2, z3, eq_self, Nat.reduceEqDiff, Nat.reduceLeDiff, nl_0, nl_1, nl_7, nl_15, no_1, no_1024, pk_mul, nI_add, nm_ck, nI_clamp, nI_ltI, nI_leI, nI_eq, nb_b2, nb_b1, ↓nb_let, nm_z0, nm_z1, nb_II, nb_IR, nb_RI, nb_RR, nm_IL, nm_IQ, nm_RL, nm_RQ, nm_LI, nm_LR, nm_LL, nm_LQ, nm_QI, nm_QR, nm_QL, nm_QQ, nm_rr, nm_ii, nm_eqm, not_false_eq_true, pk_sub, nm_div, nm_shl, nm_shr, nm_ush, nm_or8, nm_or64, nm_or256, nm_m1, nm_m3, nm_m7, nm_m15, nm_m31, nm_m63, nm_m255, nm_m511, nm_m1023, nm_m2047, nm_m65535, Nat.reduceMod, Nat.reducePow, Nat.reduceAdd, Nat.reduceSub, Nat.reduceMul, nm_bo, nm_bi, nm_rc, nm_ic, nm_ri, nm_rl, nm_rq, nm_ql, nm_qi, nm_li, nm_us, nm_uu, nm_cp, nm_sa31, nm_sa7, nm_m127, nm_m2, nm_nz, nm_nzk, nm_eq32, nm_nzf, if_true, if_false, ↓reduceIte, if_pos, if_neg]
    · have k3 : ¬ nI t = nI 3 := fun z => by rw [nI_eq u3 (by omega)] at z; exact t3 z
      have en := en t3
      refine ⟨nI 0, ?_, ?_⟩
      · simp (disch := (first | assumption | decide | omega)) only [df_X6_told_72, df_X6_told_0, df_X6_told, en, eq_self, Nat.reduceEqDiff, Nat.reduceLeDiff, nl_1, nl_2, nl_3, nl_5, nl_6, nl_7, nl_17, nl_33, nl_112, nl_528, no_1, no_1024, pk_mul, nI_add, nm_ck, nI_clamp, nI_ltI, nI_leI, nI_eq, nb_b2, nb_b1, ↓nb_let, nm_z0, nm_z1, nb_II, nb_IR, nb_RI, nb_RR, nm_IL, nm_IQ, nm_RL, nm_RQ, nm_LI, nm_LR, nm_LL, nm_LQ, nm_QI, nm_QR, nm_QL, nm_QQ, nm_rr, nm_ii, nm_eqm, not_false_eq_true, pk_sub, nm_div, nm_shl, nm_shr, nm_ush, nm_or8, nm_or64, nm_or256, nm_m1, nm_m3, nm_m7, nm_m15, nm_m31, nm_m63, nm_m255, nm_m511, nm_m1023, nm_m2047, nm_m65535, Nat.reduceMod, Nat.reducePow, Nat.reduceAdd, Nat.reduceSub, Nat.reduceMul, nm_bo, nm_bi, nm_rc, nm_ic, nm_ri, nm_rl, nm_rq, nm_ql, nm_qi, nm_li, nm_us, nm_uu, nm_cp, nm_sa31, nm_sa7, nm_m127, nm_m2, nm_nz, nm_nzk, nm_eq32, nm_nzf, if_true, if_false, ↓reduceIte, if_pos, if_neg]
      · simp (disch := (first | assumption | decide | omega)) only [df_X16_process_20, df_X16_process_142, df_X16_process_164, df_X16_process_57, df_X16_process_0, df_X16_process, e2, k3, eq_self, Nat.reduceEqDiff, Nat.reduceLeDiff, nl_0, nl_1, nl_3, nl_7, nl_15, no_1, no_1024, pk_mul, nI_add, nm_ck, nI_clamp, nI_ltI, nI_leI, nI_eq, nb_b2, nb_b1, ↓nb_let, nm_z0, nm_z1, nb_II, nb_IR, nb_RI, nb_RR, nm_IL, nm_IQ, nm_RL, nm_RQ, nm_LI, nm_LR, nm_LL, nm_LQ, nm_QI, nm_QR, nm_QL, nm_QQ, nm_rr, nm_ii, nm_eqm, not_false_eq_true, pk_sub, nm_div, nm_shl, nm_shr, nm_ush, nm_or8, nm_or64, nm_or256, nm_m1, nm_m3, nm_m7, nm_m15, nm_m31, nm_m63, nm_m255, nm_m511, nm_m1023, nm_m2047, nm_m65535, Nat.reduceMod, Nat.reducePow, Nat.reduceAdd, Nat.reduceSub, Nat.reduceMul, nm_bo, nm_bi, nm_rc, nm_ic, nm_ri, nm_rl, nm_rq, nm_ql, nm_qi, nm_li, nm_us, nm_uu, nm_cp, nm_sa31, nm_sa7, nm_m127, nm_m2, nm_nz, nm_nzk, nm_eq32, nm_nzf, if_true, if_false, ↓reduceIte, if_pos, if_neg]
  · refine ⟨nI (2 * c), ?_, ?_⟩
    · simp (disch := (first | assumption | decide | omega)) only [df_X6_told_72, df_X6_told_0, df_X6_told, f1, eq_self, Nat.reduceEqDiff, Nat.reduceLeDiff, nl_1, nl_2, nl_3, nl_5, nl_6, nl_7, nl_17, nl_33, nl_112, nl_528, no_1, no_1024, pk_mul, nI_add, nm_ck, nI_clamp, nI_ltI, nI_leI, nI_eq, nb_b2, nb_b1, ↓nb_let, nm_z0, nm_z1, nb_II, nb_IR, nb_RI, nb_RR, nm_IL, nm_IQ, nm_RL, nm_RQ, nm_LI, nm_LR, nm_LL, nm_LQ, nm_QI, nm_QR, nm_QL, nm_QQ, nm_rr, nm_ii, nm_eqm, not_false_eq_true, pk_sub, nm_div, nm_shl, nm_shr, nm_ush, nm_or8, nm_or64, nm_or256, nm_m1, nm_m3, nm_m7, nm_m15, nm_m31, nm_m63, nm_m255, nm_m511, nm_m1023, nm_m2047, nm_m65535, Nat.reduceMod, Nat.reducePow, Nat.reduceAdd, Nat.reduceSub, Nat.reduceMul, nm_bo, nm_bi, nm_rc, nm_ic, nm_ri, nm_rl, nm_rq, nm_ql, nm_qi, nm_li, nm_us, nm_uu, nm_cp, nm_sa31, nm_sa7, nm_m127, nm_m2, nm_nz, nm_nzk, nm_eq32, nm_nzf, if_true, if_false, ↓reduceIte, if_pos, if_neg]
    · simp (disch := (first | assumption | decide | omega)) only [df_X16_process_20, df_X16_process_142, df_X16_process_164, df_X16_process_57, df_X16_process_0, df_X16_process, f2, eq_self, Nat.reduceEqDiff, Nat.reduceLeDiff, nl_0, nl_1, nl_7, nl_15, no_1, no_1024, pk_mul, nI_add, nm_ck, nI_clamp, nI_ltI, nI_leI, nI_eq, nb_b2, nb_b1, ↓nb_let, nm_z0, nm_z1, nb_II, nb_IR, nb_RI, nb_RR, nm_IL, nm_IQ, nm_RL, nm_RQ, nm_LI, nm_LR, nm_LL, nm_LQ, nm_QI, nm_QR, nm_QL, nm_QQ, nm_rr, nm_ii, nm_eqm, not_false_eq_true, pk_sub, nm_div, nm_shl, nm_shr, nm_ush, nm_or8, nm_or64, nm_or256, nm_m1, nm_m3, nm_m7, nm_m15, nm_m31, nm_m63, nm_m255, nm_m511, nm_m1023, nm_m2047, nm_m65535, Nat.reduceMod, Nat.reducePow, Nat.reduceAdd, Nat.reduceSub, Nat.reduceMul, nm_bo, nm_bi, nm_rc, nm_ic, nm_ri, nm_rl, nm_rq, nm_ql, nm_qi, nm_li, nm_us, nm_uu, nm_cp, nm_sa31, nm_sa7, nm_m127, nm_m2, nm_nz, nm_nzk, nm_eq32, nm_nzf, if_true, if_false, ↓reduceIte, if_pos, if_neg]
  · have hw01 : w = 0 ∨ w = 1 := by omega
    refine ⟨nI w, ?_, ?_⟩
    · simp (disch := (first | assumption | decide | omega)) only [df_X6_told_72, df_X6_told_0, df_X6_told, f3, eq_self, Nat.reduceEqDiff, Nat.reduceLeDiff, nl_1, nl_2, nl_3, nl_5, nl_6, nl_7, nl_17, nl_33, nl_112, nl_528, no_1, no_1024, pk_mul, nI_add, nm_ck, nI_clamp, nI_ltI, nI_leI, nI_eq, nb_b2, nb_b1, ↓nb_let, nm_z0, nm_z1, nb_II, nb_IR, nb_RI, nb_RR, nm_IL, nm_IQ, nm_RL, nm_RQ, nm_LI, nm_LR, nm_LL, nm_LQ, nm_QI, nm_QR, nm_QL, nm_QQ, nm_rr, nm_ii, nm_eqm, not_false_eq_true, pk_sub, nm_div, nm_shl, nm_shr, nm_ush, nm_or8, nm_or64, nm_or256, nm_m1, nm_m3, nm_m7, nm_m15, nm_m31, nm_m63, nm_m255, nm_m511, nm_m1023, nm_m2047, nm_m65535, Nat.reduceMod, Nat.reducePow, Nat.reduceAdd, Nat.reduceSub, Nat.reduceMul, nm_bo, nm_bi, nm_rc, nm_ic, nm_ri, nm_rl, nm_rq, nm_ql, nm_qi, nm_li, nm_us, nm_uu, nm_cp, nm_sa31, nm_sa7, nm_m127, nm_m2, nm_nz, nm_nzk, nm_eq32, nm_nzf, if_true, if_false, ↓reduceIte, if_pos, if_neg]
    · rcases hw01 with rfl | rfl
      · simp (disch := (first | assumption | decide | omega)) only [df_X16_process_20, df_X16_process_142, df_X16_process_164, df_X16_process_57, df_X16_process_0, df_X16_process, f4, eq_self, Nat.reduceEqDiff, Nat.reduceLeDiff, nl_0, nl_1, nl_7, nl_15, no_1, no_1024, pk_mul, nI_add, nm_ck, nI_clamp, nI_ltI, nI_leI, nI_eq, nb_b2, nb_b1, ↓nb_let, nm_z0, nm_z1, nb_II, nb_IR, nb_RI, nb_RR, nm_IL, nm_IQ, nm_RL, nm_RQ, nm_LI, nm_LR, nm_LL, nm_LQ, nm_QI, nm_QR, nm_QL, nm_QQ, nm_rr, nm_ii, nm_eqm, not_false_eq_true, pk_sub, nm_div, nm_shl, nm_shr, nm_ush, nm_or8, nm_or64, nm_or256, nm_m1, nm_m3, nm_m7, nm_m15, nm_m31, nm_m63, nm_m255, nm_m511, nm_m1023, nm_m2047, nm_m65535, Nat.reduceMod, Nat.reducePow, Nat.reduceAdd, Nat.reduceSub, Nat.reduceMul, nm_bo, nm_bi, nm_rc, nm_ic, nm_ri, nm_rl, nm_rq, nm_ql, nm_qi, nm_li, nm_us, nm_uu, nm_cp, nm_sa31, nm_sa7, nm_m127, nm_m2, nm_nz, nm_nzk, nm_eq32, nm_nzf, if_true, if_false, ↓reduceIte, if_pos, if_neg]
      · simp (disch := (first | assumption | decide | omega)) only [df_X16_process_20, df_X16_process_142, df_X16_process_164, df_X16_process_57, df_X16_process_0, df_X16_process, f4, eq_self, Nat.reduceEqDiff, Nat.reduceLeDiff, nl_0, nl_1, nl_7, nl_15, no_1, no_1024, pk_mul, nI_add, nm_ck, nI_clamp, nI_ltI, nI_leI, nI_eq, nb_b2, nb_b1, ↓nb_let, nm_z0, nm_z1, nb_II, nb_IR, nb_RI, nb_RR, nm_IL, nm_IQ, nm_RL, nm_RQ, nm_LI, nm_LR, nm_LL, nm_LQ, nm_QI, nm_QR, nm_QL, nm_QQ, nm_rr, nm_ii, nm_eqm, not_false_eq_true, pk_sub, nm_div, nm_shl, nm_shr, nm_ush, nm_or8, nm_or64, nm_or256, nm_m1, nm_m3, nm_m7, nm_m15, nm_m31, nm_m63, nm_m255, nm_m511, nm_m1023, nm_m2047, nm_m65535, Nat.reduceMod, Nat.reducePow, Nat.reduceAdd, Nat.reduceSub, Nat.reduceMul, nm_bo, nm_bi, nm_rc, nm_ic, nm_ri, nm_rl, nm_rq, nm_ql, nm_qi, nm_li, nm_us, nm_uu, nm_cp, nm_sa31, nm_sa7, nm_m127, nm_m2, nm_nz, nm_nzk, nm_eq32, nm_nzf, if_true, if_false, ↓reduceIte, if_pos, if_neg]
  · refine ⟨nI (cN (pgB X p) 64), ?_, ?_⟩
    · simp (disch := (first | assumption | decide | omega)) only [df_X6_told_72, df_X6_told_0, df_X6_told, g1, eq_self, Nat.reduceEqDiff, Nat.reduceLeDiff, nl_1, nl_2, nl_3, nl_5, nl_6, nl_7, nl_17, nl_33, nl_112, nl_528, no_1, no_1024, pk_mul, nI_add, nm_ck, nI_clamp, nI_ltI, nI_leI, nI_eq, nb_b2, nb_b1, ↓nb_let, nm_z0, nm_z1, nb_II, nb_IR, nb_RI, nb_RR, nm_IL, nm_IQ, nm_RL, nm_RQ, nm_LI, nm_LR, nm_LL, nm_LQ, nm_QI, nm_QR, nm_QL, nm_QQ, nm_rr, nm_ii, nm_eqm, not_false_eq_true, pk_sub, nm_div, nm_shl, nm_shr, nm_ush, nm_or8, nm_or64, nm_or256, nm_m1, nm_m3, nm_m7, nm_m15, nm_m31, nm_m63, nm_m255, nm_m511, nm_m1023, nm_m2047, nm_m65535, Nat.reduceMod, Nat.reducePow, Nat.reduceAdd, Nat.reduceSub, Nat.reduceMul, nm_bo, nm_bi, nm_rc, nm_ic, nm_ri, nm_rl, nm_rq, nm_ql, nm_qi, nm_li, nm_us, nm_uu, nm_cp, nm_sa31, nm_sa7, nm_m127, nm_m2, nm_nz, nm_nzk, nm_eq32, nm_nzf, if_true, if_false, ↓reduceIte, if_pos, if_neg]
    · simp (disch := (first | assumption | decide | omega)) only [df_X16_process_20, df_X16_process_142, df_X16_process_164, df_X16_process_57, df_X16_process_0, df_X16_process, g1, eq_self, Nat.reduceEqDiff, Nat.reduceLeDiff, nl_0, nl_1, nl_7, nl_15, no_1, no_1024, pk_mul, nI_add, nm_ck, nI_clamp, nI_ltI, nI_leI, nI_eq, nb_b2, nb_b1, ↓nb_let, nm_z0, nm_z1, nb_II, nb_IR, nb_RI, nb_RR, nm_IL, nm_IQ, nm_RL, nm_RQ, nm_LI, nm_LR, nm_LL, nm_LQ, nm_QI, nm_QR, nm_QL, nm_QQ, nm_rr, nm_ii, nm_eqm, not_false_eq_true, pk_sub, nm_div, nm_shl, nm_shr, nm_ush, nm_or8, nm_or64, nm_or256, nm_m1, nm_m3, nm_m7, nm_m15, nm_m31, nm_m63, nm_m255, nm_m511, nm_m1023, nm_m2047, nm_m65535, Nat.reduceMod, Nat.reducePow, Nat.reduceAdd, Nat.reduceSub, Nat.reduceMul, nm_bo, nm_bi, nm_rc, nm_ic, nm_ri, nm_rl, nm_rq, nm_ql, nm_qi, nm_li, nm_us, nm_uu, nm_cp, nm_sa31, nm_sa7, nm_m127, nm_m2, nm_nz, nm_nzk, nm_eq32, nm_nzf, if_true, if_false, ↓reduceIte, if_pos, if_neg]
  · refine ⟨nI e, ?_, ?_⟩
    · simp (disch := (first | assumption | decide | omega)) only [df_X6_told_72, df_X6_told_0, df_X6_told, f7, eq_self, Nat.reduceEqDiff, Nat.reduceLeDiff, nl_1, nl_2, nl_3, nl_5, nl_6, nl_7, nl_17, nl_33, nl_112, nl_528, no_1, no_1024, pk_mul, nI_add, nm_ck, nI_clamp, nI_ltI, nI_leI, nI_eq, nb_b2, nb_b1, ↓nb_let, nm_z0, nm_z1, nb_II, nb_IR, nb_RI, nb_RR, nm_IL, nm_IQ, nm_RL, nm_RQ, nm_LI, nm_LR, nm_LL, nm_LQ, nm_QI, nm_QR, nm_QL, nm_QQ, nm_rr, nm_ii, nm_eqm, not_false_eq_true, pk_sub, nm_div, nm_shl, nm_shr, nm_ush, nm_or8, nm_or64, nm_or256, nm_m1, nm_m3, nm_m7, nm_m15, nm_m31, nm_m63, nm_m255, nm_m511, nm_m1023, nm_m2047, nm_m65535, Nat.reduceMod, Nat.reducePow, Nat.reduceAdd, Nat.reduceSub, Nat.reduceMul, nm_bo, nm_bi, nm_rc, nm_ic, nm_ri, nm_rl, nm_rq, nm_ql, nm_qi, nm_li, nm_us, nm_uu, nm_cp, nm_sa31, nm_sa7, nm_m127, nm_m2, nm_nz, nm_nzk, nm_eq32, nm_nzf, if_true, if_false, ↓reduceIte, if_pos, if_neg]
    · simp (disch := (first | assumption | decide | omega)) only [df_X16_process_20, df_X16_process_142, df_X16_process_164, df_X16_process_57, df_X16_process_0, df_X16_process, f8, eq_self, Nat.reduceEqDiff, Nat.reduceLeDiff, nl_0, nl_1, nl_7, nl_15, no_1, no_1024, pk_mul, nI_add, nm_ck, nI_clamp, nI_ltI, nI_leI, nI_eq, nb_b2, nb_b1, ↓nb_let, nm_z0, nm_z1, nb_II, nb_IR, nb_RI, nb_RR, nm_IL, nm_IQ, nm_RL, nm_RQ, nm_LI, nm_LR, nm_LL, nm_LQ, nm_QI, nm_QR, nm_QL, nm_QQ, nm_rr, nm_ii, nm_eqm, not_false_eq_true, pk_sub, nm_div, nm_shl, nm_shr, nm_ush, nm_or8, nm_or64, nm_or256, nm_m1, nm_m3, nm_m7, nm_m15, nm_m31, nm_m63, nm_m255, nm_m511, nm_m1023, nm_m2047, nm_m65535, Nat.reduceMod, Nat.reducePow, Nat.reduceAdd, Nat.reduceSub, Nat.reduceMul, nm_bo, nm_bi, nm_rc, nm_ic, nm_ri, nm_rl, nm_rq, nm_ql, nm_qi, nm_li, nm_us, nm_uu, nm_cp, nm_sa31, nm_sa7, nm_m127, nm_m2, nm_nz, nm_nzk, nm_eq32, nm_nzf, if_true, if_false, ↓reduceIte, if_pos, if_neg]
  · by_cases t2 : t = 2
    · have hwx := hw t2
      obtain ⟨r1, r2⟩ := hr (by omega)
      have v7 : p * 33 + 17 < 528 := by omega
      have r17 := r1 17 (by omega)
      subst t2
      refine ⟨sR X.1 9 (32 * p + 17), ?_, ?_⟩
      · simp (disch := (first | assumption | decide | omega)) only [df_X6_told_72, df_X6_told_0, df_X6_told, df_X6_status_0, df_X6_status, e1, Nat.add_zero, r17, eq_self, Nat.reduceEqDiff, Nat.reduceLeDiff, nl_0, nl_1, nl_2, nl_3, nl_5, nl_6, nl_7, nl_17, nl_33, nl_112, nl_528, no_1, no_1024, pk_mul, nI_add, nm_ck, nI_clamp, nI_ltI, nI_leI, nI_eq, nb_b2, nb_b1, ↓nb_let, nm_z0, nm_z1, nb_II, nb_IR, nb_RI, nb_RR, nm_IL, nm_IQ, nm_RL, nm_RQ, nm_LI, nm_LR, nm_LL, nm_LQ, nm_QI, nm_QR, nm_QL, nm_QQ, nm_rr, nm_ii, nm_eqm, not_false_eq_true, pk_sub, nm_div, nm_shl, nm_shr, nm_ush, nm_or8, nm_or64, nm_or256, nm_m1, nm_m3, nm_m7, nm_m15, nm_m31, nm_m63, nm_m255, nm_m511, nm_m1023, nm_m2047, nm_m65535, Nat.reduceMod, Nat.reducePow, Nat.reduceAdd, Nat.reduceSub, Nat.reduceMul, nm_bo, nm_bi, nm_rc, nm_ic, nm_ri, nm_rl, nm_rq, nm_ql, nm_qi, nm_li, nm_us, nm_uu, nm_cp, nm_sa31, nm_sa7, nm_m127, nm_m2, nm_nz, nm_nzk, nm_eq32, nm_nzf, if_true, if_false, ↓reduceIte, if_pos, if_neg]
      · rw [← hwx.1]
        simp (disch := (first | assumption | decide | omega)) only [df_X16_process_20, df_X16_process_142, df_X16_process_164, df_X16_process_57, df_X16_process_0, df_X16_process, e2, eq_self, Nat.reduceEqDiff, Nat.reduceLeDiff, nl_0, nl_1, nl_7, nl_15, no_1, no_1024, pk_mul, nI_add, nm_ck, nI_clamp, nI_ltI, nI_leI, nI_eq, nb_b2, nb_b1, ↓nb_let, nm_z0, nm_z1, nb_II, nb_IR, nb_RI, nb_RR, nm_IL, nm_IQ, nm_RL, nm_RQ, nm_LI, nm_LR, nm_LL, nm_LQ, nm_QI, nm_QR, nm_QL, nm_QQ, nm_rr, nm_ii, nm_eqm, not_false_eq_true, pk_sub, nm_div, nm_shl, nm_shr, nm_ush, nm_or8, nm_or64, nm_or256, nm_m1, nm_m3, nm_m7, nm_m15, nm_m31, nm_m63, nm_m255, nm_m511, nm_m1023, nm_m2047, nm_m65535, Nat.reduceMod, Nat.reducePow, Nat.reduceAdd, Nat.reduceSub, Nat.reduceMul, nm_bo, nm_bi, nm_rc, nm_ic, nm_ri, nm_rl, nm_rq, nm_ql, nm_qi, nm_li, nm_us, nm_uu, nm_cp, nm_sa31, nm_sa7, nm_m127, nm_m2, nm_nz, nm_nzk, nm_eq32, nm_nzf, if_true, if_false, ↓reduceIte, if_pos, if_neg]
    · have k3 : ¬ nI t = nI 2 := fun z => by rw [nI_eq u3 (by omega)] at z; exact t2 z
      have hw2 := hw2 t2
      refine ⟨-nI 1, ?_, ?_⟩
      · simp (disch := (first | assumption | decide | omega)) only [df_X6_told_72, df_X6_told_0, df_X6_told, df_X6_status_0, df_X6_status, e1, Nat.add_zero, k3, eq_self, Nat.reduceEqDiff, Nat.reduceLeDiff, nl_0, nl_1, nl_2, nl_3, nl_5, nl_6, nl_7, nl_17, nl_33, nl_112, nl_528, no_1, no_1024, pk_mul, nI_add, nm_ck, nI_clamp, nI_ltI, nI_leI, nI_eq, nb_b2, nb_b1, ↓nb_let, nm_z0, nm_z1, nb_II, nb_IR, nb_RI, nb_RR, nm_IL, nm_IQ, nm_RL, nm_RQ, nm_LI, nm_LR, nm_LL, nm_LQ, nm_QI, nm_QR, nm_QL, nm_QQ, nm_rr, nm_ii, nm_eqm, not_false_eq_true, pk_sub, nm_div, nm_shl, nm_shr, nm_ush, nm_or8, nm_or64, nm_or256, nm_m1, nm_m3, nm_m7, nm_m15, nm_m31, nm_m63, nm_m255, nm_m511, nm_m1023, nm_m2047, nm_m65535, Nat.reduceMod, Nat.reducePow, Nat.reduceAdd, Nat.reduceSub, Nat.reduceMul, nm_bo, nm_bi, nm_rc, nm_ic, nm_ri, nm_rl, nm_rq, nm_ql, nm_qi, nm_li, nm_us, nm_uu, nm_cp, nm_sa31, nm_sa7, nm_m127, nm_m2, nm_nz, nm_nzk, nm_eq32, nm_nzf, if_true, if_false, ↓reduceIte, if_pos, if_neg]
      · rw [← hw2]
        simp (disch := (first | assumption | decide | omega)) only [df_X16_process_20, df_X16_process_142, df_X16_process_164, df_X16_process_57, df_X16_process_0, df_X16_process, e2, eq_self, Nat.reduceEqDiff, Nat.reduceLeDiff, nl_0, nl_1, nl_7, nl_15, no_1, no_1024, pk_mul, nI_add, nm_ck, nI_clamp, nI_ltI, nI_leI, nI_eq, nb_b2, nb_b1, ↓nb_let, nm_z0, nm_z1, nb_II, nb_IR, nb_RI, nb_RR, nm_IL, nm_IQ, nm_RL, nm_RQ, nm_LI, nm_LR, nm_LL, nm_LQ, nm_QI, nm_QR, nm_QL, nm_QQ, nm_rr, nm_ii, nm_eqm, not_false_eq_true, pk_sub, nm_div, nm_shl, nm_shr, nm_ush, nm_or8, nm_or64, nm_or256, nm_m1, nm_m3, nm_m7, nm_m15, nm_m31, nm_m63, nm_m255, nm_m511, nm_m1023, nm_m2047, nm_m65535, Nat.reduceMod, Nat.reducePow, Nat.reduceAdd, Nat.reduceSub, Nat.reduceMul, nm_bo, nm_bi, nm_rc, nm_ic, nm_ri, nm_rl, nm_rq, nm_ql, nm_qi, nm_li, nm_us, nm_uu, nm_cp, nm_sa31, nm_sa7, nm_m127, nm_m2, nm_nz, nm_nzk, nm_eq32, nm_nzf, if_true, if_false, ↓reduceIte, if_pos, if_neg]
/-- process -/
theorem jc_process (n T L : Nat) (hn : 70000 < n) (p w : Int32) (σ : S12) (τ : S19) (h : jA n (tl σ) τ) : ∃ (v : Int32) (τ' : S19), df_X12_process n T L p w σ = some (v, σ) ∧ df_X19_process n p w τ = some (v, τ') ∧ jA n (tl σ) τ' ∧ kR τ τ' := by
  have n1 : ¬ nI 1 = (0 : Int32) := by decide
  have n0 : nI 0 = (0 : Int32) := rfl
  obtain ⟨P, hP, rfl⟩ := nI_ex p
  obtain ⟨W, hW, rfl⟩ := nI_ex w
  have i6 : df_X19_in n (nI W).toInt64 0 6 () = some (if W ≤ 6 then nI 1 else nI 0, ()) := in_b n (b := 6) hW (by omega) rfl
  have i15 : df_X19_in n (nI P).toInt64 0 15 () = some (if P ≤ 15 then nI 1 else nI 0, ()) := in_b n (b := 15) hP (by omega) rfl
  -- the machine isn't asked
  have no31 : ∀ s : S19, df_X19_process_31 n (nI W) s = some (if W = 1 ∨ ¬ W ≤ 6 then -1 else 0, s) := fun s => by
    unfold df_X19_process_31 df_X19_process_48 df_X19_process_53
    by_cases w1 : W = 1
    · rw [w1, if_pos (show nI 1 = (1 : Int32) from rfl), if_pos (Or.inl rfl)]
    · rw [if_neg (show ¬ nI W = (1 : Int32) from fun z => by
        have z : nI W = nI 1 := z
        by_cases y : W < 2 ^ 31
        · rw [nI_eq y (by omega)] at z; exact w1 z
        · have := nm_neg (by omega) hW
          rw [z] at this
          exact absurd this (by decide)), i6, nb_b2]
      by_cases w6 : W ≤ 6
      · rw [if_pos w6, if_neg n1, if_neg (fun z => z.elim w1 (fun y => y w6))]
      · rw [if_neg w6, if_pos n0, if_pos (Or.inr w6)]
  have noC : (df_X12_isThere n T L (nI P) σ = some (0, σ)) → df_X12_process n T L (nI P) (nI W) σ = some (if W = 1 ∨ ¬ W ≤ 6 then -1 else 0, σ) := fun e => by
    unfold df_X12_process df_X12_process_0 df_X12_process_10 df_X12_process_31 df_X12_process_36
    by_cases w7 : W ≤ 7
    · obtain ⟨a1, a2⟩ := rg_a hW (k := 7) (by omega) w7
      rw [if_neg a1, if_pos (show nI W ≤ (7 : Int32) from (show nI W ≤ nI 7 by rw [nI_leI (by omega) (by omega)]; exact w7)), e, nb_b2, if_pos rfl]
      by_cases w1 : W = 1
      · rw [w1, if_pos (show nI 1 = (1 : Int32) from rfl), if_pos (Or.inl rfl)]
      · rw [if_neg (show ¬ nI W = (1 : Int32) from fun z => by have z : nI W = nI 1 := z; rw [nI_eq (by omega) (by omega)] at z; exact w1 z)]
        by_cases w7 : W = 7
        · rw [w7, if_pos (show nI 7 = (7 : Int32) from rfl), if_pos (Or.inr (by omega))]
        · rw [if_neg (show ¬ nI W = (7 : Int32) from fun z => by have z : nI W = nI 7 := z; rw [nI_eq (by omega) (by omega)] at z; exact w7 z), if_neg (by omega)]
    · rw [if_pos (show W = 1 ∨ ¬ W ≤ 6 from Or.inr (by omega))]
      rcases rg_e hW (k := 7) (by omega) w7 with b | ⟨b1, b2⟩
      · rw [if_pos b]
      · rw [if_neg b1, if_neg (show ¬ nI W ≤ (7 : Int32) from b2)]
  rcases jc_shows n hn h with ⟨h1, h2, h3⟩ | ⟨vn, Q, V, N, T', e, c, lo, τ', h1, h2, h3, h4, h5, h6, h7, h8⟩
  · refine ⟨_, (pI τ.1 0 0, τ.2), noC (it_0 n T L h1 _), ?_, jA_0 h 0, kR_0 τ 0⟩
    unfold df_X19_process df_X19_process_0
    rw [h2, nb_b2, if_pos n0, no31]
  · by_cases y : P < 16
    · by_cases w7 : W ≤ 7
      · obtain ⟨v, e1, e2⟩ := sg_told n (by omega) h5 y w7
        refine ⟨v, τ', ?_, ?_, h8, h7⟩
        · obtain ⟨a1, a2⟩ := rg_a hW (k := 7) (by omega) w7
          have e1 : df_X6_told n (nI P) (nI W) σ.2.2.2.2.2.1.2.2 = some (v, σ.2.2.2.2.2.1.2.2) := e1
          unfold df_X12_process df_X12_process_0
          rw [if_neg a1, if_pos (show nI W ≤ (7 : Int32) from (show nI W ≤ nI 7 by rw [nI_leI (by omega) (by omega)]; exact w7)), it_1 n T L h1 hP, nb_b2, if_pos y, if_neg n1, e1, nb_b2, nb_let]
        · unfold df_X19_process df_X19_process_0 df_X19_process_53
          rw [h2, nb_b2, if_neg n1, i15, nb_b2, if_pos (show P ≤ 15 by omega), if_neg n1, e2, nb_b2, nb_let]
      · refine ⟨-1, τ', ?_, ?_, h8, h7⟩
        · unfold df_X12_process df_X12_process_0 df_X12_process_10
          rcases rg_e hW (k := 7) (by omega) w7 with b | ⟨b1, b2⟩
          · rw [if_pos b]
          · rw [if_neg b1, if_neg (show ¬ nI W ≤ (7 : Int32) from b2)]
        · unfold df_X19_process df_X19_process_0 df_X19_process_53
          have e2 : df_X16_process n (nI P) (nI W) τ'.2.2.1.2 = some (-1, τ'.2.2.1.2) := by
            unfold df_X16_process df_X16_process_0 df_X16_process_20
            obtain ⟨a1, a2⟩ := rg_a hP (k := 15) (by omega) (by omega)
            rw [if_neg a1, if_neg (show ¬ (15 : Int32) < nI P from a2)]
            rcases rg_e hW (k := 7) (by omega) w7 with b | ⟨b1, b2⟩
            · rw [if_pos b]
            · rw [if_neg b1, if_neg (show ¬ nI W ≤ (7 : Int32) from b2)]
          rw [h2, nb_b2, if_neg n1, i15, nb_b2, if_pos (show P ≤ 15 by omega), if_neg n1, e2, nb_b2, nb_let]
    · refine ⟨_, τ', noC ?_, ?_, h8, h7⟩
      · rw [it_1 n T L h1 hP, if_neg y]
        rfl
      · unfold df_X19_process df_X19_process_0
        rw [h2, nb_b2, if_neg n1, i15, nb_b2, if_neg (show ¬ P ≤ 15 by omega), if_pos n0, no31]
theorem rK_e {M X : St × St} (h : rK M X) : rme M X := fun p k hp hk => by
  rcases h.1 (64 * p + k) (by omega) with a | ⟨f, r, f1, f2, f3, f4, f5, f6, f7⟩
  · exact Or.inl a
  · refine Or.inr ⟨f, r, f1, f2, f3, f4, f5, by rw [f6, show f * 8 = 8 * f by omega], fun j hj => ?_⟩
    rw [show 256 * f + j = f * 256 + j by omega, show 16384 * p + 256 * k + j = (64 * p + k) * 256 + j by omega]
    exact f7 j hj
/-- peek -/
theorem jc_peek (n T L : Nat) (hn : 70000 < n) (p a : Int32) (σ : S12) (τ : S19) (h : jA n (tl σ) τ) : ∃ (v : Int32) (τ' : S19), df_X12_peek n T L p a σ = some (v, σ) ∧ df_X19_peek n p a τ = some (v, τ') ∧ jA n (tl σ) τ' ∧ kR τ τ' := by
  have n1 : ¬ nI 1 = (0 : Int32) := by decide
  have n1' : ¬ (1 : Int32) = 0 := by decide
  have n0 : nI 0 = (0 : Int32) := rfl
  obtain ⟨P, hP, rfl⟩ := nI_ex p
  obtain ⟨A, hA, rfl⟩ := nI_ex a
  have i15 : df_X19_in n (nI P).toInt64 0 15 () = some (if P ≤ 15 then nI 1 else nI 0, ()) := in_b n (b := 15) hP (by omega) rfl
  rcases jc_shows n hn h with ⟨h1, h2, h3⟩ | ⟨vn, Q, V, N, T', e, c, lo, τ', h1, h2, h3, h4, h5, h6, h7, h8⟩
  · refine ⟨-1, (pI τ.1 0 0, τ.2), ?_, ?_, jA_0 h 0, kR_0 τ 0⟩
    · unfold df_X12_peek df_X12_peek_0 df_X12_peek_36 df_X12_peek_37
      rw [it_0 n T L h1, nb_b2, if_pos rfl]
    · unfold df_X19_peek df_X19_peek_0 df_X19_peek_31 df_X19_peek_32
      rw [h2, nb_b2, if_pos n0]
  · by_cases y : P < 16
    · have key : (df_X6_may n (nI P) (nI A) 7 (tl σ).2.2.1.2.2 = some (0, (tl σ).2.2.1.2.2) ∧ df_X16_peek n (nI P) (nI A) τ'.2.2.1.2 = some (-1, τ'.2.2.1.2)) ∨ ∃ v : Int32, df_X6_may n (nI P) (nI A) 7 (tl σ).2.2.1.2.2 = some (1, (tl σ).2.2.1.2.2) ∧ df_X6_byteAt n (nI P) (nI A) (tl σ).2.2.1.2.2 = some (v, (tl σ).2.2.1.2.2) ∧ df_X16_peek n (nI P) (nI A) τ'.2.2.1.2 = some (v, τ'.2.2.1.2) := by
        by_cases z : A < 65536
        · exact nb_peekIn n y z _ _ (rK_e h5.1)
        · have m7 := (nk_may n h5.1 y hA (q := 7) (by omega)).1
          have mf : ma τ'.2.2.1.2 P A 7 = false := by
            cases q : ma τ'.2.2.1.2 P A 7 with
            | false => rfl
            | true => exact absurd (ma_ex h5.1 y q).1 z
          rw [mf] at m7
          refine Or.inl ⟨m7, ?_⟩
          unfold df_X16_peek df_X16_peek_0 df_X16_isThere df_X16_isThere_0 df_X16_isThere_33 df_X16_isThere_34
          rcases rg_d hA (k := 65536) (by omega) z with b | ⟨b1, b2⟩
          · rw [if_pos b, nz_0, nb_b2, if_pos rfl]
            rfl
          · rw [if_neg b1, if_pos (show (65536 : Int32) ≤ nI A from b2), nz_0, nb_b2, if_pos rfl]
            rfl
      rcases key with ⟨k1, k2⟩ | ⟨v, k1, k2, k3⟩
      · refine ⟨-1, τ', ?_, ?_, h8, h7⟩
        · have k1 : df_X6_may n (nI P) (nI A) 7 σ.2.2.2.2.2.1.2.2 = some (0, σ.2.2.2.2.2.1.2.2) := k1
          unfold df_X12_peek df_X12_peek_0 df_X12_peek_36 df_X12_peek_37
          rw [it_1 n T L h1 hP, nb_b2, if_pos y, if_neg n1, k1, nb_b2, nb_let, if_pos rfl]
        · unfold df_X19_peek df_X19_peek_0 df_X19_peek_32
          rw [h2, nb_b2, if_neg n1, i15, nb_b2, if_pos (show P ≤ 15 by omega), if_neg n1, k2, nb_b2, nb_let]
      · refine ⟨v, τ', ?_, ?_, h8, h7⟩
        · have k1 : df_X6_may n (nI P) (nI A) 7 σ.2.2.2.2.2.1.2.2 = some (1, σ.2.2.2.2.2.1.2.2) := k1
          have k2 : df_X6_byteAt n (nI P) (nI A) σ.2.2.2.2.2.1.2.2 = some (v, σ.2.2.2.2.2.1.2.2) := k2
          unfold df_X12_peek df_X12_peek_0 df_X12_peek_37
          rw [it_1 n T L h1 hP, nb_b2, if_pos y, if_neg n1, k1, nb_b2, nb_let, if_neg n1']
          dsimp only
          rw [k2, nb_b2, nb_let]
        · unfold df_X19_peek df_X19_peek_0 df_X19_peek_32
          rw [h2, nb_b2, if_neg n1, i15, nb_b2, if_pos (show P ≤ 15 by omega), if_neg n1, k3, nb_b2, nb_let]
    · refine ⟨-1, τ', ?_, ?_, h8, h7⟩
      · unfold df_X12_peek df_X12_peek_0 df_X12_peek_36 df_X12_peek_37
        rw [it_1 n T L h1 hP, nb_b2, if_neg y, if_pos n0]
      · unfold df_X19_peek df_X19_peek_0 df_X19_peek_31 df_X19_peek_32
        rw [h2, nb_b2, if_neg n1, i15, nb_b2, if_neg (show ¬ P ≤ 15 by omega), if_pos n0]

/-- a descriptor, its opening, how many bytes and which, in both -/
theorem sg_desc (n : Nat) {B : Nat} {M X : St × St} (h : rM B M X) {p d : Nat} (hp : p < 16) (hd : d < 16) : (df_X10_openingOf n (nI p) (nI d) M.2 = some (-nI 1, M.2) ∧ sR X.1 14 (16 * p + d) = -nI 1) ∨ ∃ o k t L : Nat, o < 48 ∧ 1 ≤ k ∧ k ≤ 4 ∧ t < 16 ∧ (k ≤ 2 → t < 8) ∧ L ≤ 512 ∧ df_X10_openingOf n (nI p) (nI d) M.2 = some (nI o, M.2) ∧ sR X.1 14 (16 * p + d) = nI o ∧ sR M.2 1 (o * 5) = nI k ∧ sR X.1 19 o = nI k ∧ sR X.1 20 o = nI t ∧ sR M.2 1 (o * 5 + 1) = nI (cD (sR X.1 14) o) ∧ sR M.2 1 (o * 5 + 4) = sR X.1 22 o ∧ (k = 3 → sR M.2 1 (o * 5 + 3) = sR X.1 21 o) ∧ (k ≠ 3 → sR M.2 1 (o * 5 + 3) = nI 0) ∧ df_X10_amount n (nI o) M.2 = some (nI L, M.2) ∧ (k = 3 → sR X.1 28 t = nI L) ∧ (k = 4 → sI X.1 7 = nI L) ∧ (k ≤ 2 → sR X.1 26 t = nI L) ∧ ∀ i : Nat, i < L → ∃ z : Nat, df_X10_byteOf n (nI o) (nI i) M.2 = some (nI z, M.2) ∧ (k = 3 → sR X.1 29 (512 * t + i) = nI z) ∧ (k = 4 → sR X.1 31 i = nI z) ∧ (k ≤ 2 → sR X.1 27 (512 * t + i) = nI z) := by
  obtain ⟨m1, m2, m3, m4, m5, m6, m7⟩ := h
  have u1 : p < 2 ^ 31 := by omega
  have u2 : d < 2 ^ 31 := by omega
  have u3 : p * 16 + d < 256 := by omega
  have k1 : d < 16 := hd
  rcases m2.1 (p * 16 + d) u3 with ⟨a1, a2⟩ | ⟨o, ho, a1, a2⟩
  · refine Or.inl ⟨?_, by rw [show 16 * p + d = p * 16 + d by omega]; exact a1⟩
    have s1 : nI 0 - nI 1 = -nI 1 := by decide
    unfold df_X10_openingOf df_X10_openingOf_0 df_X10_openingOf_27
    rw [if_neg (rg_c (A := d) (k := 16) (by omega) (by omega) hd).1, if_pos (show nI d < (16 : Int32) from (show nI d < nI 16 by rw [nI_ltI u2 (by omega)]; exact hd)), show nI p * 16 + nI d = nI (p * 16 + d) by rw [show nI p * 16 = nI (p * 16) from pk_mul .., nI_add], nm_ck u3 (by omega), nI_clamp (by omega), a2]
    rfl
  · refine Or.inr ?_
    have op : df_X10_openingOf n (nI p) (nI d) M.2 = some (nI o, M.2) := by
      unfold df_X10_openingOf df_X10_openingOf_0 df_X10_openingOf_27
      rw [if_neg (rg_c (A := d) (k := 16) (by omega) (by omega) hd).1, if_pos (show nI d < (16 : Int32) from (show nI d < nI 16 by rw [nI_ltI u2 (by omega)]; exact hd)), show nI p * 16 + nI d = nI (p * 16 + d) by rw [show nI p * 16 = nI (p * 16) from pk_mul .., nI_add], nm_ck u3 (by omega), nI_clamp (by omega), a2, show nI (o + 1) - 1 = nI o from (pk_sub (show 1 ≤ o + 1 by omega)).trans (by rw [show o + 1 - 1 = o by omega])]
    have a1' : sR X.1 14 (16 * p + d) = nI o := by rw [show 16 * p + d = p * 16 + d by omega]; exact a1
    rcases m2.2.1 o ho with ⟨z1, z2, z3⟩ | ⟨k, t, y1, y2, y3, y4, y5, y6, y7, y8, y9, y10, y11, y12, y13, y14, y15⟩
    · have : 0 < cD (sR X.1 14) o := cN_p (P := fun i => decide (sR X.1 14 i = nI o)) (i := p * 16 + d) (decide_eq_true a1) u3
      omega
    · have u5 : o < 2 ^ 31 := by omega
      have u6 : o * 5 < 240 := by omega
      have u7 : o * 5 + 2 < 240 := by omega
      have u8 : t < 2 ^ 31 := by omega
      have hk : k = 1 ∨ k = 2 ∨ k = 3 ∨ k = 4 := by omega
      have pipe : k ≤ 2 → ∃ L : Nat, L ≤ 512 ∧ df_X10_amount n (nI o) M.2 = some (nI L, M.2) ∧ sR X.1 26 t = nI L ∧ ∀ i : Nat, i < L → ∃ z : Nat, df_X10_byteOf n (nI o) (nI i) M.2 = some (nI z, M.2) ∧ sR X.1 27 (512 * t + i) = nI z := fun k2 => by
        have t8 := y9 k2
        have e23 : sR X.1 23 t = nI 1 := by
          have x1 : 0 < cE (sR X.1 19) (sR X.1 20) k t := cN_p (P := fun j => decide (sR X.1 19 j = nI k ∧ sR X.1 20 j = nI t)) (i := o) (decide_eq_true ⟨y4, y7⟩) ho
          have hk12 : k = 1 ∨ k = 2 := by omega
          rw [(m2.2.2.1 t t8).2.2]
          rcases hk12 with rfl | rfl
          · rw [decide_eq_true (by omega)]; rfl
          · rw [decide_eq_true (by omega)]; rfl
        obtain ⟨L, oo, hL, hoo, l1, l2, l3, l4⟩ := m7.1 t t8 e23
        have n4 : ¬ nI k = nI 4 := fun z => by rw [nI_eq (by omega) (by omega)] at z; omega
        have n3 : ¬ nI k = nI 3 := fun z => by rw [nI_eq (by omega) (by omega)] at z; omega
        have v1 : t * 4 < 32 := by omega
        have v2 : t * 4 + 3 < 32 := by omega
        refine ⟨L, hL, ?_, l2, fun i hi => ?_⟩
        · simp (disch := (first | assumption | decide | omega)) only [df_X10_amount_60, df_X10_amount_0, df_X10_amount, y5, y8, n4, n3, l1, Nat.add_zero, eq_self, Nat.reduceEqDiff, Nat.reduceLeDiff, nl_0, nl_1, nl_2, nl_3, nl_4, nl_5, nl_32, nl_48, nl_240, no_1, no_1024, pk_mul, nI_add, nm_ck, nI_clamp, nI_ltI, nI_leI, nI_eq, nb_b2, nb_b1, ↓nb_let, nm_z0, nm_z1, nb_II, nb_IR, nb_RI, nb_RR, nm_IL, nm_IQ, nm_RL, nm_RQ, nm_LI, nm_LR, nm_LL, nm_LQ, nm_QI, nm_QR, nm_QL, nm_QQ, nm_rr, nm_ii, nm_eqm, not_false_eq_true, pk_sub, nm_div, nm_shl, nm_shr, nm_ush, nm_or8, nm_or64, nm_or256, nm_m1, nm_m3, nm_m7, nm_m15, nm_m31, nm_m63, nm_m255, nm_m511, nm_m1023, nm_m2047, nm_m65535, Nat.reduceMod, Nat.reducePow, Nat.reduceAdd, Nat.reduceSub, Nat.reduceMul, nm_bo, nm_bi, nm_rc, nm_ic, nm_ri, nm_rl, nm_rq, nm_ql, nm_qi, nm_li, nm_us, nm_uu, nm_cp, nm_sa31, nm_sa7, nm_m127, nm_m2, nm_nz, nm_nzk, nm_eq32, nm_nzf, if_true, if_false, ↓reduceIte, if_pos, if_neg]
        · obtain ⟨z, z1, z2, z3⟩ := l4 i hi
          have b255 := b8_255 ⟨z, z1, z2, z3⟩
          rw [z2] at b255
          refine ⟨z, ?_, z2⟩
          have v3 : i < 2 ^ 31 := by omega
          have v4 : oo + i < 2 ^ 32 := by omega
          have v5 : t * 512 + (oo + i) % 512 < 4096 := by omega
          have v6 : (oo + i) % 512 < 2 ^ 31 := by omega
          simp (disch := (first | assumption | decide | omega)) only [df_X10_byteOf_0, df_X10_byteOf, y5, y8, n4, n3, l3, b255, Nat.add_zero, eq_self, Nat.reduceEqDiff, Nat.reduceLeDiff, nl_0, nl_1, nl_2, nl_3, nl_4, nl_5, nl_7, nl_32, nl_240, nl_255, nl_511, nl_512, nl_4096, nl_8192, no_1, no_1024, pk_mul, nI_add, nm_ck, nI_clamp, nI_ltI, nI_leI, nI_eq, nb_b2, nb_b1, ↓nb_let, nm_z0, nm_z1, nb_II, nb_IR, nb_RI, nb_RR, nm_IL, nm_IQ, nm_RL, nm_RQ, nm_LI, nm_LR, nm_LL, nm_LQ, nm_QI, nm_QR, nm_QL, nm_QQ, nm_rr, nm_ii, nm_eqm, not_false_eq_true, pk_sub, nm_div, nm_shl, nm_shr, nm_ush, nm_or8, nm_or64, nm_or256, nm_m1, nm_m3, nm_m7, nm_m15, nm_m31, nm_m63, nm_m255, nm_m511, nm_m1023, nm_m2047, nm_m65535, Nat.reduceMod, Nat.reducePow, Nat.reduceAdd, Nat.reduceSub, Nat.reduceMul, nm_bo, nm_bi, nm_rc, nm_ic, nm_ri, nm_rl, nm_rq, nm_ql, nm_qi, nm_li, nm_us, nm_uu, nm_cp, nm_sa31, nm_sa7, nm_m127, nm_m2, nm_nz, nm_nzk, nm_eq32, nm_nzf, if_true, if_false, ↓reduceIte, if_pos, if_neg]
      rcases hk with rfl | rfl | rfl | rfl
      · obtain ⟨L, q1, q2, q3, q4⟩ := pipe (by omega)
        refine ⟨o, 1, t, L, ho, y1, y2, y10, y9, q1, op, a1', y5, y4, y7, y6, y11, y12, y13, q2, fun z => absurd z (by omega), fun z => absurd z (by omega), fun _ => q3, fun i hi => ?_⟩
        obtain ⟨z, z1, z2⟩ := q4 i hi
        exact ⟨z, z1, fun z => absurd z (by omega), fun z => absurd z (by omega), fun _ => z2⟩
      · obtain ⟨L, q1, q2, q3, q4⟩ := pipe (by omega)
        refine ⟨o, 2, t, L, ho, y1, y2, y10, y9, q1, op, a1', y5, y4, y7, y6, y11, y12, y13, q2, fun z => absurd z (by omega), fun z => absurd z (by omega), fun _ => q3, fun i hi => ?_⟩
        obtain ⟨z, z1, z2⟩ := q4 i hi
        exact ⟨z, z1, fun z => absurd z (by omega), fun z => absurd z (by omega), fun _ => z2⟩
      · have isf : sR X.1 24 t = nI 1 := by
          have x1 : 0 < cE (sR X.1 19) (sR X.1 20) 3 t := cN_p (P := fun j => decide (sR X.1 19 j = nI 3 ∧ sR X.1 20 j = nI t)) (i := o) (decide_eq_true ⟨y4, y7⟩) ho
          rw [(m2.2.2.2 t y10).2.2.2, decide_eq_true (Or.inr x1)]
          rfl
        obtain ⟨L, hL, l1, l2, l4⟩ := m7.2.1 t y10 isf
        have v1 : t * 3 < 48 := by omega
        refine ⟨o, 3, t, L, ho, y1, y2, y10, y9, hL, op, a1', y5, y4, y7, y6, y11, y12, y13, ?_, fun _ => l2, fun z => absurd z (by omega), fun z => absurd z (by omega), fun i hi => ?_⟩
        · simp (disch := (first | assumption | decide | omega)) only [df_X10_amount_60, df_X10_amount_0, df_X10_amount, y5, y8, l1, Nat.add_zero, eq_self, Nat.reduceEqDiff, Nat.reduceLeDiff, nl_0, nl_1, nl_2, nl_3, nl_4, nl_5, nl_32, nl_48, nl_240, no_1, no_1024, pk_mul, nI_add, nm_ck, nI_clamp, nI_ltI, nI_leI, nI_eq, nb_b2, nb_b1, ↓nb_let, nm_z0, nm_z1, nb_II, nb_IR, nb_RI, nb_RR, nm_IL, nm_IQ, nm_RL, nm_RQ, nm_LI, nm_LR, nm_LL, nm_LQ, nm_QI, nm_QR, nm_QL, nm_QQ, nm_rr, nm_ii, nm_eqm, not_false_eq_true, pk_sub, nm_div, nm_shl, nm_shr, nm_ush, nm_or8, nm_or64, nm_or256, nm_m1, nm_m3, nm_m7, nm_m15, nm_m31, nm_m63, nm_m255, nm_m511, nm_m1023, nm_m2047, nm_m65535, Nat.reduceMod, Nat.reducePow, Nat.reduceAdd, Nat.reduceSub, Nat.reduceMul, nm_bo, nm_bi, nm_rc, nm_ic, nm_ri, nm_rl, nm_rq, nm_ql, nm_qi, nm_li, nm_us, nm_uu, nm_cp, nm_sa31, nm_sa7, nm_m127, nm_m2, nm_nz, nm_nzk, nm_eq32, nm_nzf, if_true, if_false, ↓reduceIte, if_pos, if_neg]
        · obtain ⟨z, z1, z2, z3⟩ := l4 i hi
          have b255 := b8_255 ⟨z, z1, z2, z3⟩
          rw [z2] at b255
          refine ⟨z, ?_, fun _ => z2, fun z => absurd z (by omega), fun z => absurd z (by omega)⟩
          have v3 : i < 2 ^ 32 := by omega
          have v5 : t * 512 + i < 8192 := by omega
          have v6 : i % 512 = i := Nat.mod_eq_of_lt (by omega)
          have v7 : t * 512 + i < 2 ^ 31 := by omega
          simp (disch := (first | assumption | decide | omega)) only [df_X10_byteOf_0, df_X10_byteOf, y5, y8, v6, b255, Nat.add_zero, eq_self, Nat.reduceEqDiff, Nat.reduceLeDiff, nl_0, nl_1, nl_2, nl_3, nl_4, nl_5, nl_7, nl_32, nl_240, nl_255, nl_511, nl_512, nl_4096, nl_8192, no_1, no_1024, pk_mul, nI_add, nm_ck, nI_clamp, nI_ltI, nI_leI, nI_eq, nb_b2, nb_b1, ↓nb_let, nm_z0, nm_z1, nb_II, nb_IR, nb_RI, nb_RR, nm_IL, nm_IQ, nm_RL, nm_RQ, nm_LI, nm_LR, nm_LL, nm_LQ, nm_QI, nm_QR, nm_QL, nm_QQ, nm_rr, nm_ii, nm_eqm, not_false_eq_true, pk_sub, nm_div, nm_shl, nm_shr, nm_ush, nm_or8, nm_or64, nm_or256, nm_m1, nm_m3, nm_m7, nm_m15, nm_m31, nm_m63, nm_m255, nm_m511, nm_m1023, nm_m2047, nm_m65535, Nat.reduceMod, Nat.reducePow, Nat.reduceAdd, Nat.reduceSub, Nat.reduceMul, nm_bo, nm_bi, nm_rc, nm_ic, nm_ri, nm_rl, nm_rq, nm_ql, nm_qi, nm_li, nm_us, nm_uu, nm_cp, nm_sa31, nm_sa7, nm_m127, nm_m2, nm_nz, nm_nzk, nm_eq32, nm_nzf, if_true, if_false, ↓reduceIte, if_pos, if_neg]
      · obtain ⟨Ty, hT, t1, t2, t3⟩ := m7.2.2.2.1
        refine ⟨o, 4, t, Ty, ho, y1, y2, y10, y9, hT, op, a1', y5, y4, y7, y6, y11, y12, y13, ?_, fun z => absurd z (by omega), fun _ => t2, fun z => absurd z (by omega), fun i hi => ?_⟩
        · simp (disch := (first | assumption | decide | omega)) only [df_X10_amount_60, df_X10_amount_0, df_X10_amount, y5, y8, t1, Nat.add_zero, eq_self, Nat.reduceEqDiff, Nat.reduceLeDiff, nl_0, nl_1, nl_2, nl_3, nl_4, nl_5, nl_32, nl_48, nl_240, no_1, no_1024, pk_mul, nI_add, nm_ck, nI_clamp, nI_ltI, nI_leI, nI_eq, nb_b2, nb_b1, ↓nb_let, nm_z0, nm_z1, nb_II, nb_IR, nb_RI, nb_RR, nm_IL, nm_IQ, nm_RL, nm_RQ, nm_LI, nm_LR, nm_LL, nm_LQ, nm_QI, nm_QR, nm_QL, nm_QQ, nm_rr, nm_ii, nm_eqm, not_false_eq_true, pk_sub, nm_div, nm_shl, nm_shr, nm_ush, nm_or8, nm_or64, nm_or256, nm_m1, nm_m3, nm_m7, nm_m15, nm_m31, nm_m63, nm_m255, nm_m511, nm_m1023, nm_m2047, nm_m65535, Nat.reduceMod, Nat.reducePow, Nat.reduceAdd, Nat.reduceSub, Nat.reduceMul, nm_bo, nm_bi, nm_rc, nm_ic, nm_ri, nm_rl, nm_rq, nm_ql, nm_qi, nm_li, nm_us, nm_uu, nm_cp, nm_sa31, nm_sa7, nm_m127, nm_m2, nm_nz, nm_nzk, nm_eq32, nm_nzf, if_true, if_false, ↓reduceIte, if_pos, if_neg]
        · obtain ⟨z, z1, z2, z3⟩ := t3 i hi
          have b255 := b8_255 ⟨z, z1, z2, z3⟩
          rw [z2] at b255
          refine ⟨z, ?_, fun z => absurd z (by omega), fun _ => z2, fun z => absurd z (by omega)⟩
          have v3 : i < 2 ^ 32 := by omega
          have v5 : i < 512 := by omega
          have v6 : i % 512 = i := Nat.mod_eq_of_lt (by omega)
          have v7 : i < 2 ^ 31 := by omega
          simp (disch := (first | assumption | decide | omega)) only [df_X10_byteOf_0, df_X10_byteOf, y5, y8, v6, b255, Nat.add_zero, eq_self, Nat.reduceEqDiff, Nat.reduceLeDiff, nl_0, nl_1, nl_2, nl_3, nl_4, nl_5, nl_7, nl_32, nl_240, nl_255, nl_511, nl_512, nl_4096, nl_8192, no_1, no_1024, pk_mul, nI_add, nm_ck, nI_clamp, nI_ltI, nI_leI, nI_eq, nb_b2, nb_b1, ↓nb_let, nm_z0, nm_z1, nb_II, nb_IR, nb_RI, nb_RR, nm_IL, nm_IQ, nm_RL, nm_RQ, nm_LI, nm_LR, nm_LL, nm_LQ, nm_QI, nm_QR, nm_QL, nm_QQ, nm_rr, nm_ii, nm_eqm, not_false_eq_true, pk_sub, nm_div, nm_shl, nm_shr, nm_ush, nm_or8, nm_or64, nm_or256, nm_m1, nm_m3, nm_m7, nm_m15, nm_m31, nm_m63, nm_m255, nm_m511, nm_m1023, nm_m2047, nm_m65535, Nat.reduceMod, Nat.reducePow, Nat.reduceAdd, Nat.reduceSub, Nat.reduceMul, nm_bo, nm_bi, nm_rc, nm_ic, nm_ri, nm_rl, nm_rq, nm_ql, nm_qi, nm_li, nm_us, nm_uu, nm_cp, nm_sa31, nm_sa7, nm_m127, nm_m2, nm_nz, nm_nzk, nm_eq32, nm_nzf, if_true, if_false, ↓reduceIte, if_pos, if_neg]
theorem sg_held (n : Nat) (hn : 1024 < n) (X : St × St) (o : Nat) : df_X16_held n (nI o) X = some (nI (cD (sR X.1 14) o), X) := by
  obtain ⟨m, e⟩ := nm_lq (fun g k => df_X16_held_4 n g (nI o) (nI (cN (fun i => decide (sR X.1 14 i = nI o)) k)) (nI k) X) 256 n (by omega) (fun k m hk => by
    show dF_X16_held_4 n (df_X16_held_4 n m) (nI o) _ (nI k) X = _
    generalize df_X16_held_4 n m = G
    unfold dF_X16_held_4 df_X16_held_28
    rw [if_neg (show ¬ (256 : Int32) ≤ nI k from fun z => by have z : nI 256 ≤ nI k := z; rw [nI_leI (by omega) (by omega)] at z; omega), nm_ck hk (by omega), nI_clamp (by omega), nb_let, nb_let, show nI k + Int32.ofInt 1 = nI (k + 1) from nI_add .., cN_s]
    by_cases c : sR X.1 14 k = nI o
    · rw [if_pos c, decide_eq_true c, show nI (cN (fun i => decide (sR X.1 14 i = nI o)) k) + 1 = nI (cN (fun i => decide (sR X.1 14 i = nI o)) k + 1) from nI_add ..]
      rfl
    · rw [if_neg c, decide_eq_false c]
      rfl)
  refine Eq.trans e ?_
  show dF_X16_held_4 n (df_X16_held_4 n m) (nI o) _ (nI 256) X = _
  unfold dF_X16_held_4
  rw [if_pos (show (256 : Int32) ≤ nI 256 by decide)]
  rfl
/-- what the reference tells of a descriptor, as the class does -/
theorem sg_dtold (n : Nat) (hn : 1024 < n) {B : Nat} {M X : St × St} (h : rM B M X) {p d w : Nat} (hp : p < 16) (hd : d < 16) (hw : w ≤ 4) : (df_X10_openingOf n (nI p) (nI d) M.2 = some (-nI 1, M.2) ∧ df_X16_descriptor n (nI p) (nI d) (nI w) X = some (if w = 0 then 0 else -1, X)) ∨ ∃ (o : Nat) (r : Int32), o < 48 ∧ df_X10_openingOf n (nI p) (nI d) M.2 = some (nI o, M.2) ∧ df_X10_told n (nI o) (nI w) M.2 = some (r, M.2) ∧ df_X16_descriptor n (nI p) (nI d) (nI w) X = some (r, X) := by
  have u1 : p < 2 ^ 31 := by omega
  have u2 : d < 2 ^ 31 := by omega
  have w2 : w < 2 ^ 31 := by omega
  have u3 : 16 * p + d < 256 := by omega
  have k1 : ¬ 15 < p := by omega
  have k2 : ¬ 15 < d := by omega
  have k4 : w ≤ 4 := hw
  rcases sg_desc n h hp hd with ⟨a1, a2⟩ | ⟨o, k, t, L, ho, y1, y2, y3, y4, y5, y6, y7, y8, y9, y10, y11, y12, y13, y14, y15, y16, y17, y18, _⟩
  · refine Or.inl ⟨a1, ?_⟩
    by_cases w0 : w = 0
    · subst w0
      rw [if_pos rfl]
      simp (disch := (first | assumption | decide | omega)) only [df_X16_descriptor_29, df_X16_descriptor_163, df_X16_descriptor_186, df_X16_descriptor_59, df_X16_descriptor_0, df_X16_descriptor, a2, eq_self, Nat.reduceEqDiff, Nat.reduceLeDiff, nl_0, nl_1, nl_2, nl_3, nl_4, nl_7, nl_8, nl_14, nl_15, nl_16, nl_19, nl_20, nl_21, nl_22, nl_26, nl_28, nl_48, nl_256, no_1, no_1024, pk_mul, nI_add, nm_ck, nI_clamp, nI_ltI, nI_leI, nI_eq, nb_b2, nb_b1, ↓nb_let, nm_z0, nm_z1, nb_II, nb_IR, nb_RI, nb_RR, nm_IL, nm_IQ, nm_RL, nm_RQ, nm_LI, nm_LR, nm_LL, nm_LQ, nm_QI, nm_QR, nm_QL, nm_QQ, nm_rr, nm_ii, nm_eqm, not_false_eq_true, pk_sub, nm_div, nm_shl, nm_shr, nm_ush, nm_or8, nm_or64, nm_or256, nm_m1, nm_m3, nm_m7, nm_m15, nm_m31, nm_m63, nm_m255, nm_m511, nm_m1023, nm_m2047, nm_m65535, Nat.reduceMod, Nat.reducePow, Nat.reduceAdd, Nat.reduceSub, Nat.reduceMul, nm_bo, nm_bi, nm_rc, nm_ic, nm_ri, nm_rl, nm_rq, nm_ql, nm_qi, nm_li, nm_us, nm_uu, nm_cp, nm_sa31, nm_sa7, nm_m127, nm_m2, nm_nz, nm_nzk, nm_eq32, nm_nzf, if_true, if_false, ↓reduceIte, if_pos, if_neg]
    · have k3 : ¬ nI w = nI 0 := fun z => by rw [nI_eq w2 (by omega)] at z; exact w0 z
      rw [if_neg w0]
      simp (disch := (first | assumption | decide | omega)) only [df_X16_descriptor_29, df_X16_descriptor_163, df_X16_descriptor_186, df_X16_descriptor_59, df_X16_descriptor_0, df_X16_descriptor, a2, k3, eq_self, Nat.reduceEqDiff, Nat.reduceLeDiff, nl_0, nl_1, nl_2, nl_3, nl_4, nl_7, nl_8, nl_14, nl_15, nl_16, nl_19, nl_20, nl_21, nl_22, nl_26, nl_28, nl_48, nl_256, no_1, no_1024, pk_mul, nI_add, nm_ck, nI_clamp, nI_ltI, nI_leI, nI_eq, nb_b2, nb_b1, ↓nb_let, nm_z0, nm_z1, nb_II, nb_IR, nb_RI, nb_RR, nm_IL, nm_IQ, nm_RL, nm_RQ, nm_LI, nm_LR, nm_LL, nm_LQ, nm_QI, nm_QR, nm_QL, nm_QQ, nm_rr, nm_ii, nm_eqm, not_false_eq_true, pk_sub, nm_div, nm_shl, nm_shr, nm_ush, nm_or8, nm_or64, nm_or256, nm_m1, nm_m3, nm_m7, nm_m15, nm_m31, nm_m63, nm_m255, nm_m511, nm_m1023, nm_m2047, nm_m65535, Nat.reduceMod, Nat.reducePow, Nat.reduceAdd, Nat.reduceSub, Nat.reduceMul, nm_bo, nm_bi, nm_rc, nm_ic, nm_ri, nm_rl, nm_rq, nm_ql, nm_qi, nm_li, nm_us, nm_uu, nm_cp, nm_sa31, nm_sa7, nm_m127, nm_m2, nm_nz, nm_nzk, nm_eq32, nm_nzf, if_true, if_false, ↓reduceIte, if_pos, if_neg]
  · have u5 : o < 2 ^ 31 := by omega
    have n1 : ¬ nI o = -nI 1 := nk_ne u5
    have q0 : o * 5 < 240 := by omega
    have q1 : o * 5 + 1 < 240 := by omega
    have q3 : o * 5 + 3 < 240 := by omega
    have q4 : o * 5 + 4 < 240 := by omega
    have hW : w = 0 ∨ w = 1 ∨ w = 2 ∨ w = 3 ∨ w = 4 := by omega
    have hk : k = 1 ∨ k = 2 ∨ k = 3 ∨ k = 4 := by omega
    rcases hW with rfl | rfl | rfl | rfl | rfl
    · refine Or.inr ⟨o, nI k, ho, y6, ?_, ?_⟩
      · simp (disch := (first | assumption | decide | omega)) only [df_X10_told_0, df_X10_told, df_X10_of_0, df_X10_of, y8, Nat.add_zero, eq_self, Nat.reduceEqDiff, Nat.reduceLeDiff, nl_1, nl_2, nl_5, nl_240, no_1, no_1024, pk_mul, nI_add, nm_ck, nI_clamp, nI_ltI, nI_leI, nI_eq, nb_b2, nb_b1, ↓nb_let, nm_z0, nm_z1, nb_II, nb_IR, nb_RI, nb_RR, nm_IL, nm_IQ, nm_RL, nm_RQ, nm_LI, nm_LR, nm_LL, nm_LQ, nm_QI, nm_QR, nm_QL, nm_QQ, nm_rr, nm_ii, nm_eqm, not_false_eq_true, pk_sub, nm_div, nm_shl, nm_shr, nm_ush, nm_or8, nm_or64, nm_or256, nm_m1, nm_m3, nm_m7, nm_m15, nm_m31, nm_m63, nm_m255, nm_m511, nm_m1023, nm_m2047, nm_m65535, Nat.reduceMod, Nat.reducePow, Nat.reduceAdd, Nat.reduceSub, Nat.reduceMul, nm_bo, nm_bi, nm_rc, nm_ic, nm_ri, nm_rl, nm_rq, nm_ql, nm_qi, nm_li, nm_us, nm_uu, nm_cp, nm_sa31, nm_sa7, nm_m127, nm_m2, nm_nz, nm_nzk, nm_eq32, nm_nzf, if_true, if_false, ↓reduceIte, if_pos, if_neg]
      · simp (disch := (first | assumption | decide | omega)) only [df_X16_descriptor_29, df_X16_descriptor_163, df_X16_descriptor_186, df_X16_descriptor_59, df_X16_descriptor_0, df_X16_descriptor, y7, n1, y9, eq_self, Nat.reduceEqDiff, Nat.reduceLeDiff, nl_0, nl_1, nl_2, nl_3, nl_4, nl_7, nl_8, nl_14, nl_15, nl_16, nl_19, nl_20, nl_21, nl_22, nl_26, nl_28, nl_48, nl_256, no_1, no_1024, pk_mul, nI_add, nm_ck, nI_clamp, nI_ltI, nI_leI, nI_eq, nb_b2, nb_b1, ↓nb_let, nm_z0, nm_z1, nb_II, nb_IR, nb_RI, nb_RR, nm_IL, nm_IQ, nm_RL, nm_RQ, nm_LI, nm_LR, nm_LL, nm_LQ, nm_QI, nm_QR, nm_QL, nm_QQ, nm_rr, nm_ii, nm_eqm, not_false_eq_true, pk_sub, nm_div, nm_shl, nm_shr, nm_ush, nm_or8, nm_or64, nm_or256, nm_m1, nm_m3, nm_m7, nm_m15, nm_m31, nm_m63, nm_m255, nm_m511, nm_m1023, nm_m2047, nm_m65535, Nat.reduceMod, Nat.reducePow, Nat.reduceAdd, Nat.reduceSub, Nat.reduceMul, nm_bo, nm_bi, nm_rc, nm_ic, nm_ri, nm_rl, nm_rq, nm_ql, nm_qi, nm_li, nm_us, nm_uu, nm_cp, nm_sa31, nm_sa7, nm_m127, nm_m2, nm_nz, nm_nzk, nm_eq32, nm_nzf, if_true, if_false, ↓reduceIte, if_pos, if_neg]
    · have hh := sg_held n hn X o
      refine Or.inr ⟨o, nI (cD (sR X.1 14) o), ho, y6, ?_, ?_⟩
      · simp (disch := (first | assumption | decide | omega)) only [df_X10_told_0, df_X10_told, df_X10_of_0, df_X10_of, y11, eq_self, Nat.reduceEqDiff, Nat.reduceLeDiff, nl_1, nl_2, nl_5, nl_240, no_1, no_1024, pk_mul, nI_add, nm_ck, nI_clamp, nI_ltI, nI_leI, nI_eq, nb_b2, nb_b1, ↓nb_let, nm_z0, nm_z1, nb_II, nb_IR, nb_RI, nb_RR, nm_IL, nm_IQ, nm_RL, nm_RQ, nm_LI, nm_LR, nm_LL, nm_LQ, nm_QI, nm_QR, nm_QL, nm_QQ, nm_rr, nm_ii, nm_eqm, not_false_eq_true, pk_sub, nm_div, nm_shl, nm_shr, nm_ush, nm_or8, nm_or64, nm_or256, nm_m1, nm_m3, nm_m7, nm_m15, nm_m31, nm_m63, nm_m255, nm_m511, nm_m1023, nm_m2047, nm_m65535, Nat.reduceMod, Nat.reducePow, Nat.reduceAdd, Nat.reduceSub, Nat.reduceMul, nm_bo, nm_bi, nm_rc, nm_ic, nm_ri, nm_rl, nm_rq, nm_ql, nm_qi, nm_li, nm_us, nm_uu, nm_cp, nm_sa31, nm_sa7, nm_m127, nm_m2, nm_nz, nm_nzk, nm_eq32, nm_nzf, if_true, if_false, ↓reduceIte, if_pos, if_neg]
      · simp (disch := (first | assumption | decide | omega)) only [df_X16_descriptor_29, df_X16_descriptor_163, df_X16_descriptor_186, df_X16_descriptor_59, df_X16_descriptor_0, df_X16_descriptor, y7, n1, hh, eq_self, Nat.reduceEqDiff, Nat.reduceLeDiff, nl_0, nl_1, nl_2, nl_3, nl_4, nl_7, nl_8, nl_14, nl_15, nl_16, nl_19, nl_20, nl_21, nl_22, nl_26, nl_28, nl_48, nl_256, no_1, no_1024, pk_mul, nI_add, nm_ck, nI_clamp, nI_ltI, nI_leI, nI_eq, nb_b2, nb_b1, ↓nb_let, nm_z0, nm_z1, nb_II, nb_IR, nb_RI, nb_RR, nm_IL, nm_IQ, nm_RL, nm_RQ, nm_LI, nm_LR, nm_LL, nm_LQ, nm_QI, nm_QR, nm_QL, nm_QQ, nm_rr, nm_ii, nm_eqm, not_false_eq_true, pk_sub, nm_div, nm_shl, nm_shr, nm_ush, nm_or8, nm_or64, nm_or256, nm_m1, nm_m3, nm_m7, nm_m15, nm_m31, nm_m63, nm_m255, nm_m511, nm_m1023, nm_m2047, nm_m65535, Nat.reduceMod, Nat.reducePow, Nat.reduceAdd, Nat.reduceSub, Nat.reduceMul, nm_bo, nm_bi, nm_rc, nm_ic, nm_ri, nm_rl, nm_rq, nm_ql, nm_qi, nm_li, nm_us, nm_uu, nm_cp, nm_sa31, nm_sa7, nm_m127, nm_m2, nm_nz, nm_nzk, nm_eq32, nm_nzf, if_true, if_false, ↓reduceIte, if_pos, if_neg]
    · refine Or.inr ⟨o, nI L, ho, y6, ?_, ?_⟩
      · simp (disch := (first | assumption | decide | omega)) only [df_X10_told_0, df_X10_told, y15, eq_self, Nat.reduceEqDiff, Nat.reduceLeDiff, nl_1, nl_2, no_1, no_1024, pk_mul, nI_add, nm_ck, nI_clamp, nI_ltI, nI_leI, nI_eq, nb_b2, nb_b1, ↓nb_let, nm_z0, nm_z1, nb_II, nb_IR, nb_RI, nb_RR, nm_IL, nm_IQ, nm_RL, nm_RQ, nm_LI, nm_LR, nm_LL, nm_LQ, nm_QI, nm_QR, nm_QL, nm_QQ, nm_rr, nm_ii, nm_eqm, not_false_eq_true, pk_sub, nm_div, nm_shl, nm_shr, nm_ush, nm_or8, nm_or64, nm_or256, nm_m1, nm_m3, nm_m7, nm_m15, nm_m31, nm_m63, nm_m255, nm_m511, nm_m1023, nm_m2047, nm_m65535, Nat.reduceMod, Nat.reducePow, Nat.reduceAdd, Nat.reduceSub, Nat.reduceMul, nm_bo, nm_bi, nm_rc, nm_ic, nm_ri, nm_rl, nm_rq, nm_ql, nm_qi, nm_li, nm_us, nm_uu, nm_cp, nm_sa31, nm_sa7, nm_m127, nm_m2, nm_nz, nm_nzk, nm_eq32, nm_nzf, if_true, if_false, ↓reduceIte, if_pos, if_neg]
      · have v8 : t < 2 ^ 31 := by omega
        rcases hk with rfl | rfl | rfl | rfl
        · have t8 := y4 (by omega)
          have y18 := y18 (by omega)
          simp (disch := (first | assumption | decide | omega)) only [df_X16_descriptor_29, df_X16_descriptor_163, df_X16_descriptor_186, df_X16_descriptor_59, df_X16_descriptor_0, df_X16_descriptor, y7, n1, y9, y10, y18, eq_self, Nat.reduceEqDiff, Nat.reduceLeDiff, nl_0, nl_1, nl_2, nl_3, nl_4, nl_7, nl_8, nl_14, nl_15, nl_16, nl_19, nl_20, nl_21, nl_22, nl_26, nl_28, nl_48, nl_256, no_1, no_1024, pk_mul, nI_add, nm_ck, nI_clamp, nI_ltI, nI_leI, nI_eq, nb_b2, nb_b1, ↓nb_let, nm_z0, nm_z1, nb_II, nb_IR, nb_RI, nb_RR, nm_IL, nm_IQ, nm_RL, nm_RQ, nm_LI, nm_LR, nm_LL, nm_LQ, nm_QI, nm_QR, nm_QL, nm_QQ, nm_rr, nm_ii, nm_eqm, not_false_eq_true, pk_sub, nm_div, nm_shl, nm_shr, nm_ush, nm_or8, nm_or64, nm_or256, nm_m1, nm_m3, nm_m7, nm_m15, nm_m31, nm_m63, nm_m255, nm_m511, nm_m1023, nm_m2047, nm_m65535, Nat.reduceMod, Nat.reducePow, Nat.reduceAdd, Nat.reduceSub, Nat.reduceMul, nm_bo, nm_bi, nm_rc, nm_ic, nm_ri, nm_rl, nm_rq, nm_ql, nm_qi, nm_li, nm_us, nm_uu, nm_cp, nm_sa31, nm_sa7, nm_m127, nm_m2, nm_nz, nm_nzk, nm_eq32, nm_nzf, if_true, if_false, ↓reduceIte, if_pos, if_neg]
        · have t8 := y4 (by omega)
          have y18 := y18 (by omega)
          simp (disch := (first | assumption | decide | omega)) only [df_X16_descriptor_29, df_X16_descriptor_163, df_X16_descriptor_186, df_X16_descriptor_59, df_X16_descriptor_0, df_X16_descriptor, y7, n1, y9, y10, y18, eq_self, Nat.reduceEqDiff, Nat.reduceLeDiff, nl_0, nl_1, nl_2, nl_3, nl_4, nl_7, nl_8, nl_14, nl_15, nl_16, nl_19, nl_20, nl_21, nl_22, nl_26, nl_28, nl_48, nl_256, no_1, no_1024, pk_mul, nI_add, nm_ck, nI_clamp, nI_ltI, nI_leI, nI_eq, nb_b2, nb_b1, ↓nb_let, nm_z0, nm_z1, nb_II, nb_IR, nb_RI, nb_RR, nm_IL, nm_IQ, nm_RL, nm_RQ, nm_LI, nm_LR, nm_LL, nm_LQ, nm_QI, nm_QR, nm_QL, nm_QQ, nm_rr, nm_ii, nm_eqm, not_false_eq_true, pk_sub, nm_div, nm_shl, nm_shr, nm_ush, nm_or8, nm_or64, nm_or256, nm_m1, nm_m3, nm_m7, nm_m15, nm_m31, nm_m63, nm_m255, nm_m511, nm_m1023, nm_m2047, nm_m65535, Nat.reduceMod, Nat.reducePow, Nat.reduceAdd, Nat.reduceSub, Nat.reduceMul, nm_bo, nm_bi, nm_rc, nm_ic, nm_ri, nm_rl, nm_rq, nm_ql, nm_qi, nm_li, nm_us, nm_uu, nm_cp, nm_sa31, nm_sa7, nm_m127, nm_m2, nm_nz, nm_nzk, nm_eq32, nm_nzf, if_true, if_false, ↓reduceIte, if_pos, if_neg]
        · have y16 := y16 rfl
          simp (disch := (first | assumption | decide | omega)) only [df_X16_descriptor_29, df_X16_descriptor_163, df_X16_descriptor_186, df_X16_descriptor_59, df_X16_descriptor_0, df_X16_descriptor, y7, n1, y9, y10, y16, eq_self, Nat.reduceEqDiff, Nat.reduceLeDiff, nl_0, nl_1, nl_2, nl_3, nl_4, nl_7, nl_8, nl_14, nl_15, nl_16, nl_19, nl_20, nl_21, nl_22, nl_26, nl_28, nl_48, nl_256, no_1, no_1024, pk_mul, nI_add, nm_ck, nI_clamp, nI_ltI, nI_leI, nI_eq, nb_b2, nb_b1, ↓nb_let, nm_z0, nm_z1, nb_II, nb_IR, nb_RI, nb_RR, nm_IL, nm_IQ, nm_RL, nm_RQ, nm_LI, nm_LR, nm_LL, nm_LQ, nm_QI, nm_QR, nm_QL, nm_QQ, nm_rr, nm_ii, nm_eqm, not_false_eq_true, pk_sub, nm_div, nm_shl, nm_shr, nm_ush, nm_or8, nm_or64, nm_or256, nm_m1, nm_m3, nm_m7, nm_m15, nm_m31, nm_m63, nm_m255, nm_m511, nm_m1023, nm_m2047, nm_m65535, Nat.reduceMod, Nat.reducePow, Nat.reduceAdd, Nat.reduceSub, Nat.reduceMul, nm_bo, nm_bi, nm_rc, nm_ic, nm_ri, nm_rl, nm_rq, nm_ql, nm_qi, nm_li, nm_us, nm_uu, nm_cp, nm_sa31, nm_sa7, nm_m127, nm_m2, nm_nz, nm_nzk, nm_eq32, nm_nzf, if_true, if_false, ↓reduceIte, if_pos, if_neg]
        · have y17 := y17 rfl
          simp (disch := (first | assumption | decide | omega)) only [df_X16_descriptor_29, df_X16_descriptor_163, df_X16_descriptor_186, df_X16_descriptor_59, df_X16_descriptor_0, df_X16_descriptor, y7, n1, y9, y10, y17, eq_self, Nat.reduceEqDiff, Nat.reduceLeDiff, nl_0, nl_1, nl_2, nl_3, nl_4, nl_7, nl_8, nl_14, nl_15, nl_16, nl_19, nl_20, nl_21, nl_22, nl_26, nl_28, nl_48, nl_256, no_1, no_1024, pk_mul, nI_add, nm_ck, nI_clamp, nI_ltI, nI_leI, nI_eq, nb_b2, nb_b1, ↓nb_let, nm_z0, nm_z1, nb_II, nb_IR, nb_RI, nb_RR, nm_IL, nm_IQ, nm_RL, nm_RQ, nm_LI, nm_LR, nm_LL, nm_LQ, nm_QI, nm_QR, nm_QL, nm_QQ, nm_rr, nm_ii, nm_eqm, not_false_eq_true, pk_sub, nm_div, nm_shl, nm_shr, nm_ush, nm_or8, nm_or64, nm_or256, nm_m1, nm_m3, nm_m7, nm_m15, nm_m31, nm_m63, nm_m255, nm_m511, nm_m1023, nm_m2047, nm_m65535, Nat.reduceMod, Nat.reducePow, Nat.reduceAdd, Nat.reduceSub, Nat.reduceMul, nm_bo, nm_bi, nm_rc, nm_ic, nm_ri, nm_rl, nm_rq, nm_ql, nm_qi, nm_li, nm_us, nm_uu, nm_cp, nm_sa31, nm_sa7, nm_m127, nm_m2, nm_nz, nm_nzk, nm_eq32, nm_nzf, if_true, if_false, ↓reduceIte, if_pos, if_neg]
    · by_cases k3 : k = 3
      · have y13 := y13 k3
        subst k3
        refine Or.inr ⟨o, sR X.1 21 o, ho, y6, ?_, ?_⟩
        · simp (disch := (first | assumption | decide | omega)) only [df_X10_told_0, df_X10_told, df_X10_of_0, df_X10_of, y13, eq_self, Nat.reduceEqDiff, Nat.reduceLeDiff, nl_1, nl_2, nl_5, nl_240, no_1, no_1024, pk_mul, nI_add, nm_ck, nI_clamp, nI_ltI, nI_leI, nI_eq, nb_b2, nb_b1, ↓nb_let, nm_z0, nm_z1, nb_II, nb_IR, nb_RI, nb_RR, nm_IL, nm_IQ, nm_RL, nm_RQ, nm_LI, nm_LR, nm_LL, nm_LQ, nm_QI, nm_QR, nm_QL, nm_QQ, nm_rr, nm_ii, nm_eqm, not_false_eq_true, pk_sub, nm_div, nm_shl, nm_shr, nm_ush, nm_or8, nm_or64, nm_or256, nm_m1, nm_m3, nm_m7, nm_m15, nm_m31, nm_m63, nm_m255, nm_m511, nm_m1023, nm_m2047, nm_m65535, Nat.reduceMod, Nat.reducePow, Nat.reduceAdd, Nat.reduceSub, Nat.reduceMul, nm_bo, nm_bi, nm_rc, nm_ic, nm_ri, nm_rl, nm_rq, nm_ql, nm_qi, nm_li, nm_us, nm_uu, nm_cp, nm_sa31, nm_sa7, nm_m127, nm_m2, nm_nz, nm_nzk, nm_eq32, nm_nzf, if_true, if_false, ↓reduceIte, if_pos, if_neg]
        · simp (disch := (first | assumption | decide | omega)) only [df_X16_descriptor_29, df_X16_descriptor_163, df_X16_descriptor_186, df_X16_descriptor_59, df_X16_descriptor_0, df_X16_descriptor, y7, n1, y9, eq_self, Nat.reduceEqDiff, Nat.reduceLeDiff, nl_0, nl_1, nl_2, nl_3, nl_4, nl_7, nl_8, nl_14, nl_15, nl_16, nl_19, nl_20, nl_21, nl_22, nl_26, nl_28, nl_48, nl_256, no_1, no_1024, pk_mul, nI_add, nm_ck, nI_clamp, nI_ltI, nI_leI, nI_eq, nb_b2, nb_b1, ↓nb_let, nm_z0, nm_z1, nb_II, nb_IR, nb_RI, nb_RR, nm_IL, nm_IQ, nm_RL, nm_RQ, nm_LI, nm_LR, nm_LL, nm_LQ, nm_QI, nm_QR, nm_QL, nm_QQ, nm_rr, nm_ii, nm_eqm, not_false_eq_true, pk_sub, nm_div, nm_shl, nm_shr, nm_ush, nm_or8, nm_or64, nm_or256, nm_m1, nm_m3, nm_m7, nm_m15, nm_m31, nm_m63, nm_m255, nm_m511, nm_m1023, nm_m2047, nm_m65535, Nat.reduceMod, Nat.reducePow, Nat.reduceAdd, Nat.reduceSub, Nat.reduceMul, nm_bo, nm_bi, nm_rc, nm_ic, nm_ri, nm_rl, nm_rq, nm_ql, nm_qi, nm_li, nm_us, nm_uu, nm_cp, nm_sa31, nm_sa7, nm_m127, nm_m2, nm_nz, nm_nzk, nm_eq32, nm_nzf, if_true, if_false, ↓reduceIte, if_pos, if_neg]
      · have y14 := y14 k3
        have n3 : ¬ nI k = nI 3 := fun z => by rw [nI_eq (by omega) (by omega)] at z; exact k3 z
        refine Or.inr ⟨o, nI 0, ho, y6, ?_, ?_⟩
        · simp (disch := (first | assumption | decide | omega)) only [df_X10_told_0, df_X10_told, df_X10_of_0, df_X10_of, y14, eq_self, Nat.reduceEqDiff, Nat.reduceLeDiff, nl_1, nl_2, nl_5, nl_240, no_1, no_1024, pk_mul, nI_add, nm_ck, nI_clamp, nI_ltI, nI_leI, nI_eq, nb_b2, nb_b1, ↓nb_let, nm_z0, nm_z1, nb_II, nb_IR, nb_RI, nb_RR, nm_IL, nm_IQ, nm_RL, nm_RQ, nm_LI, nm_LR, nm_LL, nm_LQ, nm_QI, nm_QR, nm_QL, nm_QQ, nm_rr, nm_ii, nm_eqm, not_false_eq_true, pk_sub, nm_div, nm_shl, nm_shr, nm_ush, nm_or8, nm_or64, nm_or256, nm_m1, nm_m3, nm_m7, nm_m15, nm_m31, nm_m63, nm_m255, nm_m511, nm_m1023, nm_m2047, nm_m65535, Nat.reduceMod, Nat.reducePow, Nat.reduceAdd, Nat.reduceSub, Nat.reduceMul, nm_bo, nm_bi, nm_rc, nm_ic, nm_ri, nm_rl, nm_rq, nm_ql, nm_qi, nm_li, nm_us, nm_uu, nm_cp, nm_sa31, nm_sa7, nm_m127, nm_m2, nm_nz, nm_nzk, nm_eq32, nm_nzf, if_true, if_false, ↓reduceIte, if_pos, if_neg]
        · simp (disch := (first | assumption | decide | omega)) only [df_X16_descriptor_29, df_X16_descriptor_163, df_X16_descriptor_186, df_X16_descriptor_59, df_X16_descriptor_0, df_X16_descriptor, y7, n1, y9, n3, eq_self, Nat.reduceEqDiff, Nat.reduceLeDiff, nl_0, nl_1, nl_2, nl_3, nl_4, nl_7, nl_8, nl_14, nl_15, nl_16, nl_19, nl_20, nl_21, nl_22, nl_26, nl_28, nl_48, nl_256, no_1, no_1024, pk_mul, nI_add, nm_ck, nI_clamp, nI_ltI, nI_leI, nI_eq, nb_b2, nb_b1, ↓nb_let, nm_z0, nm_z1, nb_II, nb_IR, nb_RI, nb_RR, nm_IL, nm_IQ, nm_RL, nm_RQ, nm_LI, nm_LR, nm_LL, nm_LQ, nm_QI, nm_QR, nm_QL, nm_QQ, nm_rr, nm_ii, nm_eqm, not_false_eq_true, pk_sub, nm_div, nm_shl, nm_shr, nm_ush, nm_or8, nm_or64, nm_or256, nm_m1, nm_m3, nm_m7, nm_m15, nm_m31, nm_m63, nm_m255, nm_m511, nm_m1023, nm_m2047, nm_m65535, Nat.reduceMod, Nat.reducePow, Nat.reduceAdd, Nat.reduceSub, Nat.reduceMul, nm_bo, nm_bi, nm_rc, nm_ic, nm_ri, nm_rl, nm_rq, nm_ql, nm_qi, nm_li, nm_us, nm_uu, nm_cp, nm_sa31, nm_sa7, nm_m127, nm_m2, nm_nz, nm_nzk, nm_eq32, nm_nzf, if_true, if_false, ↓reduceIte, if_pos, if_neg]
    · refine Or.inr ⟨o, sR X.1 22 o, ho, y6, ?_, ?_⟩
      · simp (disch := (first | assumption | decide | omega)) only [df_X10_told_0, df_X10_told, df_X10_of_0, df_X10_of, y12, eq_self, Nat.reduceEqDiff, Nat.reduceLeDiff, nl_1, nl_2, nl_5, nl_240, no_1, no_1024, pk_mul, nI_add, nm_ck, nI_clamp, nI_ltI, nI_leI, nI_eq, nb_b2, nb_b1, ↓nb_let, nm_z0, nm_z1, nb_II, nb_IR, nb_RI, nb_RR, nm_IL, nm_IQ, nm_RL, nm_RQ, nm_LI, nm_LR, nm_LL, nm_LQ, nm_QI, nm_QR, nm_QL, nm_QQ, nm_rr, nm_ii, nm_eqm, not_false_eq_true, pk_sub, nm_div, nm_shl, nm_shr, nm_ush, nm_or8, nm_or64, nm_or256, nm_m1, nm_m3, nm_m7, nm_m15, nm_m31, nm_m63, nm_m255, nm_m511, nm_m1023, nm_m2047, nm_m65535, Nat.reduceMod, Nat.reducePow, Nat.reduceAdd, Nat.reduceSub, Nat.reduceMul, nm_bo, nm_bi, nm_rc, nm_ic, nm_ri, nm_rl, nm_rq, nm_ql, nm_qi, nm_li, nm_us, nm_uu, nm_cp, nm_sa31, nm_sa7, nm_m127, nm_m2, nm_nz, nm_nzk, nm_eq32, nm_nzf, if_true, if_false, ↓reduceIte, if_pos, if_neg]
      · simp (disch := (first | assumption | decide | omega)) only [df_X16_descriptor_29, df_X16_descriptor_163, df_X16_descriptor_186, df_X16_descriptor_59, df_X16_descriptor_0, df_X16_descriptor, y7, n1, y9, eq_self, Nat.reduceEqDiff, Nat.reduceLeDiff, nl_0, nl_1, nl_2, nl_3, nl_4, nl_7, nl_8, nl_14, nl_15, nl_16, nl_19, nl_20, nl_21, nl_22, nl_26, nl_28, nl_48, nl_256, no_1, no_1024, pk_mul, nI_add, nm_ck, nI_clamp, nI_ltI, nI_leI, nI_eq, nb_b2, nb_b1, ↓nb_let, nm_z0, nm_z1, nb_II, nb_IR, nb_RI, nb_RR, nm_IL, nm_IQ, nm_RL, nm_RQ, nm_LI, nm_LR, nm_LL, nm_LQ, nm_QI, nm_QR, nm_QL, nm_QQ, nm_rr, nm_ii, nm_eqm, not_false_eq_true, pk_sub, nm_div, nm_shl, nm_shr, nm_ush, nm_or8, nm_or64, nm_or256, nm_m1, nm_m3, nm_m7, nm_m15, nm_m31, nm_m63, nm_m255, nm_m511, nm_m1023, nm_m2047, nm_m65535, Nat.reduceMod, Nat.reducePow, Nat.reduceAdd, Nat.reduceSub, Nat.reduceMul, nm_bo, nm_bi, nm_rc, nm_ic, nm_ri, nm_rl, nm_rq, nm_ql, nm_qi, nm_li, nm_us, nm_uu, nm_cp, nm_sa31, nm_sa7, nm_m127, nm_m2, nm_nz, nm_nzk, nm_eq32, nm_nzf, if_true, if_false, ↓reduceIte, if_pos, if_neg]
/-- descriptor -/
theorem jc_descriptor (n T L : Nat) (hn : 70000 < n) (p d w : Int32) (σ : S12) (τ : S19) (h : jA n (tl σ) τ) : ∃ (v : Int32) (τ' : S19), df_X12_descriptor n T L p d w σ = some (v, σ) ∧ df_X19_descriptor n p d w τ = some (v, τ') ∧ jA n (tl σ) τ' ∧ kR τ τ' := by
  have n1 : ¬ nI 1 = (0 : Int32) := by decide
  have n0 : nI 0 = (0 : Int32) := rfl
  obtain ⟨P, hP, rfl⟩ := nI_ex p
  obtain ⟨D, hD, rfl⟩ := nI_ex d
  obtain ⟨W, hW, rfl⟩ := nI_ex w
  have iD : df_X19_in n (nI D).toInt64 0 15 () = some (if D ≤ 15 then nI 1 else nI 0, ()) := in_b n (b := 15) hD (by omega) rfl
  have i15 : df_X19_in n (nI P).toInt64 0 15 () = some (if P ≤ 15 then nI 1 else nI 0, ()) := in_b n (b := 15) hP (by omega) rfl
  have w0 : nI W = (0 : Int32) ↔ W = 0 := ⟨fun z => by
    have z : nI W = nI 0 := z
    by_cases y : W < 2 ^ 31
    · rw [nI_eq y (by omega)] at z; exact z
    · have := nm_neg (by omega) hW
      rw [z] at this
      exact absurd this (by decide), fun z => by rw [z]; rfl⟩
  have no32 : ∀ s : S19, df_X19_descriptor_32 n (nI D) (nI W) s = some (if W = 0 ∧ D ≤ 15 then 0 else -1, s) := fun s => by
    unfold df_X19_descriptor_32 df_X19_descriptor_52 df_X19_descriptor_53
    by_cases c : W = 0
    · rw [if_pos (w0.mpr c), iD, nb_b2]
      by_cases c2 : D ≤ 15
      · rw [if_pos c2, if_neg n1, if_pos ⟨c, c2⟩]
      · rw [if_neg c2, if_pos n0, if_neg (fun z => c2 z.2)]
    · rw [if_neg (fun z => c (w0.mp z)), if_neg (fun z => c z.1)]
  -- both refuse
  have bad : ¬ (D ≤ 15 ∧ W ≤ 4) → df_X12_descriptor n T L (nI P) (nI D) (nI W) σ = some (-1, σ) := fun z => by
    unfold df_X12_descriptor df_X12_descriptor_0 df_X12_descriptor_19
    by_cases c : D ≤ 15
    · obtain ⟨a1, a2⟩ := rg_c hD (k := 16) (by omega) (by omega)
      rw [if_neg a1, if_neg (show ¬ (16 : Int32) ≤ nI D from a2)]
      rcases rg_e hW (k := 4) (by omega) (fun y => z ⟨c, y⟩) with b | ⟨b1, b2⟩
      · rw [if_pos b]
      · rw [if_neg b1, if_neg (show ¬ nI W ≤ (4 : Int32) from b2)]
    · rcases rg_d hD (k := 16) (by omega) (by omega) with b | ⟨b1, b2⟩
      · rw [if_pos b]
      · rw [if_neg b1, if_pos (show (16 : Int32) ≤ nI D from b2)]
  have go : D ≤ 15 ∧ W ≤ 4 → df_X12_descriptor n T L (nI P) (nI D) (nI W) σ = nd_b2 (df_X12_isThere n T L (nI P) σ) (fun q5 s6 => if q5 = 0 then (df_X12_descriptor_48 n T L (nI W) (-1) s6) else (nd_b2 (df_X10_openingOf n (nI P) (nI D) s6.2.2.2.2.2.1.2.2.2) (fun q15 s16 => nd_let ((s6.1, (s6.2.1, (s6.2.2.1, (s6.2.2.2.1, (s6.2.2.2.2.1, ((s6.2.2.2.2.2.1.1, (s6.2.2.2.2.2.1.2.1, (s6.2.2.2.2.2.1.2.2.1, s16))), s6.2.2.2.2.2.2))))))) (fun s18 => df_X12_descriptor_48 n T L (nI W) q15 s18)))) := fun z => by
    obtain ⟨a1, a2⟩ := rg_c hD (k := 16) (by omega) (by omega)
    obtain ⟨b1, b2⟩ := rg_a hW (k := 4) (by omega) z.2
    unfold df_X12_descriptor df_X12_descriptor_0
    rw [if_neg a1, if_neg (show ¬ (16 : Int32) ≤ nI D from a2), if_neg b1, if_pos (show nI W ≤ (4 : Int32) from (show nI W ≤ nI 4 by rw [nI_leI (by omega) (by omega)]; exact z.2))]
  have m48 : ∀ s : S12, df_X12_descriptor_48 n T L (nI W) (-1) s = some (if W = 0 then 0 else -1, s) := fun s => by
    unfold df_X12_descriptor_48 df_X12_descriptor_64
    rw [if_neg (show ¬ (0 : Int32) ≤ -1 by decide)]
    by_cases c : W = 0
    · rw [if_pos (w0.mpr c), if_pos c]
    · rw [if_neg (fun z => c (w0.mp z)), if_neg c]
  have val : D ≤ 15 ∧ W ≤ 4 → (if W = 0 then 0 else -1 : Int32) = if W = 0 ∧ D ≤ 15 then 0 else -1 := fun z => by
    by_cases c : W = 0
    · rw [if_pos c, if_pos ⟨c, z.1⟩]
    · rw [if_neg c, if_neg (fun y => c y.1)]
  have nval : ¬ (D ≤ 15 ∧ W ≤ 4) → (-1 : Int32) = if W = 0 ∧ D ≤ 15 then 0 else -1 := fun z => by
    rw [if_neg (fun y => z ⟨y.2, by omega⟩)]
  rcases jc_shows n hn h with ⟨h1, h2, h3⟩ | ⟨vn, Q, V, N, T', e, c, lo, τ', h1, h2, h3, h4, h5, h6, h7, h8⟩
  · refine ⟨if W = 0 ∧ D ≤ 15 then 0 else -1, (pI τ.1 0 0, τ.2), ?_, ?_, jA_0 h 0, kR_0 τ 0⟩
    · by_cases c : D ≤ 15 ∧ W ≤ 4
      · rw [go c, it_0 n T L h1, nb_b2, if_pos rfl, m48, val c]
      · rw [bad c, ← nval c]
    · unfold df_X19_descriptor df_X19_descriptor_0
      rw [h2, nb_b2, if_pos n0, no32]
  · by_cases y : P < 16
    · by_cases c : D ≤ 15 ∧ W ≤ 4
      · rcases sg_dtold n (by omega) h5 y (show D < 16 by omega) c.2 with ⟨e1, e2⟩ | ⟨o, r, ho, e1, e2, e3⟩
        · refine ⟨if W = 0 then 0 else -1, τ', ?_, ?_, h8, h7⟩
          · have e1 : df_X10_openingOf n (nI P) (nI D) σ.2.2.2.2.2.1.2.2.2 = some (-nI 1, σ.2.2.2.2.2.1.2.2.2) := e1
            rw [go c, it_1 n T L h1 hP, nb_b2, if_pos y, if_neg n1, e1, nb_b2, nb_let, show -nI 1 = (-1 : Int32) from rfl, m48]
          · unfold df_X19_descriptor df_X19_descriptor_0 df_X19_descriptor_53
            rw [h2, nb_b2, if_neg n1, i15, nb_b2, if_pos (show P ≤ 15 by omega), if_neg n1, e2, nb_b2, nb_let]
        · refine ⟨r, τ', ?_, ?_, h8, h7⟩
          · have e1 : df_X10_openingOf n (nI P) (nI D) σ.2.2.2.2.2.1.2.2.2 = some (nI o, σ.2.2.2.2.2.1.2.2.2) := e1
            have e2 : df_X10_told n (nI o) (nI W) σ.2.2.2.2.2.1.2.2.2 = some (r, σ.2.2.2.2.2.1.2.2.2) := e2
            rw [go c, it_1 n T L h1 hP, nb_b2, if_pos y, if_neg n1, e1, nb_b2, nb_let]
            unfold df_X12_descriptor_48
            rw [if_pos (show (0 : Int32) ≤ nI o from (show nI 0 ≤ nI o by rw [nI_leI (by omega) (by omega)]; omega))]
            dsimp only
            rw [e2, nb_b2, nb_let]
          · unfold df_X19_descriptor df_X19_descriptor_0 df_X19_descriptor_53
            rw [h2, nb_b2, if_neg n1, i15, nb_b2, if_pos (show P ≤ 15 by omega), if_neg n1, e3, nb_b2, nb_let]
      · refine ⟨-1, τ', bad c, ?_, h8, h7⟩
        have e2 : df_X16_descriptor n (nI P) (nI D) (nI W) τ'.2.2.1.2 = some (-1, τ'.2.2.1.2) := by
          unfold df_X16_descriptor df_X16_descriptor_0 df_X16_descriptor_29
          obtain ⟨a1, a2⟩ := rg_a hP (k := 15) (by omega) (by omega)
          rw [if_neg a1, if_neg (show ¬ (15 : Int32) < nI P from a2)]
          by_cases c2 : D ≤ 15
          · obtain ⟨b1, b2⟩ := rg_a hD (k := 15) (by omega) c2
            rw [if_neg b1, if_neg (show ¬ (15 : Int32) < nI D from b2)]
            rcases rg_e hW (k := 4) (by omega) (fun y => c ⟨c2, y⟩) with b | ⟨b3, b4⟩
            · rw [if_pos b]
            · rw [if_neg b3, if_neg (show ¬ nI W ≤ (4 : Int32) from b4)]
          · rcases rg_b hD (k := 15) (by omega) c2 with b | ⟨b1, b2⟩
            · rw [if_pos b]
            · rw [if_neg b1, if_pos (show (15 : Int32) < nI D from b2)]
        unfold df_X19_descriptor df_X19_descriptor_0 df_X19_descriptor_53
        rw [h2, nb_b2, if_neg n1, i15, nb_b2, if_pos (show P ≤ 15 by omega), if_neg n1, e2, nb_b2, nb_let]
    · refine ⟨if W = 0 ∧ D ≤ 15 then 0 else -1, τ', ?_, ?_, h8, h7⟩
      · by_cases c : D ≤ 15 ∧ W ≤ 4
        · rw [go c, it_1 n T L h1 hP, nb_b2, if_neg y, if_pos n0, m48, val c]
        · rw [bad c, ← nval c]
      · unfold df_X19_descriptor df_X19_descriptor_0
        rw [h2, nb_b2, if_neg n1, i15, nb_b2, if_neg (show ¬ P ≤ 15 by omega), if_pos n0, no32]
/-- a byte of what a descriptor leads to, in both -/
theorem sg_byte (n : Nat) (hn : 1024 < n) {B : Nat} {M X : St × St} (h : rM B M X) {p d i : Nat} (hp : p < 16) (hd : d < 2 ^ 32) (hi : i < 2 ^ 32) : (∃ q : Int32, q < 0 ∧ df_X10_openingOf n (nI p) (nI d) M.2 = some (q, M.2) ∧ df_X16_heldByte n (nI p) (nI d) (nI i) X = some (-1, X)) ∨ ∃ (o L : Nat), o < 48 ∧ L ≤ 512 ∧ df_X10_openingOf n (nI p) (nI d) M.2 = some (nI o, M.2) ∧ df_X10_amount n (nI o) M.2 = some (nI L, M.2) ∧ ((¬ i < L ∧ df_X16_heldByte n (nI p) (nI d) (nI i) X = some (-1, X)) ∨ (i < L ∧ ∃ z : Nat, df_X10_byteOf n (nI o) (nI i) M.2 = some (nI z, M.2) ∧ df_X16_heldByte n (nI p) (nI d) (nI i) X = some (nI z, X))) := by
  have n1' : ∀ v : Int32, v ≤ 0 → df_X16_descriptor n (nI p) (nI d) 2 X = some (v, X) → df_X16_heldByte n (nI p) (nI d) (nI i) X = some (-1, X) := fun v hv e => by
    unfold df_X16_heldByte df_X16_heldByte_0 df_X16_heldByte_19
    rw [e, nb_b2]
    by_cases a : nI i < (0 : Int32)
    · rw [if_pos a]
    · rw [if_neg a, if_neg (show ¬ nI i < v from fun z => a (by
        rw [Int32.lt_iff_toInt_lt] at z ⊢
        rw [Int32.le_iff_toInt_le] at hv
        have : (0 : Int32).toInt = 0 := rfl
        omega))]
  by_cases hd' : d < 16
  · rcases sg_desc n h hp hd' with ⟨a1, a2⟩ | ⟨o, k, t, L, ho, y1, y2, y3, y4, y5, y6, y7, y8, y9, y10, y11, y12, y13, y14, y15, y16, y17, y18, y19⟩
    · refine Or.inl ⟨-nI 1, by decide, a1, ?_⟩
      rcases sg_dtold n hn h hp hd' (w := 2) (by omega) with ⟨_, e2⟩ | ⟨o, r, ho, e1, _⟩
      · exact n1' _ (by decide) e2
      · rw [a1] at e1
        injection e1 with e1
        injection e1 with e1
        exact absurd e1.symm (nk_ne (by omega))
    · refine Or.inr ⟨o, L, ho, y5, y6, y15, ?_⟩
      have e2 : df_X16_descriptor n (nI p) (nI d) 2 X = some (nI L, X) := by
        rcases sg_dtold n hn h hp hd' (w := 2) (by omega) with ⟨e1, _⟩ | ⟨o', r, ho', e1, e2, e3⟩
        · rw [y6] at e1
          injection e1 with e1
          injection e1 with e1
          exact absurd e1 (nk_ne (by omega))
        · rw [y6] at e1
          injection e1 with e1
          injection e1 with e1 _
          rw [← e1] at e2
          unfold df_X10_told df_X10_told_0 at e2
          rw [if_neg (show ¬ nI 2 = (1 : Int32) by decide), if_pos (show nI 2 = (2 : Int32) from rfl), y15, nb_b2] at e2
          injection e2 with e2
          injection e2 with e2 _
          rw [e2]
          exact e3
      by_cases c : i < L
      · refine Or.inr ⟨c, ?_⟩
        obtain ⟨z, z1, z2, z3, z4⟩ := y19 i c
        refine ⟨z, z1, ?_⟩
        have u1 : p < 2 ^ 31 := by omega
        have u2 : d < 2 ^ 31 := by omega
        have u3 : i < 2 ^ 31 := by omega
        have u4 : L < 2 ^ 31 := by omega
        have u5 : o < 2 ^ 31 := by omega
        have u6 : 16 * p + d < 256 := by omega
        have u7 : t < 2 ^ 31 := by omega
        have u8 : i < 512 := by omega
        have hk : k = 1 ∨ k = 2 ∨ k = 3 ∨ k = 4 := by omega
        have e2 : df_X16_descriptor n (nI p) (nI d) (nI 2) X = some (nI L, X) := e2
        rcases hk with rfl | rfl | rfl | rfl
        · have t8 := y4 (by omega)
          have z4 := z4 (by omega)
          have v : 512 * t + i < 4096 := by omega
          simp (disch := (first | assumption | decide | omega)) only [df_X16_heldByte_19, df_X16_heldByte_104, df_X16_heldByte_0, df_X16_heldByte, e2, y7, y9, y10, z4, eq_self, Nat.reduceEqDiff, Nat.reduceLeDiff, nl_0, nl_1, nl_2, nl_3, nl_4, nl_14, nl_16, nl_19, nl_20, nl_27, nl_29, nl_31, nl_48, nl_256, nl_512, nl_4096, nl_8192, no_1, no_1024, pk_mul, nI_add, nm_ck, nI_clamp, nI_ltI, nI_leI, nI_eq, nb_b2, nb_b1, ↓nb_let, nm_z0, nm_z1, nb_II, nb_IR, nb_RI, nb_RR, nm_IL, nm_IQ, nm_RL, nm_RQ, nm_LI, nm_LR, nm_LL, nm_LQ, nm_QI, nm_QR, nm_QL, nm_QQ, nm_rr, nm_ii, nm_eqm, not_false_eq_true, pk_sub, nm_div, nm_shl, nm_shr, nm_ush, nm_or8, nm_or64, nm_or256, nm_m1, nm_m3, nm_m7, nm_m15, nm_m31, nm_m63, nm_m255, nm_m511, nm_m1023, nm_m2047, nm_m65535, Nat.reduceMod, Nat.reducePow, Nat.reduceAdd, Nat.reduceSub, Nat.reduceMul, nm_bo, nm_bi, nm_rc, nm_ic, nm_ri, nm_rl, nm_rq, nm_ql, nm_qi, nm_li, nm_us, nm_uu, nm_cp, nm_sa31, nm_sa7, nm_m127, nm_m2, nm_nz, nm_nzk, nm_eq32, nm_nzf, if_true, if_false, ↓reduceIte, if_pos, if_neg]
        · have t8 := y4 (by omega)
          have z4 := z4 (by omega)
          have v : 512 * t + i < 4096 := by omega
          simp (disch := (first | assumption | decide | omega)) only [df_X16_heldByte_19, df_X16_heldByte_104, df_X16_heldByte_0, df_X16_heldByte, e2, y7, y9, y10, z4, eq_self, Nat.reduceEqDiff, Nat.reduceLeDiff, nl_0, nl_1, nl_2, nl_3, nl_4, nl_14, nl_16, nl_19, nl_20, nl_27, nl_29, nl_31, nl_48, nl_256, nl_512, nl_4096, nl_8192, no_1, no_1024, pk_mul, nI_add, nm_ck, nI_clamp, nI_ltI, nI_leI, nI_eq, nb_b2, nb_b1, ↓nb_let, nm_z0, nm_z1, nb_II, nb_IR, nb_RI, nb_RR, nm_IL, nm_IQ, nm_RL, nm_RQ, nm_LI, nm_LR, nm_LL, nm_LQ, nm_QI, nm_QR, nm_QL, nm_QQ, nm_rr, nm_ii, nm_eqm, not_false_eq_true, pk_sub, nm_div, nm_shl, nm_shr, nm_ush, nm_or8, nm_or64, nm_or256, nm_m1, nm_m3, nm_m7, nm_m15, nm_m31, nm_m63, nm_m255, nm_m511, nm_m1023, nm_m2047, nm_m65535, Nat.reduceMod, Nat.reducePow, Nat.reduceAdd, Nat.reduceSub, Nat.reduceMul, nm_bo, nm_bi, nm_rc, nm_ic, nm_ri, nm_rl, nm_rq, nm_ql, nm_qi, nm_li, nm_us, nm_uu, nm_cp, nm_sa31, nm_sa7, nm_m127, nm_m2, nm_nz, nm_nzk, nm_eq32, nm_nzf, if_true, if_false, ↓reduceIte, if_pos, if_neg]
        · have z2 := z2 rfl
          have v : 512 * t + i < 8192 := by omega
          simp (disch := (first | assumption | decide | omega)) only [df_X16_heldByte_19, df_X16_heldByte_104, df_X16_heldByte_0, df_X16_heldByte, e2, y7, y9, y10, z2, eq_self, Nat.reduceEqDiff, Nat.reduceLeDiff, nl_0, nl_1, nl_2, nl_3, nl_4, nl_14, nl_16, nl_19, nl_20, nl_27, nl_29, nl_31, nl_48, nl_256, nl_512, nl_4096, nl_8192, no_1, no_1024, pk_mul, nI_add, nm_ck, nI_clamp, nI_ltI, nI_leI, nI_eq, nb_b2, nb_b1, ↓nb_let, nm_z0, nm_z1, nb_II, nb_IR, nb_RI, nb_RR, nm_IL, nm_IQ, nm_RL, nm_RQ, nm_LI, nm_LR, nm_LL, nm_LQ, nm_QI, nm_QR, nm_QL, nm_QQ, nm_rr, nm_ii, nm_eqm, not_false_eq_true, pk_sub, nm_div, nm_shl, nm_shr, nm_ush, nm_or8, nm_or64, nm_or256, nm_m1, nm_m3, nm_m7, nm_m15, nm_m31, nm_m63, nm_m255, nm_m511, nm_m1023, nm_m2047, nm_m65535, Nat.reduceMod, Nat.reducePow, Nat.reduceAdd, Nat.reduceSub, Nat.reduceMul, nm_bo, nm_bi, nm_rc, nm_ic, nm_ri, nm_rl, nm_rq, nm_ql, nm_qi, nm_li, nm_us, nm_uu, nm_cp, nm_sa31, nm_sa7, nm_m127, nm_m2, nm_nz, nm_nzk, nm_eq32, nm_nzf, if_true, if_false, ↓reduceIte, if_pos, if_neg]
        · have z3 := z3 rfl
          simp (disch := (first | assumption | decide | omega)) only [df_X16_heldByte_19, df_X16_heldByte_104, df_X16_heldByte_0, df_X16_heldByte, e2, y7, y9, y10, z3, eq_self, Nat.reduceEqDiff, Nat.reduceLeDiff, nl_0, nl_1, nl_2, nl_3, nl_4, nl_14, nl_16, nl_19, nl_20, nl_27, nl_29, nl_31, nl_48, nl_256, nl_512, nl_4096, nl_8192, no_1, no_1024, pk_mul, nI_add, nm_ck, nI_clamp, nI_ltI, nI_leI, nI_eq, nb_b2, nb_b1, ↓nb_let, nm_z0, nm_z1, nb_II, nb_IR, nb_RI, nb_RR, nm_IL, nm_IQ, nm_RL, nm_RQ, nm_LI, nm_LR, nm_LL, nm_LQ, nm_QI, nm_QR, nm_QL, nm_QQ, nm_rr, nm_ii, nm_eqm, not_false_eq_true, pk_sub, nm_div, nm_shl, nm_shr, nm_ush, nm_or8, nm_or64, nm_or256, nm_m1, nm_m3, nm_m7, nm_m15, nm_m31, nm_m63, nm_m255, nm_m511, nm_m1023, nm_m2047, nm_m65535, Nat.reduceMod, Nat.reducePow, Nat.reduceAdd, Nat.reduceSub, Nat.reduceMul, nm_bo, nm_bi, nm_rc, nm_ic, nm_ri, nm_rl, nm_rq, nm_ql, nm_qi, nm_li, nm_us, nm_uu, nm_cp, nm_sa31, nm_sa7, nm_m127, nm_m2, nm_nz, nm_nzk, nm_eq32, nm_nzf, if_true, if_false, ↓reduceIte, if_pos, if_neg]
      · refine Or.inl ⟨c, ?_⟩
        unfold df_X16_heldByte df_X16_heldByte_0 df_X16_heldByte_19
        rw [e2, nb_b2]
        rcases rg_d hi (k := L) (by omega) c with b | ⟨b1, b2⟩
        · rw [if_pos b]
        · rw [if_neg b1, if_neg (show ¬ nI i < nI L from fun z => by rw [Int32.lt_iff_toInt_lt] at z; rw [Int32.le_iff_toInt_le] at b2; omega)]
  · refine Or.inl ⟨-1, by decide, ?_, ?_⟩
    · unfold df_X10_openingOf df_X10_openingOf_0 df_X10_openingOf_10 df_X10_openingOf_27
      rcases rg_d hd (k := 16) (by omega) hd' with b | ⟨b1, b2⟩
      · rw [if_pos b]
      · rw [if_neg b1, if_neg (show ¬ nI d < (16 : Int32) from fun z => by have z : nI d < nI 16 := z; rw [Int32.lt_iff_toInt_lt] at z; rw [Int32.le_iff_toInt_le] at b2; omega)]
    · refine n1' (-1) (by decide) ?_
      unfold df_X16_descriptor df_X16_descriptor_0 df_X16_descriptor_29
      obtain ⟨a1, a2⟩ := rg_a (A := p) (k := 15) (by omega) (by omega) (by omega)
      rw [if_neg a1, if_neg (show ¬ (15 : Int32) < nI p from a2)]
      rcases rg_b hd (k := 15) (by omega) (by omega) with b | ⟨b1, b2⟩
      · rw [if_pos b]
      · rw [if_neg b1, if_pos (show (15 : Int32) < nI d from b2)]
/-- held -/
theorem jc_held (n T L : Nat) (hn : 70000 < n) (p d i : Int32) (σ : S12) (τ : S19) (h : jA n (tl σ) τ) : ∃ (v : Int32) (τ' : S19), df_X12_held n T L p d i σ = some (v, σ) ∧ df_X19_held n p d i τ = some (v, τ') ∧ jA n (tl σ) τ' ∧ kR τ τ' := by
  have n1 : ¬ nI 1 = (0 : Int32) := by decide
  have n0 : nI 0 = (0 : Int32) := rfl
  obtain ⟨P, hP, rfl⟩ := nI_ex p
  obtain ⟨D, hD, rfl⟩ := nI_ex d
  obtain ⟨I, hI, rfl⟩ := nI_ex i
  have i15 : df_X19_in n (nI P).toInt64 0 15 () = some (if P ≤ 15 then nI 1 else nI 0, ()) := in_b n (b := 15) hP (by omega) rfl
  have m27 : ∀ (q : Int32) (s : S12), q < 0 → df_X12_held_27 n T L (nI I) q s = some (-1, s) := fun q s hq => by
    unfold df_X12_held_27 df_X12_held_57
    rw [if_pos hq]
  rcases jc_shows n hn h with ⟨h1, h2, h3⟩ | ⟨vn, Q, V, N, T', e, c, lo, τ', h1, h2, h3, h4, h5, h6, h7, h8⟩
  · refine ⟨-1, (pI τ.1 0 0, τ.2), ?_, ?_, jA_0 h 0, kR_0 τ 0⟩
    · unfold df_X12_held df_X12_held_0
      rw [it_0 n T L h1, nb_b2, if_pos rfl, m27 _ _ (by decide)]
    · unfold df_X19_held df_X19_held_0 df_X19_held_32 df_X19_held_33
      rw [h2, nb_b2, if_pos n0]
  · by_cases y : P < 16
    · have goC : ∀ (q : Int32), df_X10_openingOf n (nI P) (nI D) (tl σ).2.2.1.2.2.2 = some (q, (tl σ).2.2.1.2.2.2) → df_X12_held n T L (nI P) (nI D) (nI I) σ = df_X12_held_27 n T L (nI I) q σ := fun q e => by
        have e : df_X10_openingOf n (nI P) (nI D) σ.2.2.2.2.2.1.2.2.2 = some (q, σ.2.2.2.2.2.1.2.2.2) := e
        unfold df_X12_held df_X12_held_0
        rw [it_1 n T L h1 hP, nb_b2, if_pos y, if_neg n1, e, nb_b2, nb_let]
      have goR : ∀ (v : Int32), df_X16_heldByte n (nI P) (nI D) (nI I) τ'.2.2.1.2 = some (v, τ'.2.2.1.2) → df_X19_held n (nI P) (nI D) (nI I) τ = some (v, τ') := fun v e => by
        unfold df_X19_held df_X19_held_0 df_X19_held_33
        rw [h2, nb_b2, if_neg n1, i15, nb_b2, if_pos (show P ≤ 15 by omega), if_neg n1, e, nb_b2, nb_let]
      rcases sg_byte n (by omega) h5 y hD hI with ⟨q, q1, q2, q3⟩ | ⟨o, Lh, ho, hL, e1, e2, e3⟩
      · exact ⟨-1, τ', by rw [goC q q2, m27 _ _ q1], goR _ q3, h8, h7⟩
      · have e2 : df_X10_amount n (nI o) σ.2.2.2.2.2.1.2.2.2 = some (nI Lh, σ.2.2.2.2.2.1.2.2.2) := e2
        have o0 : ¬ nI o < (0 : Int32) := fun z => by rw [lz_0 (by omega)] at z; omega
        rcases e3 with ⟨c1, c2⟩ | ⟨c1, z, z1, z2⟩
        · refine ⟨-1, τ', ?_, goR _ c2, h8, h7⟩
          rw [goC _ e1]
          unfold df_X12_held_27 df_X12_held_57
          rw [if_neg o0]
          rcases rg_d hI (k := Lh) (by omega) c1 with b | ⟨b1, b2⟩
          · rw [if_pos b]
          · rw [if_neg b1, e2, nb_b2, nb_let, if_neg (show ¬ nI I < nI Lh from fun z => by rw [Int32.lt_iff_toInt_lt] at z; rw [Int32.le_iff_toInt_le] at b2; omega)]
        · refine ⟨nI z, τ', ?_, goR _ z2, h8, h7⟩
          have z1 : df_X10_byteOf n (nI o) (nI I) σ.2.2.2.2.2.1.2.2.2 = some (nI z, σ.2.2.2.2.2.1.2.2.2) := z1
          rw [goC _ e1]
          unfold df_X12_held_27
          rw [if_neg o0, if_neg (show ¬ nI I < (0 : Int32) from fun z => by rw [lz_0 hI] at z; omega), e2, nb_b2, nb_let, if_pos (show nI I < nI Lh by rw [nI_ltI (by omega) (by omega)]; exact c1)]
          dsimp only
          rw [z1, nb_b2, nb_let]
    · refine ⟨-1, τ', ?_, ?_, h8, h7⟩
      · unfold df_X12_held df_X12_held_0
        rw [it_1 n T L h1 hP, nb_b2, if_neg y, if_pos n0, m27 _ _ (by decide)]
      · unfold df_X19_held df_X19_held_0 df_X19_held_32 df_X19_held_33
        rw [h2, nb_b2, if_neg n1, i15, nb_b2, if_neg (show ¬ P ≤ 15 by omega), if_pos n0]

