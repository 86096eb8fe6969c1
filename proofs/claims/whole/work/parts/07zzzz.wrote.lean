/-- what the class looks for in what a tick wrote -/
def hb (P A x : Int32) : Bool := decide ((x >>> ((26 : Int32) &&& 31)) = P) && (!decide (A < ((x >>> ((10 : Int32) &&& 31)) &&& 65535)) && !decide ((((x >>> ((10 : Int32) &&& 31)) &&& 65535) + (x &&& 1023)) ≤ A))
/-- the last of them below k -/
def lw (f : Nat → Bool) : Nat → Int32
  | 0 => -nI 1
  | k + 1 => if f k = true then nI k else lw f k
theorem nI_ne {a A : Nat} (ha : a < 65536) (hA : 65536 ≤ A) (h2 : A < 2 ^ 32) : ¬ nI a = nI A := fun z => by
  have := (nm_eq32 (by omega) h2).mp z
  omega
theorem wvs_0 {X : St × St} {p a A : Nat} (e : sI X.1 15 = nI A) (hA : 65536 ≤ A) (h2 : A < 2 ^ 32) : ∀ k : Nat, a + k ≤ 65536 → wvs X (nI 0) p a k = nI 0
  | 0, _ => rfl
  | k + 1, h => by
    show wv X (wvs X (nI 0) p a k) p (a + k) = nI 0
    rw [wvs_0 e hA h2 k (by omega)]
    unfold wv
    rw [if_pos rfl, e, if_neg (fun z => nI_ne (by omega) hA h2 z.2)]
theorem wvs_b {X : St × St} {p P a A : Nat} (hp : p < 16) (hP : P < 16) (hA : A < 65536) (e1 : sI X.1 14 = nI P) (e2 : sI X.1 15 = nI A) : ∀ k : Nat, a + k ≤ 65536 → wvs X (nI 0) p a k = bI (decide (p = P ∧ a ≤ A ∧ A < a + k))
  | 0, _ => by
    rw [decide_eq_false (by omega)]
    rfl
  | k + 1, h => by
    show wv X (wvs X (nI 0) p a k) p (a + k) = _
    rw [wvs_b hp hP hA e1 e2 k (by omega)]
    unfold wv
    rw [e1, e2]
    by_cases c : p = P ∧ a ≤ A ∧ A < a + k
    · rw [decide_eq_true c, if_neg (by decide), decide_eq_true (by omega)]
      rfl
    · rw [decide_eq_false c, if_pos bI_f]
      by_cases d : nI p = nI P ∧ nI (a + k) = nI A
      · have d1 := nm_inI (by omega) (by omega) d.1
        have d2 := nm_inI (by omega) (by omega) d.2
        rw [if_pos d, decide_eq_true (by omega)]
        rfl
      · have d' : ¬ (p = P ∧ a + k = A) := fun z => d ⟨by rw [z.1], by rw [z.2]⟩
        rw [if_neg d, decide_eq_false (by omega)]
        rfl
theorem hb_w {X : St × St} {p P A : Nat} {x w : Int32} (h : wrR X p x w) (hp : p < 16) (hP : P < 16) (hA : A < 65536) (e1 : sI X.1 14 = nI P) (e2 : sI X.1 15 = nI A) : w = bI (hb (nI P) (nI A) x) := by
  have s26 : (26 : Int32) &&& 31 = nI 26 := by decide
  have s10 : (10 : Int32) &&& 31 = nI 10 := by decide
  have k1 : (65535 : Int32) = nI 65535 := rfl
  have k2 : (1023 : Int32) = nI 1023 := rfl
  rcases h with ⟨z1, z2⟩ | ⟨a, k, k0, k5, ak, z1, z2⟩
  · rw [z1, z2]
    unfold hb
    rw [s26, s10, k1, k2, nm_shr (by omega) (by omega), nm_shr (by omega) (by omega), nm_m65535 (by omega), nm_m1023 (by omega), nI_add]
    have : decide (nI (0 / 2 ^ 10 % 65536 + 0 % 1024) ≤ nI A) = true := decide_eq_true (by rw [nI_leI (by omega) (by omega)]; omega)
    rw [this, Bool.not_true, Bool.and_false, Bool.and_false]
    rfl
  · rw [z1, z2, wvs_b hp hP hA e1 e2 k ak]
    unfold hb
    rw [s26, s10, k1, k2, nm_shr (by omega) (by omega), nm_shr (by omega) (by omega), nm_m65535 (by omega), nm_m1023 (by omega), nI_add]
    rw [show (p * 67108864 + a * 1024 + k) / 2 ^ 26 = p by omega, show (p * 67108864 + a * 1024 + k) / 2 ^ 10 % 65536 = a by omega, show (p * 67108864 + a * 1024 + k) % 1024 = k by omega]
    have d1 : decide (nI p = nI P) = decide (p = P) := decide_eq_decide.mpr (nI_eq (by omega) (by omega))
    have d2 : decide (nI A < nI a) = decide (A < a) := decide_eq_decide.mpr (nI_ltI (by omega) (by omega))
    have d3 : decide (nI (a + k) ≤ nI A) = decide (a + k ≤ A) := decide_eq_decide.mpr (nI_leI (by omega) (by omega))
    rw [d1, d2, d3]
    congr 1
    by_cases c1 : p = P
    · by_cases c2 : A < a
      · rw [decide_eq_true c2, decide_eq_false (by omega), Bool.not_true, Bool.false_and, Bool.and_false]
      · by_cases c3 : a + k ≤ A
        · rw [decide_eq_true c3, decide_eq_false (by omega), Bool.not_true, Bool.and_false, Bool.and_false]
        · rw [decide_eq_true c1, decide_eq_false c2, decide_eq_false c3, decide_eq_true (by omega)]
          rfl
    · rw [decide_eq_false c1, decide_eq_false (by omega), Bool.false_and]
theorem hb_n {X : St × St} {p A : Nat} {x w : Int32} (h : wrR X p x w) (hA : 65536 ≤ A) (h2 : A < 2 ^ 32) (e2 : sI X.1 15 = nI A) : w = nI 0 := by
  rcases h with ⟨_, z2⟩ | ⟨a, k, _, _, ak, _, z2⟩
  · exact z2
  · rw [z2]; exact wvs_0 e2 hA h2 k ak
/-- the class looks back -/
theorem cw_15 (n : Nat) {s : S11} {P A : Int32} : ∀ k g : Nat, k < g → k ≤ 60000 → df_X11_latestWrite_15 n g P A (nI k - nI 1) s = some (lw (fun j => hb P A (sR s.1 0 j)) k, s)
  | 0, g, hg, _ => by
    obtain ⟨g', rfl⟩ : ∃ g' : Nat, g = g' + 1 := ⟨g - 1, by omega⟩
    rw [show df_X11_latestWrite_15 n (g' + 1) = dF_X11_latestWrite_15 n (df_X11_latestWrite_15 n g') from rfl]
    unfold dF_X11_latestWrite_15
    rw [if_pos (show nI 0 - nI 1 < (0 : Int32) by decide)]
    rfl
  | k + 1, g, hg, hk => by
    obtain ⟨g', rfl⟩ : ∃ g' : Nat, g = g' + 1 := ⟨g - 1, by omega⟩
    have ih := cw_15 n (s := s) (P := P) (A := A) k g' (by omega) (by omega)
    rw [show df_X11_latestWrite_15 n (g' + 1) = dF_X11_latestWrite_15 n (df_X11_latestWrite_15 n g') from rfl, show nI (k + 1) - nI 1 = nI k from (pk_sub (show 1 ≤ k + 1 by omega)).trans (by rw [Nat.add_sub_cancel])]
    generalize df_X11_latestWrite_15 n g' = G at ih
    have st : nI k + Int32.ofInt (-1) = nI k - nI 1 := by rw [Int32.sub_eq_add_neg]; rfl
    have nx : df_X11_latestWrite_71 n G P A (nI k) s = some (lw (fun j => hb P A (sR s.1 0 j)) k, s) := by
      unfold df_X11_latestWrite_71
      rw [nb_let, st]
      exact ih
    have up : lw (fun j => hb P A (sR s.1 0 j)) (k + 1) = if hb P A (sR s.1 0 k) = true then nI k else lw (fun j => hb P A (sR s.1 0 j)) k := rfl
    rw [up]
    unfold dF_X11_latestWrite_15
    rw [if_neg (show ¬ nI k < (0 : Int32) from fun z => by have z : nI k < nI 0 := z; rw [nI_ltI (by omega) (by omega)] at z; omega), nm_ck (by omega) (by omega), nI_clamp (by omega), nb_let, nm_ck (by omega) (by omega), nx, nm_ck (by omega) (by omega)]
    generalize sR s.1 0 k = x
    by_cases c1 : (x >>> ((26 : Int32) &&& 31)) = P
    · rw [if_pos c1]
      by_cases c2 : A < ((x >>> ((10 : Int32) &&& 31)) &&& 65535)
      · have h0 : hb P A x = false := by
          unfold hb
          rw [decide_eq_true c2, Bool.not_true, Bool.false_and, Bool.and_false]
        rw [if_pos c2, h0, if_neg Bool.false_ne_true]
      · rw [if_neg c2]
        by_cases c3 : ((x >>> ((10 : Int32) &&& 31)) &&& 65535) + (x &&& 1023) ≤ A
        · have h0 : hb P A x = false := by
            unfold hb
            rw [decide_eq_true c3, Bool.not_true, Bool.and_false, Bool.and_false]
          rw [if_pos c3, h0, if_neg Bool.false_ne_true]
        · have h0 : hb P A x = true := by
            unfold hb
            rw [decide_eq_true c1, decide_eq_false c2, decide_eq_false c3]
            rfl
          rw [if_neg c3, h0, if_pos rfl]
    · have h0 : hb P A x = false := by
        unfold hb
        rw [decide_eq_false c1, Bool.false_and]
      rw [if_neg c1, h0, if_neg Bool.false_ne_true]
theorem cw_all (n : Nat) (hn : 70000 < n) {c : Nat} {s : S11} {P A : Int32} (h3 : sI s.1 3 = nI c) (hc : c ≤ 60000) : df_X11_latestWrite n P A s = some (lw (fun j => hb P A (sR s.1 0 j)) c, s) := by
  unfold df_X11_latestWrite df_X11_latestWrite_0
  rw [h3, if_neg (show ¬ (60000 : Int32) < nI c from fun z => by have z : nI 60000 < nI c := z; rw [nI_ltI (by omega) (by omega)] at z; omega), nb_let]
  exact cw_15 n c n (by omega) hc
/-- the reference looks on -/
theorem rw_44 (n : Nat) (hn : 70000 < n) {vn : Nat} {Q V : St} {N T e c : Nat} {lo : Nat → Nat} {t : S11} {P A : Nat} (hI : cI n vn Q V N T e c lo t) (hP : P < 16) (hA : A < 2 ^ 32) : ∀ (m k g : Nat) (τ : S19), m < g → k + m = c → rLg τ.1 N e lo → (∀ i : Nat, i < N → evT τ.1 i = evK V i) → RA n (nI vn) Q (lgL (evK V) lo) k τ.2.2.1.2 → sI τ.1 10 = nI (lo (k + 1)) → sI τ.1 5 = nI c → sI τ.2.2.1.2.1 14 = nI P → sI τ.2.2.1.2.1 15 = nI A → ∃ X' : St × St, df_X19_wrote_44 n g (lw (fun j => decide (A < 65536) && hb (nI P) (nI A) (sR t.1 0 j)) k) (nI k) τ = some (lw (fun j => decide (A < 65536) && hb (nI P) (nI A) (sR t.1 0 j)) c, (pI τ.1 10 (nI (lo (c + 1))), (τ.2.1, ((τ.2.2.1.1, X'), τ.2.2.2)))) ∧ RA n (nI vn) Q (lgL (evK V) lo) c X' ∧ sI X'.1 14 = -nI 1
  | 0, k, g, τ, hg, hk, hL, hev, hX, ht, h5, w1, w2 => by
    obtain ⟨g', rfl⟩ : ∃ g' : Nat, g = g' + 1 := ⟨g - 1, by omega⟩
    have hk : k = c := by omega
    subst hk
    refine ⟨(pI (pI τ.2.2.1.2.1 14 (-1)) 15 0, τ.2.2.1.2.2), ?_, RA_w hX (-1) 0, rfl⟩
    rw [show df_X19_wrote_44 n (g' + 1) = dF_X19_wrote_44 n (df_X19_wrote_44 n g') from rfl]
    generalize df_X19_wrote_44 n g' = G
    have e6 := hL.2.2.2.2.2
    have hce : k ≤ e := hI.2.2.2.2.1
    unfold dF_X19_wrote_44
    rw [h5, if_pos (by rw [nI_leI (by omega) (by omega)]; exact Nat.le_refl k)]
    rw [show df_X16_watch n (-1) 0 τ.2.2.1.2 = some (pI (pI τ.2.2.1.2.1 14 (-1)) 15 0, τ.2.2.1.2.2) from rfl, nb_b1, nb_let, ← ht, nm_i0]
  | m + 1, k, g, τ, hg, hk, hL, hev, hX, ht, h5, w1, w2 => by
    obtain ⟨g', rfl⟩ : ∃ g' : Nat, g = g' + 1 := ⟨g - 1, by omega⟩
    obtain ⟨_, _, hs, hPp, hce, _, _, _, _, _, hW⟩ := id hI
    have e6 := hL.2.2.2.2.2
    have lq := lg_eq hL.2.2.1 hev
    obtain ⟨w, X1, X2, t1, t2, t3, t4, t5⟩ := rf_tick n (by omega) (v := nI vn) (Q := Q) (by rw [lq]; exact hs) hPp hL (show k < e by omega) (by rw [lq]; exact hX) ht
    rw [lq] at t3
    obtain ⟨p, w', X1', p1, p2, p3, p4⟩ := hW k (by omega) _ hX
    rw [t1] at p3
    injection p3 with p3
    injection p3 with p3 _
    subst p3
    have hw : w = bI (decide (A < 65536) && hb (nI P) (nI A) (sR t.1 0 k)) := by
      by_cases y : A < 65536
      · rw [decide_eq_true y, Bool.true_and]; exact hb_w p4 p1 hP y w1 w2
      · rw [decide_eq_false y, Bool.false_and]; exact hb_n p4 (by omega) hA w2
    obtain ⟨X', g1, g2, g3⟩ := rw_44 n hn hI hP hA m (k + 1) g' (pI τ.1 10 (nI (lo (k + 2))), (τ.2.1, ((τ.2.2.1.1, X2), τ.2.2.2))) (by omega) (by omega) hL hev t3 rfl h5 (t4.trans w1) (t5.trans w2)
    refine ⟨X', ?_, g2, g3⟩
    have g1 : df_X19_wrote_44 n g' (lw (fun j => decide (A < 65536) && hb (nI P) (nI A) (sR t.1 0 j)) (k + 1)) (nI (k + 1)) (pI τ.1 10 (nI (lo (k + 2))), (τ.2.1, ((τ.2.2.1.1, X2), τ.2.2.2))) = some (lw (fun j => decide (A < 65536) && hb (nI P) (nI A) (sR t.1 0 j)) c, (pI (pI τ.1 10 (nI (lo (k + 2)))) 10 (nI (lo (c + 1))), (τ.2.1, ((τ.2.2.1.1, X'), τ.2.2.2)))) := g1
    rw [nm_ii] at g1
    rw [show df_X19_wrote_44 n (g' + 1) = dF_X19_wrote_44 n (df_X19_wrote_44 n g') from rfl]
    generalize df_X19_wrote_44 n g' = G at g1
    have up : lw (fun j => decide (A < 65536) && hb (nI P) (nI A) (sR t.1 0 j)) (k + 1) = if (decide (A < 65536) && hb (nI P) (nI A) (sR t.1 0 k)) = true then nI k else lw (fun j => decide (A < 65536) && hb (nI P) (nI A) (sR t.1 0 j)) k := rfl
    rw [up] at g1
    have k1 : nI k + Int32.ofInt 1 = nI (k + 1) := nI_add ..
    unfold dF_X19_wrote_44
    rw [h5, if_neg (show ¬ nI c ≤ nI k from fun z => by rw [nI_leI (by omega) (by omega)] at z; omega), t2, nb_b2, hw]
    unfold df_X19_wrote_66
    rw [nb_let, k1]
    cases hd : (decide (A < 65536) && hb (nI P) (nI A) (sR t.1 0 k)) with
    | true =>
      rw [hd, if_pos rfl] at g1
      rw [if_neg (show ¬ bI true = (0 : Int32) by decide)]
      exact g1
    | false =>
      rw [hd, if_neg Bool.false_ne_true] at g1
      rw [if_pos (show bI false = (0 : Int32) from rfl)]
      exact g1
theorem lw_0 {f : Nat → Bool} : ∀ c : Nat, (∀ k : Nat, k < c → f k = false) → lw f c = -nI 1
  | 0, _ => rfl
  | c + 1, h => by
    show (if f c = true then nI c else lw f c) = _
    rw [h c (by omega), if_neg Bool.false_ne_true]
    exact lw_0 c (fun k hk => h k (by omega))
/-- what was written last, in both -/
theorem jm_wrote (n : Nat) (hn : 70000 < n) {vn : Nat} {Q V : St} {N T e c k : Nat} {lo : Nat → Nat} {t : S11} {τ : S19} (h : jM n vn Q V N T e c k lo t τ) (hbt : ¬ sI τ.1 3 = 0) {P A : Nat} (hP : P < 16) (hA : A < 2 ^ 32) : ∃ X' : St × St, df_X19_wrote n (nI P) (nI A) τ = some (lw (fun j => decide (A < 65536) && hb (nI P) (nI A) (sR t.1 0 j)) c, (pI (pI τ.1 0 0) 10 (nI (lo (c + 1))), (τ.2.1, ((τ.2.2.1.1, X'), τ.2.2.2)))) ∧ jM n vn Q V N T e c c lo t (pI (pI τ.1 0 0) 10 (nI (lo (c + 1))), (τ.2.1, ((τ.2.2.1.1, X'), τ.2.2.2))) := by
  obtain ⟨Pg, T', Z, pg⟩ := jm_pg h
  obtain ⟨hI, hL, hev, hv, ⟨h4, h5, h6⟩, hk, hX, h10, h14, hS, h11⟩ := h
  obtain ⟨_, _, hs, hPp, hce, _⟩ := id hI
  have lq := lg_eq hL.2.2.1 hev
  have e6 := hL.2.2.2.2.2
  obtain ⟨X1, a1, a2, a3⟩ := rf_anew n (by omega) (τ := (pI τ.1 0 0, τ.2)) hv.1 pg (show hsT n (nI vn) Q (lgL (evT τ.1) lo) e by rw [lq]; exact hs) hL h4 (show τ.2.2.1.2.2 = Q from (RA_n hs hk hX).2)
  have a2 : RA n (nI vn) Q (lgL (evT τ.1) lo) 0 X1 := a2
  rw [lq] at a2
  obtain ⟨X', g1, g2, g3⟩ := rw_44 n hn hI hP hA c 0 n (pI (pI τ.1 0 0) 10 (nI (lo 1)), (τ.2.1, ((τ.2.2.1.1, (pI (pI X1.1 14 (nI P)) 15 (nI A), X1.2)), τ.2.2.2))) (by omega) (by omega) hL hev (RA_w a2 _ _) rfl h5 rfl rfl
  have g1 : df_X19_wrote_44 n n (-nI 1) (nI 0) (pI (pI τ.1 0 0) 10 (nI (lo 1)), (τ.2.1, ((τ.2.2.1.1, (pI (pI X1.1 14 (nI P)) 15 (nI A), X1.2)), τ.2.2.2))) = some (lw (fun j => decide (A < 65536) && hb (nI P) (nI A) (sR t.1 0 j)) c, (pI (pI (pI τ.1 0 0) 10 (nI (lo 1))) 10 (nI (lo (c + 1))), (τ.2.1, ((τ.2.2.1.1, X'), τ.2.2.2)))) := g1
  rw [nm_ii] at g1
  refine ⟨X', ?_, ⟨hI, hL, hev, hv, ⟨h4, h5, h6⟩, hce, g2, rfl, g3, hS, h11⟩⟩
  unfold df_X19_wrote df_X19_wrote_0
  have in1 : df_X19_in n (nI P).toInt64 0 15 () = some (nI 1, ()) := by
    refine (nb_in32 n (nI P) 0 15).trans ?_
    rw [if_pos (by rw [nI_toInt (by omega)]; exact ⟨(show (0 : Int32).toInt ≤ (P : Int) by rw [show (0 : Int32).toInt = 0 from rfl]; omega), (show (P : Int) ≤ (15 : Int32).toInt by rw [show (15 : Int32).toInt = 15 from rfl]; omega)⟩)]
    rfl
  rw [nb_let, if_neg (show ¬ sI (pI τ.1 0 0) 3 = 0 from hbt), in1, nb_b2, if_neg (show ¬ nI 1 = (0 : Int32) by decide), a1, nb_b1]
  rw [show df_X16_watch n (nI P) (nI A) X1 = some (pI (pI X1.1 14 (nI P)) 15 (nI A), X1.2) from rfl, nb_b1, nb_let]
  exact g1
