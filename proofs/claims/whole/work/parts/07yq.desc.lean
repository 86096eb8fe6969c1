/-- descriptors, openings, pipes' and files' ends: both -/
def rD (l op pi fi de kd th po rt ip isf nam : Nat → Int32) : Prop := (∀ i : Nat, i < 256 → (de i = -nI 1 ∧ l i = nI 0) ∨ ∃ o : Nat, o < 48 ∧ de i = nI o ∧ l i = nI (o + 1)) ∧ (∀ o : Nat, o < 48 → (kd o = nI 0 ∧ op (o * 5) = nI 0 ∧ cD de o = 0) ∨ ∃ k t : Nat, 1 ≤ k ∧ k ≤ 4 ∧ 0 < cD de o ∧ kd o = nI k ∧ op (o * 5) = nI k ∧ op (o * 5 + 1) = nI (cD de o) ∧ th o = nI t ∧ op (o * 5 + 2) = nI t ∧ (k ≤ 2 → t < 8) ∧ t < 16 ∧ op (o * 5 + 4) = rt o ∧ (k = 3 → op (o * 5 + 3) = po o) ∧ (k ≠ 3 → op (o * 5 + 3) = nI 0) ∧ (∃ r : Nat, r < 8 ∧ rt o = nI r ∧ (k = 1 → r = 1) ∧ (k = 2 → r = 2)) ∧ (k = 3 → ∃ x : Nat, x ≤ 512 ∧ po o = nI x)) ∧ (∀ k : Nat, k < 8 → pi (k * 4 + 1) = nI (cE kd th 1 k) ∧ pi (k * 4 + 2) = nI (cE kd th 2 k) ∧ ip k = bI (decide (0 < cE kd th 1 k + cE kd th 2 k))) ∧ (∀ k : Nat, k < 16 → fi (k * 3 + 1) = nI (cE kd th 3 k) ∧ okB (nam k) ∧ fi (k * 3 + 2) = nam k ∧ isf k = bI (decide (nam k = nI 1 ∨ 0 < cE kd th 3 k)))
theorem cD_le (de : Nat → Int32) (o : Nat) : cD de o ≤ 256 := cN_le _ _
theorem cE_le (kd th : Nat → Int32) (s k : Nat) : cE kd th s k ≤ 48 := cN_le _ _
theorem cD_ch (de : Nat → Int32) {i : Nat} (v : Int32) (hi : i < 256) (a : Nat) : cD (upd de i v) a + (decide (de i = nI a)).toNat = cD de a + (decide (v = nI a)).toNat := by
  have := cN_u (P := fun j => decide (de j = nI a)) (Q := fun j => decide (upd de i v j = nI a)) (j := i) (fun j hj => by rw [nm_un hj]) (N := 256) hi
  rw [nm_us] at this
  exact this
theorem cD_leave {de : Nat → Int32} {i o : Nat} (hi : i < 256) (ho : o < 48) (e : de i = nI o) : (∀ a : Nat, a < 48 → a ≠ o → cD (upd de i (-nI 1)) a = cD de a) ∧ cD (upd de i (-nI 1)) o + 1 = cD de o := by
  refine ⟨fun a ha hne => ?_, ?_⟩
  · have := cD_ch de (-nI 1) hi a
    rw [nm_df (show ¬ de i = nI a from fun z => hne (nm_inI (by omega) (by omega) (by rw [← z, e]))), nm_df (show ¬ (-nI 1 : Int32) = nI a from fun z => nk_ne (by omega) z.symm)] at this
    omega
  · have := cD_ch de (-nI 1) hi o
    rw [nm_dt e, nm_df (show ¬ (-nI 1 : Int32) = nI o from fun z => nk_ne (by omega) z.symm)] at this
    omega
/-- the kinds once it is swept -/
theorem gk_is {de kd : Nat → Int32} {o k : Nat} (hk : k ≤ 4) (e : kd o = nI k) : gk de kd o = if cD de o = 0 then nI 0 else nI k := by
  unfold gk
  rw [e]
  by_cases c : k = 0
  · subst c
    rw [if_pos (show (nI 0 : Int32) ≤ nI 0 by decide)]
    by_cases d : cD de o = 0
    · rw [if_pos d]
    · rw [if_neg d]
  · rw [if_neg (show ¬ nI k ≤ nI 0 from fun z => c ((nm_nle0 (by omega)).mp z))]
theorem gp_is {kd th ip : Nat → Int32} {k a : Nat} (e : ip k = bI (decide (0 < a))) (h : cE kd th 1 k + cE kd th 2 k ≤ a) : gp kd th ip k = bI (decide (0 < cE kd th 1 k + cE kd th 2 k)) := by
  unfold gp
  rw [e]
  generalize cE kd th 1 k + cE kd th 2 k = x at h ⊢
  by_cases c : 0 < a
  · rw [decide_eq_true c, if_neg (show ¬ bI true = nI 0 by decide)]
    by_cases d : x = 0
    · rw [if_pos d, decide_eq_false (by omega)]; rfl
    · rw [if_neg d, decide_eq_true (by omega)]; rfl
  · rw [decide_eq_false c, if_pos (show bI false = nI 0 from rfl), decide_eq_false (show ¬ 0 < x by omega)]; rfl
theorem gf_is {kd th isf nam : Nat → Int32} {k a : Nat} (hn : okB (nam k)) (e : isf k = bI (decide (nam k = nI 1 ∨ 0 < a))) (h : cE kd th 3 k ≤ a) : gf kd th isf nam k = bI (decide (nam k = nI 1 ∨ 0 < cE kd th 3 k)) := by
  unfold gf
  rw [e]
  generalize cE kd th 3 k = x at h ⊢
  rcases hn with z | z
  · rw [z]
    by_cases c : 0 < a
    · rw [decide_eq_true (show (nI 0 : Int32) = nI 1 ∨ 0 < a from Or.inr c), if_neg (show ¬ bI true = nI 0 by decide), if_pos rfl]
      by_cases d : x = 0
      · rw [if_pos d, decide_eq_false (show ¬ ((nI 0 : Int32) = nI 1 ∨ 0 < x) from fun y => by rcases y with y | y; exact absurd y (by decide); omega)]; rfl
      · rw [if_neg d, decide_eq_true (show (nI 0 : Int32) = nI 1 ∨ 0 < x from Or.inr (by omega))]; rfl
    · rw [decide_eq_false (show ¬ ((nI 0 : Int32) = nI 1 ∨ 0 < a) from fun y => by rcases y with y | y; exact absurd y (by decide); omega), if_pos (show bI false = nI 0 from rfl), decide_eq_false (show ¬ ((nI 0 : Int32) = nI 1 ∨ 0 < x) from fun y => by rcases y with y | y; exact absurd y (by decide); omega)]; rfl
  · rw [z, decide_eq_true (show (nI 1 : Int32) = nI 1 ∨ 0 < a from Or.inl rfl), decide_eq_true (show (nI 1 : Int32) = nI 1 ∨ 0 < x from Or.inl rfl), if_neg (show ¬ bI true = nI 0 by decide), if_neg (show ¬ (nI 1 : Int32) = nI 0 by decide)]; rfl
/-- one opening goes -/
theorem cE_go {kd kd' th : Nat → Int32} {o k t : Nat} (ho : o < 48) (hk : 1 ≤ k) (hk4 : k ≤ 4) (ek : kd o = nI k) (et : th o = nI t) (ht : t < 16) (e0 : kd' o = nI 0) (en : ∀ j : Nat, j < 48 → j ≠ o → kd' j = kd j) {s u : Nat} (hs : 1 ≤ s) (hs4 : s ≤ 4) (hu : u < 16) : cE kd' th s u + (if s = k ∧ u = t then 1 else 0) = cE kd th s u := by
  have h1 : cE kd' th s u = cN (fun i => if i = o then false else decide (kd i = nI s ∧ th i = nI u)) 48 := cN_c (fun i hi => by
    by_cases c : i = o
    · rw [if_pos c, c, e0]
      exact decide_eq_false (fun z => by have := nm_inI (by omega) (by omega) z.1; omega)
    · rw [if_neg c, en i hi c])
  have h2 := cN_u (P := fun i => decide (kd i = nI s ∧ th i = nI u)) (Q := fun i => if i = o then false else decide (kd i = nI s ∧ th i = nI u)) (j := o) (fun i hi => by rw [if_neg hi]) (N := 48) ho
  rw [if_pos rfl] at h2
  rw [h1]
  have h2 : cN (fun i => if i = o then false else decide (kd i = nI s ∧ th i = nI u)) 48 + (decide (kd o = nI s ∧ th o = nI u)).toNat = cE kd th s u + 0 := h2
  rw [ek, et] at h2
  by_cases c : s = k ∧ u = t
  · rw [if_pos c]
    rw [nm_dt (show nI k = nI s ∧ nI t = nI u by rw [c.1, c.2]; exact ⟨rfl, rfl⟩)] at h2
    omega
  · rw [if_neg c]
    rw [nm_df (show ¬ (nI k = nI s ∧ nI t = nI u) from fun z => c ⟨(nm_inI (by omega) (by omega) z.1).symm, (nm_inI (by omega) (by omega) z.2).symm⟩)] at h2
    omega
theorem gk_n {de kd : Nat → Int32} {o : Nat} (e : kd o = nI 0) : gk de kd o = nI 0 := by
  unfold gk
  rw [e, if_pos (show (nI 0 : Int32) ≤ nI 0 by decide)]
/-- a descriptor goes: what is left of the reference's, with the class's rows that fit -/
theorem rD_close {l op pi fi de kd th po rt ip isf nam : Nat → Int32} (h : rD l op pi fi de kd th po rt ip isf nam) {i o k t : Nat} (hi : i < 256) (ho : o < 48) (e : de i = nI o) (ek : kd o = nI k) (hk : 1 ≤ k) (hk4 : k ≤ 4) (et : th o = nI t) (ht : t < 16) (ht8 : k ≤ 2 → t < 8) {op' pi' fi' : Nat → Int32} (ho' : ∀ j : Nat, j < 48 → j ≠ o → ∀ x : Nat, x < 5 → op' (j * 5 + x) = op (j * 5 + x)) (hoo : if cD de o = 1 then op' (o * 5) = nI 0 else (op' (o * 5) = op (o * 5) ∧ op' (o * 5 + 1) = nI (cD de o - 1) ∧ ∀ x : Nat, 2 ≤ x → x < 5 → op' (o * 5 + x) = op (o * 5 + x))) (hpi : ∀ u s : Nat, u < 8 → 1 ≤ s → s ≤ 2 → pi' (u * 4 + s) = if cD de o = 1 ∧ s = k ∧ u = t then nI (cE kd th s u - 1) else pi (u * 4 + s)) (hfi : ∀ u : Nat, u < 16 → fi' (u * 3 + 1) = (if cD de o = 1 ∧ k = 3 ∧ u = t then nI (cE kd th 3 u - 1) else fi (u * 3 + 1)) ∧ fi' (u * 3 + 2) = fi (u * 3 + 2)) : rD (upd l i (nI 0)) op' pi' fi' (upd de i (-nI 1)) (pcw (gk (upd de i (-nI 1)) kd) kd 48) th po rt (pcw (gp (pcw (gk (upd de i (-nI 1)) kd) kd 48) th ip) ip 8) (pcw (gf (pcw (gk (upd de i (-nI 1)) kd) kd 48) th isf nam) isf 16) nam := by
  obtain ⟨h1, h2, h3, h4⟩ := h
  obtain ⟨c1, c2⟩ := cD_leave hi ho e
  -- the kinds
  have K : ∀ j : Nat, j < 48 → pcw (gk (upd de i (-nI 1)) kd) kd 48 j = if j = o ∧ cD de o = 1 then nI 0 else kd j := fun j hj => by
    rw [pcw_y _ _ hj]
    by_cases cj : j = o
    · subst cj
      rw [gk_is hk4 ek]
      by_cases c : cD de j = 1
      · rw [if_pos (by omega), if_pos ⟨rfl, c⟩]
      · rw [if_neg (by omega), if_neg (fun z => c z.2), ek]
    · rw [if_neg (fun z => cj z.1)]
      rcases h2 j hj with ⟨z1, z2, z3⟩ | ⟨k', t', y1, y2, y3, y4, _⟩
      · rw [gk_n z1, z1]
      · rw [gk_is y2 y4, c1 j hj cj, if_neg (by omega), y4]
  have E : ∀ s u : Nat, 1 ≤ s → s ≤ 4 → u < 16 → cE (pcw (gk (upd de i (-nI 1)) kd) kd 48) th s u + (if cD de o = 1 ∧ s = k ∧ u = t then 1 else 0) = cE kd th s u := fun s u hs hs4 hu => by
    by_cases c : cD de o = 1
    · have := cE_go (kd := kd) (kd' := pcw (gk (upd de i (-nI 1)) kd) kd 48) (th := th) ho hk hk4 ek et ht (by rw [K o ho, if_pos ⟨rfl, c⟩]) (fun j hj hne => by rw [K j hj, if_neg (fun z => hne z.1)]) hs hs4 hu
      by_cases d : s = k ∧ u = t
      · rw [if_pos ⟨c, d⟩]
        rw [if_pos d] at this
        exact this
      · rw [if_neg (fun z => d z.2)]
        rw [if_neg d] at this
        exact this
    · rw [if_neg (fun z => c z.1), Nat.add_zero]
      exact cN_c (fun j hj => by rw [K j hj, if_neg (fun z => c z.2)])
  generalize pcw (gk (upd de i (-nI 1)) kd) kd 48 = kd' at K E ⊢
  refine ⟨fun j hj => ?_, fun j hj => ?_, fun u hu => ?_, fun u hu => ?_⟩
  · by_cases cj : j = i
    · left
      rw [cj, nm_us, nm_us]
      exact ⟨rfl, rfl⟩
    · rw [nm_un cj, nm_un cj]
      exact h1 j hj
  · by_cases cj : j = o
    · subst cj
      rcases h2 j hj with ⟨z1, z2, z3⟩ | ⟨k', t', y1, y2, y3, y4, y5, y6, y7, y8, y9, y10, y11, y12, y13, y14, y15⟩
      · omega
      · by_cases c : cD de j = 1
        · left
          rw [if_pos c] at hoo
          exact ⟨by rw [K j hj, if_pos ⟨rfl, c⟩], hoo, by omega⟩
        · right
          rw [if_neg c] at hoo
          obtain ⟨o1, o2, o3⟩ := hoo
          refine ⟨k', t', y1, y2, by omega, by rw [K j hj, if_neg (fun z => c z.2)]; exact y4, by rw [o1]; exact y5, by rw [o2]; exact congrArg nI (by omega), y7, by rw [o3 2 (by omega) (by omega)]; exact y8, y9, y10, by rw [o3 4 (by omega) (by omega)]; exact y11, fun z => by rw [o3 3 (by omega) (by omega)]; exact y12 z, fun z => by rw [o3 3 (by omega) (by omega)]; exact y13 z, y14, y15⟩
    · have oj := ho' j hj cj
      have oj0 := oj 0 (by omega)
      rw [Nat.add_zero] at oj0
      rw [K j hj, if_neg (fun z => cj z.1), c1 j hj cj, oj0, oj 1 (by omega), oj 2 (by omega), oj 3 (by omega), oj 4 (by omega)]
      exact h2 j hj
  · obtain ⟨z1, z2, z3⟩ := h3 u hu
    have e1 := E 1 u (by omega) (by omega) (by omega)
    have e2 := E 2 u (by omega) (by omega) (by omega)
    refine ⟨?_, ?_, ?_⟩
    · rw [hpi u 1 hu (by omega) (by omega)]
      by_cases c : cD de o = 1 ∧ 1 = k ∧ u = t
      · rw [if_pos c] at e1 ⊢
        exact congrArg nI (by omega)
      · rw [if_neg c] at e1 ⊢
        rw [z1]
        exact congrArg nI (by omega)
    · rw [hpi u 2 hu (by omega) (by omega)]
      by_cases c : cD de o = 1 ∧ 2 = k ∧ u = t
      · rw [if_pos c] at e2 ⊢
        exact congrArg nI (by omega)
      · rw [if_neg c] at e2 ⊢
        rw [z2]
        exact congrArg nI (by omega)
    · rw [pcw_y _ _ hu]
      exact gp_is z3 (by omega)
  · obtain ⟨z1, z2, z3, z4⟩ := h4 u hu
    have e3 := E 3 u (by omega) (by omega) hu
    obtain ⟨f1, f2⟩ := hfi u hu
    refine ⟨?_, z2, by rw [f2]; exact z3, ?_⟩
    · rw [f1]
      by_cases c : cD de o = 1 ∧ k = 3 ∧ u = t
      · rw [if_pos c]
        rw [if_pos ⟨c.1, c.2.1.symm, c.2.2⟩] at e3
        exact congrArg nI (by omega)
      · rw [if_neg c]
        rw [if_neg (fun z => c ⟨z.1, z.2.1.symm, z.2.2⟩)] at e3
        rw [z1]
        exact congrArg nI (by omega)
    · rw [pcw_y _ _ hu]
      exact gf_is z2 z4 (by omega)
