theorem at_m {f : Nat → Nat} {cp : Nat} (m : ∀ i : Nat, i + 1 < cp → f i < f (i + 1)) : ∀ d x : Nat, x + d < cp → f x ≤ f (x + d)
  | 0, _, _ => Nat.le_refl _
  | d + 1, x, h => by
    have a := at_m m d x (by omega)
    have b := m (x + d) (by omega)
    rw [show x + (d + 1) = x + d + 1 by omega]
    omega
theorem at_l {f : Nat → Nat} {cp : Nat} (m : ∀ i : Nat, i + 1 < cp → f i < f (i + 1)) {x y : Nat} (hy : y < cp) (h : f y < f x) : y < x := by
  by_cases c : y < x
  · exact c
  · have := at_m m (y - x) x (by omega)
    rw [show x + (y - x) = y by omega] at this
    omega
theorem gr_1 {f g : Nat → Nat} {cp cp' u : Nat} (m : ∀ i : Nat, i + 1 < cp → f i < f (i + 1)) (m' : ∀ i : Nat, i + 1 < cp' → g i < g (i + 1)) (h : ∀ i : Nat, i < cp' → g i < u → ∃ x : Nat, x < cp ∧ f x = g i) : ∀ i : Nat, i < cp' → g i < u → ∀ x : Nat, x < cp → f x = g i → i ≤ x
  | 0, _, _, _, _, _ => Nat.zero_le _
  | i + 1, hi, hu, x, hx, e => by
    have a := m' i hi
    obtain ⟨y, y1, y2⟩ := h i (by omega) (by omega)
    have b := gr_1 m m' h i (by omega) (by omega) y y1 y2
    have c : y < x := at_l m y1 (by omega)
    omega
theorem lw_c (f : Nat → Bool) : ∀ k : Nat, lw f k = -nI 1 ∨ ∃ q : Nat, q < k ∧ lw f k = nI q
  | 0 => Or.inl rfl
  | k + 1 => by
    show (if f k = true then nI k else lw f k) = _ ∨ ∃ q : Nat, q < k + 1 ∧ (if f k = true then nI k else lw f k) = nI q
    by_cases c : f k = true
    · rw [if_pos c]
      exact Or.inr ⟨k, by omega, rfl⟩
    · rw [if_neg c]
      rcases lw_c f k with a | ⟨q, q1, a⟩
      · exact Or.inl a
      · exact Or.inr ⟨q, by omega, a⟩
/-- the class asks whether it holds at the first count -/
theorem hf_1 (n : Nat) {vn A j : Nat} {Q V : St} {N T e : Nat} {lo : Nat → Nat} {Cd Y : St} {v0 : Int64} (hj : j < 9) (hv0 : vA n vn Q (lgL (evK V) lo) A Cd Y 0 v0) {t : S11} (h : cI n vn Q V N T e 0 lo t) (hc : cSt Cd (t.2.2.2.2.2.2.1 j)) : ∃ K : Nat → St, df_X11_holdsAtFirst n j t = some (if v0 = 0 then nI 0 else nI 1, stK t K) ∧ (∀ i : Nat, ¬ i = j → K i = t.2.2.2.2.2.2.1 i) ∧ cSt (t.2.2.2.2.2.2.1 j) (K j) := by
  obtain ⟨_, _, _, _, _, c3, _, _, tA0, _, _⟩ := id h
  obtain ⟨X0, x0⟩ := tA0.1
  obtain ⟨C2, Y2, C3, Y3, r1, _, r3, _, r5, _, r7, _⟩ := hv0 t.2.2.1.2.2 t.2.2.1.2.2 X0 X0 (t.2.2.2.2.2.2.1 j) Y tA0 x0 tA0 x0 hc (ySt_r _ _)
  have r1 : df_X2_remember n (nI 0) (nd_st0, (t.2.2.2.2.2.2.1 j, t.2.2.1.2.2)) = some (nd_st0, (C2, t.2.2.1.2.2)) := r1
  refine ⟨fun i => if i = j then C3 else if i = j then C2 else t.2.2.2.2.2.2.1 i, ?_, fun i hi => ?_, ?_⟩
  · unfold df_X11_holdsAtFirst df_X11_holdsAtFirst_0
    rw [nb_lt hj, c3, r1, nb_b1, nb_let]
    dsimp only
    rw [c3, show (if j = j then C2 else t.2.2.2.2.2.2.1 j) = C2 from if_pos rfl, r5, nb_b2, nb_let]
    unfold df_X11_holdsAtFirst_34
    by_cases z : v0 = 0
    · rw [if_pos ((lcE _ _).mpr z), if_pos z]
      exact nm_z0
    · rw [if_neg (fun y => z ((lcE _ _).mp y)), if_neg z]
      exact nm_z1
  · show (if i = j then C3 else if i = j then C2 else t.2.2.2.2.2.2.1 i) = _
    rw [if_neg hi, if_neg hi]
  · show cSt _ (if j = j then C3 else if j = j then C2 else t.2.2.2.2.2.2.1 j)
    rw [if_pos rfl]
    exact cSt_t r3 r7
/-- the class looks back, copy after copy -/
theorem cl_10 (n : Nat) (hn : 70000 < n) {vn A j : Nat} {Q V : St} {N T e : Nat} {lo : Nat → Nat} {Cd Y : St} {hv : Nat → Int64} (hj : j < 9) (he : e ≤ 60000) (hhv : ∀ d : Nat, d ≤ e → vA n vn Q (lgL (evK V) lo) A Cd Y d (hv d)) : ∀ (left u g c0 : Nat) (t : S11), left < g → u ≤ e → left ≤ 8 → cI n vn Q V N T e c0 lo t → cSt Cd (t.2.2.2.2.2.2.1 j) → (∀ (cp sp : Nat) (at_ ix : Nat → Nat), cC n (nI vn) Q (lgL (evK V) lo) t cp sp e at_ ix → ∀ i : Nat, i < cp → at_ i ≤ u - 1 → i < left) → ∃ (t' : S11) (c' : Nat), df_X11_latest_10 n g j (nI u) (nI left) t = some (lw (fun d => decide (¬ hv d = 0)) (u + 1), t') ∧ cI n vn Q V N T e c' lo t' ∧ fJ j t t' := fun left => by
  induction left with
  | zero =>
    intro u g c0 t hg hu h8 h hc hcp
    obtain ⟨_, _, _, _, _, _, _, _, _, ⟨cp, sp, at_, ix, hC⟩, _⟩ := id h
    have := hcp cp sp at_ ix hC 0 (by have := hC.1.1; omega) (by rw [hC.2.2.2.1]; omega)
    omega
  | succ left ih =>
    intro u g c0 t hg hu h8 h hc hcp
    obtain ⟨g1, rfl⟩ : ∃ g1 : Nat, g = g1 + 1 := ⟨g - 1, by omega⟩
    obtain ⟨_, _, _, _, _, _, _, _, _, ⟨cp, sp, at_, ix, hC⟩, _⟩ := id h
    obtain ⟨i, q1, q2, q3, q4⟩ := cu_1 n (by omega) (c := u - 1) hC he (by omega)
    obtain ⟨t1, r1, r2, r3, r4⟩ := rs_1c n (by omega) h hC q1
    obtain ⟨p1, p2, p3, p4⟩ := hC.2.2.2.2.2 i q1
    have il : i < left + 1 := hcp cp sp at_ ix hC i q1 q3
    have c3' : sI t1.1 3 = nI (at_ i) := r2.2.2.2.2.2.1
    have hc1 : cSt Cd (t1.2.2.2.2.2.2.1 j) := cSt_t hc (fJ_f (j := j) r3).2.2.2.2.2
    have go : ∀ (x6 : Int32) (K : Nat → St), (∀ i : Nat, ¬ i = j → K i = t1.2.2.2.2.2.2.1 i) → cSt (t1.2.2.2.2.2.2.1 j) (K j) → (at_ i = 0 → x6 = lw (fun d => decide (¬ hv d = 0)) 1) → (¬ at_ i = 0 → x6 = -nI 1) → ∃ (t' : S11) (c' : Nat), df_X11_latest_61 n (df_X11_latest_10 n g1) j (nI u) (nI (left + 1)) (nI (at_ i)) x6 (stK t1 K) = some (lw (fun d => decide (¬ hv d = 0)) (u + 1), t') ∧ cI n vn Q V N T e c' lo t' ∧ fJ j t1 t' := fun x6 K hK hKj z0 z1 => by
      have e1 : fJ j t1 (stK t1 K) := ⟨fun _ _ => rfl, fun _ => rfl, fun _ _ => rfl, rfl, hK, hKj⟩
      obtain ⟨t2, g', i1, i2, i3, i4⟩ := in_71 n (by omega) hj he hhv (df_X11_latest_10 n g1) (nI (left + 1)) (nI (at_ i)) (u - at_ i) (at_ i) n x6 (stK t1 K) (by omega) (by omega) r2 (cSt_t hc1 hKj)
      have st : df_X11_latest_61 n (df_X11_latest_10 n g1) j (nI u) (nI (left + 1)) (nI (at_ i)) x6 (stK t1 K) = dF_X11_latest_71 n (df_X11_latest_10 n g1) (df_X11_latest_71 n (df_X11_latest_10 n g1) g') j (nI (left + 1)) (nI (at_ i)) (rng (fun d => decide (¬ hv d = 0)) (at_ i) (u - at_ i) x6) (nI 0) t2 := by
        rw [← i1]
        unfold df_X11_latest_61
        rw [show sI (stK t1 K).1 3 = nI (at_ i) from c3', nb_let, pk_sub (show at_ i ≤ u by omega)]
      rw [st]
      by_cases w0 : at_ i = 0
      · have ee : rng (fun d => decide (¬ hv d = 0)) (at_ i) (u - at_ i) x6 = lw (fun d => decide (¬ hv d = 0)) (u + 1) := by
          rw [z0 w0, w0]
          have := rng_lw (fun d => decide (¬ hv d = 0)) (u - 0) 0
          rw [show 0 + (u - 0) + 1 = u + 1 by omega] at this
          exact this
        refine ⟨t2, _, ?_, i2, fJ_t e1 i3⟩
        rw [ee]
        unfold dF_X11_latest_71 df_X11_latest_140
        rw [if_pos (show nI 0 ≤ (0 : Int32) by decide)]
        rcases lw_c (fun d => decide (¬ hv d = 0)) (u + 1) with w | ⟨q, qq, w⟩
        · rw [w, if_pos (show -nI 1 < (0 : Int32) by decide), if_pos (show nI (at_ i) = (0 : Int32) by rw [w0]; rfl), nb_let]
          obtain ⟨g2, rfl⟩ : ∃ g2 : Nat, g1 = g2 + 1 := ⟨g1 - 1, by omega⟩
          show dF_X11_latest_10 n (df_X11_latest_10 n g2) j (-1) _ t2 = _
          unfold dF_X11_latest_10 df_X11_latest_147
          rw [if_pos (show (-1 : Int32) < 0 by decide)]
          by_cases zz : nI (left + 1) + Int32.ofInt (-1) ≤ 0
          · rw [if_pos zz]
            rfl
          · rw [if_neg zz]
            rfl
        · rw [w, if_neg (dn_3 (by omega))]
      · have x1 := z1 w0
        subst x1
        have nz : ¬ nI (at_ i) = (0 : Int32) := fun z => by
          have z : nI (at_ i) = nI 0 := z
          rw [nI_eq (by omega) (by omega)] at z
          exact w0 z
        rcases rng_2 (fun d => decide (¬ hv d = 0)) (u - at_ i) (at_ i) (-nI 1) with ⟨a, b⟩ | ⟨q, qq, a, b⟩
        · have cond : ∀ (cp' sp' : Nat) (at' ix' : Nat → Nat), cC n (nI vn) Q (lgL (evK V) lo) t2 cp' sp' e at' ix' → ∀ i' : Nat, i' < cp' → at' i' ≤ at_ i - 1 → i' < left := fun cp' sp' at' ix' hC' i' hi' hle => by
            obtain ⟨ca, cb, a1, a2, a3, a4, a5⟩ := i4
            have a1 : sI t1.1 1 = nI ca := a1
            have e1 : ca = cp := nm_inI (by omega) (by have := hC.1.2.1; omega) (a1.symm.trans r4.1.2.2.1)
            have e2 : cb = cp' := nm_inI (by omega) (by have := hC'.1.2.1; omega) (a2.symm.trans hC'.1.2.2.1)
            subst e1
            subst e2
            have mp : ∀ k : Nat, k < cb → at' k < at_ i + 1 → ∃ x : Nat, x < ca ∧ at_ x = at' k := fun k hk hp => by
              obtain ⟨_, b2, b3, _⟩ := hC'.2.2.2.2.2 k hk
              obtain ⟨x, x1, x2⟩ := a5 k (at' k) hk hp b3
              obtain ⟨_, d2, d3, _⟩ := r4.2.2.2.2.2 x x1
              have x2 : sR t1.1 1 x = nI (at' k) := x2
              exact ⟨x, x1, nm_inI (by omega) (by omega) (d3.symm.trans x2)⟩
            obtain ⟨x, x1, x2⟩ := mp i' hi' (by omega)
            have y1 := gr_1 hC.2.2.2.2.1 hC'.2.2.2.2.1 mp i' hi' (by omega) x x1 x2
            have y2 : x < i := at_l hC.2.2.2.2.1 x1 (by omega)
            omega
          obtain ⟨t', c', j1, j2, j3⟩ := ih (at_ i) g1 _ t2 (by omega) p2 (by omega) i2 (cSt_t hc1 (fJ_t e1 i3).2.2.2.2.2) cond
          refine ⟨t', c', ?_, j2, fJ_t e1 (fJ_t i3 j3)⟩
          rw [a]
          unfold dF_X11_latest_71 df_X11_latest_140
          rw [if_pos (show nI 0 ≤ (0 : Int32) by decide), if_pos (show -nI 1 < (0 : Int32) by decide), if_neg nz, nb_let, dn_1, dn_2, j1, ← b, show at_ i + (u - at_ i) + 1 = u + 1 by omega]
        · refine ⟨t2, _, ?_, i2, fJ_t e1 i3⟩
          rw [a]
          unfold dF_X11_latest_71
          rw [if_pos (show nI 0 ≤ (0 : Int32) by decide), if_neg (dn_3 (by omega)), ← b, show at_ i + (u - at_ i) + 1 = u + 1 by omega]
    have st : df_X11_latest_10 n (g1 + 1) j (nI u) (nI (left + 1)) t = if nI (at_ i) = 0 then nd_b2 (df_X11_holdsAtFirst n j t1) (fun q32 s33 => if q32 = 0 then df_X11_latest_60 n (df_X11_latest_10 n g1) j (nI u) (nI (left + 1)) (nI (at_ i)) s33 else df_X11_latest_61 n (df_X11_latest_10 n g1) j (nI u) (nI (left + 1)) (nI (at_ i)) 0 s33) else df_X11_latest_60 n (df_X11_latest_10 n g1) j (nI u) (nI (left + 1)) (nI (at_ i)) t1 := by
      show dF_X11_latest_10 n (df_X11_latest_10 n g1) j (nI u) (nI (left + 1)) t = _
      generalize df_X11_latest_10 n g1 = G
      unfold dF_X11_latest_10
      rw [if_neg (show ¬ nI (left + 1) ≤ (0 : Int32) from fun z => by have z : nI (left + 1) ≤ nI 0 := z; rw [nI_leI (by omega) (by omega)] at z; omega), if_neg (dn_3 (by omega)), bf_1 (by omega), q2, nb_b2, r1, nb_b1, nb_let, c3']
    rw [st]
    by_cases w0 : at_ i = 0
    · obtain ⟨K, k1, k2, k3⟩ := hf_1 n hj (hhv 0 (by omega)) (show cI n vn Q V N T e 0 lo t1 by rw [← w0]; exact r2) hc1
      by_cases z : hv 0 = 0
      · obtain ⟨t', c', j1, j2, j3⟩ := go (-nI 1) K k2 k3 (fun _ => by
          show _ = (if decide (¬ hv 0 = 0) = true then nI 0 else -nI 1)
          rw [decide_eq_false (fun y => y z), if_neg Bool.false_ne_true]) (fun y => absurd w0 y)
        refine ⟨t', c', ?_, j2, fJ_t (fJ_f r3) j3⟩
        rw [if_pos (show nI (at_ i) = (0 : Int32) by rw [w0]; rfl), k1, if_pos z, nb_b2, if_pos (show nI 0 = (0 : Int32) from rfl)]
        exact j1
      · obtain ⟨t', c', j1, j2, j3⟩ := go 0 K k2 k3 (fun _ => by
          show _ = (if decide (¬ hv 0 = 0) = true then nI 0 else -nI 1)
          rw [decide_eq_true z, if_pos rfl]
          rfl) (fun y => absurd w0 y)
        refine ⟨t', c', ?_, j2, fJ_t (fJ_f r3) j3⟩
        rw [if_pos (show nI (at_ i) = (0 : Int32) by rw [w0]; rfl), k1, if_neg z, nb_b2, if_neg (show ¬ nI 1 = (0 : Int32) by decide)]
        exact j1
    · have nz : ¬ nI (at_ i) = (0 : Int32) := fun z => by
        have z : nI (at_ i) = nI 0 := z
        rw [nI_eq (by omega) (by omega)] at z
        exact w0 z
      obtain ⟨t', c', j1, j2, j3⟩ := go (-nI 1) t1.2.2.2.2.2.2.1 (fun _ _ => rfl) (cSt_r _) (fun y => absurd y w0) (fun _ => rfl)
      refine ⟨t', c', ?_, j2, fJ_t (fJ_f r3) j3⟩
      rw [if_neg nz]
      exact j1
/-- the class looks back -/
theorem cl_all (n : Nat) (hn : 70000 < n) {vn A j : Nat} {Q V : St} {N T e c : Nat} {lo : Nat → Nat} {Cd Y : St} {hv : Nat → Int64} (hj : j < 9) (he : e ≤ 60000) (hhv : ∀ d : Nat, d ≤ e → vA n vn Q (lgL (evK V) lo) A Cd Y d (hv d)) {t : S11} (h : cI n vn Q V N T e c lo t) (hc : cSt Cd (t.2.2.2.2.2.2.1 j)) : ∃ (t' : S11) (c' : Nat), df_X11_latest n j t = some (lw (fun d => decide (¬ hv d = 0)) c, t') ∧ cI n vn Q V N T e c' lo t' ∧ fJ j t t' := by
  have c3 : sI t.1 3 = nI c := h.2.2.2.2.2.1
  have hce : c ≤ e := h.2.2.2.2.1
  by_cases c0 : c = 0
  · refine ⟨t, c, ?_, h, fJ_f (fI_r t)⟩
    unfold df_X11_latest df_X11_latest_0
    rw [c3, c0, nb_let]
    obtain ⟨n', rfl⟩ : ∃ n' : Nat, n = n' + 1 := ⟨n - 1, by omega⟩
    show dF_X11_latest_10 (n' + 1) (df_X11_latest_10 (n' + 1) n') j (nI 0 - 1) 8 t = _
    unfold dF_X11_latest_10 df_X11_latest_147
    rw [if_neg (show ¬ (8 : Int32) ≤ 0 by decide), if_pos (show nI 0 - 1 < (0 : Int32) by decide)]
    rfl
  · obtain ⟨t', c', j1, j2, j3⟩ := cl_10 n hn hj he hhv 8 (c - 1) n c t (by omega) (by omega) (by omega) h hc (fun cp sp at_ ix hC i hi _ => by have := hC.1.2.1; omega)
    rw [show c - 1 + 1 = c by omega] at j1
    refine ⟨t', c', ?_, j2, j3⟩
    unfold df_X11_latest df_X11_latest_0
    rw [c3, nb_let, show nI c - 1 = nI (c - 1) from pk_sub (show 1 ≤ c by omega)]
    exact j1
