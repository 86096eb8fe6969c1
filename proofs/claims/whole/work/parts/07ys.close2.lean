theorem rD_congr {l op pi fi de kd kd' th po rt ip ip' isf isf' nam : Nat → Int32} (hk : ∀ o : Nat, o < 48 → kd' o = kd o) (hi : ∀ k : Nat, k < 8 → ip' k = ip k) (hf : ∀ k : Nat, k < 16 → isf' k = isf k) (h : rD l op pi fi de kd th po rt ip isf nam) : rD l op pi fi de kd' th po rt ip' isf' nam := by
  obtain ⟨h1, h2, h3, h4⟩ := h
  have E : ∀ s u : Nat, cE kd' th s u = cE kd th s u := fun s u => cN_c (fun j hj => by rw [hk j hj])
  refine ⟨h1, fun o ho => ?_, fun k hk8 => ?_, fun k hk16 => ?_⟩
  · rw [hk o ho]; exact h2 o ho
  · rw [hi k hk8, E, E]; exact h3 k hk8
  · rw [hf k hk16, E]; exact h4 k hk16
/-- what is in order stays as it is when it is swept -/
theorem rD_sweep {l op pi fi de kd th po rt ip isf nam : Nat → Int32} (h : rD l op pi fi de kd th po rt ip isf nam) : rD l op pi fi de (pcw (gk de kd) kd 48) th po rt (pcw (gp (pcw (gk de kd) kd 48) th ip) ip 8) (pcw (gf (pcw (gk de kd) kd 48) th isf nam) isf 16) nam := by
  have h0 := h
  obtain ⟨h1, h2, h3, h4⟩ := h
  have K : ∀ o : Nat, o < 48 → pcw (gk de kd) kd 48 o = kd o := fun o ho => by
    rw [pcw_y _ _ ho]
    rcases h2 o ho with ⟨z1, _⟩ | ⟨k, t, y1, y2, y3, y4, _⟩
    · rw [gk_n z1, z1]
    · rw [gk_is y2 y4, if_neg (by omega), y4]
  have E : ∀ s u : Nat, cE (pcw (gk de kd) kd 48) th s u = cE kd th s u := fun s u => cN_c (fun j hj => by rw [K j hj])
  generalize pcw (gk de kd) kd 48 = kd' at K E ⊢
  refine rD_congr K (fun k hk => ?_) (fun k hk => ?_) h0
  · obtain ⟨_, _, z3⟩ := h3 k hk
    rw [pcw_y _ _ hk, gp_is z3 (by rw [E, E]; exact Nat.le_refl _), E, E, ← z3]
  · obtain ⟨_, z2, _, z4⟩ := h4 k hk
    rw [pcw_y _ _ hk, gf_is z2 z4 (by rw [E]; exact Nat.le_refl _), E, ← z4]
/-- lengths and oldest bytes stay -/
def kpL (pi0 fi0 pi fi : Nat → Int32) : Prop := (∀ k : Nat, k < 8 → pi (k * 4) = pi0 (k * 4) ∧ pi (k * 4 + 3) = pi0 (k * 4 + 3)) ∧ ∀ k : Nat, k < 16 → fi (k * 3) = fi0 (k * 3)
theorem kpL_r (pi fi : Nat → Int32) : kpL pi fi pi fi := ⟨fun _ _ => ⟨rfl, rfl⟩, fun _ _ => rfl⟩
theorem kpL_t {a b c d e f : Nat → Int32} (h : kpL a b c d) (g : kpL c d e f) : kpL a b e f := ⟨fun k hk => ⟨(g.1 k hk).1.trans (h.1 k hk).1, (g.1 k hk).2.trans (h.1 k hk).2⟩, fun k hk => (g.2 k hk).trans (h.2 k hk)⟩
/-- a descriptor is closed: the class does it, the reference sweeps -/
theorem nk_close (n : Nat) {D : St} {de kd th po rt ip isf nam : Nat → Int32} (h : rD (sR D 0) (sR D 1) (sR D 2) (sR D 4) de kd th po rt ip isf nam) {p d : Nat} (hp : p < 16) (hd : d < 16) : ∃ l op pi fi : Nat → Int32, df_X10_close n (nI p) (nI d) D = some (dU D l op pi fi) ∧ kpL (sR D 2) (sR D 4) pi fi ∧ rD l op pi fi (upd de (p * 16 + d) (-nI 1)) (pcw (gk (upd de (p * 16 + d) (-nI 1)) kd) kd 48) th po rt (pcw (gp (pcw (gk (upd de (p * 16 + d) (-nI 1)) kd) kd 48) th ip) ip 8) (pcw (gf (pcw (gk (upd de (p * 16 + d) (-nI 1)) kd) kd 48) th isf nam) isf 16) nam := by
  have hi : p * 16 + d < 256 := by omega
  rcases h.1 (p * 16 + d) hi with ⟨z1, z2⟩ | ⟨o, ho, z1, z2⟩
  · refine ⟨sR D 0, sR D 1, sR D 2, sR D 4, ?_, kpL_r _ _, ?_⟩
    · rw [nk_close0 n hp hd z2]
      unfold dU
      rw [nm_r0, nm_r0, nm_r0, nm_r0]
    · have e : upd de (p * 16 + d) (-nI 1) = de := by rw [← z1, nm_u0]
      rw [e]
      exact rD_sweep h
  · have p0 : 0 < cD de o := cN_p (P := fun j => decide (de j = nI o)) (i := p * 16 + d) (decide_eq_true z1) hi
    have pl := cD_le de o
    rcases h.2.1 o ho with ⟨y1, y2, y3⟩ | ⟨k, t, y1, y2, y3, y4, y5, y6, y7, y8, y9, y10, y11, y12, y13, y14, y15⟩
    · omega
    · have xl := cE_le kd th k t
      have x1 : 0 < cE kd th k t := cN_p (P := fun j => decide (kd j = nI k ∧ th j = nI t)) (i := o) (decide_eq_true ⟨y4, y7⟩) ho
      have ex : if k = 3 then sR D 4 (t * 3 + 1) = nI (cE kd th k t) else k = 4 ∨ sR D 2 (t * 4 + k) = nI (cE kd th k t) := by
        by_cases k3 : k = 3
        · rw [if_pos k3, k3]
          exact (h.2.2.2 t y10).1
        · rw [if_neg k3]
          by_cases k4 : k = 4
          · exact Or.inl k4
          · right
            have t8 := y9 (by omega)
            have ck : k = 1 ∨ k = 2 := by omega
            rcases ck with e | e
            · rw [e]; exact (h.2.2.1 t t8).1
            · rw [e]; exact (h.2.2.1 t t8).2.1
      have cl := nk_closeC n (D := D) hp hd ho z2 (by omega) pl y5 y6 y8 y1 y2 y10 y9 xl (by omega) ex
      by_cases c1 : cD de o = 1
      · rw [if_pos c1] at cl
        refine ⟨_, _, _, _, cl, ⟨fun u hu => ?_, fun u hu => ?_⟩, rD_close h hi ho z1 y4 y1 y2 y7 y10 y9 (fun j hj hne x hx => ?_) ?_ (fun u s hu h1 h2 => ?_) (fun u hu => ⟨?_, ?_⟩)⟩
        · by_cases k2 : k ≤ 2
          · rw [if_pos k2, nm_un (by omega), nm_un (by omega)]
            exact ⟨rfl, rfl⟩
          · rw [if_neg k2]
            exact ⟨rfl, rfl⟩
        · by_cases k3 : k = 3
          · rw [if_pos k3, nm_un (by omega)]
          · rw [if_neg k3]
        · rw [nm_un (by omega), nm_un (by omega)]
        · rw [if_pos c1, nm_us]
        · by_cases k2 : k ≤ 2
          · rw [if_pos k2]
            by_cases c : s = k ∧ u = t
            · rw [if_pos ⟨c1, c⟩, c.1, c.2, nm_us]
            · rw [if_neg (fun z => c z.2), nm_un (by omega)]
          · rw [if_neg k2, if_neg (fun z => by omega)]
        · by_cases k3 : k = 3
          · rw [if_pos k3]
            by_cases c : u = t
            · rw [if_pos ⟨c1, k3, c⟩, c, nm_us, k3]
            · rw [if_neg (fun z => c z.2.2), nm_un (by omega)]
          · rw [if_neg k3, if_neg (fun z => k3 z.2.1)]
        · by_cases k3 : k = 3
          · rw [if_pos k3, nm_un (by omega)]
          · rw [if_neg k3]
      · rw [if_neg c1] at cl
        refine ⟨_, _, _, _, cl, kpL_r _ _, rD_close h hi ho z1 y4 y1 y2 y7 y10 y9 (fun j hj hne x hx => ?_) ?_ (fun u s hu h1 h2 => ?_) (fun u hu => ⟨?_, rfl⟩)⟩
        · rw [nm_un (by omega)]
        · rw [if_neg c1, nm_us]
          exact ⟨nm_un (by omega), rfl, fun x hx hx5 => nm_un (by omega)⟩
        · rw [if_neg (fun z => c1 z.1)]
        · rw [if_neg (fun z => c1 z.1)]
