/-- the reference: all statements and labels laid out -/
def lR (N0 : Nat → Nat) (s : Nat) : Nat := if s = 0 then 0 else N0 (s - 1)
theorem sK_e {N0 : Nat → Nat} {nS s k : Nat} (hm : ∀ s t : Nat, s ≤ t → t < nS → N0 s ≤ N0 t) (hs : s ≤ nS) (h1 : lR N0 s ≤ k) (h2 : s < nS → k < N0 s) : sK N0 nS k = s := by
  obtain ⟨a, b, d⟩ := sK_1 N0 nS k
  rcases Nat.lt_trichotomy (sK N0 nS k) s with z | z | z
  · have := b (by omega)
    have := hm (sK N0 nS k) (s - 1) (by omega) (by omega)
    unfold lR at h1
    rw [if_neg (by omega)] at h1
    omega
  · exact z
  · have := d s z
    have := h2 (by omega)
    omega
def labV (X : Nat → Nat) (F : Nat → Nat × Nat) (N0 : Nat → Nat) (nS k : Nat) : Nat := if X k / 131072 = 1 ∨ X k / 131072 = 4 then (F (sK N0 nS k)).2 else (F (sK N0 nS k)).1
def LYR (S : St) (nS nL : Nat) (X : Nat → Nat) (Ds : Nat → Dt) (Zs Qs Fs N0 AA : Nat → Nat) (BY : Nat → Int32) (lv : Nat → Nat) : Prop := sI S 2 = nI nS ∧ sI S 3 = nI nL ∧ nS ≤ 8200 ∧ nL ≤ 16500 ∧ (∀ k : Nat, k < nL → sR S 6 k = nI (X k) ∧ X k < 2 ^ 20 ∧ X k % 131072 < 40000) ∧ (∀ s t : Nat, s ≤ t → t < nS → N0 s ≤ N0 t) ∧ (∀ s : Nat, s < nS → sR S 3 s = nI (AA s * 2 ^ 17 + Qs s) ∧ AA s < 64 ∧ Qs s < 131072 ∧ AA s / 4 % 2 = Zs s ∧ AA s % 4 = lv s ∧ AA s / 8 = Fs s / 8 ∧ sR S 5 s = BY s ∧ ZK (Ds s) (BY s) (Fs s) (lv s) ∧ N0 s ≤ nL ∧ (∀ k : Nat, k < N0 s → X k % 131072 < Qs s) ∧ ∀ k : Nat, N0 s ≤ k → k < nL → Qs s < X k % 131072)
theorem ly_14 {n : Nat} {S : St} {nS nL : Nat} {X : Nat → Nat} {Ds : Nat → Dt} {Zs Qs Fs N0 AA : Nat → Nat} {BY : Nat → Int32} {lv : Nat → Nat} (hn : 70000 < n) (h : LYR S nS nL X Ds Zs Qs Fs N0 AA BY lv) : ∀ (m s g : Nat) (OF W : Nat → Int32), s + m = nS → m + 1 < g → df_X13_layout_14 n g (nI (lR N0 s)) (nI s) (yL S (lay Ds Zs BY lv s).1 (lay Ds Zs BY lv s).2 OF W) = some (yL S (lay Ds Zs BY lv nS).1 (lay Ds Zs BY lv nS).2 (fun i => if s ≤ i ∧ i < nS then nI (ofs Ds Zs BY lv i) else OF i) (fun k => if lR N0 s ≤ k ∧ k < nL ∧ ¬ X k / 131072 = 2 then nI (labV X (lay Ds Zs BY lv) N0 nS k) else W k)) := fun m => by
  obtain ⟨h2, h3, hnS, hnL, hX, hm, hst⟩ := h
  induction m with
  | zero =>
    intro s g OF W h1 hg
    have : s = nS := by omega
    subst this
    obtain ⟨g, rfl⟩ : ∃ k : Nat, g = k + 1 := ⟨g - 1, by omega⟩
    have lRl : lR N0 s ≤ nL := by
      unfold lR
      split
      · omega
      · exact (hst (s - 1) (by omega)).2.2.2.2.2.2.2.2.1
    show dF_X13_layout_14 n (df_X13_layout_14 n g) (nI (lR N0 s)) (nI s) (yL S (lay Ds Zs BY lv s).1 (lay Ds Zs BY lv s).2 OF W) = _
    unfold dF_X13_layout_14 df_X13_layout_46
    rw [yL_i (by decide) (by decide), h2, if_neg (znl (Nat.le_refl s) (by omega)), if_pos (zle (Nat.le_refl s) (by omega))]
    rw [show (131071 : Int32) = nI 131071 from rfl, ly_47 (nL := nL) (X := X) (df_X13_layout_14 n g) h3 hnL (fun k hk => ⟨(hX k hk).1, (hX k hk).2.1⟩) (by omega) nL (Nat.le_refl _) (fun k hk => by have := (hX k hk).2.2; omega) (fun z => by omega) (nL - lR N0 s) (lR N0 s) n W (by omega) (by omega)]
    unfold df_X13_layout_121
    rw [yL_i (by decide) (by decide), h2, if_pos rfl]
    have e1 : (fun i => if s ≤ i ∧ i < s then nI (ofs Ds Zs BY lv i) else OF i) = OF := funext fun i => if_neg (by omega)
    have e2 : (fun k => if lR N0 s ≤ k ∧ k < nL ∧ ¬ X k / 131072 = 2 then nI (labV X (lay Ds Zs BY lv) N0 s k) else W k) = wlF X W (lay Ds Zs BY lv s).1 (lay Ds Zs BY lv s).2 (lR N0 s) nL := funext fun k => by
      unfold wlF
      by_cases y : lR N0 s ≤ k ∧ k < nL ∧ ¬ X k / 131072 = 2
      · rw [if_pos y, if_pos y]
        unfold labV
        rw [sK_e hm (Nat.le_refl _) y.1 (fun w => by omega)]
        split <;> rfl
      · rw [if_neg y, if_neg y]
    rw [e1, e2]
  | succ m ih =>
    intro s g OF W h1 hg
    obtain ⟨g, rfl⟩ : ∃ k : Nat, g = k + 1 := ⟨g - 1, by omega⟩
    obtain ⟨c1, c2, c3, c4, c5, c6, c7, c8, c9, c10, c11⟩ := hst s (by omega)
    have lRl : lR N0 s ≤ N0 s := by
      unfold lR
      split
      · omega
      · exact hm (s - 1) s (by omega) (by omega)
    have zb : AA s / 4 % 2 < 2 := by omega
    show dF_X13_layout_14 n (df_X13_layout_14 n g) (nI (lR N0 s)) (nI s) (yL S (lay Ds Zs BY lv s).1 (lay Ds Zs BY lv s).2 OF W) = _
    unfold dF_X13_layout_14 df_X13_layout_46
    rw [yL_i (by decide) (by decide), h2, if_neg (znl (show s ≤ nS by omega) (by omega)), if_neg (znle (show s < nS by omega) (by omega)), nm_ck (by omega) (by omega), nI_clamp (by omega), yL_r (by decide) (by decide), c1, (pla_1 c2 c3).1]
    rw [ly_47 (nL := nL) (X := X) (df_X13_layout_14 n g) h3 hnL (fun k hk => ⟨(hX k hk).1, (hX k hk).2.1⟩) (by omega) (N0 s) c9 c10 (fun z => Nat.le_of_lt (c11 _ (Nat.le_refl _) z)) (N0 s - lR N0 s) (lR N0 s) n W (by omega) (by omega)]
    unfold df_X13_layout_121 df_X13_layout_155 df_X13_layout_189 df_X13_layout_213
    have sec : ∀ (t d : Nat) (OF W : Nat → Int32), df_X13_sectionOf n (nI s) (yL S t d OF W) = some (nI (Zs s), yL S t d OF W) := fun t d OF W => by
      have := (sz_R (n := n) (S := yL S t d OF W) (off := 0) (show s < 11000 by omega) (by rw [yL_r (by decide) (by decide)]; exact c1) c2 c3 (by rw [yL_r (by decide) (by decide)]; exact c7) c8 c6 c5).2
      rw [c4] at this
      exact this
    have siz : ∀ (off t d : Nat) (OF W : Nat → Int32), df_X13_sizeAt n (nI s) (nI off) (yL S t d OF W) = some (nI (szN (Ds s) (BY s) (lv s) off), yL S t d OF W) := fun off t d OF W => (sz_R (n := n) (S := yL S t d OF W) (off := off) (show s < 11000 by omega) (by rw [yL_r (by decide) (by decide)]; exact c1) c2 c3 (by rw [yL_r (by decide) (by decide)]; exact c7) c8 c6 c5).1
    rw [yL_i (by decide) (by decide), h2, if_neg (zne (show ¬ s = nS by omega) (by omega) (by omega)), sec, nb_b2]
    have fin : ∀ OF' W' : Nat → Int32, OF' = upd OF s (nI (ofs Ds Zs BY lv s)) → W' = wlF X W (lay Ds Zs BY lv s).1 (lay Ds Zs BY lv s).2 (lR N0 s) (N0 s) → df_X13_layout_14 n g (nI (N0 s)) (nI (s + 1)) (yL S (lay Ds Zs BY lv (s + 1)).1 (lay Ds Zs BY lv (s + 1)).2 OF' W') = some (yL S (lay Ds Zs BY lv nS).1 (lay Ds Zs BY lv nS).2 (fun i => if s ≤ i ∧ i < nS then nI (ofs Ds Zs BY lv i) else OF i) (fun k => if lR N0 s ≤ k ∧ k < nL ∧ ¬ X k / 131072 = 2 then nI (labV X (lay Ds Zs BY lv) N0 nS k) else W k)) := fun OF' W' hO hW => by
      have r := ih (s + 1) g OF' W' (by omega) (by omega)
      have el : lR N0 (s + 1) = N0 s := by
        unfold lR
        rw [if_neg (by omega), Nat.add_sub_cancel]
      rw [el] at r
      rw [r]
      have e1 : (fun i => if s + 1 ≤ i ∧ i < nS then nI (ofs Ds Zs BY lv i) else OF' i) = (fun i => if s ≤ i ∧ i < nS then nI (ofs Ds Zs BY lv i) else OF i) := funext fun i => by
        by_cases y : i = s
        · subst y
          rw [if_neg (by omega), if_pos (by omega), hO, up_e]
        · by_cases w : s ≤ i ∧ i < nS
          · rw [if_pos w, if_pos (by omega)]
          · rw [if_neg w, if_neg (by omega), hO, up_n y]
      have e2 : (fun k => if N0 s ≤ k ∧ k < nL ∧ ¬ X k / 131072 = 2 then nI (labV X (lay Ds Zs BY lv) N0 nS k) else W' k) = (fun k => if lR N0 s ≤ k ∧ k < nL ∧ ¬ X k / 131072 = 2 then nI (labV X (lay Ds Zs BY lv) N0 nS k) else W k) := funext fun k => by
        by_cases y : N0 s ≤ k ∧ k < nL ∧ ¬ X k / 131072 = 2
        · rw [if_pos y, if_pos (show lR N0 s ≤ k ∧ k < nL ∧ ¬ X k / 131072 = 2 from ⟨by omega, y.2⟩)]
        · rw [if_neg y, hW]
          unfold wlF
          by_cases w : lR N0 s ≤ k ∧ k < N0 s ∧ ¬ X k / 131072 = 2
          · rw [if_pos w, if_pos (show lR N0 s ≤ k ∧ k < nL ∧ ¬ X k / 131072 = 2 from ⟨w.1, by omega, w.2.2⟩)]
            unfold labV
            rw [sK_e hm (by omega) w.1 (fun _ => w.2.1)]
            split <;> rfl
          · rw [if_neg w, if_neg (fun u => by
              by_cases x : k < N0 s
              · exact w ⟨u.1, x, u.2.2⟩
              · exact y ⟨by omega, u.2⟩)]
      rw [e1, e2]
    have ls : lay Ds Zs BY lv (s + 1) = if Zs s = 1 then ((lay Ds Zs BY lv s).1, (lay Ds Zs BY lv s).2 + szN (Ds s) (BY s) (lv s) (lay Ds Zs BY lv s).2) else ((lay Ds Zs BY lv s).1 + szN (Ds s) (BY s) (lv s) (lay Ds Zs BY lv s).1, (lay Ds Zs BY lv s).2) := rfl
    have zs2 : Zs s < 2 := by omega
    by_cases y : Zs s = 1
    · have eo : ofs Ds Zs BY lv s = (lay Ds Zs BY lv s).2 := if_pos y
      rw [if_pos (show nI (Zs s) = 1 from congrArg nI y), yL_5, nm_ck (by omega) (by omega), nI_clamp (by omega), yL_r4, yL_y4, nb_let, nm_ck (by omega) (by omega), yL_r4, up_e, siz, nb_b2, sec, nb_b2, if_pos (show nI (Zs s) = 1 from congrArg nI y), yL_5, nI_add, yL_w5, nb_let, sec, nb_b2, if_pos (show nI (Zs s) = 1 from congrArg nI y), yL_4, show nI (lay Ds Zs BY lv s).1 + 0 = nI (lay Ds Zs BY lv s).1 from Int32.add_zero _, yL_w4, nb_let, nb_let, show nI s + Int32.ofInt 1 = nI (s + 1) from nI_add s 1]
      rw [if_pos y] at ls
      have := fin (upd OF s (nI (lay Ds Zs BY lv s).2)) (wlF X W (lay Ds Zs BY lv s).1 (lay Ds Zs BY lv s).2 (lR N0 s) (N0 s)) (by rw [eo]) rfl
      rw [ls] at this
      exact this
    · have eo : ofs Ds Zs BY lv s = (lay Ds Zs BY lv s).1 := if_neg y
      have n1 : ¬ nI (Zs s) = 1 := zne (b := 1) y (by omega) (by omega)
      rw [if_neg n1, yL_4, nm_ck (by omega) (by omega), nI_clamp (by omega), yL_r4, yL_y4, nb_let, nm_ck (by omega) (by omega), yL_r4, up_e, siz, nb_b2, sec, nb_b2, if_neg n1, yL_5, show nI (lay Ds Zs BY lv s).2 + 0 = nI (lay Ds Zs BY lv s).2 from Int32.add_zero _, yL_w5, nb_let, sec, nb_b2, if_neg n1, yL_4, nI_add, yL_w4, nb_let, nb_let, show nI s + Int32.ofInt 1 = nI (s + 1) from nI_add s 1]
      rw [if_neg y] at ls
      have := fin (upd OF s (nI (lay Ds Zs BY lv s).1)) (wlF X W (lay Ds Zs BY lv s).1 (lay Ds Zs BY lv s).2 (lR N0 s) (N0 s)) (by rw [eo]) rfl
      rw [ls] at this
      exact this
/-- layout() of the reference -/
theorem ly_R {n : Nat} {S : St} {nS nL : Nat} {X : Nat → Nat} {Ds : Nat → Dt} {Zs Qs Fs N0 AA : Nat → Nat} {BY : Nat → Int32} {lv : Nat → Nat} (hn : 70000 < n) (h : LYR S nS nL X Ds Zs Qs Fs N0 AA BY lv) : df_X13_layout n S = some (yL S (lay Ds Zs BY lv nS).1 (lay Ds Zs BY lv nS).2 (fun i => if i < nS then nI (ofs Ds Zs BY lv i) else sR S 4 i) (fun k => if k < nL ∧ ¬ X k / 131072 = 2 then nI (labV X (lay Ds Zs BY lv) N0 nS k) else sR S 7 k)) := by
  have e0 : pI (pI S 4 0) 5 0 = yL S 0 0 (sR S 4) (sR S 7) := Prod.ext (funext fun j => by
    show (if j = 5 then (0 : Int32) else if j = 4 then 0 else S.1 j) = (if j = 4 then nI 0 else if j = 5 then nI 0 else S.1 j)
    by_cases z : j = 5
    · subst z; rfl
    · rw [if_neg z, if_neg z]; rfl) (Prod.ext rfl (Prod.ext (funext fun j => by
    show S.2.2.1 j = (if j = 4 then sR S 4 else if j = 7 then sR S 7 else S.2.2.1 j)
    by_cases z : j = 4
    · rw [if_pos z, z]; rfl
    · rw [if_neg z]
      by_cases y : j = 7
      · rw [if_pos y, y]; rfl
      · rw [if_neg y]) rfl))
  unfold df_X13_layout df_X13_layout_0
  rw [nb_let, nb_let, e0]
  have hnS := h.2.2.1
  have r := ly_14 hn h nS 0 n (sR S 4) (sR S 7) (by omega) (by omega)
  have el : lR N0 0 = 0 := rfl
  rw [el] at r
  refine Eq.trans r ?_
  have e1 : (fun i => if 0 ≤ i ∧ i < nS then nI (ofs Ds Zs BY lv i) else sR S 4 i) = (fun i => if i < nS then nI (ofs Ds Zs BY lv i) else sR S 4 i) := funext fun i => by
    by_cases y : i < nS
    · rw [if_pos ⟨Nat.zero_le _, y⟩, if_pos y]
    · rw [if_neg (fun u => y u.2), if_neg y]
  have e2 : (fun k => if 0 ≤ k ∧ k < nL ∧ ¬ X k / 131072 = 2 then nI (labV X (lay Ds Zs BY lv) N0 nS k) else sR S 7 k) = (fun k => if k < nL ∧ ¬ X k / 131072 = 2 then nI (labV X (lay Ds Zs BY lv) N0 nS k) else sR S 7 k) := funext fun k => by
    by_cases y : k < nL ∧ ¬ X k / 131072 = 2
    · rw [if_pos ⟨Nat.zero_le _, y⟩, if_pos y]
    · rw [if_neg (fun u => y u.2), if_neg y]
  rw [e1, e2]
