/-- the reference finds all places: its state as one term -/
def yL (S : St) (t d : Nat) (OF W : Nat → Int32) : St := (fun j => if j = 4 then nI t else if j = 5 then nI d else S.1 j, S.2.1, fun j => if j = 4 then OF else if j = 7 then W else S.2.2.1 j, S.2.2.2)
theorem yL_4 {S : St} {t d : Nat} {OF W : Nat → Int32} : sI (yL S t d OF W) 4 = nI t := rfl
theorem yL_5 {S : St} {t d : Nat} {OF W : Nat → Int32} : sI (yL S t d OF W) 5 = nI d := rfl
theorem yL_i {S : St} {t d : Nat} {OF W : Nat → Int32} {j : Nat} (h4 : ¬ j = 4) (h5 : ¬ j = 5) : sI (yL S t d OF W) j = sI S j := (if_neg h4).trans (if_neg h5)
theorem yL_r4 {S : St} {t d : Nat} {OF W : Nat → Int32} : sR (yL S t d OF W) 4 = OF := rfl
theorem yL_r7 {S : St} {t d : Nat} {OF W : Nat → Int32} : sR (yL S t d OF W) 7 = W := rfl
theorem yL_r {S : St} {t d : Nat} {OF W : Nat → Int32} {j : Nat} (h4 : ¬ j = 4) (h7 : ¬ j = 7) : sR (yL S t d OF W) j = sR S j := (if_neg h4).trans (if_neg h7)
theorem yL_w4 {S : St} {t d v : Nat} {OF W : Nat → Int32} : pI (yL S t d OF W) 4 (nI v) = yL S v d OF W := Prod.ext (funext fun j => by
  show (if j = 4 then nI v else if j = 4 then nI t else if j = 5 then nI d else S.1 j) = (if j = 4 then nI v else if j = 5 then nI d else S.1 j)
  by_cases z : j = 4
  · rw [if_pos z, if_pos z]
  · rw [if_neg z, if_neg z, if_neg z]) rfl
theorem yL_w5 {S : St} {t d v : Nat} {OF W : Nat → Int32} : pI (yL S t d OF W) 5 (nI v) = yL S t v OF W := Prod.ext (funext fun j => by
  show (if j = 5 then nI v else if j = 4 then nI t else if j = 5 then nI d else S.1 j) = (if j = 4 then nI t else if j = 5 then nI v else S.1 j)
  by_cases z : j = 5
  · subst z; rfl
  · rw [if_neg z, if_neg z, if_neg z]) rfl
theorem yL_y4 {S : St} {t d : Nat} {OF W f : Nat → Int32} : pR (yL S t d OF W) 4 f = yL S t d f W := Prod.ext rfl (Prod.ext rfl (Prod.ext (funext fun j => by
  show (if j = 4 then f else if j = 4 then OF else if j = 7 then W else S.2.2.1 j) = (if j = 4 then f else if j = 7 then W else S.2.2.1 j)
  by_cases z : j = 4
  · rw [if_pos z, if_pos z]
  · rw [if_neg z, if_neg z, if_neg z]) rfl))
theorem yL_y7 {S : St} {t d : Nat} {OF W f : Nat → Int32} : pR (yL S t d OF W) 7 f = yL S t d OF f := Prod.ext rfl (Prod.ext rfl (Prod.ext (funext fun j => by
  show (if j = 7 then f else if j = 4 then OF else if j = 7 then W else S.2.2.1 j) = (if j = 4 then OF else if j = 7 then f else S.2.2.1 j)
  by_cases z : j = 7
  · subst z; rfl
  · rw [if_neg z, if_neg z, if_neg z]) rfl))
/-- a place's parts: A section, flag and level, q where it starts -/
theorem pla_1 {A q : Nat} (hA : A < 64) (hq : q < 131072) : nI (A * 2 ^ 17 + q) &&& 131071 = nI q ∧ (nI (A * 2 ^ 17 + q) >>> ((19 : Int32) &&& 31)) &&& 1 = nI (A / 4 % 2) ∧ nI (A * 2 ^ 17 + q) >>> ((20 : Int32) &&& 31) = nI (A / 8) ∧ (nI (A * 2 ^ 17 + q) >>> ((17 : Int32) &&& 31)) &&& 3 = nI (A % 4) := by
  have hw : A * 2 ^ 17 + q < 2 ^ 31 := by omega
  refine ⟨?_, ?_, ?_, ?_⟩
  · rw [pk_andN (m := 131071) (by omega) 17 (by decide)]
    exact congrArg nI (by omega)
  · rw [show ((19 : Int32) &&& 31) = nI 19 from by decide, nm_shr hw (by omega), show (1 : Int32) = nI 1 from rfl, nm_m1 (by omega)]
    exact congrArg nI (by omega)
  · rw [show ((20 : Int32) &&& 31) = nI 20 from by decide, nm_shr hw (by omega)]
    exact congrArg nI (by omega)
  · rw [show ((17 : Int32) &&& 31) = nI 17 from by decide, nm_shr hw (by omega), show (3 : Int32) = nI 3 from rfl, nm_m3 (by omega)]
    exact congrArg nI (by omega)
theorem xk_1 {w : Nat} (h : w < 2 ^ 20) : nI w &&& 131071 = nI (w % 131072) ∧ nI w >>> ((17 : Int32) &&& 31) = nI (w / 131072) := by
  constructor
  · rw [pk_andN (m := 131071) (by omega) 17 (by decide)]
  · rw [show ((17 : Int32) &&& 31) = nI 17 from by decide, nm_shr (by omega) (by omega)]
/-- labels before a statement -/
def wlF (X : Nat → Nat) (W : Nat → Int32) (t d l j1 : Nat) : Nat → Int32 := fun k => if l ≤ k ∧ k < j1 ∧ ¬ X k / 131072 = 2 then (if X k / 131072 = 1 ∨ X k / 131072 = 4 then nI d else nI t) else W k
theorem ly_47 {n : Nat} {S : St} {nL s start t d : Nat} {X : Nat → Nat} {OF : Nat → Int32} (G : Int32 → Int32 → St → Option St) (h3 : sI S 3 = nI nL) (hnL : nL ≤ 16500) (hX : ∀ k : Nat, k < nL → sR S 6 k = nI (X k) ∧ X k < 2 ^ 20) (hst : start < 2 ^ 20) (j1 : Nat) (hj1 : j1 ≤ nL) (hlt : ∀ k : Nat, k < j1 → X k % 131072 < start) (hge : j1 < nL → start ≤ X j1 % 131072) : ∀ (m l g : Nat) (W : Nat → Int32), l + m = j1 → m < g → df_X13_layout_47 n G g (nI l) (nI s) (nI start) (yL S t d OF W) = df_X13_layout_121 n G (nI j1) (nI s) (yL S t d OF (wlF X W t d l j1)) := fun m => by
  induction m with
  | zero =>
    intro l g W h1 h2
    have : l = j1 := by omega
    subst this
    obtain ⟨g, rfl⟩ : ∃ k : Nat, g = k + 1 := ⟨g - 1, by omega⟩
    have e : wlF X W t d l l = W := funext fun k => if_neg (by omega)
    rw [e]
    show dF_X13_layout_47 n G (df_X13_layout_47 n G g) (nI l) (nI s) (nI start) (yL S t d OF W) = _
    unfold dF_X13_layout_47
    rw [yL_i (by decide) (by decide), h3]
    by_cases z : nL ≤ l
    · rw [if_pos (zle z (by omega))]
    · have hl : l < nL := by omega
      rw [if_neg (znle hl (by omega)), nm_ck (by omega) (by omega), nI_clamp (by omega), yL_r (by decide) (by decide), (hX l hl).1, (xk_1 (hX l hl).2).1, if_pos (zle (hge hl) (by omega))]
  | succ m ih =>
    intro l g W h1 h2
    obtain ⟨g, rfl⟩ : ∃ k : Nat, g = k + 1 := ⟨g - 1, by omega⟩
    have hl : l < nL := by omega
    have hx := (hX l hl).2
    show dF_X13_layout_47 n G (df_X13_layout_47 n G g) (nI l) (nI s) (nI start) (yL S t d OF W) = _
    unfold dF_X13_layout_47 df_X13_layout_103 df_X13_layout_114 df_X13_layout_115
    rw [yL_i (by decide) (by decide), h3, if_neg (znle hl (by omega)), nm_ck (by omega) (by omega), nI_clamp (by omega), yL_r (by decide) (by decide), (hX l hl).1, (xk_1 hx).1, if_neg (znle (hlt l (by omega)) (by omega)), nm_ck (by omega) (by omega), (xk_1 hx).2, nb_let]
    rw [yL_4, yL_5, yL_r7, yL_y7, yL_y7, show nI l + Int32.ofInt 1 = nI (l + 1) from nI_add l 1]
    have step : ∀ W' : Nat → Int32, W' = (fun k => if k = l ∧ ¬ X l / 131072 = 2 then (if X l / 131072 = 1 ∨ X l / 131072 = 4 then nI d else nI t) else W k) → df_X13_layout_47 n G g (nI (l + 1)) (nI s) (nI start) (yL S t d OF W') = df_X13_layout_121 n G (nI j1) (nI s) (yL S t d OF (wlF X W t d l j1)) := fun W' hW' => by
      rw [ih (l + 1) g W' (by omega) (by omega)]
      have e : wlF X W' t d (l + 1) j1 = wlF X W t d l j1 := funext fun k => by
        unfold wlF
        rw [hW']
        by_cases y : k = l
        · subst y
          rw [if_neg (by omega)]
          show (if k = k ∧ ¬ X k / 131072 = 2 then _ else W k) = _
          by_cases w : X k / 131072 = 2
          · rw [if_neg (fun u => u.2 w), if_neg (fun u => u.2.2 w)]
          · rw [if_pos (show k = k ∧ ¬ X k / 131072 = 2 from ⟨rfl, w⟩), if_pos (show k ≤ k ∧ k < j1 ∧ ¬ X k / 131072 = 2 from ⟨Nat.le_refl _, by omega, w⟩)]
        · by_cases w : l ≤ k ∧ k < j1 ∧ ¬ X k / 131072 = 2
          · rw [if_pos w, if_pos ⟨by omega, w.2⟩]
          · rw [if_neg w, if_neg (fun u => w ⟨by omega, u.2⟩)]
            show (if k = l ∧ _ then _ else W k) = _
            rw [if_neg (fun u => y u.1)]
      rw [e]
    by_cases k2 : X l / 131072 = 2
    · rw [if_pos (show nI (X l / 131072) = 2 from congrArg nI k2), nb_let]
      exact step W (funext fun k => by
        show W k = if k = l ∧ ¬ X l / 131072 = 2 then _ else W k
        rw [if_neg (fun u => u.2 k2)])
    · rw [if_neg (show ¬ nI (X l / 131072) = 2 from zne (b := 2) k2 (by omega) (by omega))]
      have ue : ∀ v : Int32, upd W l v = fun k => if k = l then v else W k := fun v => rfl
      by_cases k1 : X l / 131072 = 1
      · rw [if_pos (show nI (X l / 131072) = 1 from congrArg nI k1), nm_ck (by omega) (by omega), nb_let, nb_let]
        exact step _ (funext fun k => by
          show (if k = l then nI d else W k) = if k = l ∧ ¬ X l / 131072 = 2 then _ else W k
          by_cases y : k = l
          · rw [if_pos y, if_pos ⟨y, k2⟩, if_pos (Or.inl k1)]
          · rw [if_neg y, if_neg (fun u => y u.1)])
      · rw [if_neg (show ¬ nI (X l / 131072) = 1 from zne (b := 1) k1 (by omega) (by omega))]
        by_cases k4 : X l / 131072 = 4
        · rw [if_pos (show nI (X l / 131072) = 4 from congrArg nI k4), nm_ck (by omega) (by omega), nb_let, nb_let]
          exact step _ (funext fun k => by
            show (if k = l then nI d else W k) = if k = l ∧ ¬ X l / 131072 = 2 then _ else W k
            by_cases y : k = l
            · rw [if_pos y, if_pos ⟨y, k2⟩, if_pos (Or.inr k4)]
            · rw [if_neg y, if_neg (fun u => y u.1)])
        · rw [if_neg (show ¬ nI (X l / 131072) = 4 from zne (b := 4) k4 (by omega) (by omega)), nm_ck (by omega) (by omega), nb_let, nb_let]
          exact step _ (funext fun k => by
            show (if k = l then nI t else W k) = if k = l ∧ ¬ X l / 131072 = 2 then _ else W k
            by_cases y : k = l
            · rw [if_pos y, if_pos ⟨y, k2⟩, if_neg (fun u => u.elim k1 k4)]
            · rw [if_neg y, if_neg (fun u => y u.1)])
theorem al_g (k : Nat) (h : k ≤ 10) : ¬ (0 : Int32) ≤ -1 - nI k := by
  have : ∀ k : Fin 11, ¬ (0 : Int32) ≤ -1 - nI k.1 := by decide +kernel
  exact this ⟨k, by omega⟩
theorem sh_2 {l : Nat} (h : l ≤ 2) : (2 : Int32) <<< (nI l &&& 31) = nI (2 * 2 ^ l) := by
  have : ∀ l : Fin 3, (2 : Int32) <<< (nI l.1 &&& 31) = nI (2 * 2 ^ l.1) := by decide +kernel
  exact this ⟨l, by omega⟩
/-- one statement -/
theorem sz_R {n : Nat} {S : St} {s A q : Nat} {D : Dt} {bb : Int32} {fl l off : Nat} (hs : s < 11000) (h3 : sR S 3 s = nI (A * 2 ^ 17 + q)) (hA : A < 64) (hq : q < 131072) (h5 : sR S 5 s = bb) (hZ : ZK D bb fl l) (hfl : A / 8 = fl / 8) (hl : A % 4 = l) : df_X13_sizeAt n (nI s) (nI off) S = some (nI (szN D bb l off), S) ∧ df_X13_sectionOf n (nI s) S = some (nI (A / 4 % 2), S) := by
  obtain ⟨p1, p2, p3, p4⟩ := pla_1 hA hq
  obtain ⟨z1, z2, z3, z4, z5⟩ := sz_1 hZ off
  constructor
  · unfold df_X13_sizeAt df_X13_sizeAt_0 df_X13_sizeAt_59
    rw [nm_ck hs (by omega), nI_clamp (by omega), h5, h3, p3, p4]
    rcases hZ with ⟨h1, h2, hh, kk, hkk, hbk⟩ | ⟨h1, h2, hh, kk, hkk, hbk⟩ | ⟨h1, h2, hh, k, hk, hb⟩ | ⟨h1, h2, h3', h4, h5', m, hm, hb, h9⟩
    · have big : ¬ nI (A / 8) ≤ (0 : Int32) := znle (b := 0) (by omega) (by omega)
      rw [z4 (Or.inl h1), hl, sh_2 (by omega)]
      rw [nm_ck hs (by omega), if_neg big, nm_ck hs (by omega), nm_ck hs (by omega)]
      rw [if_pos (show (0 : Int32) ≤ bb from by rw [hbk]; exact zle (a := 0) (Nat.zero_le _) (by omega))]
    · have big : ¬ nI (A / 8) ≤ (0 : Int32) := znle (b := 0) (by omega) (by omega)
      rw [z4 (Or.inr h1), hl, sh_2 (by omega)]
      rw [nm_ck hs (by omega), if_neg big, nm_ck hs (by omega), nm_ck hs (by omega)]
      rw [if_pos (show (0 : Int32) ≤ bb from by rw [hbk]; exact zle (a := 0) (Nat.zero_le _) (by omega))]
    · rw [if_neg (show ¬ (0 : Int32) ≤ bb from by rw [hb]; exact al_g k hk), nm_ck hs (by omega), ← z3 h1]
    · rw [if_pos (show (0 : Int32) ≤ bb from by rw [hb]; exact zle (a := 0) (Nat.zero_le _) (by omega)), nm_ck hs (by omega), if_pos (show nI (A / 8) ≤ (0 : Int32) from zle (b := 0) (by omega) (by omega)), nm_ck hs (by omega), z5 h1 h2 h3']
  · unfold df_X13_sectionOf df_X13_sectionOf_0
    rw [nm_ck hs (by omega), nI_clamp (by omega), h3, p2]
