/-- the class finds all addresses -/
theorem pR_2 {S : St} {k : Nat} {f g : Nat → Int32} : pR (pR S k f) k g = pR S k g := Prod.ext rfl (Prod.ext rfl (Prod.ext (funext fun j => by
  show (if j = k then g else if j = k then f else S.2.2.1 j) = (if j = k then g else S.2.2.1 j)
  by_cases z : j = k
  · rw [if_pos z, if_pos z]
  · rw [if_neg z, if_neg z, if_neg z]) rfl))
theorem pR_e {S : St} {k : Nat} {f : Nat → Int32} : sR (pR S k f) k = f := if_pos rfl
theorem ix8 (j k : Nat) : nI j * 8 + nI k = nI (8 * j + k) := by
  rw [show (8 : Int32) = nI 8 from rfl, pk_mul, nI_add, Nat.mul_comm]
theorem ix8z (j : Nat) : nI j * 8 = nI (8 * j) := by
  rw [show (8 : Int32) = nI 8 from rfl, pk_mul, Nat.mul_comm]
def plF (LB v : Nat → Int32) (l j1 : Nat) : Nat → Int32 := fun x => if x % 5 = 2 ∧ l ≤ x / 5 ∧ x / 5 < j1 then v (x / 5) else LB x
theorem pl_58 {n : Nat} {Q U : St} {nl i t d : Nat} {SW : Nat → Int32} (G : Int32 → Int32 → Int32 → Int32 → (St × St) → Option (St × St)) (h9 : sI U 9 = nI nl) (hnl : nl ≤ 16384) (hi : i < 2 ^ 20) (cZ : Nat → Nat) (hcZ : ∀ j : Nat, cZ j < 2) (j1 : Nat) (hj1 : j1 ≤ nl) : ∀ (m l g : Nat) (LB : Nat → Int32), l + m = j1 → m < g → (∀ j : Nat, l ≤ j → j < j1 → LB (5 * j) = nI i) → (∀ j : Nat, l ≤ j → j < j1 → LB (5 * j + 1) = nI (cZ j)) → (j1 < nl → ∃ i' : Nat, LB (5 * j1) = nI i' ∧ ¬ i' = i ∧ i' < 2 ^ 20) → df_X1_findAddresses_18 n G g (nI t) (nI d) (nI l) (nI i) (pR Q 0 SW, pR U 6 LB) = df_X1_findAddresses_58 n G (nI t) (nI d) (nI j1) (nI i) (pR Q 0 SW, pR U 6 (plF LB (fun j => if cZ j = 0 then nI t else nI d) l j1)) := fun m => by
  induction m with
  | zero =>
    intro l g LB h1 h2 h3 h4 h5
    have : l = j1 := by omega
    subst this
    obtain ⟨g, rfl⟩ : ∃ k : Nat, g = k + 1 := ⟨g - 1, by omega⟩
    have e : plF LB (fun j => if cZ j = 0 then nI t else nI d) l l = LB := funext fun x => if_neg (by omega)
    rw [e]
    show dF_X1_findAddresses_18 n G (df_X1_findAddresses_18 n G g) (nI t) (nI d) (nI l) (nI i) (pR Q 0 SW, pR U 6 LB) = _
    unfold dF_X1_findAddresses_18
    rw [show sI (pR Q 0 SW, pR U 6 LB).2 9 = nI nl from h9]
    by_cases z : nl ≤ l
    · rw [if_pos (zle z (by omega))]
    · rw [if_neg (znle (show l < nl by omega) (by omega))]
      obtain ⟨i', w1, w2, w3⟩ := h5 (by omega)
      unfold df_X9_standsBefore df_X9_standsBefore_0 df_X9_standsBefore_19
      rw [show nI l * 5 + 0 = nI (5 * l) from ix5 l 0, nm_ck (by omega) (by omega), nI_clamp (by omega), show sR (pR Q 0 SW, pR U 6 LB).2 6 = LB from pR_e, w1, if_neg (zne w2 (by omega) (by omega)), show nd_z .boolean (0 : Int32) (some ((0 : Int32), (pR Q 0 SW, pR U 6 LB).2)) = some (0, (pR Q 0 SW, pR U 6 LB).2) from nar_z (by decide), nb_b2, nb_let, if_pos rfl]
  | succ m ih =>
    intro l g LB h1 h2 h3 h4 h5
    obtain ⟨g, rfl⟩ : ∃ k : Nat, g = k + 1 := ⟨g - 1, by omega⟩
    show dF_X1_findAddresses_18 n G (df_X1_findAddresses_18 n G g) (nI t) (nI d) (nI l) (nI i) (pR Q 0 SW, pR U 6 LB) = _
    unfold dF_X1_findAddresses_18
    rw [show sI (pR Q 0 SW, pR U 6 LB).2 9 = nI nl from h9, if_neg (znle (show l < nl by omega) (by omega))]
    unfold df_X9_standsBefore df_X9_standsBefore_0 df_X9_standsBefore_19
    rw [show nI l * 5 + 0 = nI (5 * l) from ix5 l 0, nm_ck (by omega) (by omega), nI_clamp (by omega), show sR (pR Q 0 SW, pR U 6 LB).2 6 = LB from pR_e, h3 l (Nat.le_refl _) (by omega), if_pos rfl, show nd_z .boolean (1 : Int32) (some ((1 : Int32), (pR Q 0 SW, pR U 6 LB).2)) = some (1, (pR Q 0 SW, pR U 6 LB).2) from nar_z (by decide), nb_b2, nb_let, if_neg (show ¬ (1 : Int32) = 0 by decide)]
    have pl : df_X9_place n (nI l) (nI t) (nI d) (pR U 6 LB) = some (pR U 6 (upd LB (5 * l + 2) (if cZ l = 0 then nI t else nI d))) := by
      unfold df_X9_place df_X9_place_0 df_X9_place_27
      rw [show nI l * 5 + 1 = nI (5 * l + 1) from ix5 l 1, show nI l * 5 + 2 = nI (5 * l + 2) from ix5 l 2, nm_ck (by omega) (by omega), nI_clamp (by omega), pR_e, h4 l (Nat.le_refl _) (by omega)]
      have := hcZ l
      by_cases z : cZ l = 0
      · rw [if_pos (show nI (cZ l) = 0 from congrArg nI z), nm_ck (by omega) (by omega), nI_clamp (by omega), pR_2, nb_let, if_pos z]
      · rw [if_neg (show ¬ nI (cZ l) = 0 from zne (b := 0) z (by omega) (by omega)), nm_ck (by omega) (by omega), nI_clamp (by omega), pR_2, nb_let, if_neg z]
    rw [show df_X9_place n (nI l) (nI t) (nI d) (pR Q 0 SW, (pR Q 0 SW, pR U 6 LB).2).2 = _ from pl, nb_b1, nb_let, nb_let, show nI l + Int32.ofInt 1 = nI (l + 1) from nI_add l 1]
    rw [show ((pR Q 0 SW, (pR Q 0 SW, pR U 6 LB).2).1, pR U 6 (upd LB (5 * l + 2) (if cZ l = 0 then nI t else nI d))) = (pR Q 0 SW, pR U 6 (upd LB (5 * l + 2) (if cZ l = 0 then nI t else nI d))) from rfl]
    rw [ih (l + 1) g (upd LB (5 * l + 2) (if cZ l = 0 then nI t else nI d)) (by omega) (by omega) (fun j j1' j2' => by rw [up_n (by omega)]; exact h3 j (by omega) j2') (fun j j1' j2' => by rw [up_n (by omega)]; exact h4 j (by omega) j2') (fun z => by
      obtain ⟨i', w1, w2, w3⟩ := h5 z
      exact ⟨i', by rw [up_n (by omega)]; exact w1, w2, w3⟩)]
    have e : plF (upd LB (5 * l + 2) (if cZ l = 0 then nI t else nI d)) (fun j => if cZ j = 0 then nI t else nI d) (l + 1) j1 = plF LB (fun j => if cZ j = 0 then nI t else nI d) l j1 := funext fun x => by
      unfold plF
      by_cases y : x % 5 = 2 ∧ l ≤ x / 5 ∧ x / 5 < j1
      · rw [if_pos y]
        by_cases w : x / 5 = l
        · rw [if_neg (by omega), w, show x = 5 * l + 2 by omega, up_e]
        · rw [if_pos (by omega)]
      · rw [if_neg y, if_neg (by omega), up_n (by omega)]
    rw [e]
/-- one statement -/
theorem fa_58 {n : Nat} {Q U : St} {sn i t d l : Nat} {SW LB : Nat → Int32} (G : Int32 → Int32 → Int32 → Int32 → (St × St) → Option (St × St)) (h0 : sI Q 0 = nI sn) (hi : i < sn) (hsn : sn ≤ 8194) {z kd len pl : Nat} (hz : z < 2) (hpl : pl = if z = 1 then d else t) (h1 : SW (8 * i + 1) = nI z) (h4 : SW (8 * i + 4) = nI kd) (hkd : kd < 10) (h8 : kd = 8 → nI len = (-nI pl) &&& (SW (8 * i + 5) - 1)) (h3 : ¬ kd = 8 → SW (8 * i + 3) = nI len) : df_X1_findAddresses_58 n G (nI t) (nI d) (nI l) (nI i) (pR Q 0 SW, pR U 6 LB) = G (nI (if z = 1 then t else t + len)) (nI (if z = 1 then d + len else d)) (nI l) (nI (i + 1)) (pR Q 0 (upd (upd SW (8 * i + 2) (nI pl)) (8 * i + 3) (nI len)), pR U 6 LB) := by
  have e91 : df_X1_findAddresses_91 n G (nI t) (nI d) (nI l) (nI i) (nI (8 * i)) (nI pl) (pR Q 0 SW, pR U 6 LB) = G (nI (if z = 1 then t else t + len)) (nI (if z = 1 then d + len else d)) (nI l) (nI (i + 1)) (pR Q 0 (upd (upd SW (8 * i + 2) (nI pl)) (8 * i + 3) (nI len)), pR U 6 LB) := by
    have e142 : ∀ SW' : Nat → Int32, SW' (8 * i + 1) = nI z → SW' (8 * i + 3) = nI len → df_X1_findAddresses_142 n G (nI t) (nI d) (nI l) (nI i) (nI (8 * i)) (pR Q 0 SW', pR U 6 LB) = G (nI (if z = 1 then t else t + len)) (nI (if z = 1 then d + len else d)) (nI l) (nI (i + 1)) (pR Q 0 SW', pR U 6 LB) := fun SW' g1 g3 => by
      unfold df_X1_findAddresses_142 df_X1_findAddresses_181
      rw [show nI (8 * i) + 1 = nI (8 * i + 1) from nI_add (8 * i) 1, show nI (8 * i) + 3 = nI (8 * i + 3) from nI_add (8 * i) 3, nm_ck (by omega) (by omega), nI_clamp (by omega), show sR (pR Q 0 SW', pR U 6 LB).1 0 = SW' from pR_e, g1, nI_clamp (by omega), g3, nI_add, nI_add, show nI i + Int32.ofInt 1 = nI (i + 1) from nI_add i 1]
      by_cases y : z = 1
      · rw [if_neg (show ¬ nI z = 0 from zne (b := 0) (by omega) (by omega) (by omega)), nm_ck (by omega) (by omega), nb_let, nb_let, if_pos y, if_pos y]
      · rw [if_pos (show nI z = 0 from congrArg nI (show z = 0 by omega)), nm_ck (by omega) (by omega), nb_let, nb_let, if_neg y, if_neg y]
    unfold df_X1_findAddresses_91
    rw [show nI (8 * i) + 2 = nI (8 * i + 2) from nI_add (8 * i) 2, show nI (8 * i) + 4 = nI (8 * i + 4) from nI_add (8 * i) 4, show nI (8 * i) + 5 = nI (8 * i + 5) from nI_add (8 * i) 5, show nI (8 * i) + 3 = nI (8 * i + 3) from nI_add (8 * i) 3, nm_ck (by omega) (by omega), nI_clamp (by omega)]
    rw [show sR (pR Q 0 SW, pR U 6 LB).1 0 = SW from pR_e, show pR (pR Q 0 SW, pR U 6 LB).1 0 (upd SW (8 * i + 2) (nI pl)) = pR Q 0 (upd SW (8 * i + 2) (nI pl)) from pR_2, nb_let, nm_ck (by omega) (by omega), nI_clamp (by omega)]
    rw [show sR (pR Q 0 (upd SW (8 * i + 2) (nI pl)), (pR Q 0 SW, pR U 6 LB).2).1 0 = upd SW (8 * i + 2) (nI pl) from pR_e, up_n (show ¬ 8 * i + 4 = 8 * i + 2 by omega), h4]
    by_cases y : kd = 8
    · rw [if_pos (show nI kd = 8 from congrArg nI y), nm_ck (by omega) (by omega), nI_clamp (by omega), nm_ck (by omega) (by omega), nI_clamp (by omega), up_n (show ¬ 8 * i + 5 = 8 * i + 2 by omega), ← h8 y]
      rw [show pR (pR Q 0 (upd SW (8 * i + 2) (nI pl)), (pR Q 0 SW, pR U 6 LB).2).1 0 (upd (upd SW (8 * i + 2) (nI pl)) (8 * i + 3) (nI len)) = pR Q 0 (upd (upd SW (8 * i + 2) (nI pl)) (8 * i + 3) (nI len)) from pR_2, nb_let]
      exact e142 (upd (upd SW (8 * i + 2) (nI pl)) (8 * i + 3) (nI len)) (by rw [up_n (by omega), up_n (by omega)]; exact h1) up_e
    · rw [if_neg (show ¬ nI kd = 8 from zne (b := 8) y (by omega) (by omega))]
      have eu : upd SW (8 * i + 2) (nI pl) = upd (upd SW (8 * i + 2) (nI pl)) (8 * i + 3) (nI len) := (upd_s (by rw [up_n (by omega)]; exact h3 y)).symm
      rw [show (pR Q 0 (upd SW (8 * i + 2) (nI pl)), (pR Q 0 SW, pR U 6 LB).2) = (pR Q 0 (upd SW (8 * i + 2) (nI pl)), pR U 6 LB) from rfl, ← eu]
      exact e142 (upd SW (8 * i + 2) (nI pl)) (by rw [up_n (by omega)]; exact h1) (by rw [up_n (by omega)]; exact h3 y)
  unfold df_X1_findAddresses_58
  rw [show sI (pR Q 0 SW, pR U 6 LB).1 0 = nI sn from h0, if_neg (znle hi (by omega)), show nI i * 8 = nI (8 * i) from ix8z i, nb_let, show nI (8 * i) + 1 = nI (8 * i + 1) from nI_add (8 * i) 1, nm_ck (by omega) (by omega), nI_clamp (by omega), show sR (pR Q 0 SW, pR U 6 LB).1 0 = SW from pR_e, h1]
  by_cases y : z = 1
  · rw [if_neg (show ¬ nI z = 0 from zne (b := 0) (by omega) (by omega) (by omega))]
    rw [if_pos y] at hpl
    rw [← hpl] at e91 ⊢
    exact e91
  · rw [if_pos (show nI z = 0 from congrArg nI (show z = 0 by omega))]
    rw [if_neg y] at hpl
    rw [← hpl] at e91 ⊢
    exact e91
