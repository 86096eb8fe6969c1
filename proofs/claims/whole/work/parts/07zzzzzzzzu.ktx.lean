/-- letters of texts, kept by the class -/
def btI (v : Int32) : Int32 := vp_nar .byte (v.toInt8.toInt32)
def ltW (LW : Nat → Int32) : Nat → List Int32 → Nat → Int32
  | _, [] => LW
  | lu, v :: l => ltW (upd LW lu (btI v)) (lu + 1) l
theorem ltW_a : ∀ (a b : List Int32) (LW : Nat → Int32) (lu : Nat), ltW LW lu (a ++ b) = ltW (ltW LW lu a) (lu + a.length) b := fun a => by
  induction a with
  | nil => intro b LW lu; rfl
  | cons v a ih =>
    intro b LW lu
    show ltW (upd LW lu (btI v)) (lu + 1) (a ++ b) = ltW (ltW (upd LW lu (btI v)) (lu + 1) a) (lu + (a.length + 1)) b
    rw [ih, show lu + 1 + a.length = lu + (a.length + 1) by omega]
theorem kl_C {n : Nat} {B : St} {sn lu ln se co : Nat} {od ft : Int32} {SW LW : Nat → Int32} (s2 : St) (h : lu < 32832) (v : Int32) : df_X1_keepLetter n v (qC B sn lu ft ln se od co SW LW, s2) = some (qC B sn (lu + 1) ft ln se od co SW (upd LW lu (btI v)), s2) := by
  have u1 : lu < 2 ^ 31 := by omega
  unfold df_X1_keepLetter df_X1_keepLetter_0 df_X1_keepLetter_33
  rw [if_neg (show ¬ (32832 : Int32) ≤ sI (qC B sn lu ft ln se od co SW LW, s2).1 1 from znle (a := 32832) (b := lu) h (by omega))]
  show nd_ck (nI lu) 32832 (nd_let (pR (qC B sn lu ft ln se od co SW LW) 1 (upd LW (Int32.toNatClampNeg (nI lu)) (btI v)), s2) _) = _
  rw [nm_ck (by omega) u1, nI_clamp u1, nb_let, qC_y1]
  show nd_let (pI (qC B sn lu ft ln se od co SW (upd LW lu (btI v))) 1 (nI lu + nI 1), s2) _ = _
  rw [nI_add, qC_w1, nb_let]
theorem kt_10 {n L e : Nat} {c : Nat → Nat} {BC BR : St} (hT : atx n L e c BC BR) {B : St} {sn ln se co : Nat} {od ft : Int32} {SW : Nat → Int32} (z : Nat) (hz : z ≤ e) (kd fr : Nat) (nm : Int32) : ∀ (k i g lu : Nat) (LW : Nat → Int32), i ≤ e → e - i ≤ k → k + 1 < g → qE c e k i = z → lu + (txO c e k i).length ≤ 32832 → df_X1_keepText_10 n g (nI i) (qC B sn lu ft ln se od co SW LW, uC BC (z + 1) kd fr nm) = some (qC B sn (lu + (txO c e k i).length) ft ln se od co SW (ltW LW lu (txI (txO c e k i))), uC BC (z + 1) kd fr nm) := fun k => by
  have hL : L ≤ 32768 := hT.2.1
  have heL : e ≤ L := hT.2.2.1
  have hce : c e = 10 := hT.2.2.2.2.2.1
  have fin : ∀ (g lu : Nat) (LW : Nat → Int32), df_X1_keepText_10 n (g + 1) (nI z) (qC B sn lu ft ln se od co SW LW, uC BC (z + 1) kd fr nm) = some (qC B sn lu ft ln se od co SW LW, uC BC (z + 1) kd fr nm) := fun g lu LW => by
    show dF_X1_keepText_10 n (df_X1_keepText_10 n g) (nI z) (qC B sn lu ft ln se od co SW LW, uC BC (z + 1) kd fr nm) = _
    unfold dF_X1_keepText_10
    rw [show sI (qC B sn lu ft ln se od co SW LW, uC BC (z + 1) kd fr nm).2 0 = nI (z + 1) from rfl, show nI (z + 1) - (1 : Int32) = nI z from pk_sub (b := 1) (by omega), if_pos (zle (Nat.le_refl _) (by omega))]
  induction k with
  | zero =>
    intro i g lu LW h2 h3 h4 h5 hw
    obtain ⟨g, rfl⟩ : ∃ m : Nat, g = m + 1 := ⟨g - 1, by omega⟩
    have h5 : i = z := h5
    subst h5
    exact fin g lu LW
  | succ k ih =>
    intro i g lu LW h2 h3 h4 h5 hw
    obtain ⟨g, rfl⟩ : ∃ m : Nat, g = m + 1 := ⟨g - 1, by omega⟩
    have h5 : (match shO c e i 34 with | none => i | some _ => qE c e k (i + wdO c e i)) = z := h5
    have tx : txO c e (k + 1) i = match shO c e i 34 with | none => [] | some v => v :: txO c e k (i + wdO c e i) := rfl
    cases hs : shO c e i 34 with
    | none =>
      rw [hs] at h5 tx
      have h5 : i = z := h5
      have tx : txO c e (k + 1) i = [] := tx
      subst h5
      rw [tx]
      exact fin g lu LW
    | some v =>
      rw [hs] at h5 tx
      have h5 : qE c e k (i + wdO c e i) = z := h5
      have tx : txO c e (k + 1) i = v :: txO c e k (i + wdO c e i) := tx
      obtain ⟨w1, w2, w3⟩ := shO_w hce hs
      have w4 := (qE_1 hce k (i + wdO c e i) w2 (by omega)).1
      rw [tx] at hw ⊢
      have hw : lu + ((txO c e k (i + wdO c e i)).length + 1) ≤ 32832 := hw
      have r := ih (i + wdO c e i) g (lu + 1) (upd LW lu (btI (nI v))) w2 (by omega) (by omega) h5 (by omega)
      have ch := ak_ch hT i 34 (z + 1) kd fr nm (by omega) (by omega)
      have wd := ak_wd hT i (z + 1) kd fr nm (by omega)
      rw [hs] at ch
      have ch : df_X9_character n (nI i) (34 : Int32) (uC BC (z + 1) kd fr nm) = some (nI v, uC BC (z + 1) kd fr nm) := ch
      show dF_X1_keepText_10 n (df_X1_keepText_10 n g) (nI i) (qC B sn lu ft ln se od co SW LW, uC BC (z + 1) kd fr nm) = _
      unfold dF_X1_keepText_10
      rw [show sI (qC B sn lu ft ln se od co SW LW, uC BC (z + 1) kd fr nm).2 0 = nI (z + 1) from rfl, show nI (z + 1) - (1 : Int32) = nI z from pk_sub (b := 1) (by omega), if_neg (znle (by omega) (by omega)), ch, nb_b2, nb_let, kl_C _ (by omega), nb_b1, wd, nb_b2, nb_let, nI_add, nb_let, r]
      show some (qC B sn (lu + 1 + (txO c e k (i + wdO c e i)).length) ft ln se od co SW _, _) = some (qC B sn (lu + ((txO c e k (i + wdO c e i)).length + 1)) ft ln se od co SW _, _)
      rw [show lu + 1 + (txO c e k (i + wdO c e i)).length = lu + ((txO c e k (i + wdO c e i)).length + 1) by omega]
      rfl
/-- keepText in the class, and the 0 behind it -/
theorem kt_C {n L e : Nat} {c : Nat → Nat} {BC BR : St} (hT : atx n L e c BC BR) {B : St} {sn lu ln se co : Nat} {od ft : Int32} {SW LW : Nat → Int32} (q : Nat) (kd : Nat) (nm : Int32) (hq : q < e) (hw : lu + (txO c e (e - (q + 1)) (q + 1)).length ≤ 32832) : df_X1_keepText n (qC B sn lu ft ln se od co SW LW, uC BC (qE c e (e - (q + 1)) (q + 1) + 1) kd q nm) = some (qC B sn (lu + (txO c e (e - (q + 1)) (q + 1)).length) ft ln se od co SW (ltW LW lu (txI (txO c e (e - (q + 1)) (q + 1)))), uC BC (qE c e (e - (q + 1)) (q + 1) + 1) kd q nm) := by
  obtain ⟨hn, hL, heL, h127, hend, hce, hO, hst, htC, h0, htR, hch⟩ := id hT
  have z1 := qE_1 hce (e - (q + 1)) (q + 1) (by omega) (by omega)
  have r := kt_10 hT (B := B) (sn := sn) (ln := ln) (se := se) (co := co) (od := od) (ft := ft) (SW := SW) (qE c e (e - (q + 1)) (q + 1)) (by omega) kd q nm (e - (q + 1)) (q + 1) n lu LW (by omega) (by omega) (by omega) rfl hw
  unfold df_X1_keepText df_X1_keepText_0
  rw [show sI (qC B sn lu ft ln se od co SW LW, uC BC (qE c e (e - (q + 1)) (q + 1) + 1) kd q nm).2 3 + 1 = nI (q + 1) from nI_add q 1, nb_let]
  exact r
