/-- the class: bytes that are put -/
def wrC : (Nat → Int32) → Nat → List Int32 → (Nat → Int32)
  | f, _, [] => f
  | f, a, b :: bs => wrC (upd f a (btI b)) (a + 1) bs
theorem wrC_a : ∀ (xs ys : List Int32) (f : Nat → Int32) (a : Nat), wrC f a (xs ++ ys) = wrC (wrC f a xs) (a + xs.length) ys := fun xs => by
  induction xs with
  | nil => intro ys f a; rfl
  | cons x xs ih =>
    intro ys f a
    show wrC (upd f a (btI x)) (a + 1) (xs ++ ys) = wrC (wrC (upd f a (btI x)) (a + 1) xs) (a + (xs.length + 1)) ys
    rw [ih, show a + 1 + xs.length = a + (xs.length + 1) by omega]
theorem shr_24 (w : Int32) : (w >>> ((16 : Int32) &&& 31)) >>> ((8 : Int32) &&& 31) = w >>> ((8 * nI 3) &&& 31) := by
  rw [show (16 : Int32) &&& 31 = nI 16 by decide, show (8 : Int32) &&& 31 = nI 8 by decide, show ((8 : Int32) * nI 3) &&& 31 = nI 24 by decide]
  apply Int32.toBitVec_inj.mp
  rw [Int32.toBitVec_shiftRight, Int32.toBitVec_shiftRight, Int32.toBitVec_shiftRight, BitVec.sshiftRight_eq', BitVec.sshiftRight_eq', BitVec.sshiftRight_eq', nm_sh 16 (by omega), nm_sh 8 (by omega), nm_sh 24 (by omega)]
  exact (BitVec.sshiftRight_add (x := w.toBitVec) (m := 16) (n := 8)).symm
theorem shr_0 (w : Int32) : w >>> ((8 * nI 0) &&& 31) = w := by
  rw [show ((8 : Int32) * nI 0) &&& 31 = nI 0 by decide]
  apply Int32.toBitVec_inj.mp
  rw [Int32.toBitVec_shiftRight, BitVec.sshiftRight_eq', nm_sh 0 (by omega)]
  exact BitVec.sshiftRight_zero
theorem by2_K (w : Int32) : byK w 2 0 = by2 w := by
  show [w >>> ((8 * nI 0) &&& 31), w >>> ((8 * nI 1) &&& 31)] = by2 w
  rw [shr_0]
  rfl
theorem by4_K (w : Int32) : byK w 4 0 = by4 w := by
  show [w >>> ((8 * nI 0) &&& 31), w >>> ((8 * nI 1) &&& 31), w >>> ((8 * nI 2) &&& 31), w >>> ((8 * nI 3) &&& 31)] = [w, w >>> ((8 : Int32) &&& 31), w >>> ((16 : Int32) &&& 31), (w >>> ((16 : Int32) &&& 31)) >>> ((8 : Int32) &&& 31)]
  rw [shr_0, shr_24]
  rfl
theorem ptC_3 {n : Nat} {M : St} {QU : St × St} {P : St} {a len : Nat} (b : Int32) (ha : a + len ≤ 32768) : ∀ (k i g : Nat) (f : Nat → Int32), i + k = len → k < g → df_X1_put_3 n g (nI a) (nI len) b (nI i) (M, (QU, pR P 0 f)) = some (M, (QU, pR P 0 (wrC f (a + i) (byK b k i)))) := fun k => by
  induction k with
  | zero =>
    intro i g f h1 h2
    obtain ⟨g, rfl⟩ : ∃ m : Nat, g = m + 1 := ⟨g - 1, by omega⟩
    show dF_X1_put_3 n (df_X1_put_3 n g) (nI a) (nI len) b (nI i) (M, (QU, pR P 0 f)) = _
    unfold dF_X1_put_3
    rw [if_pos (zle (show len ≤ i by omega) (by omega))]
    rfl
  | succ k ih =>
    intro i g f h1 h2
    obtain ⟨g, rfl⟩ : ∃ m : Nat, g = m + 1 := ⟨g - 1, by omega⟩
    show dF_X1_put_3 n (df_X1_put_3 n g) (nI a) (nI len) b (nI i) (M, (QU, pR P 0 f)) = _
    unfold dF_X1_put_3 df_X1_put_46
    rw [if_neg (znle (show i < len by omega) (by omega)), nI_add, if_neg (show ¬ nI (a + i) < 0 from znl (b := 0) (Nat.zero_le _) (by omega)), if_neg (show ¬ (32768 : Int32) ≤ nI (a + i) from znle (a := 32768) (by omega) (by omega)), nm_ck (by omega) (by omega), nI_clamp (by omega)]
    rw [nb_let, nb_let, show nI i + Int32.ofInt 1 = nI (i + 1) from nI_add i 1]
    rw [show ((M, (QU, pR P 0 f)) : St × (St × St) × St).1 = M from rfl, show ((M, (QU, pR P 0 f)) : St × (St × St) × St).2.1 = QU from rfl, show ((M, (QU, pR P 0 f)) : St × (St × St) × St).2.2 = pR P 0 f from rfl, pR_2, pR_e]
    have := ih (i + 1) g (upd f (a + i) (btI (b >>> ((8 * nI i) &&& 31)))) (by omega) (by omega)
    exact this
/-- what put does -/
theorem ptC {n : Nat} {M : St} {QU : St × St} {P : St} {a len : Nat} (hn : 70000 < n) (b : Int32) (ha : a + len ≤ 32768) (f : Nat → Int32) : df_X1_put n (nI a) (nI len) b (M, (QU, pR P 0 f)) = some (M, (QU, pR P 0 (wrC f a (byK b len 0)))) := ptC_3 (n := n) b ha len 0 n f (by omega) (by omega)
theorem pI_22 {Q : St} {u v : Int32} : pI (pI Q 2 u) 2 v = pI Q 2 v := Prod.ext (funext fun j => by
  show (if j = 2 then v else if j = 2 then u else Q.1 j) = if j = 2 then v else Q.1 j
  split <;> rfl) rfl
theorem pI_z2 {Q : St} (h : sI Q 2 = 0) : pI Q 2 0 = Q := by
  have := pI_s Q 2
  rw [h] at this
  exact this
/-- an expression's value, and the fault that it has -/
theorem wkC {n : Nat} {Q U : St} (h2 : sI Q 2 = 0) {cd hr z : Int32} {ms dv : Bool} {S' : Nat → Int32} (h : df_X9_evaluate n cd hr U = some (z, vC U 1 (trO ms dv) S')) : df_X1_worked n cd hr (Q, U) = some (z, (pI Q 2 (trO ms dv), vC U 1 (trO ms dv) S')) := by
  unfold df_X1_worked df_X1_worked_0 df_X1_worked_31
  rw [show df_X9_evaluate n cd hr (Q, U).2 = _ from h, nb_b2, nb_let]
  by_cases t : trO ms dv = 0
  · rw [if_pos (show sI ((Q, U).1, vC U 1 (trO ms dv) S').2 11 = 0 from t), t, pI_z2 h2]
  · rw [if_neg (show ¬ sI ((Q, U).1, vC U 1 (trO ms dv) S').2 11 = 0 from t)]
    rw [show df_X1_blame n (sI ((Q, U).1, vC U 1 (trO ms dv) S').2 11) ((Q, U).1, vC U 1 (trO ms dv) S') = some (pI Q 2 (trO ms dv), vC U 1 (trO ms dv) S') from bl_X1 _ h2, nb_b1]
theorem ckC {n : Nat} {Q U : St} {l : Nat} (hl : ltO l = true) (v : Int32) {ms dv : Bool} : df_X1_checked n (nI l) v (pI Q 2 (trO ms dv), U) = some (lbO l v, (pI Q 2 (nI (vF ms dv (lfO l v))), U)) := by
  unfold df_X1_checked df_X1_checked_0 df_X1_checked_14
  rw [lfO_C n hl, nb_b2, lbO_C n hl]
  cases hf : lfO l v with
  | true =>
    rw [if_neg (show ¬ bI true = 0 by decide), nb_b2]
    cases ms <;> cases dv <;> rfl
  | false =>
    rw [if_pos (show bI false = 0 from rfl)]
    by_cases t : trO ms dv = 0
    · rw [bl_X1 10 (show sI (pI Q 2 (trO ms dv)) 2 = 0 from t), nb_b1, nb_b2, pI_22]
      have : ms = false ∧ dv = false := by cases ms <;> cases dv <;> first | exact ⟨rfl, rfl⟩ | exact absurd t (by decide)
      rw [this.1, this.2]
      rfl
    · have hb : df_X1_blame n 10 (pI Q 2 (trO ms dv), U) = some (pI Q 2 (trO ms dv), U) := by
        unfold df_X1_blame df_X1_blame_0 df_X1_blame_12
        rw [if_neg (show ¬ sI (pI Q 2 (trO ms dv), U).1 2 = 0 from t)]
      rw [hb, nb_b1, nb_b2]
      cases ms with
      | true => rfl
      | false =>
        cases dv with
        | true => rfl
        | false => exact absurd rfl t
theorem vF_t {ms dv : Bool} : trO ms dv = nI (vF ms dv true) := by cases ms <;> cases dv <;> rfl
/-- a statement has been put, in the class -/
def PUTD (M Q P : St) (cs nl ns : Nat) (C A NM NR LB : Nat → Int32) (ad F : Nat) (bsx : List Int32) (U : St) (f : Nat → Int32) (r : Option (St × (St × St) × St)) : Prop := ∃ (U' : St) (f' : Nat → Int32), r = some (M, ((pI Q 2 (nI F), U'), pR P 0 f')) ∧ URD U' cs nl ns C A NM NR LB ∧ sO U' = sO U ∧ sR U' 7 = sR U 7 ∧ (F = 0 → f' = wrC f ad bsx)
theorem ptP {n : Nat} {M Q U P : St} {cs nl ns : Nat} {C A NM NR LB : Nat → Int32} (hn : 70000 < n) (hU : URD U cs nl ns C A NM NR LB) (h2 : sI Q 2 = 0) {i : Nat} (hi : i < 8194) {ad len l : Nat} {b cd z : Int32} {ms dv : Bool} (r2 : sR Q 0 (8 * i + 2) = nI ad) (r3 : sR Q 0 (8 * i + 3) = nI len) (r5 : sR Q 0 (8 * i + 5) = b) (r6 : sR Q 0 (8 * i + 6) = cd) (r7 : sR Q 0 (8 * i + 7) = nI l) (hl : l = 0 ∨ ltO l = true) (hlen : len = 2 ∨ len = 4) (ha : ad + len ≤ 32768) (hev : ¬ l = 0 → ∃ S' : Nat → Int32, df_X9_evaluate n cd (nI ad) U = some (z, vC U 1 (trO ms dv) S')) (f : Nat → Int32) : PUTD M Q P cs nl ns C A NM NR LB ad (if l = 0 then 0 else vF ms dv (lfO l (vtO l (nI ad) z))) (if len = 4 then by4 (if l = 0 then b else b ||| lbO l (vtO l (nI ad) z)) else by2 (if l = 0 then b else b ||| lbO l (vtO l (nI ad) z))) U f (df_X1_putPlain n (nI (8 * i)) (M, ((Q, U), pR P 0 f))) := by
  have l128 : l < 128 := by
    rcases hl with h | h
    · omega
    · have := of_decide_eq_true h; omega
  have fin : ∀ (w : Int32) (Q1 U1 : St), sR Q1 0 = sR Q 0 → df_X1_putPlain_80 n (nI (8 * i)) w (nI ad) (M, ((Q1, U1), pR P 0 f)) = some (M, ((Q1, U1), pR P 0 (wrC f ad (if len = 4 then by4 w else by2 w)))) := fun w Q1 U1 hq => by
    unfold df_X1_putPlain_80
    rw [show nI (8 * i) + 3 = nI (8 * i + 3) from nI_add (8 * i) 3, nm_ck (by omega) (by omega), nI_clamp (by omega)]
    rw [show sR ((M, ((Q1, U1), pR P 0 f)) : St × (St × St) × St).2.1.1 0 = sR Q 0 from hq, r3, ptC hn w ha f, nb_b1]
    rcases hlen with h | h <;> subst h
    · rw [by2_K, if_neg (show ¬ (2 : Nat) = 4 by decide)]
    · rw [by4_K, if_pos rfl]
  have eQ : sR ((M, ((Q, U), pR P 0 f)) : St × (St × St) × St).2.1.1 0 = sR Q 0 := rfl
  unfold df_X1_putPlain df_X1_putPlain_0
  rw [show nI (8 * i) + 5 = nI (8 * i + 5) from nI_add (8 * i) 5, show nI (8 * i) + 2 = nI (8 * i + 2) from nI_add (8 * i) 2, show nI (8 * i) + 7 = nI (8 * i + 7) from nI_add (8 * i) 7, show nI (8 * i) + 6 = nI (8 * i + 6) from nI_add (8 * i) 6]
  rw [nm_ck (by omega) (by omega), nI_clamp (by omega), eQ, r5, nb_let, nm_ck (by omega) (by omega), nI_clamp (by omega), r2, nb_let, nm_ck (by omega) (by omega), nI_clamp (by omega), r7, show (nI l).toUInt32.toUInt16.toUInt32.toInt32 = nI l from ch_16 ⟨l, l128⟩, nb_let]
  by_cases l0 : l = 0
  · rw [if_pos (show nI l = 0 from congrArg nI l0), if_pos l0, if_pos l0, fin b Q U rfl]
    exact ⟨U, _, by rw [show nI 0 = 0 from rfl, pI_z2 h2], hU, rfl, rfl, fun _ => rfl⟩
  · obtain ⟨S', e1⟩ := hev l0
    have hl1 : ltO l = true := by rcases hl with h | h; exact absurd h l0; exact h
    rw [if_neg (show ¬ nI l = 0 from zne (b := 0) l0 (by omega) (by omega)), nm_ck (by omega) (by omega), nI_clamp (by omega), r6]
    rw [show df_X1_worked n cd (nI ad) ((M, ((Q, U), pR P 0 f)) : St × (St × St) × St).2.1 = _ from wkC h2 e1, nb_b2, nb_let, isT_1 n l128, nb_b2]
    have fin2 : ∀ v : Int32, df_X1_putPlain_75 n (nI (8 * i)) (nI ad) b (nI l) v (M, ((pI Q 2 (trO ms dv), vC U 1 (trO ms dv) S'), pR P 0 f)) = some (M, ((pI Q 2 (nI (vF ms dv (lfO l v))), vC U 1 (trO ms dv) S'), pR P 0 (wrC f ad (if len = 4 then by4 (b ||| lbO l v) else by2 (b ||| lbO l v))))) := fun v => by
      unfold df_X1_putPlain_75
      rw [show df_X1_checked n (nI l) v ((M, ((pI Q 2 (trO ms dv), vC U 1 (trO ms dv) S'), pR P 0 f)) : St × (St × St) × St).2.1 = _ from ckC hl1 v, nb_b2, nb_let, nb_let]
      exact fin (b ||| lbO l v) (pI Q 2 (nI (vF ms dv (lfO l v)))) (vC U 1 (trO ms dv) S') rfl
    rw [if_neg l0, if_neg l0]
    by_cases tg : l = 84 ∨ l = 74 ∨ l = 75 ∨ l = 76
    · rw [decide_eq_true tg, if_neg (show ¬ bI true = 0 by decide)]
      have ev : vtO l (nI ad) z = z - nI ad := if_pos (decide_eq_true tg)
      rw [ev]
      exact ⟨vC U 1 (trO ms dv) S', _, fin2 (z - nI ad), URD_v hU 1 _ S', rfl, rfl, fun _ => rfl⟩
    · rw [decide_eq_false tg, if_pos (show bI false = 0 from rfl)]
      have ev : vtO l (nI ad) z = z := if_neg (fun h => tg (of_decide_eq_true h))
      rw [ev]
      exact ⟨vC U 1 (trO ms dv) S', _, fin2 z, URD_v hU 1 _ S', rfl, rfl, fun _ => rfl⟩
