theorem nb_z0 {α : Type} {x : Option α} : nd_z .boolean 0 x = x := if_pos (by decide)
theorem nb_z1 {α : Type} {x : Option α} : nd_z .boolean 1 x = x := if_pos (by decide)
theorem nb_ck {α : Type} {i : Int32} {n : Nat} {x : Option α} (h0 : 0 ≤ i.toInt) (h1 : i.toInt < (n : Int)) : nd_ck i n x = x := if_pos ⟨h0, h1⟩
theorem nb_II (σ : St) (k j : Nat) (v : Int32) : sI (pI σ k v) j = if j = k then v else sI σ j := rfl
theorem nb_IR (σ : St) (k j : Nat) (v : Nat → Int32) : sI (pR σ k v) j = sI σ j := rfl
theorem nb_RI (σ : St) (k j : Nat) (v : Int32) : sR (pI σ k v) j = sR σ j := rfl
theorem nb_RR (σ : St) (k j : Nat) (v : Nat → Int32) : sR (pR σ k v) j = if j = k then v else sR σ j := rfl
/-- the reference's 'in' -/
theorem nb_in (n : Nat) (v a b : Int64) : df_X19_in n v a b () = some (if a ≤ v ∧ v ≤ b then 1 else 0, ()) := by
  unfold df_X19_in df_X19_in_0 df_X19_in_17 df_X19_in_18
  by_cases c : v < a
  · rw [if_pos ((lg_cmp_lt v a).mpr c), nb_z0, if_neg (fun h => absurd (Int64.lt_iff_toInt_lt.mp c) (by have := Int64.le_iff_toInt_le.mp h.1; omega))]
  · rw [if_neg (fun h => c ((lg_cmp_lt v a).mp h))]
    by_cases d : b < v
    · rw [if_pos ((lg_cmp_gt v b).mpr d), nb_z0, if_neg (fun h => absurd (Int64.lt_iff_toInt_lt.mp d) (by have := Int64.le_iff_toInt_le.mp h.2; omega))]
    · rw [if_neg (fun h => d ((lg_cmp_gt v b).mp h)), nb_z1, if_pos]
      rw [Int64.lt_iff_toInt_lt] at c d
      exact ⟨Int64.le_iff_toInt_le.mpr (by omega), Int64.le_iff_toInt_le.mpr (by omega)⟩
theorem nb_in32 (n : Nat) (v a b : Int32) : df_X19_in n v.toInt64 a.toInt64 b.toInt64 () = some (if a.toInt ≤ v.toInt ∧ v.toInt ≤ b.toInt then 1 else 0, ()) := by
  have h : ∀ x y : Int32, x.toInt64 ≤ y.toInt64 ↔ x.toInt ≤ y.toInt := fun x y => by rw [Int64.le_iff_toInt_le, Int32.toInt_toInt64, Int32.toInt_toInt64]
  rw [nb_in]
  by_cases c : a.toInt ≤ v.toInt ∧ v.toInt ≤ b.toInt
  · rw [if_pos c, if_pos ⟨(h a v).mpr c.1, (h v b).mpr c.2⟩]
  · rw [if_neg c, if_neg (fun d => c ⟨(h a v).mp d.1, (h v b).mp d.2⟩)]
/-- the tapes: as many bytes, the same bytes, and 'end' may be called in both or in neither -/
def rt (σ : S12) (τ : S19) : Prop := sI σ.1 0 = sI τ.1 1 ∧ sI σ.1 1 = sI τ.1 2 ∧ 0 ≤ (sI σ.1 0).toInt ∧ (sI σ.1 0).toInt ≤ 32768 ∧ (¬ sI σ.1 1 = 0 → 20 ≤ (sI σ.1 0).toInt) ∧ ∀ j : Nat, (j : Int) < (sI σ.1 0).toInt → sR τ.2.2.2.1 3 j = sR σ.2.2.2.1.2 7 j &&& 255
theorem nb_end (n T L : Nat) (v : Int32) (σ : S12) (τ : S19) (h : rt σ τ) : ∃ (r : Int32) (σ' : S12) (τ' : S19), df_X12_end n T L v σ = some (r, σ') ∧ df_X19_end n v τ = some (r, τ') ∧ rt σ' τ' := by
  obtain ⟨h1, h2, h3, h4, h5, h6⟩ := h
  have hin : df_X19_in n v.toInt64 0 20 () = some (if 0 ≤ v.toInt ∧ v.toInt ≤ 20 then 1 else 0, ()) := nb_in32 n v 0 20
  have c0 : (v < 0) ↔ v.toInt < 0 := by rw [Int32.lt_iff_toInt_lt]; rfl
  have c20 : (20 < v) ↔ 20 < v.toInt := by rw [Int32.lt_iff_toInt_lt]; rfl
  have e12 : df_X12_end n T L v σ = if v.toInt < 0 ∨ 20 < v.toInt ∨ sI σ.1 1 = 0 then some (-1, σ) else some (sI σ.1 0 - (20 - v), (pI (pI σ.1 0 (sI σ.1 0 - (20 - v))) 1 0, σ.2)) := by
    unfold df_X12_end df_X12_end_0 df_X12_end_17
    by_cases a : v < 0
    · rw [if_pos a, if_pos (Or.inl (c0.mp a))]
    · rw [if_neg a]
      by_cases b : 20 < v
      · rw [if_pos b, if_pos (Or.inr (Or.inl (c20.mp b)))]
      · rw [if_neg b]
        by_cases d : sI σ.1 1 = 0
        · rw [if_pos d, if_pos (Or.inr (Or.inr d))]
        · rw [if_neg d, if_neg (fun h => by rcases h with h | h | h; exact a (c0.mpr h); exact b (c20.mpr h); exact d h)]
          rfl
  have e19 : df_X19_end n v τ = if v.toInt < 0 ∨ 20 < v.toInt ∨ sI τ.1 2 = 0 then some (-1, (pI τ.1 0 0, τ.2)) else some (sI τ.1 1 - (20 - v), (pI (pI (pI τ.1 0 0) 1 (sI τ.1 1 - (20 - v))) 2 0, τ.2)) := by
    unfold df_X19_end df_X19_end_0 df_X19_end_24
    show (if sI τ.1 2 = 0 then _ else _) = _
    by_cases d : sI τ.1 2 = 0
    · rw [if_pos d, if_pos (Or.inr (Or.inr d))]
    · rw [if_neg d]
      rw [hin]
      by_cases a : 0 ≤ v.toInt ∧ v.toInt ≤ 20
      · rw [if_pos a, if_neg (fun h => by rcases h with h | h | h; omega; omega; exact d h)]
        rfl
      · rw [if_neg a, if_pos (by by_cases z : v.toInt < 0; exact Or.inl z; exact Or.inr (Or.inl (by omega)))]
        rfl
  rw [e12, e19, ← h1, ← h2]
  by_cases c : v.toInt < 0 ∨ 20 < v.toInt ∨ sI σ.1 1 = 0
  · rw [if_pos c, if_pos c]
    exact ⟨_, _, _, rfl, rfl, h1, h2, h3, h4, h5, h6⟩
  · rw [if_neg c, if_neg c]
    have hc : ¬ sI σ.1 1 = 0 := fun h => c (Or.inr (Or.inr h))
    have h20 := h5 hc
    have hd : (20 - v : Int32).toInt = 20 - v.toInt := by
      rw [Int32.toInt_sub, show (20 : Int32).toInt = 20 from by decide]
      exact Int.bmod_eq_of_le (by omega) (by omega)
    have hs : (sI σ.1 0 - (20 - v)).toInt = (sI σ.1 0).toInt - (20 - v.toInt) := by
      rw [Int32.toInt_sub, hd]
      exact Int.bmod_eq_of_le (by omega) (by omega)
    refine ⟨_, _, _, rfl, rfl, rfl, rfl, ?_, ?_, fun h => absurd rfl h, fun j hj => h6 j ?_⟩
    · show 0 ≤ (sI σ.1 0 - (20 - v)).toInt
      omega
    · show (sI σ.1 0 - (20 - v)).toInt ≤ 32768
      omega
    · have hj : (j : Int) < (sI σ.1 0 - (20 - v)).toInt := hj
      omega

theorem nb_i1 {x : Int32} (h0 : 0 ≤ x.toInt) (h1 : x.toInt < 2147483647) : (x + 1).toInt = x.toInt + 1 := by
  rw [Int32.toInt_add, show (1 : Int32).toInt = 1 from by decide]
  exact Int.bmod_eq_of_le (by omega) (by omega)
theorem nb_255 : ∀ j : Fin 32, ¬ j.val < 8 → (Int32.toBitVec 255).getLsbD j.val = false := by decide
theorem nb_byte (z : Int32) : z.toInt8.toInt32 &&& 255 = z &&& 255 := by
  apply Int32.toBitVec_inj.mp
  ext i hi
  simp only [Int32.toBitVec_and, Int8.toBitVec_toInt32, Int32.toBitVec_toInt8]
  rw [BitVec.getElem_and, BitVec.getElem_and]
  by_cases c : i < 8
  · rw [BitVec.getElem_signExtend, dif_pos c, BitVec.getElem_signExtend, dif_pos hi]
  · have h : (Int32.toBitVec 255)[i] = false := by
      rw [← BitVec.getLsbD_eq_getElem]
      exact nb_255 ⟨i, hi⟩ c
    rw [h, Bool.and_false, Bool.and_false]
theorem nb_nar (z : Int32) : vp_nar .byte z = z.toInt8.toInt32 := rfl
/-- a byte put on the class's tape, on the reference's -/
def w1 (b : Int32) (s : S12) : S12 := (pI s.1 0 (sI s.1 0 + 1), (s.2.1, (s.2.2.1, ((s.2.2.2.1.1, (pR s.2.2.2.1.2 7 (upd (sR s.2.2.2.1.2 7) (Int32.toNatClampNeg (sI s.1 0)) b))), s.2.2.2.2))))
def u1 (b : Int32) (s : S19) : S19 := (pI s.1 1 (sI s.1 1 + 1), (s.2.1, (s.2.2.1, ((pR s.2.2.2.1 3 (upd (sR s.2.2.2.1 3) (Int32.toNatClampNeg (sI s.1 1)) b)), s.2.2.2.2))))
def bt (v k : Int32) : Int32 := vp_nar .byte ((((v : Int32) >>> ((k : Int32) &&& 31)) : Int32).toInt8.toInt32)
theorem nb_put1 (n T L k : Nat) (v x : Int32) (s : S12) (hx : ¬ x < 0) (h0 : 0 ≤ (sI s.1 0).toInt) (h1 : (sI s.1 0).toInt < 32768) : df_X12_putOnTape_3 n T L (k + 1) v x s = df_X12_putOnTape_3 n T L k v (x + Int32.ofInt (-8)) (w1 (bt v x) s) := by
  show dF_X12_putOnTape_3 n T L (df_X12_putOnTape_3 n T L k) v x s = _
  unfold dF_X12_putOnTape_3 df_X12_putOnTape_39
  rw [if_neg hx, if_neg (by rw [Int32.le_iff_toInt_le, show (32768 : Int32).toInt = 32768 from by decide]; omega), nb_ck h0 h1]
  rfl
theorem nb_put0 (n T L k : Nat) (v x : Int32) (s : S12) (hx : x < 0) : df_X12_putOnTape_3 n T L (k + 1) v x s = some s := by
  show dF_X12_putOnTape_3 n T L (df_X12_putOnTape_3 n T L k) v x s = _
  unfold dF_X12_putOnTape_3
  rw [if_pos hx]
def w4 (v : Int32) (s : S12) : S12 := w1 (bt v 0) (w1 (bt v 8) (w1 (bt v 16) (w1 (bt v 24) s)))
theorem nb_w1 (b : Int32) (s : S12) (h0 : 0 ≤ (sI s.1 0).toInt) (h1 : (sI s.1 0).toInt < 32768) : (sI (w1 b s).1 0).toInt = (sI s.1 0).toInt + 1 := nb_i1 h0 (by omega)
theorem nb_u1 (b : Int32) (s : S19) (h0 : 0 ≤ (sI s.1 1).toInt) (h1 : (sI s.1 1).toInt < 32768) : (sI (u1 b s).1 1).toInt = (sI s.1 1).toInt + 1 := nb_i1 h0 (by omega)
theorem nb_put (n T L : Nat) (hn : 5 ≤ n) (v : Int32) (s : S12) (h0 : 0 ≤ (sI s.1 0).toInt) (h1 : (sI s.1 0).toInt + 4 ≤ 32768) : df_X12_putOnTape n T L v s = some (w4 v s) ∧ (sI (w4 v s).1 0).toInt = (sI s.1 0).toInt + 4 := by
  obtain ⟨m, rfl⟩ : ∃ m, n = m + 5 := ⟨n - 5, by omega⟩
  have e1 := nb_w1 (bt v 24) s h0 (by omega)
  have e2 := nb_w1 (bt v 16) (w1 (bt v 24) s) (by omega) (by omega)
  have e3 := nb_w1 (bt v 8) (w1 (bt v 16) (w1 (bt v 24) s)) (by omega) (by omega)
  have e4 := nb_w1 (bt v 0) (w1 (bt v 8) (w1 (bt v 16) (w1 (bt v 24) s))) (by omega) (by omega)
  refine ⟨?_, by unfold w4; omega⟩
  unfold df_X12_putOnTape df_X12_putOnTape_0
  rw [nb_put1 _ _ _ _ _ _ _ (by decide) h0 (by omega), show (24 : Int32) + Int32.ofInt (-8) = 16 from by decide, nb_put1 _ _ _ _ _ _ _ (by decide) (by omega) (by omega), show (16 : Int32) + Int32.ofInt (-8) = 8 from by decide,
    nb_put1 _ _ _ _ _ _ _ (by decide) (by omega) (by omega), show (8 : Int32) + Int32.ofInt (-8) = 0 from by decide, nb_put1 _ _ _ _ _ _ _ (by decide) (by omega) (by omega), show (0 : Int32) + Int32.ofInt (-8) = -8 from by decide, nb_put0 _ _ _ _ _ _ _ (by decide)]
  rfl
/-- the tapes alone -/
def r0 (σ : S12) (τ : S19) : Prop := sI σ.1 0 = sI τ.1 1 ∧ 0 ≤ (sI σ.1 0).toInt ∧ ∀ j : Nat, (j : Int) < (sI σ.1 0).toInt → sR τ.2.2.2.1 3 j = sR σ.2.2.2.1.2 7 j &&& 255
theorem nb_r1 {σ : S12} {τ : S19} {b c : Int32} (h : r0 σ τ) (h1 : (sI σ.1 0).toInt < 32768) (e : c = b &&& 255) : r0 (w1 b σ) (u1 c τ) := by
  obtain ⟨a1, a2, a3⟩ := h
  have hw := nb_w1 b σ a2 h1
  refine ⟨?_, by omega, fun j hj => ?_⟩
  · show sI σ.1 0 + 1 = sI τ.1 1 + 1
    rw [a1]
  · show upd (sR τ.2.2.2.1 3) (Int32.toNatClampNeg (sI τ.1 1)) c j = upd (sR σ.2.2.2.1.2 7) (Int32.toNatClampNeg (sI σ.1 0)) b j &&& 255
    rw [← a1]
    unfold upd
    by_cases d : j = Int32.toNatClampNeg (sI σ.1 0)
    · rw [if_pos d, if_pos d, e]
    · rw [if_neg d, if_neg d]
      refine a3 j ?_
      have hz : Int32.toNatClampNeg (sI σ.1 0) = (sI σ.1 0).toInt.toNat := rfl
      omega
def wd (a b c d e : Int32) (k : Nat) : Int32 := if k < 4 then a else if k < 8 then b else if k < 12 then c else if k < 16 then d else e
def cb (v : Int32) (k : Nat) : Int32 := ((((v : Int32) >>> (((24 - (8 * ((Int32.ofNat k : Int32) - Int32.ofNat k / 4 * 4))) : Int32) &&& 31)) &&& 255))
theorem nb_fd1 (n m k : Nat) (a b c d e : Int32) (s : S19) (hk : k < 20) (h0 : 0 ≤ (sI s.1 1).toInt) (h1 : (sI s.1 1).toInt < 32768) : df_X19_feed_22 n (m + 1) a b c d e (Int32.ofNat k) s = df_X19_feed_22 n m a b c d e (Int32.ofNat (k + 1)) (u1 (cb (wd a b c d e k) k) s) := by
  show dF_X19_feed_22 n (df_X19_feed_22 n m) a b c d e (Int32.ofNat k) s = _
  have hi : Int32.ofNat k + Int32.ofInt 1 = Int32.ofNat (k + 1) := by
    have : ∀ k : Fin 20, Int32.ofNat k.val + Int32.ofInt 1 = Int32.ofNat (k.val + 1) := by decide
    exact this ⟨k, hk⟩
  have hc : ∀ q : Fin 21, (Int32.ofNat q.val ≤ Int32.ofNat k ↔ q.val ≤ k) := by
    have : ∀ (k : Fin 20) (q : Fin 21), (Int32.ofNat q.val ≤ Int32.ofNat k.val ↔ q.val ≤ k.val) := by decide +kernel
    exact this ⟨k, hk⟩
  have g20 : ((20 : Int32) ≤ Int32.ofNat k) ↔ 20 ≤ k := hc ⟨20, by omega⟩
  have g4 : ((4 : Int32) ≤ Int32.ofNat k) ↔ 4 ≤ k := hc ⟨4, by omega⟩
  have g8 : ((8 : Int32) ≤ Int32.ofNat k) ↔ 8 ≤ k := hc ⟨8, by omega⟩
  have g12 : ((12 : Int32) ≤ Int32.ofNat k) ↔ 12 ≤ k := hc ⟨12, by omega⟩
  have g16 : ((16 : Int32) ≤ Int32.ofNat k) ↔ 16 ≤ k := hc ⟨16, by omega⟩
  have hp : ∀ y : Int32, df_X19_feed_75 n (df_X19_feed_22 n m) a b c d e (Int32.ofNat k) y s = df_X19_feed_22 n m a b c d e (Int32.ofNat (k + 1)) (u1 (cb y k) s) := fun y => by
    unfold df_X19_feed_75
    rw [nb_ck h0 h1]
    show df_X19_feed_22 n m a b c d e (Int32.ofNat k + Int32.ofInt 1) _ = _
    rw [hi]
    rfl
  unfold dF_X19_feed_22 wd
  rw [if_neg (by rw [g20]; omega)]
  simp only [hp, g4, g8, g12, g16]
  by_cases c1 : k < 4
  · rw [if_neg (by omega), if_pos c1]
  · rw [if_pos (by omega), if_neg c1]
    by_cases c2 : k < 8
    · rw [if_neg (by omega), if_pos c2]
    · rw [if_pos (by omega), if_neg c2]
      by_cases c3 : k < 12
      · rw [if_neg (by omega), if_pos c3]
      · rw [if_pos (by omega), if_neg c3]
        by_cases c4 : k < 16
        · rw [if_neg (by omega), if_pos c4]
        · rw [if_pos (by omega), if_neg c4]
def sh (k : Nat) : Int32 := if k % 4 = 0 then 24 else if k % 4 = 1 then 16 else if k % 4 = 2 then 8 else 0
def wi (a b c d e : Int32) : Nat → S12 → S12
  | 0, s => s
  | k + 1, s => w1 (bt (wd a b c d e k) (sh k)) (wi a b c d e k s)
def ui (a b c d e : Int32) : Nat → S19 → S19
  | 0, s => s
  | k + 1, s => u1 (cb (wd a b c d e k) k) (ui a b c d e k s)
theorem nb_cb (v : Int32) (k : Nat) (hk : k < 20) : cb v k = bt v (sh k) &&& 255 := by
  have hs : ((24 - (8 * ((Int32.ofNat k : Int32) - Int32.ofNat k / 4 * 4))) : Int32) &&& 31 = sh k &&& 31 := by
    have : ∀ k : Fin 20, ((24 - (8 * ((Int32.ofNat k.val : Int32) - Int32.ofNat k.val / 4 * 4))) : Int32) &&& 31 = sh k.val &&& 31 := by decide +kernel
    exact this ⟨k, hk⟩
  unfold cb bt
  rw [hs, nb_nar, nb_byte, nb_byte]
theorem nb_ri (a b c d e : Int32) {σ : S12} {τ : S19} (h : r0 σ τ) (h20 : (sI σ.1 0).toInt + 20 ≤ 32768) : ∀ k : Nat, k ≤ 20 → r0 (wi a b c d e k σ) (ui a b c d e k τ) ∧ (sI (wi a b c d e k σ).1 0).toInt = (sI σ.1 0).toInt + k := by
  intro k
  induction k with
  | zero => intro _; exact ⟨h, by show (sI σ.1 0).toInt = (sI σ.1 0).toInt + (0 : Nat); omega⟩
  | succ k ih =>
    intro hk
    obtain ⟨h1, h2⟩ := ih (by omega)
    refine ⟨nb_r1 h1 (by omega) (nb_cb _ k (by omega)), ?_⟩
    have := nb_w1 (bt (wd a b c d e k) (sh k)) (wi a b c d e k σ) h1.2.1 (by omega)
    show (sI (w1 (bt (wd a b c d e k) (sh k)) (wi a b c d e k σ)).1 0).toInt = _
    omega
theorem nb_fdi (n : Nat) (a b c d e : Int32) {σ : S12} {τ : S19} (h : r0 σ τ) (h20 : (sI σ.1 0).toInt + 20 ≤ 32768) : ∀ k m : Nat, k ≤ 20 → df_X19_feed_22 n (m + k) a b c d e (Int32.ofNat 0) τ = df_X19_feed_22 n m a b c d e (Int32.ofNat k) (ui a b c d e k τ) := by
  intro k
  induction k with
  | zero => intro m _; rfl
  | succ k ih =>
    intro m hk
    rw [show m + (k + 1) = (m + 1) + k from by omega, ih (m + 1) (by omega)]
    obtain ⟨h1, h2⟩ := nb_ri a b c d e h h20 k (by omega)
    have e1 := h1.1
    have e2 := h1.2.1
    exact nb_fd1 n m k a b c d e _ (by omega) (by rw [← e1]; exact e2) (by rw [← e1]; omega)
theorem nb_fd20 (n m : Nat) (a b c d e : Int32) (Y : S19) : df_X19_feed_22 n (m + 1) a b c d e (Int32.ofNat 20) Y = some (sI Y.1 1, (pI Y.1 2 1, Y.2)) := by
  show dF_X19_feed_22 n (df_X19_feed_22 n m) a b c d e (Int32.ofNat 20) Y = _
  unfold dF_X19_feed_22
  rw [if_pos (by decide)]
  rfl
theorem nb_feed (n T L : Nat) (hn : 21 ≤ n) (a b c d e : Int32) (σ : S12) (τ : S19) (h : rt σ τ) : ∃ (r : Int32) (σ' : S12) (τ' : S19), df_X12_feed n T L a b c d e σ = some (r, σ') ∧ df_X19_feed n a b c d e τ = some (r, τ') ∧ rt σ' τ' := by
  obtain ⟨h1, h2, h3, h4, h5, h6⟩ := h
  have h20 : (sI σ.1 0 + 20).toInt = (sI σ.1 0).toInt + 20 := by
    rw [Int32.toInt_add, show (20 : Int32).toInt = 20 from by decide]
    exact Int.bmod_eq_of_le (by omega) (by omega)
  have hc : (sI σ.1 0 + 20 ≤ 32768) ↔ (sI σ.1 0).toInt + 20 ≤ 32768 := by rw [Int32.le_iff_toInt_le, h20, show (32768 : Int32).toInt = 32768 from by decide]
  unfold df_X12_feed df_X12_feed_0 df_X19_feed df_X19_feed_0
  by_cases cc : sI σ.1 0 + 20 ≤ 32768
  · have hh := hc.mp cc
    have p1 := nb_put n T L (by omega) a σ h3 (by omega)
    have p2 := nb_put n T L (by omega) b (w4 a σ) (by omega) (by omega)
    have p3 := nb_put n T L (by omega) c (w4 b (w4 a σ)) (by omega) (by omega)
    have p4 := nb_put n T L (by omega) d (w4 c (w4 b (w4 a σ))) (by omega) (by omega)
    have p5 := nb_put n T L (by omega) e (w4 d (w4 c (w4 b (w4 a σ)))) (by omega) (by omega)
    rw [if_pos cc, p1.1]
    show ∃ (r : Int32) (σ' : S12) (τ' : S19), (nd_b1 (df_X12_putOnTape n T L b (w4 a σ)) _ = _) ∧ _
    rw [p2.1]
    show ∃ (r : Int32) (σ' : S12) (τ' : S19), (nd_b1 (df_X12_putOnTape n T L c (w4 b (w4 a σ))) _ = _) ∧ _
    rw [p3.1]
    show ∃ (r : Int32) (σ' : S12) (τ' : S19), (nd_b1 (df_X12_putOnTape n T L d (w4 c (w4 b (w4 a σ)))) _ = _) ∧ _
    rw [p4.1]
    show ∃ (r : Int32) (σ' : S12) (τ' : S19), (nd_b1 (df_X12_putOnTape n T L e (w4 d (w4 c (w4 b (w4 a σ))))) _ = _) ∧ _
    rw [p5.1]
    have hw : w4 e (w4 d (w4 c (w4 b (w4 a σ)))) = wi a b c d e 20 σ := rfl
    rw [hw]
    have hr0 : r0 σ (pI τ.1 0 0, τ.2) := ⟨h1, h3, h6⟩
    obtain ⟨m, rfl⟩ : ∃ m, n = (m + 1) + 20 := ⟨n - 21, by omega⟩
    have hf := nb_fdi (m + 1 + 20) a b c d e hr0 hh 20 (m + 1) (by omega)
    obtain ⟨hr, ht⟩ := nb_ri a b c d e hr0 hh 20 (by omega)
    obtain ⟨X, hX⟩ : ∃ X, X = wi a b c d e 20 σ := ⟨_, rfl⟩
    obtain ⟨Y, hY⟩ : ∃ Y, Y = ui a b c d e 20 (pI τ.1 0 0, τ.2) := ⟨_, rfl⟩
    rw [← hX, ← hY] at hr
    rw [← hX] at ht
    rw [← hX]
    rw [← hY] at hf
    have hz := nb_fd20 (m + 1 + 20) m a b c d e Y
    obtain ⟨q1, q2, q3⟩ := hr
    refine ⟨sI X.1 0, (pI X.1 1 1, X.2), (pI Y.1 2 1, Y.2), rfl, ?_, q1, rfl, q2, by show (sI X.1 0).toInt ≤ 32768; omega, fun _ => by show 20 ≤ (sI X.1 0).toInt; omega, q3⟩
    show (if sI τ.1 1 + 20 ≤ 32768 then _ else _) = _
    rw [← h1, if_pos cc]
    refine Eq.trans hf ?_
    rw [hz, q1]
  · rw [if_neg cc]
    refine ⟨-1, σ, (pI τ.1 0 0, τ.2), rfl, ?_, h1, h2, h3, h4, h5, h6⟩
    show (if sI τ.1 1 + 20 ≤ 32768 then _ else _) = _
    rw [← h1, if_neg cc]

theorem nb_let {α β : Type} {x : α} {k : α → Option β} : nd_let x k = k x := rfl
theorem nb_b2 {α γ β : Type} {z : α} {w : γ} {k : α → γ → Option β} : nd_b2 (some (z, w)) k = k z w := rfl
theorem nb_b1 {α β : Type} {z : α} {k : α → Option β} : nd_b1 (some z) k = k z := rfl
theorem nb_one {α : Type} {x y : α} : (if (1 : Int32) = 0 then x else y) = y := if_neg (by decide)
theorem nb_nil {α : Type} {x y : α} : (if (0 : Int32) = 0 then x else y) = x := if_pos rfl
theorem nb_reason (n T L : Nat) (σ : S12) (τ : S19) (h : sI σ.2.2.2.2.1 7 = sI τ.1 7) : ∃ r : Int32, df_X12_reason n T L σ = some (r, σ) ∧ df_X19_reason n τ = some (r, (pI τ.1 0 0, τ.2)) := ⟨_, rfl, by rw [h]; rfl⟩
/-- the packed logs: as many bytes, the same -/
def rl (σ : S12) (τ : S19) : Prop := sI σ.1 2 = sI τ.1 12 ∧ (sI σ.1 2).toInt ≤ 32768 ∧ ∀ j : Nat, (j : Int) < (sI σ.1 2).toInt → sR τ.1 10 j = sR σ.2.2.1 0 j &&& 255
theorem nb_nat {k : Int32} (h : 0 ≤ k.toInt) : ((Int32.toNatClampNeg k : Nat) : Int) = k.toInt := by
  show ((k.toInt.toNat : Nat) : Int) = k.toInt
  omega
theorem nb_lt0 {k : Int32} : (k < 0) ↔ k.toInt < 0 := by rw [Int32.lt_iff_toInt_lt]; rfl
theorem nb_logByte (n T L : Nat) (k : Int32) (σ : S12) (τ : S19) (h : rl σ τ) : ∃ r : Int32, df_X12_logByte n T L k σ = some (r, σ) ∧ df_X19_logByte n k τ = some (r, (pI τ.1 0 0, τ.2)) := by
  obtain ⟨h1, h2, h3⟩ := h
  unfold df_X12_logByte df_X12_logByte_0 df_X12_logByte_12 df_X12_logByte_26 df_X19_logByte df_X19_logByte_0 df_X19_logByte_17 df_X19_logByte_27
  by_cases a : k < 0
  · rw [if_pos a]
    refine ⟨_, rfl, ?_⟩
    show (if k < 0 then _ else _) = _
    rw [if_pos a]
  · rw [if_neg a]
    have ha : 0 ≤ k.toInt := by rw [nb_lt0] at a; omega
    by_cases b : k < sI σ.1 2
    · have hb := Int32.lt_iff_toInt_lt.mp b
      rw [if_pos b, nb_ck ha (by omega)]
      refine ⟨_, rfl, ?_⟩
      show (if k < 0 then _ else (if k < sI τ.1 12 then _ else _)) = _
      rw [if_neg a, ← h1, if_pos b, nb_ck ha (by omega)]
      show some (sR τ.1 10 (Int32.toNatClampNeg k), _) = _
      rw [h3 _ (by rw [nb_nat ha]; exact hb)]
    · rw [if_neg b]
      refine ⟨_, rfl, ?_⟩
      show (if k < 0 then _ else (if k < sI τ.1 12 then _ else _)) = _
      rw [if_neg a, ← h1, if_neg b]
theorem nb_isP (n : Nat) (p : Int32) (s : S19) : df_X19_isProgram n p s = some (if 0 ≤ p.toInt ∧ p.toInt ≤ 3 ∧ ¬ sR s.1 0 (Int32.toNatClampNeg p) = 0 then 1 else 0, s) := by
  unfold df_X19_isProgram df_X19_isProgram_0 df_X19_isProgram_25 df_X19_isProgram_26
  rw [show df_X19_in n p.toInt64 0 3 () = some (if 0 ≤ p.toInt ∧ p.toInt ≤ 3 then 1 else 0, ()) from nb_in32 n p 0 3]
  by_cases c : 0 ≤ p.toInt ∧ p.toInt ≤ 3
  · rw [if_pos c]
    rw [nb_b2, nb_one, nb_ck c.1 (by omega)]
    by_cases d : sR s.1 0 (Int32.toNatClampNeg p) = 0
    · rw [if_pos d, nb_z0, if_neg (fun h => h.2.2 d)]
    · rw [if_neg d, nb_z1, if_pos ⟨c.1, c.2, d⟩]
  · rw [if_neg c]
    rw [nb_b2, nb_nil, nb_z0, if_neg (fun h => c ⟨h.1, h.2.1⟩)]
theorem nb_hasB (n : Nat) (p k : Int32) (s : S19) : df_X19_hasByte n p k s = some (if (0 ≤ p.toInt ∧ p.toInt ≤ 3 ∧ ¬ sR s.1 0 (Int32.toNatClampNeg p) = 0) ∧ 0 ≤ k.toInt ∧ k.toInt < (sR s.1 3 (Int32.toNatClampNeg p)).toInt then 1 else 0, s) := by
  unfold df_X19_hasByte df_X19_hasByte_0 df_X19_hasByte_26 df_X19_hasByte_27
  rw [nb_isP]
  by_cases c : 0 ≤ p.toInt ∧ p.toInt ≤ 3 ∧ ¬ sR s.1 0 (Int32.toNatClampNeg p) = 0
  · rw [if_pos c]
    rw [nb_b2, nb_one]
    by_cases a : k < 0
    · rw [if_pos a, nb_z0, if_neg (fun h => by have := nb_lt0.mp a; omega)]
    · have ha : 0 ≤ k.toInt := by rw [nb_lt0] at a; omega
      rw [if_neg a, nb_ck c.1 (by omega)]
      by_cases b : sR s.1 3 (Int32.toNatClampNeg p) ≤ k
      · rw [if_pos b, nb_z0, if_neg (fun h => by have := Int32.le_iff_toInt_le.mp b; omega)]
      · rw [if_neg b, nb_z1, if_pos]
        rw [Int32.le_iff_toInt_le] at b
        exact ⟨c, ha, by omega⟩
  · rw [if_neg c]
    rw [nb_b2, nb_nil, nb_z0, if_neg (fun h => c h.1)]
theorem nb_pOf (n T L : Nat) (p : Int32) (s : S12) : df_X12_programOf n T L p s = some (if 0 ≤ p.toInt ∧ p.toInt ≤ 3 then s.2.1 1 (Int32.toNatClampNeg p) else none, s) := by
  unfold df_X12_programOf df_X12_programOf_0 df_X12_programOf_9 df_X12_programOf_19
  by_cases a : p < 0
  · rw [if_pos a, if_neg (fun h => by have := nb_lt0.mp a; omega)]
    rfl
  · have ha : 0 ≤ p.toInt := by rw [nb_lt0] at a; omega
    rw [if_neg a]
    by_cases b : p < 4
    · have hb : p.toInt < 4 := Int32.lt_iff_toInt_lt.mp b
      rw [if_pos b, nb_ck ha (by omega), if_pos ⟨ha, by omega⟩]
      cases s.2.1 1 (Int32.toNatClampNeg p) <;> rfl
    · rw [if_neg b, if_neg (fun h => b (Int32.lt_iff_toInt_lt.mpr (by show p.toInt < 4; omega)))]
      rfl
/-- a program of the class (its contents) and of the reference (its number) -/
def rq (P : St) (q : Nat) (τ : S19) (x : Nat × Nat × (Nat → Int32)) : Prop := sR τ.1 1 q = sI P 0 ∧ sR τ.1 2 q = sI P 1 ∧ sR τ.1 3 q = sI P 2 ∧ sR τ.1 4 q = sI P 3 ∧ (sI P 2).toInt ≤ 32768 ∧ (∀ k : Nat, (k : Int) < (sI P 2).toInt → sR τ.2.1 9 (32768 * q + k) &&& 255 = sR P 0 k &&& 255) ∧ Int32.ofNat x.2.1 = sI P 4 ∧ x.2.1 ≤ 10986 ∧ ∀ k : Nat, k < x.2.1 → x.2.2 k = sR P 1 k
/-- the four programs -/
def rp (σ : S12) (τ : S19 × Lb) : Prop := sO τ.1.1 0 = some 96 ∧ ∀ q : Nat, q < 4 → match σ.2.1 1 q with
  | none => sR τ.1.1 0 q = 0
  | some j => j < 9 ∧ (¬ sR τ.1.1 0 q = 0) ∧ ∃ x, τ.2 q = some x ∧ rq (σ.2.2.2.2.2.2.2.2.1 j) q τ.1 x
theorem nb_at {p k : Int32} (h0 : 0 ≤ p.toInt) (h1 : p.toInt ≤ 3) (k0 : 0 ≤ k.toInt) (k1 : k.toInt < 32768) : ((32768 * p) + k).toInt = 32768 * p.toInt + k.toInt ∧ Int32.toNatClampNeg ((32768 * p) + k) = 32768 * Int32.toNatClampNeg p + Int32.toNatClampNeg k := by
  have e1 : (32768 * p).toInt = 32768 * p.toInt := by
    rw [Int32.toInt_mul, show (32768 : Int32).toInt = 32768 from by decide]
    exact Int.bmod_eq_of_le (by omega) (by omega)
  have e2 : ((32768 * p) + k).toInt = 32768 * p.toInt + k.toInt := by
    rw [Int32.toInt_add, e1]
    exact Int.bmod_eq_of_le (by omega) (by omega)
  refine ⟨e2, ?_⟩
  show ((32768 * p) + k).toInt.toNat = 32768 * p.toInt.toNat + k.toInt.toNat
  omega
theorem nb_image (n T L : Nat) (p k : Int32) (σ : S12) (τ : S19 × Lb) (h : rp σ τ) : ∃ r : Int32, df_X12_image n T L p k σ = some (r, σ) ∧ df_X19_image n p k τ.1 = some (r, (pI τ.1.1 0 0, τ.1.2)) := by
  unfold df_X12_image df_X12_image_0 df_X12_image_22 df_X12_image_36 df_X19_image df_X19_image_0 df_X19_image_33
  rw [nb_pOf]
  have hb := nb_hasB n p k (pI τ.1.1 0 0, τ.1.2)
  by_cases c : 0 ≤ p.toInt ∧ p.toInt ≤ 3
  · rw [if_pos c]
    have hq := h.2 (Int32.toNatClampNeg p) (by have := nb_nat c.1; omega)
    cases hs : σ.2.1 1 (Int32.toNatClampNeg p) with
    | none =>
      rw [hs] at hq
      have hq : sR τ.1.1 0 (Int32.toNatClampNeg p) = 0 := hq
      rw [if_neg (fun z => z.1.2.2 hq)] at hb
      refine ⟨-1, rfl, ?_⟩
      rw [nb_let, hb, nb_b2, nb_nil]
    | some j =>
      rw [hs] at hq
      obtain ⟨hj, hn, x, hx, q1, q2, q3, q4, q5, q6, q7, q8, q9⟩ := hq
      show ∃ r : Int32, (if k < 0 then _ else nd_lt j 9 _) = _ ∧ _
      by_cases a : k < 0
      · rw [if_pos a]
        rw [if_neg (fun z => by have := nb_lt0.mp a; omega)] at hb
        refine ⟨-1, rfl, ?_⟩
        rw [nb_let, hb, nb_b2, nb_nil]
      · have ha : 0 ≤ k.toInt := by rw [nb_lt0] at a; omega
        rw [if_neg a]
        unfold nd_lt
        rw [if_pos hj]
        by_cases b : k < sI (σ.2.2.2.2.2.2.2.2.1 j) 2
        · have hb2 := Int32.lt_iff_toInt_lt.mp b
          rw [if_pos b, nb_ck ha (by omega)]
          rw [if_pos ⟨⟨c.1, c.2, hn⟩, ha, by show k.toInt < (sR τ.1.1 3 (Int32.toNatClampNeg p)).toInt; rw [q3]; exact hb2⟩] at hb
          obtain ⟨e1, e2⟩ := nb_at c.1 c.2 ha (by omega)
          refine ⟨_, rfl, ?_⟩
          rw [nb_let, hb, nb_b2, nb_one, nb_ck (by omega) (by omega)]
          show some (sR τ.1.2.1 9 (Int32.toNatClampNeg ((32768 * p) + k)) &&& 255, _) = _
          rw [e2, q6 _ (by rw [nb_nat ha]; exact hb2)]
        · rw [if_neg b]
          rw [if_neg (fun z => b (Int32.lt_iff_toInt_lt.mpr (by have := z.2.2; rw [← q3]; exact this)))] at hb
          refine ⟨-1, rfl, ?_⟩
          rw [nb_let, hb, nb_b2, nb_nil]
  · rw [if_neg c]
    rw [if_neg (fun z => c ⟨z.1.1, z.1.2.1⟩)] at hb
    refine ⟨-1, rfl, ?_⟩
    rw [nb_let, hb, nb_b2, nb_nil]

theorem nb_mN {α : Type} {x : Option α} {k : Nat → Option α} : nd_m none x k = x := rfl
theorem nb_mS {α : Type} {x : Option α} {k : Nat → Option α} {j : Nat} : nd_m (some j) x k = k j := rfl
theorem nb_lt {α : Type} {j n : Nat} {x : Option α} (h : j < n) : nd_lt j n x = x := if_pos h
theorem nb_o {α : Type} {o : Option Nat} {a : Nat} {x : Option α} (h : o = some a) : nd_o o a x = x := if_pos h
theorem nb_l {α : Type} {o : Lx} {y : Nat × Nat × (Nat → Int32)} {k : Nat × Nat × (Nat → Int32) → Option α} (h : o = some y) : nd_l o k = k y := by subst h; rfl
theorem nb_program (n T L : Nat) (p w : Int32) (σ : S12) (τ : S19 × Lb) (h : rp σ τ) : ∃ r : Int32, df_X12_program n T L p w σ = some (r, σ) ∧ df_X19_program n p w τ = some (r, ((pI τ.1.1 0 0, τ.1.2), τ.2)) := by
  unfold df_X12_program df_X12_program_0 df_X19_program df_X19_program_0 df_X19_program_86
  rw [nb_pOf, nb_b2, nb_let, nb_isP]
  by_cases c : 0 ≤ p.toInt ∧ p.toInt ≤ 3
  · rw [if_pos c]
    have hq := h.2 (Int32.toNatClampNeg p) (by have := nb_nat c.1; omega)
    cases hs : σ.2.1 1 (Int32.toNatClampNeg p) with
    | none =>
      rw [hs] at hq
      have hq : sR τ.1.1 0 (Int32.toNatClampNeg p) = 0 := hq
      rw [if_neg (fun z => z.2.2 hq), nb_mN, nb_b2, nb_let, nb_nil]
      exact ⟨_, rfl, rfl⟩
    | some j =>
      rw [hs] at hq
      obtain ⟨hj, hn, x, hx, q1, q2, q3, q4, q5, q6, q7, q8, q9⟩ := hq
      rw [if_pos ⟨c.1, c.2, hn⟩, nb_mS, nb_b2, nb_let, nb_one]
      by_cases w0 : w = 0
      · rw [if_pos w0, if_pos w0, nb_lt hj, nb_ck c.1 (by omega)]
        exact ⟨_, rfl, by rw [← q1]; rfl⟩
      · rw [if_neg w0, if_neg w0]
        by_cases w1 : w = 1
        · rw [if_pos w1, if_pos w1, nb_lt hj, nb_ck c.1 (by omega)]
          exact ⟨_, rfl, by rw [← q2]; rfl⟩
        · rw [if_neg w1, if_neg w1]
          by_cases w2 : w = 2
          · rw [if_pos w2, if_pos w2, nb_lt hj, nb_ck c.1 (by omega)]
            exact ⟨_, rfl, by rw [← q3]; rfl⟩
          · rw [if_neg w2, if_neg w2]
            by_cases w3 : w = 3
            · rw [if_pos w3, if_pos w3, nb_lt hj]
              dsimp only
              rw [nb_o (show sO (pI τ.1.1 0 0) 0 = some 96 from h.1), nb_ck c.1 (by omega), nb_l hx]
              exact ⟨_, rfl, by rw [← q7]⟩
            · rw [if_neg w3, if_neg w3]
              by_cases w4 : w = 4
              · rw [if_pos w4, if_pos w4, nb_lt hj, nb_ck c.1 (by omega)]
                exact ⟨_, rfl, by rw [← q4]; rfl⟩
              · rw [if_neg w4, if_neg w4]
                exact ⟨_, rfl, rfl⟩
  · rw [if_neg c, if_neg (fun z => c ⟨z.1, z.2.1⟩), nb_mN, nb_b2, nb_let, nb_nil]
    exact ⟨_, rfl, rfl⟩
theorem nb_label (n T L : Nat) (p k : Int32) (σ : S12) (τ : S19 × Lb) (h : rp σ τ) : ∃ r : Int32, df_X12_label n T L p k σ = some (r, σ) ∧ df_X19_label n p k τ = some (r, ((pI τ.1.1 0 0, τ.1.2), τ.2)) := by
  unfold df_X12_label df_X12_label_0 df_X12_label_22 df_X12_label_32 df_X19_label df_X19_label_0 df_X19_label_39 df_X19_label_40
  rw [nb_pOf, nb_b2, nb_let, nb_isP]
  by_cases c : 0 ≤ p.toInt ∧ p.toInt ≤ 3
  · rw [if_pos c]
    have hq := h.2 (Int32.toNatClampNeg p) (by have := nb_nat c.1; omega)
    cases hs : σ.2.1 1 (Int32.toNatClampNeg p) with
    | none =>
      rw [hs] at hq
      have hq : sR τ.1.1 0 (Int32.toNatClampNeg p) = 0 := hq
      rw [if_neg (fun z => z.2.2 hq), nb_mN, nb_b2, nb_let, nb_nil]
      exact ⟨_, rfl, rfl⟩
    | some j =>
      rw [hs] at hq
      obtain ⟨hj, hn, x, hx, q1, q2, q3, q4, q5, q6, q7, q8, q9⟩ := hq
      have hl : (sI (σ.2.2.2.2.2.2.2.2.1 j) 4).toInt = x.2.1 := by rw [← q7]; exact Int32.toInt_ofNat_of_lt (by omega)
      rw [if_pos ⟨c.1, c.2, hn⟩, nb_mS, nb_b2, nb_let, nb_one]
      by_cases a : k < 0
      · rw [if_pos a, if_pos a]
        exact ⟨_, rfl, rfl⟩
      · have ha : 0 ≤ k.toInt := by rw [nb_lt0] at a; omega
        have ho : sO (pI τ.1.1 0 0) 0 = some 96 := h.1
        rw [if_neg a, if_neg a, nb_lt hj]
        dsimp only
        rw [nb_o ho, nb_ck c.1 (by omega), nb_l hx, q7]
        by_cases b : k < sI (σ.2.2.2.2.2.2.2.2.1 j) 4
        · have hb := Int32.lt_iff_toInt_lt.mp b
          rw [if_pos b, if_neg (fun z => by have := Int32.le_iff_toInt_le.mp z; omega), nb_ck ha (by omega), nb_o ho, nb_ck c.1 (by omega), nb_l hx, nb_ck ha (by omega)]
          refine ⟨_, rfl, ?_⟩
          rw [q9 _ (by have := nb_nat ha; omega)]
        · rw [if_neg b, if_pos (Int32.le_iff_toInt_le.mpr (by rw [Int32.lt_iff_toInt_lt] at b; omega))]
          exact ⟨_, rfl, rfl⟩
  · rw [if_neg c, if_neg (fun z => c ⟨z.1, z.2.1⟩), nb_mN, nb_b2, nb_let, nb_nil]
    exact ⟨_, rfl, rfl⟩

theorem nb_on {k : Nat} (h : k < 2147483648) : (Int32.ofNat k).toInt = k := Int32.toInt_ofNat_of_lt h
theorem nb_onat {k : Nat} (h : k < 2147483648) : Int32.toNatClampNeg (Int32.ofNat k) = k := by
  show (Int32.ofNat k).toInt.toNat = k
  rw [nb_on h]
  omega
theorem nb_onle {k j : Nat} (h : k < 2147483648) (g : j < 2147483648) : (Int32.ofNat k ≤ Int32.ofNat j) ↔ k ≤ j := by
  rw [Int32.le_iff_toInt_le, nb_on h, nb_on g]
  omega
theorem nb_on1 {k : Nat} (h : k < 2147483647) : Int32.ofNat k + Int32.ofInt 1 = Int32.ofNat (k + 1) := by
  apply Int32.toInt_inj.mp
  rw [nv_inc (by rw [nb_on (by omega)]; omega) (by rw [nb_on (by omega)]; omega), nb_on (by omega), nb_on (by omega)]
  omega
/-- the best label so far, behind the one numbered k -/
def nx (f : Nat → Int32) (a best : Int32) (k : Nat) : Int32 := if a < f k then best else if best = -1 then Int32.ofNat k else if f k < f (Int32.toNatClampNeg best) then best else Int32.ofNat k
def okb (N : Nat) (b : Int32) : Prop := b = -1 ∨ (0 ≤ b.toInt ∧ b.toInt < N)
theorem nb_nx {f : Nat → Int32} {a b : Int32} {k N : Nat} (hk : k < N) (hN : N ≤ 10986) (h : okb N b) : okb N (nx f a b k) := by
  have ho : okb N (Int32.ofNat k) := Or.inr (by rw [nb_on (by omega)]; omega)
  unfold nx
  split
  · exact h
  · split
    · exact ho
    · split
      · exact h
      · exact ho
theorem nb_lu1 (n m : Nat) (a b : Int32) (k N : Nat) (P : St) (hN : sI P 4 = Int32.ofNat N) (hN2 : N ≤ 10986) (hk : k < N) (hb : okb N b) : df_X8_labelUpTo_4 n (m + 1) a b (Int32.ofNat k) P = df_X8_labelUpTo_4 n m a (nx (sR P 1) a b k) (Int32.ofNat (k + 1)) P := by
  show dF_X8_labelUpTo_4 n (df_X8_labelUpTo_4 n m) a b (Int32.ofNat k) P = _
  have c43 : ∀ y : Int32, df_X8_labelUpTo_43 n (df_X8_labelUpTo_4 n m) a y (Int32.ofNat k) P = df_X8_labelUpTo_4 n m a y (Int32.ofNat (k + 1)) P := fun y => by
    unfold df_X8_labelUpTo_43
    rw [nb_let, nb_on1 (by omega)]
  have e := nb_on (k := k) (by omega)
  unfold dF_X8_labelUpTo_4 df_X8_labelUpTo_41 nx
  simp only [c43]
  rw [hN, if_neg (by rw [nb_onle (by omega) (by omega)]; omega), nb_ck (by omega) (by omega), nb_onat (by omega)]
  by_cases c1 : a < sR P 1 k
  · rw [if_pos c1, if_pos c1]
  · rw [if_neg c1, if_neg c1]
    rcases hb with hb | hb
    · rw [if_pos (by rw [hb]; decide), if_pos hb]
    · have hx : ¬ b = -1 := fun z => by rw [z] at hb; exact absurd hb.1 (by decide)
      rw [if_neg (by rw [nb_lt0]; omega), if_neg hx, nb_ck (by omega) (by omega), nb_ck hb.1 (by omega)]
      by_cases c2 : sR P 1 k < sR P 1 (Int32.toNatClampNeg b)
      · rw [if_pos c2, if_pos c2]
      · rw [if_neg c2, if_neg c2]
theorem nb_be1 (n m : Nat) (p a b : Int32) (k : Nat) (S : S19 × Lb) (x : Nat × Nat × (Nat → Int32)) (hp : 0 ≤ p.toInt ∧ p.toInt ≤ 3) (hi : ¬ sR S.1.1 0 (Int32.toNatClampNeg p) = 0) (ho : sO S.1.1 0 = some 96) (hx : S.2 (Int32.toNatClampNeg p) = some x) (hN2 : x.2.1 ≤ 10986) (hk : k < x.2.1) (hb : okb x.2.1 b) : df_X19_before_10 n (m + 1) p a b (Int32.ofNat k) S = df_X19_before_10 n m p a (nx x.2.2 a b k) (Int32.ofNat (k + 1)) S := by
  show dF_X19_before_10 n (df_X19_before_10 n m) p a b (Int32.ofNat k) S = _
  have c74 : ∀ y : Int32, df_X19_before_74 n (df_X19_before_10 n m) p a (Int32.ofNat k) y S = df_X19_before_10 n m p a y (Int32.ofNat (k + 1)) S := fun y => by
    unfold df_X19_before_74
    rw [nb_let, nb_on1 (by omega)]
  have e := nb_on (k := k) (by omega)
  unfold dF_X19_before_10 df_X19_before_73 df_X19_before_68 nx
  rw [nb_isP, if_pos ⟨hp.1, hp.2, hi⟩, nb_b2, nb_let]
  dsimp only
  simp only [c74]
  rw [nb_one, nb_o ho, nb_ck hp.1 (by omega), nb_l hx, if_neg (by rw [nb_onle (by omega) (by omega)]; omega), nb_o ho, nb_ck hp.1 (by omega), nb_l hx, nb_ck (by omega) (by omega), nb_onat (by omega)]
  by_cases c1 : a < x.2.2 k
  · rw [if_pos c1, if_pos c1]
  · rw [if_neg c1, if_neg c1]
    rcases hb with hb | hb
    · rw [if_pos hb, if_pos hb]
    · have hx2 : ¬ b = -1 := fun z => by rw [z] at hb; exact absurd hb.1 (by decide)
      rw [if_neg hx2, if_neg hx2, nb_o ho, nb_ck hp.1 (by omega), nb_l hx, nb_ck (by omega) (by omega), nb_o ho, nb_ck hp.1 (by omega), nb_l hx, nb_ck hb.1 (by omega)]
      by_cases c2 : x.2.2 k < x.2.2 (Int32.toNatClampNeg b)
      · rw [if_pos c2, if_pos c2]
      · rw [if_neg c2, if_neg c2]
theorem nb_bel (n : Nat) (p a : Int32) (P : St) (S : S19 × Lb) (x : Nat × Nat × (Nat → Int32)) (hN : sI P 4 = Int32.ofNat x.2.1) (hp : 0 ≤ p.toInt ∧ p.toInt ≤ 3) (hi : ¬ sR S.1.1 0 (Int32.toNatClampNeg p) = 0) (ho : sO S.1.1 0 = some 96) (hx : S.2 (Int32.toNatClampNeg p) = some x) (hN2 : x.2.1 ≤ 10986) (hf : ∀ k : Nat, k < x.2.1 → x.2.2 k = sR P 1 k) : ∀ (m k f g : Nat) (b : Int32), k + m = x.2.1 → m < f → m < g → okb x.2.1 b → ∃ r : Int32, df_X8_labelUpTo_4 n f a b (Int32.ofNat k) P = some (r, P) ∧ df_X19_before_10 n g p a b (Int32.ofNat k) S = some (r, S) := by
  intro m
  induction m with
  | zero =>
    intro k f g b hk hmf hmg hb
    obtain ⟨f, rfl⟩ : ∃ z, f = z + 1 := ⟨f - 1, by omega⟩
    obtain ⟨g, rfl⟩ : ∃ z, g = z + 1 := ⟨g - 1, by omega⟩
    refine ⟨b, ?_, ?_⟩
    · show dF_X8_labelUpTo_4 n (df_X8_labelUpTo_4 n f) a b (Int32.ofNat k) P = _
      unfold dF_X8_labelUpTo_4
      rw [hN, if_pos (by rw [nb_onle (by omega) (by omega)]; omega)]
    · show dF_X19_before_10 n (df_X19_before_10 n g) p a b (Int32.ofNat k) S = _
      unfold dF_X19_before_10 df_X19_before_81
      rw [nb_isP, if_pos ⟨hp.1, hp.2, hi⟩, nb_b2, nb_let]
      dsimp only
      rw [nb_one, nb_o ho, nb_ck hp.1 (by omega), nb_l hx, if_pos (by rw [nb_onle (by omega) (by omega)]; omega)]
  | succ m ih =>
    intro k f g b hk hmf hmg hb
    obtain ⟨f, rfl⟩ : ∃ z, f = z + 1 := ⟨f - 1, by omega⟩
    obtain ⟨g, rfl⟩ : ∃ z, g = z + 1 := ⟨g - 1, by omega⟩
    rw [nb_lu1 n f a b k x.2.1 P hN hN2 (by omega) hb, nb_be1 n g p a b k S x hp hi ho hx hN2 (by omega) hb]
    have he : nx x.2.2 a b k = nx (sR P 1) a b k := by
      unfold nx
      rw [hf k (by omega)]
      by_cases c : b = -1
      · rw [if_pos c, if_pos c]
      · rcases hb with hb | hb
        · exact absurd hb c
        · rw [hf (Int32.toNatClampNeg b) (by have := nb_nat hb.1; omega)]
    rw [he]
    exact ih (k + 1) f g _ (by omega) (by omega) (by omega) (by rw [← he]; exact nb_nx (by omega) hN2 hb)
theorem nb_before (n T L : Nat) (hn : 10987 ≤ n) (p a : Int32) (σ : S12) (τ : S19 × Lb) (h : rp σ τ) : ∃ (r : Int32) (σ' : S12), df_X12_before n T L p a σ = some (r, σ') ∧ df_X19_before n p a τ = some (r, ((pI τ.1.1 0 0, τ.1.2), τ.2)) ∧ σ' = σ := by
  unfold df_X12_before df_X12_before_0 df_X12_before_19 df_X19_before df_X19_before_0
  rw [nb_pOf, nb_b2, nb_let]
  obtain ⟨N, rfl⟩ : ∃ z, n = z + 1 := ⟨n - 1, by omega⟩
  have hout : ¬ (0 ≤ p.toInt ∧ p.toInt ≤ 3 ∧ ¬ sR τ.1.1 0 (Int32.toNatClampNeg p) = 0) → df_X19_before_10 (N + 1) (N + 1) p a (-1) 0 ((pI τ.1.1 0 0, τ.1.2), τ.2) = some (-1, ((pI τ.1.1 0 0, τ.1.2), τ.2)) := fun c => by
    show dF_X19_before_10 (N + 1) (df_X19_before_10 (N + 1) N) p a (-1) 0 ((pI τ.1.1 0 0, τ.1.2), τ.2) = _
    unfold dF_X19_before_10 df_X19_before_81
    rw [nb_isP]
    dsimp only
    rw [if_neg (show ¬ (0 ≤ p.toInt ∧ p.toInt ≤ 3 ∧ ¬ sR (pI τ.1.1 0 0) 0 (Int32.toNatClampNeg p) = 0) from c), nb_b2, nb_let, nb_nil]
  by_cases c : 0 ≤ p.toInt ∧ p.toInt ≤ 3
  · rw [if_pos c]
    have hq := h.2 (Int32.toNatClampNeg p) (by have := nb_nat c.1; omega)
    cases hs : σ.2.1 1 (Int32.toNatClampNeg p) with
    | none =>
      rw [hs] at hq
      have hq : sR τ.1.1 0 (Int32.toNatClampNeg p) = 0 := hq
      rw [nb_mN]
      exact ⟨_, _, rfl, hout (fun z => z.2.2 hq), rfl⟩
    | some j =>
      rw [hs] at hq
      obtain ⟨hj, hi, x, hx, q1, q2, q3, q4, q5, q6, q7, q8, q9⟩ := hq
      obtain ⟨r, e1, e2⟩ := nb_bel (N + 1) p a (σ.2.2.2.2.2.2.2.2.1 j) ((pI τ.1.1 0 0, τ.1.2), τ.2) x q7.symm c hi h.1 hx q8 q9 x.2.1 0 (N + 1) (N + 1) (-1) (by omega) (by omega) (by omega) (Or.inl rfl)
      rw [nb_mS, nb_lt hj]
      have e0 : df_X8_labelUpTo (N + 1) a (σ.2.2.2.2.2.2.2.2.1 j) = some (r, σ.2.2.2.2.2.2.2.2.1 j) := e1
      rw [e0, nb_b2, nb_let]
      refine ⟨r, _, rfl, e2, ?_⟩
      have hf : (fun i => if i = j then σ.2.2.2.2.2.2.2.2.1 j else σ.2.2.2.2.2.2.2.2.1 i) = σ.2.2.2.2.2.2.2.2.1 := by
        funext i
        by_cases z : i = j
        · rw [if_pos z, z]
        · rw [if_neg z]
      rw [hf]
  · rw [if_neg c, nb_mN]
    exact ⟨_, _, rfl, hout (fun z => c ⟨z.1, z.2.1⟩), rfl⟩

theorem nb_fails (n : Nat) (a b : Int32) (s : S19) : df_X19_fails n a b s = some (if a = 0 ∧ b = 0 then 0 else 1, (pI s.1 0 (if a = 0 then (if b = 0 then 0 else 2) else 1), s.2)) := by
  unfold df_X19_fails df_X19_fails_0 df_X19_fails_18 df_X19_fails_33
  by_cases x : a = 0
  · rw [if_pos x, if_pos x]
    by_cases y : b = 0
    · rw [if_pos y, if_pos y, if_pos ⟨x, y⟩, nb_let, if_pos (show sI (pI s.1 0 0) 0 ≤ 0 from (by decide : (0 : Int32) ≤ 0)), nb_z0]
    · rw [if_neg y, if_neg y, if_neg (fun z => y z.2), nb_let, if_neg (show ¬ sI (pI s.1 0 2) 0 ≤ 0 from (by decide : ¬ (2 : Int32) ≤ 0)), nb_z1]
  · rw [if_neg x, if_neg x, if_neg (fun z => x z.1), nb_let, if_neg (show ¬ sI (pI s.1 0 1) 0 ≤ 0 from (by decide : ¬ (1 : Int32) ≤ 0)), nb_z1]
theorem nb_dr15 (n : Nat) (k v : Int32) (s : St × (St × St)) (c : 0 ≤ k.toInt ∧ k.toInt ≤ 7) (hv : sR s.1 1 (Int32.toNatClampNeg k) = v) (hb : v = 0 ∨ v = 1) : df_X15_drop n k s = some (v, (pR s.1 1 (upd (sR s.1 1) (Int32.toNatClampNeg k) (vp_nar .boolean 0)), s.2)) := by
  unfold df_X15_drop df_X15_drop_0
  rw [nb_ck c.1 (by omega), nb_let, nb_ck c.1 (by omega), nb_let, hv]
  rcases hb with rfl | rfl
  · rw [nb_z0]
  · rw [nb_z1]
/-- the breaks that are there -/
def rb (σ : S12) (τ : S19) : Prop := ∀ k : Nat, k < 8 → sR τ.2.2.1.1 1 k = if (σ.2.1 2 k).isSome then 1 else 0
theorem nb_drop (n T L : Nat) (k : Int32) (σ : S12) (τ : S19) (h : rb σ τ) : (¬ (0 ≤ k.toInt ∧ k.toInt ≤ 7) → df_X12_drop n T L k σ = some (Sum.inr ("java/lang/IllegalArgumentException", σ)) ∧ df_X19_drop n k τ = some (0, (pI τ.1 0 1, τ.2))) ∧ ((0 ≤ k.toInt ∧ k.toInt ≤ 7) → ∃ (r : Int32) (σ' : S12) (τ' : S19), df_X12_drop n T L k σ = some (Sum.inl (r, σ')) ∧ df_X19_drop n k τ = some (r, τ') ∧ sI τ'.1 0 = 0 ∧ rb σ' τ') := by
  have hin : df_X19_in n k.toInt64 0 7 () = some (if 0 ≤ k.toInt ∧ k.toInt ≤ 7 then 1 else 0, ()) := nb_in32 n k 0 7
  have c8 : (k < 8) ↔ k.toInt < 8 := by rw [Int32.lt_iff_toInt_lt]; rfl
  unfold df_X12_drop df_X12_drop_0 df_X12_drop_10 df_X12_drop_32 df_X19_drop df_X19_drop_0 df_X19_drop_18 df_X19_drop_40 df_X19_drop_41
  rw [hin]
  constructor
  · intro c
    rw [if_neg c, nb_b2, nb_nil, nb_fails, nb_b2]
    constructor
    · by_cases a : k < 0
      · rw [if_pos a]
      · rw [if_neg a, if_neg (by rw [nb_lt0] at a; rw [c8]; omega)]
    · rw [if_neg (by decide), nb_one, nb_z0]
  · intro c
    have hn := nb_nat c.1
    have hk := h (Int32.toNatClampNeg k) (by omega)
    rw [if_pos c, nb_b2, nb_one, nb_fails, nb_b2]
    rw [if_pos (show (0 : Int32) = 0 ∧ (0 : Int32) = 0 from ⟨rfl, rfl⟩), nb_nil]
    rw [if_neg (by rw [nb_lt0]; omega), if_pos (c8.mpr (by omega)), nb_ck c.1 (by omega)]
    have keep : ∀ (S : Rw) (f : Nat → Int32), (∀ j : Nat, j < 8 → f j = if (S 2 j).isSome then 1 else 0) → ∀ j : Nat, j < 8 → upd f (Int32.toNatClampNeg k) (vp_nar .boolean 0) j = if (pW S 2 (va_up (S 2) (Int32.toNatClampNeg k) none) 2 j).isSome then 1 else 0 := fun S f hf j hj => by
      show (if j = Int32.toNatClampNeg k then _ else _) = if ((if j = Int32.toNatClampNeg k then none else S 2 j) : Option Nat).isSome then 1 else 0
      by_cases z : j = Int32.toNatClampNeg k
      · rw [if_pos z, if_pos z]
        rfl
      · rw [if_neg z, if_neg z]
        exact hf j hj
    cases hs : σ.2.1 2 (Int32.toNatClampNeg k) with
    | none =>
      rw [hs] at hk
      have hk : sR τ.2.2.1.1 1 (Int32.toNatClampNeg k) = 0 := hk
      rw [nb_mN, nb_ck c.1 (by omega), nb_let, nb_z0, nb_dr15 n k 0 τ.2.2.1 c hk (Or.inl rfl), nb_b2, nb_let, nb_nil, nb_z0]
      exact ⟨0, _, _, rfl, rfl, rfl, keep σ.2.1 (sR τ.2.2.1.1 1) h⟩
    | some j =>
      rw [hs] at hk
      have hk : sR τ.2.2.1.1 1 (Int32.toNatClampNeg k) = 1 := hk
      rw [nb_mS, nb_ck c.1 (by omega), nb_let, nb_z1, nb_dr15 n k 1 τ.2.2.1 c hk (Or.inr rfl), nb_b2, nb_let, nb_one, nb_z1]
      exact ⟨1, _, _, rfl, rfl, rfl, keep σ.2.1 (sR τ.2.2.1.1 1) h⟩

/-- registers, places and states of the two machines -/
def rg (M : St × St) (X : St × St) : Prop := ∀ p : Nat, p < 16 → sR M.1 6 (7 * p) = sR X.1 1 p ∧ sR M.1 3 (33 * p + 32) = sR X.1 10 p ∧ ∀ r : Nat, r < 32 → sR M.1 3 (33 * p + r) = sR X.1 9 (32 * p + r)
theorem nb_ma {p r : Int32} {K : Int32} {k : Int} (hK : K.toInt = k) (k0 : 0 ≤ k) (k1 : k ≤ 64) (h0 : 0 ≤ p.toInt) (h1 : p.toInt ≤ 15) (r0 : 0 ≤ r.toInt) (r1 : r.toInt ≤ 64) : (p * K + r).toInt = p.toInt * k + r.toInt := by
  have hb : 0 ≤ p.toInt * k := Int.mul_nonneg h0 k0
  have hc : p.toInt * k ≤ 15 * 64 := Int.mul_le_mul h1 k1 k0 (by omega)
  have e1 : (p * K).toInt = p.toInt * k := by
    rw [Int32.toInt_mul, hK]
    exact Int.bmod_eq_of_le (by omega) (by omega)
  rw [Int32.toInt_add, e1]
  exact Int.bmod_eq_of_le (by omega) (by omega)
theorem nb_register (n : Nat) (p r : Int32) (M X : St × St) (h : rg M X) (hp : 0 ≤ p.toInt ∧ p.toInt ≤ 15) (hr : 0 ≤ r.toInt ∧ r.toInt ≤ 32) : ∃ v : Int32, df_X6_registerOf n p r M = some (v, M) ∧ df_X16_register n p r X = some (v, X) := by
  have hn := nb_nat hp.1
  have hm := nb_nat hr.1
  obtain ⟨g1, g2, g3⟩ := h (Int32.toNatClampNeg p) (by omega)
  have e7 : (p * 7 + 0).toInt = p.toInt * 7 + (0 : Int32).toInt := nb_ma (by decide) (by decide) (by decide) hp.1 hp.2 (by decide) (by decide)
  have e7 : (p * 7 + 0).toInt = p.toInt * 7 := by rw [e7, show (0 : Int32).toInt = 0 from by decide]; omega
  have n7 : Int32.toNatClampNeg (p * 7 + 0) = 7 * Int32.toNatClampNeg p := by
    have := nb_nat (k := p * 7 + 0) (by omega)
    omega
  have e33 : (p * 33 + r).toInt = p.toInt * 33 + r.toInt := nb_ma (by decide) (by decide) (by decide) hp.1 hp.2 hr.1 (by omega)
  have n33 : Int32.toNatClampNeg (p * 33 + r) = 33 * Int32.toNatClampNeg p + Int32.toNatClampNeg r := by
    have := nb_nat (k := p * 33 + r) (by omega)
    omega
  unfold df_X6_registerOf df_X6_registerOf_0 df_X6_registerOf_23 df_X6_status df_X6_status_0 df_X16_register df_X16_register_0 df_X16_register_29 df_X16_register_59
  rw [nb_ck (by omega) (by omega), nb_b2, n7, g1]
  rw [if_neg (show ¬ p < 0 from by rw [nb_lt0]; omega), if_neg (show ¬ (15 : Int32) < p from by rw [Int32.lt_iff_toInt_lt, show (15 : Int32).toInt = 15 from by decide]; omega), if_neg (show ¬ r < 0 from by rw [nb_lt0]; omega), if_neg (show ¬ (32 : Int32) < r from by rw [Int32.lt_iff_toInt_lt, show (32 : Int32).toInt = 32 from by decide]; omega), nb_ck hp.1 (by omega)]
  by_cases c : sR X.1 1 (Int32.toNatClampNeg p) = 0
  · rw [if_pos c, if_pos c]
    exact ⟨_, rfl, rfl⟩
  · rw [if_neg c, if_neg c, nb_ck (by omega) (by omega), n33]
    by_cases d : r = 32
    · have d2 : Int32.toNatClampNeg r = 32 := by rw [d]; rfl
      rw [if_pos d, nb_ck hp.1 (by omega), d2, g2]
      exact ⟨_, rfl, rfl⟩
    · have d2 : r.toInt ≠ 32 := fun z => d (Int32.toInt_inj.mp (by rw [z]; decide))
      have e32 : (32 * p + r).toInt = p.toInt * 32 + r.toInt := by
        rw [Int32.mul_comm]
        exact nb_ma (by decide) (by decide) (by decide) hp.1 hp.2 hr.1 (by omega)
      have n32 : Int32.toNatClampNeg (32 * p + r) = 32 * Int32.toNatClampNeg p + Int32.toNatClampNeg r := by
        have := nb_nat (k := 32 * p + r) (by omega)
        omega
      rw [if_neg d, nb_ck (by omega) (by omega), n32, g3 _ (by omega)]
      exact ⟨_, rfl, rfl⟩

theorem nb_on1' {k : Nat} (h : k < 2147483647) : Int32.ofNat k + 1 = Int32.ofNat (k + 1) := nb_on1 h
/-- how many of the first k breaks are there -/
def cn (f : Nat → Option Nat) : Nat → Nat
  | 0 => 0
  | k + 1 => cn f k + if (f k).isSome then 1 else 0
theorem nb_cn (f : Nat → Option Nat) : ∀ k : Nat, cn f k ≤ k := by
  intro k
  induction k with
  | zero => exact Nat.le_refl 0
  | succ k ih => show cn f k + (if (f k).isSome then 1 else 0) ≤ k + 1; split <;> omega
theorem nb_bt (n T L : Nat) (σ : S12) : ∀ m k g : Nat, k + m = 8 → m < g → df_X12_breaksThere_4 n T L g (Int32.ofNat (cn (σ.2.1 2) k)) (Int32.ofNat k) σ = some (Int32.ofNat (cn (σ.2.1 2) 8), σ) := by
  intro m
  induction m with
  | zero =>
    intro k g hk hg
    obtain ⟨g, rfl⟩ : ∃ z, g = z + 1 := ⟨g - 1, by omega⟩
    obtain rfl : k = 8 := by omega
    show dF_X12_breaksThere_4 n T L (df_X12_breaksThere_4 n T L g) _ _ σ = _
    unfold dF_X12_breaksThere_4
    rw [if_pos (by decide)]
  | succ m ih =>
    intro k g hk hg
    obtain ⟨g, rfl⟩ : ∃ z, g = z + 1 := ⟨g - 1, by omega⟩
    have e := nb_on (k := k) (by omega)
    have hc := nb_cn (σ.2.1 2) k
    show dF_X12_breaksThere_4 n T L (df_X12_breaksThere_4 n T L g) _ _ σ = _
    unfold dF_X12_breaksThere_4 df_X12_breaksThere_22
    rw [if_neg (show ¬ (8 : Int32) ≤ Int32.ofNat k from by rw [Int32.le_iff_toInt_le, e, show (8 : Int32).toInt = 8 from by decide]; omega), nb_ck (by omega) (by omega), nb_onat (by omega)]
    have h := ih (k + 1) g (by omega) (by omega)
    cases hs : σ.2.1 2 k with
    | none =>
      have hz : cn (σ.2.1 2) (k + 1) = cn (σ.2.1 2) k := by show cn (σ.2.1 2) k + (if (σ.2.1 2 k).isSome then 1 else 0) = _; rw [hs]; rfl
      rw [hz] at h
      rw [nb_mN, nb_let, nb_on1 (by omega)]
      exact h
    | some j =>
      have hz : cn (σ.2.1 2) (k + 1) = cn (σ.2.1 2) k + 1 := by show cn (σ.2.1 2) k + (if (σ.2.1 2 k).isSome then 1 else 0) = _; rw [hs]; rfl
      rw [hz] at h
      rw [nb_mS, nb_let, nb_let, nb_on1 (by omega), nb_on1 (by omega)]
      exact h
theorem nb_sz (n : Nat) (σ : S12) (s : St × (St × St)) (hb : ∀ k : Nat, k < 8 → sR s.1 1 k = if (σ.2.1 2 k).isSome then 1 else 0) : ∀ m k g : Nat, k + m = 8 → m < g → df_X15_size_4 n g (Int32.ofNat (cn (σ.2.1 2) k)) (Int32.ofNat k) s = some (Int32.ofNat (cn (σ.2.1 2) 8), s) := by
  intro m
  induction m with
  | zero =>
    intro k g hk hg
    obtain ⟨g, rfl⟩ : ∃ z, g = z + 1 := ⟨g - 1, by omega⟩
    obtain rfl : k = 8 := by omega
    show dF_X15_size_4 n (df_X15_size_4 n g) _ _ s = _
    unfold dF_X15_size_4
    rw [if_pos (by decide)]
  | succ m ih =>
    intro k g hk hg
    obtain ⟨g, rfl⟩ : ∃ z, g = z + 1 := ⟨g - 1, by omega⟩
    have e := nb_on (k := k) (by omega)
    have hc := nb_cn (σ.2.1 2) k
    show dF_X15_size_4 n (df_X15_size_4 n g) _ _ s = _
    unfold dF_X15_size_4 df_X15_size_26
    rw [if_neg (show ¬ (8 : Int32) ≤ Int32.ofNat k from by rw [Int32.le_iff_toInt_le, e, show (8 : Int32).toInt = 8 from by decide]; omega), nb_ck (by omega) (by omega), nb_onat (by omega), hb k (by omega)]
    have h := ih (k + 1) g (by omega) (by omega)
    cases hs : σ.2.1 2 k with
    | none =>
      have hz : cn (σ.2.1 2) (k + 1) = cn (σ.2.1 2) k := by show cn (σ.2.1 2) k + (if (σ.2.1 2 k).isSome then 1 else 0) = _; rw [hs]; rfl
      rw [hz] at h
      rw [if_pos (show (if (none : Option Nat).isSome then (1 : Int32) else 0) = 0 from rfl), nb_let, nb_on1 (by omega)]
      exact h
    | some j =>
      have hz : cn (σ.2.1 2) (k + 1) = cn (σ.2.1 2) k + 1 := by show cn (σ.2.1 2) k + (if (σ.2.1 2 k).isSome then 1 else 0) = _; rw [hs]; rfl
      rw [hz] at h
      rw [if_neg (show ¬ (if (some j : Option Nat).isSome then (1 : Int32) else 0) = 0 from (by decide : ¬ (1 : Int32) = 0)), nb_let, nb_on1 (by omega), nb_on1' (by omega)]
      exact h
theorem nb_count15 (n T L : Nat) (σ : S12) (τ : S19) (h : sI σ.1 0 = sI τ.1 1) : ∃ r : Int64, df_X12_count n T L 15 σ = some (r, σ) ∧ df_X19_count n 15 τ = some (r, (pI τ.1 0 0, τ.2)) := by
  refine ⟨(sI σ.1 0).toInt64, ?_, ?_⟩
  · unfold df_X12_count df_X12_count_0
    rw [if_pos rfl]
  · unfold df_X19_count df_X19_count_0 df_X19_count_12 df_X19_count_39
    rw [if_pos rfl, nb_let, if_pos rfl, h]
    rfl
theorem nb_count16 (n T L : Nat) (hn : 9 ≤ n) (σ : S12) (τ : S19) (h : rb σ τ) : ∃ r : Int64, df_X12_count n T L 16 σ = some (r, σ) ∧ df_X19_count n 16 τ = some (r, (pI τ.1 0 0, τ.2)) := by
  have h1 : df_X12_breaksThere n T L σ = some (Int32.ofNat (cn (σ.2.1 2) 8), σ) := nb_bt n T L σ 8 0 n (by omega) (by omega)
  have h2 : df_X15_size n τ.2.2.1 = some (Int32.ofNat (cn (σ.2.1 2) 8), τ.2.2.1) := nb_sz n σ τ.2.2.1 h 8 0 n (by omega) (by omega)
  refine ⟨(Int32.ofNat (cn (σ.2.1 2) 8)).toInt64, ?_, ?_⟩
  · unfold df_X12_count df_X12_count_0
    rw [if_neg (by decide), if_pos rfl, h1, nb_b2]
  · unfold df_X19_count df_X19_count_0 df_X19_count_12 df_X19_count_39
    rw [if_neg (by decide), if_pos rfl, nb_let, if_neg (by decide)]
    dsimp only
    rw [h2, nb_b2, nb_let]

/-- the pages: the same frames and rights, the same words -/
def rme (M X : St × St) : Prop := ∀ p k : Nat, p < 16 → k < 64 → (sR X.1 16 (64 * p + k) = -1 ∧ sR M.1 2 (64 * p + k) = 0) ∨ ∃ f r : Nat, f < 256 ∧ 1 ≤ r ∧ r < 8 ∧ sR X.1 16 (64 * p + k) = nI f ∧ sR X.1 17 (64 * p + k) = nI r ∧ sR M.1 2 (64 * p + k) = nI (8 * f + r) ∧ ∀ j : Nat, j < 256 → sR M.1 0 (256 * f + j) = sR X.1 15 (16384 * p + 256 * k + j)
theorem nb_or {a b : Nat} (ha : a < 16) (hb : b < 64) : (nI a <<< ((6 : Int32) &&& 31)) ||| nI b = nI (64 * a + b) := by
  have : ∀ (a : Fin 16) (b : Fin 64), (nI a.val <<< ((6 : Int32) &&& 31)) ||| nI b.val = nI (64 * a.val + b.val) := by decide +kernel
  exact this ⟨a, ha⟩ ⟨b, hb⟩
theorem nb_or8 {a b : Nat} (ha : a < 256) (hb : b < 256) : (nI a <<< ((8 : Int32) &&& 31)) ||| nI b = nI (256 * a + b) := by
  rw [pk_shlN ((8 : Int32) &&& 31) 8 (by decide) (by omega)]
  have h : ∀ (b : Fin 256), True := fun _ => trivial
  apply Int32.toBitVec_inj.mp
  apply BitVec.eq_of_toNat_eq
  rw [Int32.toBitVec_or, BitVec.toNat_or, pk_tn (by omega), pk_tn (by omega), pk_tn (by omega)]
  rw [show a * 2 ^ 8 = a <<< 8 from by rw [Nat.shiftLeft_eq], ← Nat.shiftLeft_add_eq_or_of_lt (by omega), Nat.shiftLeft_eq]
  omega
theorem nb_us {a : Nat} (ha : a < 65536) (s : Int32) (k : Nat) (hs : ((s.toUInt32 &&& Int32.toUInt32 31).toBitVec % 32).toNat = k) : ((nI a).toUInt32 >>> (s.toUInt32 &&& Int32.toUInt32 31)).toInt32 = nI (a / 2 ^ k) := pk_ushrN (by omega) s k hs
theorem nb_may (n : Nat) {P a : Nat} (hP : P < 16) (ha : a < 65536) (w : Int32) (M : St × St) : df_X6_may n (nI P) (nI a) w M = some (if sR M.1 2 (64 * P + a / 1024) &&& w = 0 then 0 else 1, M) := by
  unfold df_X6_may df_X6_may_0 df_X6_may_30 df_X6_may_31
  rw [nb_us ha 16 16 (by decide), nb_us ha 10 10 (by decide), show a / 2 ^ 16 = 0 from by omega, show nI 0 = 0 from rfl, if_pos rfl, nb_or hP (by omega)]
  have e : (nI (64 * P + a / 2 ^ 10)).toInt = ((64 * P + a / 2 ^ 10 : Nat) : Int) := nI_toInt (by omega)
  rw [nb_ck (by omega) (by omega), nI_clamp (by omega)]
  by_cases c : sR M.1 2 (64 * P + a / 1024) &&& w = 0
  · rw [if_pos c, if_pos c, nb_z0]
  · rw [if_neg c, if_neg c, nb_z1]

theorem nb_byteAt (n : Nat) {P a f r : Nat} (hP : P < 16) (ha : a < 65536) (hf : f < 256) (hr : r < 8) (M : St × St) (hp : sR M.1 2 (64 * P + a / 1024) = nI (8 * f + r)) : df_X6_byteAt n (nI P) (nI a) M = some (((((sR M.1 0 (256 * f + a / 4 % 256)) : Int32).toUInt32 >>> (((8 * nI (a % 4)) : Int32).toUInt32 &&& Int32.toUInt32 31)).toInt32) &&& 255, M) := by
  unfold df_X6_byteAt df_X6_byteAt_0
  rw [nb_us ha 10 10 (by decide), nb_us ha 2 2 (by decide), pk_andN (n := a / 2 ^ 10) (by omega) 6 (by decide), pk_andN (n := a / 2 ^ 2) (by omega) 8 (by decide), pk_andN (n := a) (by omega) 2 (by decide), nb_or hP (by omega)]
  rw [show 64 * P + a / 2 ^ 10 % 2 ^ 6 = 64 * P + a / 1024 from by omega]
  have e : (nI (64 * P + a / 1024)).toInt = ((64 * P + a / 1024 : Nat) : Int) := nI_toInt (by omega)
  rw [nb_ck (by omega) (by omega), nI_clamp (by omega), hp, nb_let, pk_shrN (by omega) ((3 : Int32) &&& 31) 3 (by decide), show (8 * f + r) / 2 ^ 3 = f from by omega, nb_or8 hf (by omega)]
  have e2 : (nI (256 * f + a / 2 ^ 2 % 2 ^ 8)).toInt = ((256 * f + a / 2 ^ 2 % 2 ^ 8 : Nat) : Int) := nI_toInt (by omega)
  rw [nb_ck (by omega) (by omega), nI_clamp (by omega)]
theorem nb_get (n : Nat) {A : Nat} (hA : A < 1048576) (X : St × St) : df_X16_get n (nI A) X = some (((((sR X.1 15 (A / 4)) : Int32).toUInt32 >>> (((8 * nI (A % 4)) : Int32).toUInt32 &&& Int32.toUInt32 31)).toInt32) &&& 255, X) := by
  unfold df_X16_get df_X16_get_0
  rw [pk_shrN (by omega) ((2 : Int32) &&& 31) 2 (by decide), pk_andN (n := A) (by omega) 2 (by decide)]
  have e : (nI (A / 2 ^ 2)).toInt = ((A / 2 ^ 2 : Nat) : Int) := nI_toInt (by omega)
  rw [nb_ck (by omega) (by omega), nI_clamp (by omega)]
theorem nb_there (n : Nat) {P a : Nat} (hP : P < 16) (ha : a < 65536) (X : St × St) : df_X16_isThere n (nI P) (nI a) X = some (if sR X.1 16 (64 * P + a / 1024) = -1 then 0 else 1, X) := by
  unfold df_X16_isThere df_X16_isThere_0 df_X16_isThere_33 df_X16_isThere_34
  rw [if_neg (nI_pos (by omega)), if_neg (show ¬ (65536 : Int32) ≤ nI a from nI_ge (b := 65536) (by omega) (by omega)), show (64 : Int32) = nI 64 from rfl, show (1024 : Int32) = nI 1024 from rfl, pk_mul, pk_div (by omega) (by omega) (by omega), nI_add]
  have e : (nI (64 * P + a / 1024)).toInt = ((64 * P + a / 1024 : Nat) : Int) := nI_toInt (by omega)
  rw [nb_ck (by omega) (by omega), nI_clamp (by omega)]
  by_cases c : sR X.1 16 (64 * P + a / 1024) = -1
  · rw [if_pos c, if_pos c, nb_z0]
  · rw [if_neg c, if_neg c, nb_z1]
/-- a byte that is there, and one that isn't, in both machines -/
theorem nb_peekIn (n : Nat) {P a : Nat} (hP : P < 16) (ha : a < 65536) (M X : St × St) (h : rme M X) : (df_X6_may n (nI P) (nI a) 7 M = some (0, M) ∧ df_X16_peek n (nI P) (nI a) X = some (-1, X)) ∨ ∃ v : Int32, df_X6_may n (nI P) (nI a) 7 M = some (1, M) ∧ df_X6_byteAt n (nI P) (nI a) M = some (v, M) ∧ df_X16_peek n (nI P) (nI a) X = some (v, X) := by
  have hm := nb_may n hP ha 7 M
  have ht := nb_there n hP ha X
  unfold df_X16_peek df_X16_peek_0 df_X16_peek_23
  rcases h P (a / 1024) hP (by omega) with ⟨h1, h2⟩ | ⟨f, r, hf, r1, r2, h1, h2, h3, h4⟩
  · left
    rw [h2, if_pos (by decide)] at hm
    rw [h1, if_pos rfl] at ht
    exact ⟨hm, by rw [ht, nb_b2, nb_nil]⟩
  · right
    have hz : ¬ nI (8 * f + r) &&& 7 = 0 := by
      rw [pk_andN (by omega) 3 (by decide), show (8 * f + r) % 2 ^ 3 = r from by omega]
      exact nI_ne0 (by omega) (by omega)
    rw [h3, if_neg hz] at hm
    rw [h1, if_neg (fun z => absurd (congrArg Int32.toInt z) (by rw [nI_toInt (by omega), show (-1 : Int32).toInt = -1 from by decide]; omega))] at ht
    have hb := nb_byteAt n hP ha hf r2 M h3
    refine ⟨_, hm, hb, ?_⟩
    rw [ht, nb_b2, nb_one, show (65536 : Int32) = nI 65536 from rfl, pk_mul, nI_add, nb_get n (by omega), nb_b2]
    rw [show (65536 * P + a) % 4 = a % 4 from by omega, show (65536 * P + a) / 4 = 16384 * P + 256 * (a / 1024) + a / 4 % 256 from by omega, ← h4 (a / 4 % 256) (by omega)]

/-- descriptors -/
def rd (M X : St × St) : Prop := ∀ i : Nat, i < 256 → sR M.2 0 i - 1 = sR X.1 14 i
theorem nb_openingOf (n : Nat) {P : Nat} (hP : P < 16) (d : Int32) (M X : St × St) (h : rd M X) : ∃ v : Int32, df_X10_openingOf n (nI P) d M.2 = some (v, M.2) ∧ df_X16_openingOf n (nI P) d X = some (v, X) := by
  unfold df_X10_openingOf df_X10_openingOf_0 df_X10_openingOf_10 df_X10_openingOf_27 df_X16_openingOf df_X16_openingOf_0 df_X16_openingOf_24 df_X16_openingOf_25
  by_cases a : d < 0
  · rw [if_pos a, if_pos a]
    exact ⟨_, rfl, rfl⟩
  · rw [if_neg a, if_neg a]
    obtain ⟨D, hD, rfl⟩ := nI_of a
    by_cases b : D < 16
    · rw [if_pos (show nI D < (16 : Int32) from nI_lt (b := 16) b (by omega)), if_neg (show ¬ (16 : Int32) ≤ nI D from nI_ge (b := 16) b (by omega)), show (16 : Int32) = nI 16 from rfl, pk_mul, pk_mul, nI_add, nI_add, show P * 16 + D = 16 * P + D from by omega]
      have e : (nI (16 * P + D)).toInt = ((16 * P + D : Nat) : Int) := nI_toInt (by omega)
      rw [nb_ck (by omega) (by omega), nb_ck (by omega) (by omega), nI_clamp (by omega), h _ (by omega)]
      exact ⟨_, rfl, rfl⟩
    · rw [if_neg (show ¬ nI D < (16 : Int32) from nI_nlt (b := 16) (by omega) hD), if_pos (show (16 : Int32) ≤ nI D from nI_le (a := 16) (by omega) hD)]
      exact ⟨_, rfl, rfl⟩

theorem nm_ck {α : Type} {k n : Nat} {x : Option α} (h : k < n) (h1 : k < 2 ^ 31) : nd_ck (nI k) n x = x := nb_ck (by rw [nI_toInt h1]; omega) (by rw [nI_toInt h1]; omega)
theorem nm_z0 {α : Type} {x : Option α} : nd_z .boolean (nI 0) x = x := if_pos (by decide)
theorem nm_z1 {α : Type} {x : Option α} : nd_z .boolean (nI 1) x = x := if_pos (by decide)
theorem no_1 : Int32.ofInt 1 = nI 1 := rfl
theorem no_1024 : Int32.ofInt 1024 = nI 1024 := rfl
/-- a loop whose states are known -/
theorem nm_lq {R : Type} (F : Nat → Nat → Option R) (N n : Nat) (hn : N < n) (h : ∀ k m : Nat, k < N → F (m + 1) k = F m (k + 1)) : ∃ m : Nat, F n 0 = F (m + 1) N := by
  have g : ∀ j m : Nat, j ≤ N → F (m + j) 0 = F m j := by
    intro j
    induction j with
    | zero => intro m _; rfl
    | succ j ih =>
      intro m hj
      rw [show m + (j + 1) = (m + 1) + j from by omega, ih (m + 1) (by omega), h j m (by omega)]
  exact ⟨n - N - 1, by rw [← g N (n - N - 1 + 1) (Nat.le_refl N), show n - N - 1 + 1 + N = n from by omega]⟩
/-- a loop whose states are tied -/
theorem nm_lp {S R : Type} (F : Nat → S → Option R) (I : Nat → S → Prop) (N n : Nat) (hn : N < n) (h : ∀ (k m : Nat) (s : S), k < N → I k s → ∃ s' : S, I (k + 1) s' ∧ F (m + 1) s = F m s') (s : S) (h0 : I 0 s) : ∃ (m : Nat) (s' : S), I N s' ∧ F n s = F (m + 1) s' := by
  have g : ∀ j m : Nat, j ≤ N → ∃ s' : S, I j s' ∧ F (m + j) s = F m s' := by
    intro j
    induction j with
    | zero => intro m _; exact ⟨s, h0, rfl⟩
    | succ j ih =>
      intro m hj
      obtain ⟨s1, i1, e1⟩ := ih (m + 1) (by omega)
      obtain ⟨s2, i2, e2⟩ := h j m s1 (by omega) i1
      exact ⟨s2, i2, by rw [show m + (j + 1) = (m + 1) + j from by omega, e1, e2]⟩
  obtain ⟨s', i', e'⟩ := g N (n - N - 1 + 1) (Nat.le_refl N)
  exact ⟨n - N - 1, s', i', by rw [← e', show n - N - 1 + 1 + N = n from by omega]⟩
/-- how many below n -/
def cN (P : Nat → Bool) : Nat → Nat
  | 0 => 0
  | k + 1 => cN P k + (P k).toNat
theorem cN_s (P : Nat → Bool) (k : Nat) : cN P (k + 1) = cN P k + (P k).toNat := rfl
theorem cN_c {P Q : Nat → Bool} : ∀ {N : Nat}, (∀ i : Nat, i < N → P i = Q i) → cN P N = cN Q N
  | 0, _ => rfl
  | k + 1, h => by rw [cN_s, cN_s, cN_c (fun i hi => h i (by omega)), h k (by omega)]
theorem cN_le (P : Nat → Bool) : ∀ N : Nat, cN P N ≤ N
  | 0 => Nat.le_refl 0
  | k + 1 => by
    have := cN_le P k
    have := Bool.toNat_le (P k)
    rw [cN_s]
    omega
theorem cN_0 {P : Nat → Bool} : ∀ {N : Nat}, (∀ i : Nat, i < N → P i = false) → cN P N = 0
  | 0, _ => rfl
  | k + 1, h => by rw [cN_s, cN_0 (fun i hi => h i (by omega)), h k (by omega)]; rfl
theorem cN_p {P : Nat → Bool} {i : Nat} (hi : P i = true) : ∀ {N : Nat}, i < N → 0 < cN P N
  | 0, h => absurd h (by omega)
  | k + 1, h => by
    rw [cN_s]
    by_cases c : i = k
    · rw [← c, hi]; show 0 < _ + 1; omega
    · have := cN_p hi (N := k) (by omega)
      omega
theorem cN_ex {P : Nat → Bool} : ∀ {N : Nat}, 0 < cN P N → ∃ i : Nat, i < N ∧ P i = true
  | 0, h => absurd h (by show ¬ 0 < 0; omega)
  | k + 1, h => by
    cases c : P k with
    | true => exact ⟨k, by omega, c⟩
    | false =>
      rw [cN_s, c] at h
      obtain ⟨i, a, b⟩ := cN_ex (N := k) (P := P) (by have h : 0 < cN P k + 0 := h; omega)
      exact ⟨i, by omega, b⟩
theorem cN_fr {P : Nat → Bool} : ∀ {N : Nat}, cN P N < N → ∃ i : Nat, i < N ∧ P i = false
  | 0, h => absurd h (by omega)
  | k + 1, h => by
    cases c : P k with
    | false => exact ⟨k, by omega, c⟩
    | true =>
      rw [cN_s, c] at h
      have h : cN P k + 1 < k + 1 := h
      obtain ⟨i, a, b⟩ := cN_fr (N := k) (P := P) (by omega)
      exact ⟨i, by omega, b⟩
/-- one place changed -/
theorem cN_u {P Q : Nat → Bool} {j : Nat} (h : ∀ i : Nat, i ≠ j → P i = Q i) : ∀ {N : Nat}, j < N → cN Q N + (P j).toNat = cN P N + (Q j).toNat
  | 0, hj => absurd hj (by omega)
  | k + 1, hj => by
    rw [cN_s, cN_s]
    by_cases c : j = k
    · rw [← c, cN_c (P := Q) (Q := P) (fun i hi => (h i (by omega)).symm)]
      omega
    · have := cN_u h (N := k) (by omega)
      rw [h k (by omega)]
      omega
/-- the first from k on, of m -/
def fN (P : Nat → Bool) : Nat → Nat → Nat
  | k, 0 => k
  | k, m + 1 => if P k = true then k else fN P (k + 1) m
theorem fN_s (P : Nat → Bool) (k m : Nat) : fN P k (m + 1) = if P k = true then k else fN P (k + 1) m := rfl
theorem fN_c {P Q : Nat → Bool} : ∀ (m k : Nat), (∀ i : Nat, k ≤ i → i < k + m → P i = Q i) → fN P k m = fN Q k m
  | 0, _, _ => rfl
  | m + 1, k, h => by rw [fN_s, fN_s, h k (by omega) (by omega), fN_c m (k + 1) (fun i a b => h i (by omega) (by omega))]
theorem fN_le (P : Nat → Bool) : ∀ (m k : Nat), k ≤ fN P k m ∧ fN P k m ≤ k + m ∧ (fN P k m < k + m → P (fN P k m) = true) ∧ ∀ i : Nat, k ≤ i → i < fN P k m → P i = false
  | 0, k => ⟨Nat.le_refl k, Nat.le_refl k, fun h => absurd h (Nat.lt_irrefl k), fun i a b => absurd b (by show ¬ i < k; omega)⟩
  | m + 1, k => by
    rw [fN_s]
    by_cases c : P k = true
    · rw [if_pos c]
      exact ⟨Nat.le_refl k, by omega, fun _ => c, fun i a b => by omega⟩
    · rw [if_neg c]
      obtain ⟨a, b, d, e⟩ := fN_le P m (k + 1)
      refine ⟨by omega, by omega, fun h => d (by omega), fun i x y => ?_⟩
      by_cases z : i = k
      · rw [z]; exact Bool.eq_false_iff.mpr c
      · exact e i (by omega) y
/-- it is the first -/
theorem fN_is {P : Nat → Bool} {k m j : Nat} (h1 : k ≤ j) (h2 : j < k + m) (h3 : P j = true) (h4 : ∀ i : Nat, k ≤ i → i < j → P i = false) : fN P k m = j := by
  obtain ⟨a, b, d, e⟩ := fN_le P m k
  by_cases c : fN P k m < j
  · have := d (by omega)
    rw [h4 _ a c] at this
    exact nomatch this
  · by_cases c2 : j < fN P k m
    · rw [e j h1 c2] at h3
      exact nomatch h3
    · omega
theorem fN_no {P : Nat → Bool} {k m : Nat} (h : ∀ i : Nat, k ≤ i → i < k + m → P i = false) : fN P k m = k + m := by
  obtain ⟨a, b, d, e⟩ := fN_le P m k
  by_cases c : fN P k m < k + m
  · have := d c
    rw [h _ a c] at this
    exact nomatch this
  · omega
/-- a loop that looks for the first -/
theorem nm_ls {R : Type} (F : Nat → Nat → Option R) (P : Nat → Bool) (a N n : Nat) (hn : N < n) (h : ∀ k m : Nat, a ≤ k → k < a + N → P k = false → F (m + 1) k = F m (k + 1)) : ∃ m : Nat, F n a = F (m + 1) (fN P a N) := by
  obtain ⟨x1, x2, x3, x4⟩ := fN_le P N a
  have g : ∀ j m : Nat, a + j ≤ fN P a N → F (m + j) a = F m (a + j) := by
    intro j
    induction j with
    | zero => intro m _; rfl
    | succ j ih =>
      intro m hj
      rw [show m + (j + 1) = (m + 1) + j from by omega, ih (m + 1) (by omega), h (a + j) m (by omega) (by omega) (x4 _ (by omega) (by omega))]
      rfl
  refine ⟨n - (fN P a N - a) - 1, ?_⟩
  have := g (fN P a N - a) (n - (fN P a N - a) - 1 + 1) (by omega)
  rw [show n - (fN P a N - a) - 1 + 1 + (fN P a N - a) = n from by omega, show a + (fN P a N - a) = fN P a N from by omega] at this
  exact this
theorem nm_IL (σ : St) (k j : Nat) (v : Int64) : sI (pL σ k v) j = sI σ j := rfl
theorem nm_IQ (σ : St) (k j : Nat) (v : Nat → Int64) : sI (pQ σ k v) j = sI σ j := rfl
theorem nm_RL (σ : St) (k j : Nat) (v : Int64) : sR (pL σ k v) j = sR σ j := rfl
theorem nm_RQ (σ : St) (k j : Nat) (v : Nat → Int64) : sR (pQ σ k v) j = sR σ j := rfl
theorem nm_LI (σ : St) (k j : Nat) (v : Int32) : sL (pI σ k v) j = sL σ j := rfl
theorem nm_LR (σ : St) (k j : Nat) (v : Nat → Int32) : sL (pR σ k v) j = sL σ j := rfl
theorem nm_LL (σ : St) (k j : Nat) (v : Int64) : sL (pL σ k v) j = if j = k then v else sL σ j := rfl
theorem nm_LQ (σ : St) (k j : Nat) (v : Nat → Int64) : sL (pQ σ k v) j = sL σ j := rfl
theorem nm_QI (σ : St) (k j : Nat) (v : Int32) : sQ (pI σ k v) j = sQ σ j := rfl
theorem nm_QR (σ : St) (k j : Nat) (v : Nat → Int32) : sQ (pR σ k v) j = sQ σ j := rfl
theorem nm_QL (σ : St) (k j : Nat) (v : Int64) : sQ (pL σ k v) j = sQ σ j := rfl
theorem nm_QQ (σ : St) (k j : Nat) (v : Nat → Int64) : sQ (pQ σ k v) j = if j = k then v else sQ σ j := rfl
theorem nm_rr (σ : St) (k : Nat) (f g : Nat → Int32) : pR (pR σ k f) k g = pR σ k g := by
  unfold pR
  congr 3
  funext j
  dsimp only
  by_cases c : j = k
  · rw [if_pos c, if_pos c]
  · rw [if_neg c, if_neg c, if_neg c]
theorem nm_ii (σ : St) (k : Nat) (f g : Int32) : pI (pI σ k f) k g = pI σ k g := by
  unfold pI
  congr 1
  funext j
  dsimp only
  by_cases c : j = k
  · rw [if_pos c, if_pos c]
  · rw [if_neg c, if_neg c, if_neg c]
theorem nm_r0 (σ : St) (k : Nat) : pR σ k (sR σ k) = σ := by
  unfold pR sR
  obtain ⟨a, b, c, d⟩ := σ
  dsimp only
  congr 3
  funext j
  by_cases z : j = k
  · rw [if_pos z, z]
  · rw [if_neg z]
theorem nm_i0 (σ : St) (k : Nat) : pI σ k (sI σ k) = σ := by
  unfold pI sI
  obtain ⟨a, b⟩ := σ
  dsimp only
  congr 1
  funext j
  by_cases z : j = k
  · rw [if_pos z, z]
  · rw [if_neg z]
theorem nm_nle0 {k : Nat} (h : k < 2 ^ 31) : nI k ≤ nI 0 ↔ k = 0 := by rw [nI_leI h (by omega)]; omega
theorem nm_eqm {k : Nat} (h : k < 2 ^ 31) : nI k = -nI 1 ↔ False := ⟨fun z => absurd (congrArg Int32.toInt z) (by rw [nI_toInt h, show (-nI 1 : Int32).toInt = -1 from by decide]; omega), False.elim⟩
theorem nm_ltm : (-nI 1 : Int32) < nI 0 ↔ True := by decide
theorem nm_m1 {k : Nat} (h : k < 2 ^ 32) : nI k &&& nI 1 = nI (k % 2) := pk_andN h 1 (by decide)
theorem nm_m3 {k : Nat} (h : k < 2 ^ 32) : nI k &&& nI 3 = nI (k % 4) := pk_andN h 2 (by decide)
theorem nm_m7 {k : Nat} (h : k < 2 ^ 32) : nI k &&& nI 7 = nI (k % 8) := pk_andN h 3 (by decide)
theorem nm_m15 {k : Nat} (h : k < 2 ^ 32) : nI k &&& nI 15 = nI (k % 16) := pk_andN h 4 (by decide)
theorem nm_m31 {k : Nat} (h : k < 2 ^ 32) : nI k &&& nI 31 = nI (k % 32) := pk_andN h 5 (by decide)
theorem nm_m63 {k : Nat} (h : k < 2 ^ 32) : nI k &&& nI 63 = nI (k % 64) := pk_andN h 6 (by decide)
theorem nm_m255 {k : Nat} (h : k < 2 ^ 32) : nI k &&& nI 255 = nI (k % 256) := pk_andN h 8 (by decide)
theorem nm_m511 {k : Nat} (h : k < 2 ^ 32) : nI k &&& nI 511 = nI (k % 512) := pk_andN h 9 (by decide)
theorem nm_m1023 {k : Nat} (h : k < 2 ^ 32) : nI k &&& nI 1023 = nI (k % 1024) := pk_andN h 10 (by decide)
theorem nm_m2047 {k : Nat} (h : k < 2 ^ 32) : nI k &&& nI 2047 = nI (k % 2048) := pk_andN h 11 (by decide)
theorem nm_m65535 {k : Nat} (h : k < 2 ^ 32) : nI k &&& nI 65535 = nI (k % 65536) := pk_andN h 16 (by decide)
theorem nm_sh : ∀ s : Nat, s < 32 → ((nI s).toBitVec.smod 32).toNat = s := by decide
theorem nm_su : ∀ s : Nat, s < 32 → (((nI s).toUInt32 &&& Int32.toUInt32 (nI 31)).toBitVec % 32).toNat = s := by decide
theorem nm_shl {a s : Nat} (hs : s < 32) (h : a * 2 ^ s < 2 ^ 32) : nI a <<< nI s = nI (a * 2 ^ s) := pk_shlN (nI s) s (nm_sh s hs) h
theorem nm_shr {a s : Nat} (h : a < 2 ^ 31) (hs : s < 32) : nI a >>> nI s = nI (a / 2 ^ s) := pk_shrN h (nI s) s (nm_sh s hs)
theorem nm_ush {a s : Nat} (h : a < 2 ^ 32) (hs : s < 32) : ((nI a).toUInt32 >>> ((nI s).toUInt32 &&& Int32.toUInt32 (nI 31))).toInt32 = nI (a / 2 ^ s) := pk_ushrN h (nI s) s (nm_su s hs)
theorem nm_orG (s : Nat) {a b : Nat} (hb : b < 2 ^ s) (h : a * 2 ^ s + b < 2 ^ 32) : nI (a * 2 ^ s) ||| nI b = nI (a * 2 ^ s + b) := by
  apply Int32.toBitVec_inj.mp
  apply BitVec.eq_of_toNat_eq
  rw [Int32.toBitVec_or, BitVec.toNat_or, pk_tn (by omega), pk_tn (by omega), pk_tn (by omega)]
  rw [show a * 2 ^ s = a <<< s from by rw [Nat.shiftLeft_eq], ← Nat.shiftLeft_add_eq_or_of_lt hb]
theorem nm_or8 {a b : Nat} (hb : b < 8) (h : a * 8 + b < 2 ^ 32) : nI (a * 8) ||| nI b = nI (a * 8 + b) := nm_orG 3 hb h
theorem nm_or64 {a b : Nat} (hb : b < 64) (h : a * 64 + b < 2 ^ 32) : nI (a * 64) ||| nI b = nI (a * 64 + b) := nm_orG 6 hb h
theorem nm_or256 {a b : Nat} (hb : b < 256) (h : a * 256 + b < 2 ^ 32) : nI (a * 256) ||| nI b = nI (a * 256 + b) := nm_orG 8 hb h
/-- division of a number that is not below 0 -/
theorem nm_div {a d : Nat} (ha : a < 2 ^ 31) (h0 : 0 < d) (hd : d < 2 ^ 31) : nI a / nI d = nI (a / d) := pk_div ha h0 hd
theorem nm_eqz (a : Nat) (h : a < 2 ^ 31) (h0 : 0 < a) : nI a = nI 0 ↔ False := ⟨fun z => nI_ne0 h0 h z, False.elim⟩
theorem nm_bo : vp_nar .boolean (nI 0) = nI 0 := by decide
theorem nm_bi : vp_nar .boolean (nI 1) = nI 1 := by decide
theorem nm_us {f : Nat → Int32} {i : Nat} {v : Int32} : upd f i v i = v := if_pos rfl
theorem nm_un {f : Nat → Int32} {i j : Nat} {v : Int32} (h : j ≠ i) : upd f i v j = f j := if_neg h
theorem nm_dt {p : Prop} {i : Decidable p} (h : p) : (@decide p i).toNat = 1 := by rw [decide_eq_true h]; rfl
theorem nm_df {p : Prop} {i : Decidable p} (h : ¬ p) : (@decide p i).toNat = 0 := by rw [decide_eq_false h]; rfl
theorem nm_rc {σ : St} {a b : Nat} {f g : Nat → Int32} (h : b < a) : pR (pR σ a f) b g = pR (pR σ b g) a f := by
  unfold pR
  congr 3
  funext j
  dsimp only
  by_cases c : j = a
  · rw [if_neg (by omega), if_pos c, if_pos c]
  · rw [if_neg c, if_neg c]
theorem nm_ic {σ : St} {a b : Nat} {f g : Int32} (h : b < a) : pI (pI σ a f) b g = pI (pI σ b g) a f := by
  unfold pI
  congr 1
  funext j
  dsimp only
  by_cases c : j = a
  · rw [if_neg (by omega), if_pos c, if_pos c]
  · rw [if_neg c, if_neg c]
theorem nm_ri (σ : St) (a b : Nat) (v : Int32) (g : Nat → Int32) : pR (pI σ a v) b g = pI (pR σ b g) a v := rfl
theorem nm_rl (σ : St) (a b : Nat) (v : Int64) (g : Nat → Int32) : pR (pL σ a v) b g = pL (pR σ b g) a v := rfl
theorem nm_rq (σ : St) (a b : Nat) (v : Nat → Int64) (g : Nat → Int32) : pR (pQ σ a v) b g = pQ (pR σ b g) a v := rfl
theorem nm_ql (σ : St) (a b : Nat) (v : Int64) (g : Nat → Int64) : pQ (pL σ a v) b g = pL (pQ σ b g) a v := rfl
theorem nm_qi (σ : St) (a b : Nat) (v : Int32) (g : Nat → Int64) : pQ (pI σ a v) b g = pI (pQ σ b g) a v := rfl
theorem nm_li (σ : St) (a b : Nat) (v : Int32) (g : Int64) : pL (pI σ a v) b g = pI (pL σ b g) a v := rfl
theorem nm_uu (f : Nat → Int32) (i : Nat) (a b : Int32) : upd (upd f i a) i b = upd f i b := by
  funext j
  by_cases c : j = i
  · rw [c, nm_us, nm_us]
  · rw [nm_un c, nm_un c, nm_un c]
theorem nm_u0 (f : Nat → Int32) (i : Nat) : upd f i (f i) = f := by
  funext j
  by_cases c : j = i
  · rw [c, nm_us]
  · rw [nm_un c]
/-- two loops side by side -/
theorem nm_l2 {S T R Q : Type} (F : Nat → Nat → S → Option R) (G : Nat → Nat → T → Option Q) (I : Nat → S → T → Prop) (N n : Nat) (hn : N < n) (h : ∀ (k m : Nat) (s : S) (t : T), k < N → I k s t → ∃ (s' : S) (t' : T), I (k + 1) s' t' ∧ F (m + 1) k s = F m (k + 1) s' ∧ G (m + 1) k t = G m (k + 1) t') (s : S) (t : T) (h0 : I 0 s t) : ∃ (m : Nat) (s' : S) (t' : T), I N s' t' ∧ F n 0 s = F (m + 1) N s' ∧ G n 0 t = G (m + 1) N t' := by
  have g : ∀ j m : Nat, j ≤ N → ∃ (s' : S) (t' : T), I j s' t' ∧ F (m + j) 0 s = F m j s' ∧ G (m + j) 0 t = G m j t' := by
    intro j
    induction j with
    | zero => intro m _; exact ⟨s, t, h0, rfl, rfl⟩
    | succ j ih =>
      intro m hj
      obtain ⟨s1, t1, i1, e1, f1⟩ := ih (m + 1) (by omega)
      obtain ⟨s2, t2, i2, e2, f2⟩ := h j m s1 t1 (by omega) i1
      exact ⟨s2, t2, i2, by rw [show m + (j + 1) = (m + 1) + j from by omega, e1, e2], by rw [show m + (j + 1) = (m + 1) + j from by omega, f1, f2]⟩
  obtain ⟨s', t', i', e', f'⟩ := g N (n - N - 1 + 1) (Nat.le_refl N)
  exact ⟨n - N - 1, s', t', i', by rw [← e', show n - N - 1 + 1 + N = n from by omega], by rw [← f', show n - N - 1 + 1 + N = n from by omega]⟩
/-- a loop of one side -/
theorem nm_l1 {S R : Type} (F : Nat → Nat → S → Option R) (I : Nat → S → Prop) (N n : Nat) (hn : N < n) (h : ∀ (k m : Nat) (s : S), k < N → I k s → ∃ s' : S, I (k + 1) s' ∧ F (m + 1) k s = F m (k + 1) s') (s : S) (h0 : I 0 s) : ∃ (m : Nat) (s' : S), I N s' ∧ F n 0 s = F (m + 1) N s' := by
  obtain ⟨m, s', t', i, e, f⟩ := nm_l2 F (fun _ _ _ => (none : Option Unit)) (fun k s (_ : Unit) => I k s) N n hn (fun k m s t hk hi => by
    obtain ⟨s', i', e'⟩ := h k m s hk hi
    exact ⟨s', t, i', e', rfl⟩) s () h0
  exact ⟨m, s', i, e⟩
/-- a loop that may end early -/
theorem nm_le {S R : Type} (F : Nat → Nat → S → Option R) (I : Nat → S → Prop) (D : Option R → Prop) (N n : Nat) (hn : N < n) (h : ∀ (k m : Nat) (s : S), k < N → I k s → D (F (m + 1) k s) ∨ ∃ s' : S, I (k + 1) s' ∧ F (m + 1) k s = F m (k + 1) s') (h1 : ∀ (m : Nat) (s : S), I N s → D (F (m + 1) N s)) (s : S) (h0 : I 0 s) : D (F n 0 s) := by
  have g : ∀ j m k : Nat, ∀ s : S, k + j = N → I k s → D (F (m + 1 + j) k s) := by
    intro j
    induction j with
    | zero => intro m k s hk hi; have hk : k = N := hk; subst hk; exact h1 m s hi
    | succ j ih =>
      intro m k s hk hi
      rcases h k (m + 1 + j) s (by omega) hi with d | ⟨s', i', e'⟩
      · exact d
      · rw [show m + 1 + (j + 1) = m + 1 + j + 1 from by omega, e']
        exact ih m (k + 1) s' (by omega) i'
  have := g N (n - N - 1) 0 s (by omega) h0
  rw [show n - N - 1 + 1 + N = n from by omega] at this
  exact this
theorem nm_cp {α : Type} {a b c n0 n1 : Nat} {x : Option α} (h0 : a + c ≤ n0) (h1 : b + c ≤ n1) (g0 : n0 < 2 ^ 31) (g1 : n1 < 2 ^ 31) : nd_cp (nI a) (nI b) (nI c) n0 n1 x = x := by
  refine if_pos ⟨nI_pos (by omega), nI_pos (by omega), nI_pos (by omega), ?_, ?_⟩
  · rw [nI_clamp (by omega), nI_clamp (by omega)]; exact h0
  · rw [nI_clamp (by omega), nI_clamp (by omega)]; exact h1
theorem nm_ltI1 {α : Type} {x y : α} {k : Nat} (h : k < 2 ^ 31) (g : ¬ k < 1) : (if nI k < nI 1 then x else y) = y := if_neg (by rw [nI_ltI h (by omega)]; exact g)
theorem cN_1 {P : Nat → Bool} {N : Nat} (h : ∀ i : Nat, i < N → P i = true) : cN P N = N := by
  induction N with
  | zero => rfl
  | succ k ih => rw [cN_s, ih (fun i hi => h i (by omega)), h k (by omega)]; rfl
theorem nm_sk (k : Nat) {a s : Nat} (h : a < 2 ^ 32) (hs : s + k ≤ 32) (h31 : s < 32) : (nI a >>> nI s) &&& nI (2 ^ k - 1) = nI (a / 2 ^ s % 2 ^ k) := by
  apply Int32.toBitVec_inj.mp
  apply BitVec.eq_of_getLsbD_eq
  intro i hi
  rw [Int32.toBitVec_and, BitVec.getLsbD_and, Int32.toBitVec_shiftRight, BitVec.sshiftRight_eq', nm_sh s h31, BitVec.getLsbD_sshiftRight]
  show ((!decide (32 ≤ i) && if s + i < 32 then (BitVec.ofNat 32 a).getLsbD (s + i) else (BitVec.ofNat 32 a).msb) && (BitVec.ofNat 32 (2 ^ k - 1)).getLsbD i) = (BitVec.ofNat 32 (a / 2 ^ s % 2 ^ k)).getLsbD i
  rw [BitVec.getLsbD_ofNat, BitVec.getLsbD_ofNat, BitVec.getLsbD_ofNat, decide_eq_true hi, decide_eq_false (show ¬ 32 ≤ i by omega), Bool.true_and, Bool.true_and, Bool.not_false, Bool.true_and, Nat.testBit_two_pow_sub_one, Nat.testBit_mod_two_pow, Nat.testBit_div_two_pow]
  by_cases c : i < k
  · rw [if_pos (show s + i < 32 by omega), decide_eq_true c, decide_eq_true (show s + i < 32 by omega), Bool.true_and, Bool.and_true, Bool.true_and, Nat.add_comm s i]
  · rw [decide_eq_false c, Bool.and_false, Bool.false_and]
theorem nm_sa31 {a s : Nat} (h : a < 2 ^ 32) (hs : s + 5 ≤ 32) : (nI a >>> nI s) &&& nI 31 = nI (a / 2 ^ s % 32) := nm_sk 5 h hs (by omega)
theorem nm_sa7 {a s : Nat} (h : a < 2 ^ 32) (hs : s + 3 ≤ 32) : (nI a >>> nI s) &&& nI 7 = nI (a / 2 ^ s % 8) := nm_sk 3 h hs (by omega)
theorem nm_m127 {k : Nat} (h : k < 2 ^ 32) : nI k &&& nI 127 = nI (k % 128) := pk_andN h 7 (by decide)
theorem nm_m2 {k : Nat} (h : k < 2 ^ 32) : nI k &&& nI 2 = nI (k / 2 % 2 * 2) := by
  apply Int32.toBitVec_inj.mp
  apply BitVec.eq_of_toNat_eq
  rw [Int32.toBitVec_and, BitVec.toNat_and, pk_tn h, pk_tn (by omega), pk_tn (by omega)]
  apply Nat.eq_of_testBit_eq
  intro i
  rw [Nat.testBit_and, show (2 : Nat) = 2 ^ 1 from rfl, Nat.testBit_two_pow, show k / 2 ^ 1 % 2 ^ 1 * 2 ^ 1 = 2 ^ 1 * (k / 2 ^ 1 % 2 ^ 1) from Nat.mul_comm _ _, Nat.testBit_two_pow_mul, Nat.testBit_mod_two_pow, Nat.testBit_div_two_pow]
  by_cases c : 1 = i
  · subst c
    show (k.testBit 1 && true) = (true && (true && k.testBit 1))
    rw [Bool.and_true, Bool.true_and, Bool.true_and]
  · rw [decide_eq_false c, Bool.and_false]
    by_cases d : i ≥ 1
    · rw [decide_eq_true d, decide_eq_false (show ¬ i - 1 < 1 by omega)]; rfl
    · rw [decide_eq_false d]; rfl
theorem nm_nz {α : Type} {x : Option α} {k : Nat} (h : 0 < k) (h2 : k < 2 ^ 31) : nd_nz (decide (nI k = nI 0)) x = x := if_neg (by rw [decide_eq_false (show ¬ nI k = nI 0 from nI_ne0 h h2)]; exact Bool.false_ne_true)
theorem nm_nzk {α : Type} {x : Option α} {k : Nat} {i : Decidable (k = 0)} (h : 0 < k) : nd_nz (@decide (k = 0) i) x = x := if_neg (by rw [decide_eq_false (by omega)]; exact Bool.false_ne_true)
theorem nm_eq32 {a b : Nat} (ha : a < 2 ^ 32) (hb : b < 2 ^ 32) : nI a = nI b ↔ a = b := ⟨fun z => by
  have z := congrArg (fun y => y.toBitVec.toNat) z
  have z : (nI a).toBitVec.toNat = (nI b).toBitVec.toNat := z
  rw [pk_tn ha, pk_tn hb] at z
  exact z, fun z => by rw [z]⟩
theorem nm_nzf {α : Type} {x : Option α} {i : Decidable False} : nd_nz (@decide False i) x = x := if_neg (by rw [decide_eq_false (fun z => z)]; exact Bool.false_ne_true)
theorem nl_0 : (0 : Int32) = nI 0 := rfl
theorem nl_1 : (1 : Int32) = nI 1 := rfl
theorem nl_2 : (2 : Int32) = nI 2 := rfl
theorem nl_3 : (3 : Int32) = nI 3 := rfl
theorem nl_4 : (4 : Int32) = nI 4 := rfl
theorem nl_5 : (5 : Int32) = nI 5 := rfl
theorem nl_6 : (6 : Int32) = nI 6 := rfl
theorem nl_7 : (7 : Int32) = nI 7 := rfl
theorem nl_8 : (8 : Int32) = nI 8 := rfl
theorem nl_9 : (9 : Int32) = nI 9 := rfl
theorem nl_10 : (10 : Int32) = nI 10 := rfl
theorem nl_11 : (11 : Int32) = nI 11 := rfl
theorem nl_12 : (12 : Int32) = nI 12 := rfl
theorem nl_13 : (13 : Int32) = nI 13 := rfl
theorem nl_14 : (14 : Int32) = nI 14 := rfl
theorem nl_15 : (15 : Int32) = nI 15 := rfl
theorem nl_16 : (16 : Int32) = nI 16 := rfl
theorem nl_17 : (17 : Int32) = nI 17 := rfl
theorem nl_18 : (18 : Int32) = nI 18 := rfl
theorem nl_19 : (19 : Int32) = nI 19 := rfl
theorem nl_20 : (20 : Int32) = nI 20 := rfl
theorem nl_21 : (21 : Int32) = nI 21 := rfl
theorem nl_22 : (22 : Int32) = nI 22 := rfl
theorem nl_23 : (23 : Int32) = nI 23 := rfl
theorem nl_24 : (24 : Int32) = nI 24 := rfl
theorem nl_25 : (25 : Int32) = nI 25 := rfl
theorem nl_26 : (26 : Int32) = nI 26 := rfl
theorem nl_27 : (27 : Int32) = nI 27 := rfl
theorem nl_28 : (28 : Int32) = nI 28 := rfl
theorem nl_29 : (29 : Int32) = nI 29 := rfl
theorem nl_30 : (30 : Int32) = nI 30 := rfl
theorem nl_31 : (31 : Int32) = nI 31 := rfl
theorem nl_32 : (32 : Int32) = nI 32 := rfl
theorem nl_33 : (33 : Int32) = nI 33 := rfl
theorem nl_34 : (34 : Int32) = nI 34 := rfl
theorem nl_35 : (35 : Int32) = nI 35 := rfl
theorem nl_36 : (36 : Int32) = nI 36 := rfl
theorem nl_37 : (37 : Int32) = nI 37 := rfl
theorem nl_38 : (38 : Int32) = nI 38 := rfl
theorem nl_39 : (39 : Int32) = nI 39 := rfl
theorem nl_40 : (40 : Int32) = nI 40 := rfl
theorem nl_41 : (41 : Int32) = nI 41 := rfl
theorem nl_42 : (42 : Int32) = nI 42 := rfl
theorem nl_43 : (43 : Int32) = nI 43 := rfl
theorem nl_44 : (44 : Int32) = nI 44 := rfl
theorem nl_45 : (45 : Int32) = nI 45 := rfl
theorem nl_46 : (46 : Int32) = nI 46 := rfl
theorem nl_47 : (47 : Int32) = nI 47 := rfl
theorem nl_48 : (48 : Int32) = nI 48 := rfl
theorem nl_49 : (49 : Int32) = nI 49 := rfl
theorem nl_50 : (50 : Int32) = nI 50 := rfl
theorem nl_51 : (51 : Int32) = nI 51 := rfl
theorem nl_52 : (52 : Int32) = nI 52 := rfl
theorem nl_53 : (53 : Int32) = nI 53 := rfl
theorem nl_54 : (54 : Int32) = nI 54 := rfl
theorem nl_55 : (55 : Int32) = nI 55 := rfl
theorem nl_56 : (56 : Int32) = nI 56 := rfl
theorem nl_57 : (57 : Int32) = nI 57 := rfl
theorem nl_58 : (58 : Int32) = nI 58 := rfl
theorem nl_59 : (59 : Int32) = nI 59 := rfl
theorem nl_60 : (60 : Int32) = nI 60 := rfl
theorem nl_61 : (61 : Int32) = nI 61 := rfl
theorem nl_62 : (62 : Int32) = nI 62 := rfl
theorem nl_63 : (63 : Int32) = nI 63 := rfl
theorem nl_64 : (64 : Int32) = nI 64 := rfl
theorem nl_65 : (65 : Int32) = nI 65 := rfl
theorem nl_70 : (70 : Int32) = nI 70 := rfl
theorem nl_72 : (72 : Int32) = nI 72 := rfl
theorem nl_73 : (73 : Int32) = nI 73 := rfl
theorem nl_74 : (74 : Int32) = nI 74 := rfl
theorem nl_75 : (75 : Int32) = nI 75 := rfl
theorem nl_76 : (76 : Int32) = nI 76 := rfl
theorem nl_77 : (77 : Int32) = nI 77 := rfl
theorem nl_78 : (78 : Int32) = nI 78 := rfl
theorem nl_79 : (79 : Int32) = nI 79 := rfl
theorem nl_80 : (80 : Int32) = nI 80 := rfl
theorem nl_81 : (81 : Int32) = nI 81 := rfl
theorem nl_82 : (82 : Int32) = nI 82 := rfl
theorem nl_83 : (83 : Int32) = nI 83 := rfl
theorem nl_84 : (84 : Int32) = nI 84 := rfl
theorem nl_85 : (85 : Int32) = nI 85 := rfl
theorem nl_86 : (86 : Int32) = nI 86 := rfl
theorem nl_87 : (87 : Int32) = nI 87 := rfl
theorem nl_88 : (88 : Int32) = nI 88 := rfl
theorem nl_89 : (89 : Int32) = nI 89 := rfl
theorem nl_90 : (90 : Int32) = nI 90 := rfl
theorem nl_91 : (91 : Int32) = nI 91 := rfl
theorem nl_92 : (92 : Int32) = nI 92 := rfl
theorem nl_93 : (93 : Int32) = nI 93 := rfl
theorem nl_94 : (94 : Int32) = nI 94 := rfl
theorem nl_95 : (95 : Int32) = nI 95 := rfl
theorem nl_96 : (96 : Int32) = nI 96 := rfl
theorem nl_97 : (97 : Int32) = nI 97 := rfl
theorem nl_98 : (98 : Int32) = nI 98 := rfl
theorem nl_99 : (99 : Int32) = nI 99 := rfl
theorem nl_100 : (100 : Int32) = nI 100 := rfl
theorem nl_101 : (101 : Int32) = nI 101 := rfl
theorem nl_102 : (102 : Int32) = nI 102 := rfl
theorem nl_103 : (103 : Int32) = nI 103 := rfl
theorem nl_104 : (104 : Int32) = nI 104 := rfl
theorem nl_105 : (105 : Int32) = nI 105 := rfl
theorem nl_106 : (106 : Int32) = nI 106 := rfl
theorem nl_107 : (107 : Int32) = nI 107 := rfl
theorem nl_108 : (108 : Int32) = nI 108 := rfl
theorem nl_109 : (109 : Int32) = nI 109 := rfl
theorem nl_110 : (110 : Int32) = nI 110 := rfl
theorem nl_111 : (111 : Int32) = nI 111 := rfl
theorem nl_112 : (112 : Int32) = nI 112 := rfl
theorem nl_113 : (113 : Int32) = nI 113 := rfl
theorem nl_114 : (114 : Int32) = nI 114 := rfl
theorem nl_115 : (115 : Int32) = nI 115 := rfl
theorem nl_116 : (116 : Int32) = nI 116 := rfl
theorem nl_117 : (117 : Int32) = nI 117 := rfl
theorem nl_118 : (118 : Int32) = nI 118 := rfl
theorem nl_119 : (119 : Int32) = nI 119 := rfl
theorem nl_120 : (120 : Int32) = nI 120 := rfl
theorem nl_121 : (121 : Int32) = nI 121 := rfl
theorem nl_122 : (122 : Int32) = nI 122 := rfl
theorem nl_124 : (124 : Int32) = nI 124 := rfl
theorem nl_126 : (126 : Int32) = nI 126 := rfl
theorem nl_127 : (127 : Int32) = nI 127 := rfl
theorem nl_128 : (128 : Int32) = nI 128 := rfl
theorem nl_130 : (130 : Int32) = nI 130 := rfl
theorem nl_160 : (160 : Int32) = nI 160 := rfl
theorem nl_190 : (190 : Int32) = nI 190 := rfl
theorem nl_192 : (192 : Int32) = nI 192 := rfl
theorem nl_240 : (240 : Int32) = nI 240 := rfl
theorem nl_252 : (252 : Int32) = nI 252 := rfl
theorem nl_254 : (254 : Int32) = nI 254 := rfl
theorem nl_255 : (255 : Int32) = nI 255 := rfl
theorem nl_256 : (256 : Int32) = nI 256 := rfl
theorem nl_257 : (257 : Int32) = nI 257 := rfl
theorem nl_384 : (384 : Int32) = nI 384 := rfl
theorem nl_496 : (496 : Int32) = nI 496 := rfl
theorem nl_511 : (511 : Int32) = nI 511 := rfl
theorem nl_512 : (512 : Int32) = nI 512 := rfl
theorem nl_528 : (528 : Int32) = nI 528 := rfl
theorem nl_584 : (584 : Int32) = nI 584 := rfl
theorem nl_768 : (768 : Int32) = nI 768 := rfl
theorem nl_960 : (960 : Int32) = nI 960 := rfl
theorem nl_972 : (972 : Int32) = nI 972 := rfl
theorem nl_1020 : (1020 : Int32) = nI 1020 := rfl
theorem nl_1023 : (1023 : Int32) = nI 1023 := rfl
theorem nl_1024 : (1024 : Int32) = nI 1024 := rfl
theorem nl_1030 : (1030 : Int32) = nI 1030 := rfl
theorem nl_1031 : (1031 : Int32) = nI 1031 := rfl
theorem nl_1043 : (1043 : Int32) = nI 1043 := rfl
theorem nl_1044 : (1044 : Int32) = nI 1044 := rfl
theorem nl_2000 : (2000 : Int32) = nI 2000 := rfl
theorem nl_2016 : (2016 : Int32) = nI 2016 := rfl
theorem nl_2046 : (2046 : Int32) = nI 2046 := rfl
theorem nl_2047 : (2047 : Int32) = nI 2047 := rfl
theorem nl_2048 : (2048 : Int32) = nI 2048 := rfl
theorem nl_2049 : (2049 : Int32) = nI 2049 := rfl
theorem nl_3072 : (3072 : Int32) = nI 3072 := rfl
theorem nl_3073 : (3073 : Int32) = nI 3073 := rfl
theorem nl_3074 : (3074 : Int32) = nI 3074 := rfl
theorem nl_3200 : (3200 : Int32) = nI 3200 := rfl
theorem nl_3201 : (3201 : Int32) = nI 3201 := rfl
theorem nl_3202 : (3202 : Int32) = nI 3202 := rfl
theorem nl_4094 : (4094 : Int32) = nI 4094 := rfl
theorem nl_4096 : (4096 : Int32) = nI 4096 := rfl
theorem nl_4111 : (4111 : Int32) = nI 4111 := rfl
theorem nl_8192 : (8192 : Int32) = nI 8192 := rfl
theorem nl_8193 : (8193 : Int32) = nI 8193 := rfl
theorem nl_8194 : (8194 : Int32) = nI 8194 := rfl
theorem nl_10986 : (10986 : Int32) = nI 10986 := rfl
theorem nl_11000 : (11000 : Int32) = nI 11000 := rfl
theorem nl_16384 : (16384 : Int32) = nI 16384 := rfl
theorem nl_16385 : (16385 : Int32) = nI 16385 := rfl
theorem nl_16500 : (16500 : Int32) = nI 16500 := rfl
theorem nl_24576 : (24576 : Int32) = nI 24576 := rfl
theorem nl_25196 : (25196 : Int32) = nI 25196 := rfl
theorem nl_25203 : (25203 : Int32) = nI 25203 := rfl
theorem nl_25456 : (25456 : Int32) = nI 25456 := rfl
theorem nl_25459 : (25459 : Int32) = nI 25459 := rfl
theorem nl_25714 : (25714 : Int32) = nI 25714 := rfl
theorem nl_26732 : (26732 : Int32) = nI 26732 := rfl
theorem nl_26739 : (26739 : Int32) = nI 26739 := rfl
theorem nl_28272 : (28272 : Int32) = nI 28272 := rfl
theorem nl_28672 : (28672 : Int32) = nI 28672 := rfl
theorem nl_28787 : (28787 : Int32) = nI 28787 := rfl
theorem nl_29292 : (29292 : Int32) = nI 29292 := rfl
theorem nl_29295 : (29295 : Int32) = nI 29295 := rfl
theorem nl_30510 : (30510 : Int32) = nI 30510 := rfl
theorem nl_30572 : (30572 : Int32) = nI 30572 := rfl
theorem nl_30579 : (30579 : Int32) = nI 30579 := rfl
theorem nl_32768 : (32768 : Int32) = nI 32768 := rfl
theorem nl_32772 : (32772 : Int32) = nI 32772 := rfl
theorem nl_32800 : (32800 : Int32) = nI 32800 := rfl
theorem nl_32832 : (32832 : Int32) = nI 32832 := rfl
theorem nl_40961 : (40961 : Int32) = nI 40961 := rfl
theorem nl_49153 : (49153 : Int32) = nI 49153 := rfl
theorem nl_60000 : (60000 : Int32) = nI 60000 := rfl
theorem nl_60416 : (60416 : Int32) = nI 60416 := rfl
theorem nl_65535 : (65535 : Int32) = nI 65535 := rfl
theorem nl_65536 : (65536 : Int32) = nI 65536 := rfl
theorem nl_65552 : (65552 : Int32) = nI 65552 := rfl
theorem nl_81925 : (81925 : Int32) = nI 81925 := rfl
theorem nl_131071 : (131071 : Int32) = nI 131071 := rfl
theorem nl_131072 : (131072 : Int32) = nI 131072 := rfl
theorem nl_262144 : (262144 : Int32) = nI 262144 := rfl
theorem nl_1044480 : (1044480 : Int32) = nI 1044480 := rfl
theorem nl_1048574 : (1048574 : Int32) = nI 1048574 := rfl
theorem nl_1048575 : (1048575 : Int32) = nI 1048575 := rfl
theorem nl_1048576 : (1048576 : Int32) = nI 1048576 := rfl
theorem nl_1048691 : (1048691 : Int32) = nI 1048691 := rfl
theorem nl_4006234 : (4006234 : Int32) = nI 4006234 := rfl
theorem nl_6386291 : (6386291 : Int32) = nI 6386291 := rfl
theorem nl_6452595 : (6452595 : Int32) = nI 6452595 := rfl
theorem nl_6579297 : (6579297 : Int32) = nI 6579297 := rfl
theorem nl_6580592 : (6580592 : Int32) = nI 6580592 := rfl
theorem nl_6581359 : (6581359 : Int32) = nI 6581359 := rfl
theorem nl_6581857 : (6581857 : Int32) = nI 6581857 := rfl
theorem nl_6645602 : (6645602 : Int32) = nI 6645602 := rfl
theorem nl_6647394 : (6647394 : Int32) = nI 6647394 := rfl
theorem nl_6910575 : (6910575 : Int32) = nI 6910575 := rfl
theorem nl_6911340 : (6911340 : Int32) = nI 6911340 := rfl
theorem nl_6958691 : (6958691 : Int32) = nI 6958691 := rfl
theorem nl_7102826 : (7102826 : Int32) = nI 7102826 := rfl
theorem nl_7105651 : (7105651 : Int32) = nI 7105651 := rfl
theorem nl_7107118 : (7107118 : Int32) = nI 7107118 := rfl
theorem nl_7107187 : (7107187 : Int32) = nI 7107187 := rfl
theorem nl_7107949 : (7107949 : Int32) = nI 7107949 := rfl
theorem nl_7169394 : (7169394 : Int32) = nI 7169394 := rfl
theorem nl_7235949 : (7235949 : Int32) = nI 7235949 := rfl
theorem nl_7302497 : (7302497 : Int32) = nI 7302497 := rfl
theorem nl_7430446 : (7430446 : Int32) = nI 7430446 := rfl
theorem nl_7431522 : (7431522 : Int32) = nI 7431522 := rfl
theorem nl_7499640 : (7499640 : Int32) = nI 7499640 := rfl
theorem nl_7629922 : (7629922 : Int32) = nI 7629922 := rfl
theorem nl_7629939 : (7629939 : Int32) = nI 7629939 := rfl
theorem nl_7692908 : (7692908 : Int32) = nI 7692908 := rfl
theorem nl_7694444 : (7694444 : Int32) = nI 7694444 := rfl
theorem nl_7760228 : (7760228 : Int32) = nI 7760228 := rfl
theorem nl_7889261 : (7889261 : Int32) = nI 7889261 := rfl
theorem nl_33554432 : (33554432 : Int32) = nI 33554432 := rfl
theorem nl_67108864 : (67108864 : Int32) = nI 67108864 := rfl
theorem nl_100663296 : (100663296 : Int32) = nI 100663296 := rfl
theorem nl_267386895 : (267386895 : Int32) = nI 267386895 := rfl
theorem nl_1073741824 : (1073741824 : Int32) = nI 1073741824 := rfl
theorem nl_1701669236 : (1701669236 : Int32) = nI 1701669236 := rfl
theorem nl_1702132066 : (1702132066 : Int32) = nI 1702132066 := rfl
theorem nl_1718378856 : (1718378856 : Int32) = nI 1718378856 := rfl
theorem nl_1751938413 : (1751938413 : Int32) = nI 1751938413 := rfl
theorem nl_1767993971 : (1767993971 : Int32) = nI 1767993971 := rfl
theorem nl_1768186977 : (1768186977 : Int32) = nI 1768186977 := rfl
theorem nl_1768189537 : (1768189537 : Int32) = nI 1768189537 := rfl
theorem nl_1768697443 : (1768697443 : Int32) = nI 1768697443 := rfl
theorem nl_1768713331 : (1768713331 : Int32) = nI 1768713331 := rfl
theorem nl_1768714867 : (1768714867 : Int32) = nI 1768714867 := rfl
theorem nl_1769107320 : (1769107320 : Int32) = nI 1769107320 := rfl
theorem nl_1769237619 : (1769237619 : Int32) = nI 1769237619 := rfl
theorem nl_1885435763 : (1885435763 : Int32) = nI 1885435763 := rfl
theorem nl_1919561315 : (1919561315 : Int32) = nI 1919561315 := rfl
theorem nl_1919705450 : (1919705450 : Int32) = nI 1919705450 := rfl
theorem nl_1919888995 : (1919888995 : Int32) = nI 1919888995 := rfl
theorem nl_1969579874 : (1969579874 : Int32) = nI 1969579874 := rfl
theorem nl_1970103666 : (1970103666 : Int32) = nI 1970103666 := rfl
theorem nl_1970170221 : (1970170221 : Int32) = nI 1970170221 := rfl
theorem nl_1970564194 : (1970564194 : Int32) = nI 1970564194 := rfl
theorem nl_1970564211 : (1970564211 : Int32) = nI 1970564211 := rfl
theorem nl_1970694500 : (1970694500 : Int32) = nI 1970694500 := rfl
theorem nl_1970823533 : (1970823533 : Int32) = nI 1970823533 := rfl
theorem nl_1986866787 : (1986866787 : Int32) = nI 1986866787 := rfl
theorem nl_2003578467 : (2003578467 : Int32) = nI 2003578467 := rfl
theorem nl_2004037219 : (2004037219 : Int32) = nI 2004037219 := rfl
theorem nl_2147483647 : (2147483647 : Int32) = nI 2147483647 := rfl
theorem nl_2147483648 : (2147483648 : Int32) = nI 2147483648 := rfl
theorem nl_4294967295 : (4294967295 : Int32) = nI 4294967295 := rfl
theorem nl_1099511627776 : (1099511627776 : Int32) = nI 1099511627776 := rfl
theorem nl_2199023255552 : (2199023255552 : Int32) = nI 2199023255552 := rfl

/-- the reference's 'held': how many descriptors are to an opening -/
theorem nb_heldN (n : Nat) (hn : 256 < n) (o : Nat) (X : St × St) : df_X16_held n (nI o) X = some (nI (cN (fun i => decide (sR X.1 14 i = nI o)) 256), X) := by
  obtain ⟨m, hm⟩ := nm_lq (fun m k => df_X16_held_4 n m (nI o) (nI (cN (fun i => decide (sR X.1 14 i = nI o)) k)) (nI k) X) 256 n hn (fun k m hk => by
    simp (disch := omega) only [(show df_X16_held_4 n (m + 1) = dF_X16_held_4 n (df_X16_held_4 n m) from rfl), dF_X16_held_4, df_X16_held_28, df_X16_held_0, df_X16_held, cN_s, nl_0, nl_1, nl_14, nl_256, no_1, no_1024, pk_mul, nI_add, nm_ck, nI_clamp, nI_ltI, nI_leI, nI_eq, nb_b2, nb_b1, nb_let, nm_z0, nm_z1, nb_II, nb_IR, nb_RI, nb_RR, nm_IL, nm_IQ, nm_RL, nm_RQ, nm_LI, nm_LR, nm_LL, nm_LQ, nm_QI, nm_QR, nm_QL, nm_QQ, nm_rr, nm_ii, nm_eqm, not_false_eq_true, pk_sub, nm_div, nm_shl, nm_shr, nm_ush, nm_or8, nm_or64, nm_or256, nm_m1, nm_m3, nm_m7, nm_m15, nm_m31, nm_m63, nm_m255, nm_m511, nm_m1023, nm_m2047, nm_m65535, Nat.reduceMod, Nat.reducePow, Nat.reduceAdd, Nat.reduceSub, Nat.reduceMul, nm_bo, nm_bi, nm_rc, nm_ic, nm_ri, nm_rl, nm_rq, nm_ql, nm_qi, nm_li, nm_us, nm_uu, nm_cp, nm_sa31, nm_sa7, nm_m127, nm_m2, nm_nz, nm_nzk, nm_eq32, nm_nzf, if_true, if_false, ↓reduceIte, if_pos, if_neg]
    by_cases c : sR X.1 14 k = nI o
    · rw [if_pos c, decide_eq_true c]; rfl
    · rw [if_neg c, decide_eq_false c]; rfl)
  refine Eq.trans hm ?_
  simp (disch := omega) only [(show df_X16_held_4 n (m + 1) = dF_X16_held_4 n (df_X16_held_4 n m) from rfl), dF_X16_held_4, df_X16_held_28, df_X16_held_0, df_X16_held, nl_0, nl_1, nl_14, nl_256, no_1, no_1024, pk_mul, nI_add, nm_ck, nI_clamp, nI_ltI, nI_leI, nI_eq, nb_b2, nb_b1, nb_let, nm_z0, nm_z1, nb_II, nb_IR, nb_RI, nb_RR, nm_IL, nm_IQ, nm_RL, nm_RQ, nm_LI, nm_LR, nm_LL, nm_LQ, nm_QI, nm_QR, nm_QL, nm_QQ, nm_rr, nm_ii, nm_eqm, not_false_eq_true, pk_sub, nm_div, nm_shl, nm_shr, nm_ush, nm_or8, nm_or64, nm_or256, nm_m1, nm_m3, nm_m7, nm_m15, nm_m31, nm_m63, nm_m255, nm_m511, nm_m1023, nm_m2047, nm_m65535, Nat.reduceMod, Nat.reducePow, Nat.reduceAdd, Nat.reduceSub, Nat.reduceMul, nm_bo, nm_bi, nm_rc, nm_ic, nm_ri, nm_rl, nm_rq, nm_ql, nm_qi, nm_li, nm_us, nm_uu, nm_cp, nm_sa31, nm_sa7, nm_m127, nm_m2, nm_nz, nm_nzk, nm_eq32, nm_nzf, if_true, if_false, ↓reduceIte, if_pos, if_neg]
/-- 'ends' -/
theorem nb_ends (n : Nat) (hn : 48 < n) (s w : Int32) (X : St × St) : df_X16_ends n s w X = some (nI (cN (fun i => decide (sR X.1 19 i = s ∧ sR X.1 20 i = w)) 48), X) := by
  obtain ⟨m, hm⟩ := nm_lq (fun m k => df_X16_ends_5 n m s w (nI (cN (fun i => decide (sR X.1 19 i = s ∧ sR X.1 20 i = w)) k)) (nI k) X) 48 n hn (fun k m hk => by
    simp (disch := omega) only [(show df_X16_ends_5 n (m + 1) = dF_X16_ends_5 n (df_X16_ends_5 n m) from rfl), dF_X16_ends_5, df_X16_ends_41, df_X16_ends_40, df_X16_ends_0, df_X16_ends, cN_s, nl_0, nl_1, nl_19, nl_20, nl_48, no_1, no_1024, pk_mul, nI_add, nm_ck, nI_clamp, nI_ltI, nI_leI, nI_eq, nb_b2, nb_b1, nb_let, nm_z0, nm_z1, nb_II, nb_IR, nb_RI, nb_RR, nm_IL, nm_IQ, nm_RL, nm_RQ, nm_LI, nm_LR, nm_LL, nm_LQ, nm_QI, nm_QR, nm_QL, nm_QQ, nm_rr, nm_ii, nm_eqm, not_false_eq_true, pk_sub, nm_div, nm_shl, nm_shr, nm_ush, nm_or8, nm_or64, nm_or256, nm_m1, nm_m3, nm_m7, nm_m15, nm_m31, nm_m63, nm_m255, nm_m511, nm_m1023, nm_m2047, nm_m65535, Nat.reduceMod, Nat.reducePow, Nat.reduceAdd, Nat.reduceSub, Nat.reduceMul, nm_bo, nm_bi, nm_rc, nm_ic, nm_ri, nm_rl, nm_rq, nm_ql, nm_qi, nm_li, nm_us, nm_uu, nm_cp, nm_sa31, nm_sa7, nm_m127, nm_m2, nm_nz, nm_nzk, nm_eq32, nm_nzf, if_true, if_false, ↓reduceIte, if_pos, if_neg]
    by_cases c : sR X.1 19 k = s
    · by_cases d : sR X.1 20 k = w
      · rw [if_pos c, if_pos d, decide_eq_true ⟨c, d⟩]; rfl
      · rw [if_pos c, if_neg d, decide_eq_false (fun h => d h.2)]; rfl
    · rw [if_neg c, decide_eq_false (fun h => c h.1)]; rfl)
  refine Eq.trans hm ?_
  simp (disch := omega) only [(show df_X16_ends_5 n (m + 1) = dF_X16_ends_5 n (df_X16_ends_5 n m) from rfl), dF_X16_ends_5, df_X16_ends_41, df_X16_ends_40, df_X16_ends_0, df_X16_ends, nl_0, nl_1, nl_19, nl_20, nl_48, no_1, no_1024, pk_mul, nI_add, nm_ck, nI_clamp, nI_ltI, nI_leI, nI_eq, nb_b2, nb_b1, nb_let, nm_z0, nm_z1, nb_II, nb_IR, nb_RI, nb_RR, nm_IL, nm_IQ, nm_RL, nm_RQ, nm_LI, nm_LR, nm_LL, nm_LQ, nm_QI, nm_QR, nm_QL, nm_QQ, nm_rr, nm_ii, nm_eqm, not_false_eq_true, pk_sub, nm_div, nm_shl, nm_shr, nm_ush, nm_or8, nm_or64, nm_or256, nm_m1, nm_m3, nm_m7, nm_m15, nm_m31, nm_m63, nm_m255, nm_m511, nm_m1023, nm_m2047, nm_m65535, Nat.reduceMod, Nat.reducePow, Nat.reduceAdd, Nat.reduceSub, Nat.reduceMul, nm_bo, nm_bi, nm_rc, nm_ic, nm_ri, nm_rl, nm_rq, nm_ql, nm_qi, nm_li, nm_us, nm_uu, nm_cp, nm_sa31, nm_sa7, nm_m127, nm_m2, nm_nz, nm_nzk, nm_eq32, nm_nzf, if_true, if_false, ↓reduceIte, if_pos, if_neg]
/-- 'openings' -/
theorem nb_openings (n : Nat) (hn : 48 < n) (X : St × St) : df_X16_openings n X = some (nI (cN (fun i => decide (¬ sR X.1 19 i ≤ nI 0)) 48), X) := by
  obtain ⟨m, hm⟩ := nm_lq (fun m k => df_X16_openings_4 n m (nI (cN (fun i => decide (¬ sR X.1 19 i ≤ nI 0)) k)) (nI k) X) 48 n hn (fun k m hk => by
    simp (disch := omega) only [(show df_X16_openings_4 n (m + 1) = dF_X16_openings_4 n (df_X16_openings_4 n m) from rfl), dF_X16_openings_4, df_X16_openings_26, df_X16_openings_0, df_X16_openings, cN_s, nl_0, nl_1, nl_19, nl_48, no_1, no_1024, pk_mul, nI_add, nm_ck, nI_clamp, nI_ltI, nI_leI, nI_eq, nb_b2, nb_b1, nb_let, nm_z0, nm_z1, nb_II, nb_IR, nb_RI, nb_RR, nm_IL, nm_IQ, nm_RL, nm_RQ, nm_LI, nm_LR, nm_LL, nm_LQ, nm_QI, nm_QR, nm_QL, nm_QQ, nm_rr, nm_ii, nm_eqm, not_false_eq_true, pk_sub, nm_div, nm_shl, nm_shr, nm_ush, nm_or8, nm_or64, nm_or256, nm_m1, nm_m3, nm_m7, nm_m15, nm_m31, nm_m63, nm_m255, nm_m511, nm_m1023, nm_m2047, nm_m65535, Nat.reduceMod, Nat.reducePow, Nat.reduceAdd, Nat.reduceSub, Nat.reduceMul, nm_bo, nm_bi, nm_rc, nm_ic, nm_ri, nm_rl, nm_rq, nm_ql, nm_qi, nm_li, nm_us, nm_uu, nm_cp, nm_sa31, nm_sa7, nm_m127, nm_m2, nm_nz, nm_nzk, nm_eq32, nm_nzf, if_true, if_false, ↓reduceIte, if_pos, if_neg]
    by_cases c : sR X.1 19 k ≤ nI 0
    · rw [if_pos c, decide_eq_false (fun h => h c)]; rfl
    · rw [if_neg c, decide_eq_true c]; rfl)
  refine Eq.trans hm ?_
  simp (disch := omega) only [(show df_X16_openings_4 n (m + 1) = dF_X16_openings_4 n (df_X16_openings_4 n m) from rfl), dF_X16_openings_4, df_X16_openings_26, df_X16_openings_0, df_X16_openings, nl_0, nl_1, nl_19, nl_48, no_1, no_1024, pk_mul, nI_add, nm_ck, nI_clamp, nI_ltI, nI_leI, nI_eq, nb_b2, nb_b1, nb_let, nm_z0, nm_z1, nb_II, nb_IR, nb_RI, nb_RR, nm_IL, nm_IQ, nm_RL, nm_RQ, nm_LI, nm_LR, nm_LL, nm_LQ, nm_QI, nm_QR, nm_QL, nm_QQ, nm_rr, nm_ii, nm_eqm, not_false_eq_true, pk_sub, nm_div, nm_shl, nm_shr, nm_ush, nm_or8, nm_or64, nm_or256, nm_m1, nm_m3, nm_m7, nm_m15, nm_m31, nm_m63, nm_m255, nm_m511, nm_m1023, nm_m2047, nm_m65535, Nat.reduceMod, Nat.reducePow, Nat.reduceAdd, Nat.reduceSub, Nat.reduceMul, nm_bo, nm_bi, nm_rc, nm_ic, nm_ri, nm_rl, nm_rq, nm_ql, nm_qi, nm_li, nm_us, nm_uu, nm_cp, nm_sa31, nm_sa7, nm_m127, nm_m2, nm_nz, nm_nzk, nm_eq32, nm_nzf, if_true, if_false, ↓reduceIte, if_pos, if_neg]
/-- 'freeOpening' -/
theorem nb_freeOpening (n : Nat) (hn : 48 < n) (X : St × St) : df_X16_freeOpening n X = some (if fN (fun i => decide (sR X.1 19 i ≤ nI 0)) 0 48 < 48 then nI (fN (fun i => decide (sR X.1 19 i ≤ nI 0)) 0 48) else -nI 1, X) := by
  obtain ⟨m, hm⟩ := nm_ls (fun m k => df_X16_freeOpening_2 n m (nI k) X) (fun i => decide (sR X.1 19 i ≤ nI 0)) 0 48 n hn (fun k m h0 hk c => by
    have c := of_decide_eq_false c
    simp (disch := omega) only [(show df_X16_freeOpening_2 n (m + 1) = dF_X16_freeOpening_2 n (df_X16_freeOpening_2 n m) from rfl), dF_X16_freeOpening_2, df_X16_freeOpening_34, df_X16_freeOpening_23, df_X16_freeOpening_0, df_X16_freeOpening, c, if_false, nl_0, nl_1, nl_19, nl_48, no_1, no_1024, pk_mul, nI_add, nm_ck, nI_clamp, nI_ltI, nI_leI, nI_eq, nb_b2, nb_b1, nb_let, nm_z0, nm_z1, nb_II, nb_IR, nb_RI, nb_RR, nm_IL, nm_IQ, nm_RL, nm_RQ, nm_LI, nm_LR, nm_LL, nm_LQ, nm_QI, nm_QR, nm_QL, nm_QQ, nm_rr, nm_ii, nm_eqm, not_false_eq_true, pk_sub, nm_div, nm_shl, nm_shr, nm_ush, nm_or8, nm_or64, nm_or256, nm_m1, nm_m3, nm_m7, nm_m15, nm_m31, nm_m63, nm_m255, nm_m511, nm_m1023, nm_m2047, nm_m65535, Nat.reduceMod, Nat.reducePow, Nat.reduceAdd, Nat.reduceSub, Nat.reduceMul, nm_bo, nm_bi, nm_rc, nm_ic, nm_ri, nm_rl, nm_rq, nm_ql, nm_qi, nm_li, nm_us, nm_uu, nm_cp, nm_sa31, nm_sa7, nm_m127, nm_m2, nm_nz, nm_nzk, nm_eq32, nm_nzf, if_true, if_false, ↓reduceIte, if_pos, if_neg])
  refine Eq.trans hm ?_
  obtain ⟨a, b, c, d⟩ := fN_le (fun i => decide (sR X.1 19 i ≤ nI 0)) 48 0
  generalize fN (fun i => decide (sR X.1 19 i ≤ nI 0)) 0 48 = f at a b c d
  by_cases z : f < 48
  · have c := of_decide_eq_true (c (by omega))
    simp (disch := omega) only [(show df_X16_freeOpening_2 n (m + 1) = dF_X16_freeOpening_2 n (df_X16_freeOpening_2 n m) from rfl), dF_X16_freeOpening_2, df_X16_freeOpening_34, df_X16_freeOpening_23, df_X16_freeOpening_0, df_X16_freeOpening, c, if_true, nl_0, nl_1, nl_19, nl_48, no_1, no_1024, pk_mul, nI_add, nm_ck, nI_clamp, nI_ltI, nI_leI, nI_eq, nb_b2, nb_b1, nb_let, nm_z0, nm_z1, nb_II, nb_IR, nb_RI, nb_RR, nm_IL, nm_IQ, nm_RL, nm_RQ, nm_LI, nm_LR, nm_LL, nm_LQ, nm_QI, nm_QR, nm_QL, nm_QQ, nm_rr, nm_ii, nm_eqm, not_false_eq_true, pk_sub, nm_div, nm_shl, nm_shr, nm_ush, nm_or8, nm_or64, nm_or256, nm_m1, nm_m3, nm_m7, nm_m15, nm_m31, nm_m63, nm_m255, nm_m511, nm_m1023, nm_m2047, nm_m65535, Nat.reduceMod, Nat.reducePow, Nat.reduceAdd, Nat.reduceSub, Nat.reduceMul, nm_bo, nm_bi, nm_rc, nm_ic, nm_ri, nm_rl, nm_rq, nm_ql, nm_qi, nm_li, nm_us, nm_uu, nm_cp, nm_sa31, nm_sa7, nm_m127, nm_m2, nm_nz, nm_nzk, nm_eq32, nm_nzf, if_true, if_false, ↓reduceIte, if_pos, if_neg]
  · simp (disch := omega) only [(show df_X16_freeOpening_2 n (m + 1) = dF_X16_freeOpening_2 n (df_X16_freeOpening_2 n m) from rfl), dF_X16_freeOpening_2, df_X16_freeOpening_34, df_X16_freeOpening_23, df_X16_freeOpening_0, df_X16_freeOpening, nl_0, nl_1, nl_19, nl_48, no_1, no_1024, pk_mul, nI_add, nm_ck, nI_clamp, nI_ltI, nI_leI, nI_eq, nb_b2, nb_b1, nb_let, nm_z0, nm_z1, nb_II, nb_IR, nb_RI, nb_RR, nm_IL, nm_IQ, nm_RL, nm_RQ, nm_LI, nm_LR, nm_LL, nm_LQ, nm_QI, nm_QR, nm_QL, nm_QQ, nm_rr, nm_ii, nm_eqm, not_false_eq_true, pk_sub, nm_div, nm_shl, nm_shr, nm_ush, nm_or8, nm_or64, nm_or256, nm_m1, nm_m3, nm_m7, nm_m15, nm_m31, nm_m63, nm_m255, nm_m511, nm_m1023, nm_m2047, nm_m65535, Nat.reduceMod, Nat.reducePow, Nat.reduceAdd, Nat.reduceSub, Nat.reduceMul, nm_bo, nm_bi, nm_rc, nm_ic, nm_ri, nm_rl, nm_rq, nm_ql, nm_qi, nm_li, nm_us, nm_uu, nm_cp, nm_sa31, nm_sa7, nm_m127, nm_m2, nm_nz, nm_nzk, nm_eq32, nm_nzf, if_true, if_false, ↓reduceIte, if_pos, if_neg]

/-- pages and frames of the two machines -/
def mU (M : St × St) (w u g : Nat → Int32) (fu : Int32) : St × St := (pI (pR (pR (pR M.1 0 w) 1 u) 2 g) 0 fu, M.2)
def xU (X : St × St) (b fr ri ho : Nat → Int32) (us : Int32) : St × St := (pI (pR (pR (pR (pR X.1 15 b) 16 fr) 17 ri) 18 ho) 6 us, X.2)
/-- how many pages are on a frame; how many frames have a page -/
def cF (fr : Nat → Int32) (f : Nat) : Nat := cN (fun i => decide (fr i = nI f)) 1024
def cU (fr : Nat → Int32) : Nat := cN (fun f => decide (0 < cF fr f)) 256
def rQ (w u g b fr ri ho : Nat → Int32) (fu us : Int32) : Prop := (∀ i : Nat, i < 1024 → (fr i = -nI 1 ∧ g i = nI 0) ∨ ∃ f r : Nat, f < 256 ∧ 1 ≤ r ∧ r < 8 ∧ fr i = nI f ∧ ri i = nI r ∧ g i = nI (f * 8 + r) ∧ ∀ j : Nat, j < 256 → w (f * 256 + j) = b (i * 256 + j)) ∧ (∀ f : Nat, f < 256 → u f = nI (cF fr f) ∧ ho f = nI (cF fr f)) ∧ (∀ f : Nat, 256 ≤ f → f < 1024 → ho f = nI 0) ∧ fu = nI (cU fr) ∧ us = nI (cU fr)
def rK (M X : St × St) : Prop := rQ (sR M.1 0) (sR M.1 1) (sR M.1 2) (sR X.1 15) (sR X.1 16) (sR X.1 17) (sR X.1 18) (sI M.1 0) (sI X.1 6)
theorem nk_ne {f : Nat} (h : f < 2 ^ 31) : ¬ nI f = -nI 1 := fun z => (nm_eqm h).mp z
theorem cF_le (fr : Nat → Int32) (f : Nat) : cF fr f ≤ 1024 := cN_le _ _
theorem cU_le (fr : Nat → Int32) : cU fr ≤ 256 := cN_le _ _
/-- one page's frame changed -/
theorem cF_ch (fr : Nat → Int32) {i : Nat} (v : Int32) (hi : i < 1024) (a : Nat) : cF (upd fr i v) a + (decide (fr i = nI a)).toNat = cF fr a + (decide (v = nI a)).toNat := by
  have := cN_u (P := fun i => decide (fr i = nI a)) (Q := fun j => decide (upd fr i v j = nI a)) (j := i) (fun k hk => by rw [nm_un hk]) hi
  rw [nm_us] at this
  exact this
/-- a page leaves its frame -/
theorem cF_leave {fr : Nat → Int32} {i f : Nat} (hi : i < 1024) (hf : f < 256) (h : fr i = nI f) : (∀ a : Nat, a < 256 → a ≠ f → cF (upd fr i (-nI 1)) a = cF fr a) ∧ cF (upd fr i (-nI 1)) f + 1 = cF fr f := by
  refine ⟨fun a ha hne => ?_, ?_⟩
  · have := cF_ch fr (-nI 1) hi a
    rw [nm_df (p := -nI 1 = nI a) (fun q => nk_ne (f := a) (by omega) q.symm), nm_df (fun q => hne ((nI_eq (by omega) (by omega)).mp (h.symm.trans q)).symm)] at this
    omega
  · have := cF_ch fr (-nI 1) hi f
    rw [nm_df (p := -nI 1 = nI f) (fun q => nk_ne (f := f) (by omega) q.symm), nm_dt h] at this
    omega
/-- a page comes to a frame -/
theorem cF_stand {fr : Nat → Int32} {i f : Nat} (hi : i < 1024) (hf : f < 256) (h : fr i = -nI 1) : (∀ a : Nat, a < 256 → a ≠ f → cF (upd fr i (nI f)) a = cF fr a) ∧ cF (upd fr i (nI f)) f = cF fr f + 1 := by
  refine ⟨fun a ha hne => ?_, ?_⟩
  · have := cF_ch fr (nI f) hi a
    rw [nm_df (fun q => nk_ne (by omega) (q.symm.trans h)), nm_df (fun q => hne ((nI_eq (by omega) (by omega)).mp q).symm)] at this
    omega
  · have := cF_ch fr (nI f) hi f
    rw [nm_df (fun q => nk_ne (by omega) (q.symm.trans h)), nm_dt rfl] at this
    omega
theorem cU_ch {fr fs : Nat → Int32} {f : Nat} (hf : f < 256) (h : ∀ a : Nat, a < 256 → a ≠ f → cF fs a = cF fr a) : cU fs + (decide (0 < cF fr f)).toNat = cU fr + (decide (0 < cF fs f)).toNat := by
  have : ∀ N : Nat, N ≤ 256 → (f < N → cN (fun f => decide (0 < cF fs f)) N + (decide (0 < cF fr f)).toNat = cN (fun f => decide (0 < cF fr f)) N + (decide (0 < cF fs f)).toNat) ∧ (¬ f < N → cN (fun f => decide (0 < cF fs f)) N = cN (fun f => decide (0 < cF fr f)) N) := by
    intro N
    induction N with
    | zero => intro _; exact ⟨fun h => absurd h (by omega), fun _ => by unfold cN; rfl⟩
    | succ N ih =>
      intro hN
      obtain ⟨i1, i2⟩ := ih (by omega)
      rw [cN_s, cN_s]
      by_cases c : f = N
      · have := i2 (by omega)
        rw [this, ← c]
        exact ⟨fun _ => by omega, fun q => by omega⟩
      · rw [h N (by omega) (fun q => c q.symm)]
        exact ⟨fun q => by have := i1 (by omega); omega, fun q => by have := i2 (by omega); omega⟩
  exact (this 256 (by omega)).1 hf

theorem mU_id (M : St × St) : mU M (sR M.1 0) (sR M.1 1) (sR M.1 2) (sI M.1 0) = M := by
  unfold mU
  rw [nm_r0, nm_r0, nm_r0, nm_i0]
theorem xU_id (X : St × St) : xU X (sR X.1 15) (sR X.1 16) (sR X.1 17) (sR X.1 18) (sI X.1 6) = X := by
  unfold xU
  rw [nm_r0, nm_r0, nm_r0, nm_r0, nm_i0]
theorem mU_mU (M : St × St) (w u g w' u' g' : Nat → Int32) (fu fu' : Int32) : mU (mU M w u g fu) w' u' g' fu' = mU M w' u' g' fu' := by
  unfold mU
  simp (disch := omega) only [nm_ri, nm_rc, nm_rr, nm_ii]
theorem xU_xU (X : St × St) (b fr ri ho b' fr' ri' ho' : Nat → Int32) (us us' : Int32) : xU (xU X b fr ri ho us) b' fr' ri' ho' us' = xU X b' fr' ri' ho' us' := by
  unfold xU
  simp (disch := omega) only [nm_ri, nm_rc, nm_rr, nm_ii]
theorem mU_w (M : St × St) (u g : Nat → Int32) (fu : Int32) : mU M (sR M.1 0) u g fu = (pI (pR (pR M.1 1 u) 2 g) 0 fu, M.2) := by
  unfold mU
  rw [nm_r0]
theorem xU_fh (X : St × St) (fr ho : Nat → Int32) (us : Int32) : xU X (sR X.1 15) fr (sR X.1 17) ho us = (pI (pR (pR X.1 16 fr) 18 ho) 6 us, X.2) := by
  unfold xU
  rw [nm_r0, show pR (pR X.1 16 fr) 17 (sR X.1 17) = pR X.1 16 fr from nm_r0 (pR X.1 16 fr) 17]
/-- the rows when a page leaves its frame -/
theorem rQ_leave {w u g b fr ri ho : Nat → Int32} {fu us : Int32} (h : rQ w u g b fr ri ho fu us) {i f : Nat} (hi : i < 1024) (hf : f < 256) (e : fr i = nI f) : 1 ≤ cF fr f ∧ rQ w (upd u f (nI (cF fr f - 1))) (upd g i (nI 0)) b (upd fr i (-nI 1)) ri (upd ho f (nI (cF fr f - 1))) (if cF fr f = 1 then fu - nI 1 else fu) (if cF fr f = 1 then us - nI 1 else us) := by
  obtain ⟨h1, h2, h3, h4, h5⟩ := h
  obtain ⟨c1, c2⟩ := cF_leave hi hf e
  have cu := cU_ch hf c1
  have e1 : cF fr f - 1 = cF (upd fr i (-nI 1)) f := by omega
  refine ⟨by omega, fun j hj => ?_, fun a ha => ?_, fun a h0 ha => ?_, ?_, ?_⟩
  · by_cases c : j = i
    · left
      rw [c, nm_us, nm_us]
      exact ⟨rfl, rfl⟩
    · rw [nm_un c, nm_un c]
      exact h1 j hj
  · by_cases c : a = f
    · rw [c, nm_us, nm_us, e1]
      exact ⟨rfl, rfl⟩
    · rw [nm_un c, nm_un c, c1 a ha c]
      exact h2 a ha
  · rw [nm_un (by omega)]
    exact h3 a h0 ha
  · by_cases c : cF fr f = 1
    · rw [if_pos c, h4]
      rw [nm_dt (show 0 < cF fr f by omega), nm_df (show ¬ 0 < cF (upd fr i (-nI 1)) f by omega)] at cu
      rw [pk_sub (by omega)]
      exact congrArg nI (by omega)
    · rw [if_neg c, h4]
      rw [nm_dt (show 0 < cF fr f by omega), nm_dt (show 0 < cF (upd fr i (-nI 1)) f by omega)] at cu
      exact congrArg nI (by omega)
  · by_cases c : cF fr f = 1
    · rw [if_pos c, h5]
      rw [nm_dt (show 0 < cF fr f by omega), nm_df (show ¬ 0 < cF (upd fr i (-nI 1)) f by omega)] at cu
      rw [pk_sub (by omega)]
      exact congrArg nI (by omega)
    · rw [if_neg c, h5]
      rw [nm_dt (show 0 < cF fr f by omega), nm_dt (show 0 < cF (upd fr i (-nI 1)) f by omega)] at cu
      exact congrArg nI (by omega)
/-- a page is dropped in both -/
theorem nk_leave (n : Nat) {M X : St × St} (h : rK M X) {p k : Nat} (hp : p < 16) (hk : k < 64) : ∃ (u g : Nat → Int32) (fu : Int32) (ho : Nat → Int32) (us : Int32), df_X6_dropPage n (nI p) (nI k) M = some (mU M (sR M.1 0) u g fu) ∧ df_X16_leave n (nI (64 * p + k)) X = some (xU X (sR X.1 15) (upd (sR X.1 16) (64 * p + k) (-nI 1)) (sR X.1 17) ho us) ∧ rQ (sR M.1 0) u g (sR X.1 15) (upd (sR X.1 16) (64 * p + k) (-nI 1)) (sR X.1 17) ho fu us := by
  have hi : p * 64 + k = 64 * p + k := by omega
  rcases h.1 (64 * p + k) (by omega) with ⟨e1, e2⟩ | ⟨f, r, hf, r1, r2, e1, e2, e3, e4⟩
  · have hu : upd (sR X.1 16) (64 * p + k) (-nI 1) = sR X.1 16 := by rw [← e1, nm_u0]
    rw [hu]
    refine ⟨sR M.1 1, sR M.1 2, sI M.1 0, sR X.1 18, sI X.1 6, ?_, ?_, h⟩
    · rw [mU_id]
      simp (disch := omega) only [df_X6_dropPage_67, df_X6_dropPage_0, df_X6_dropPage, hi, e2, Nat.mod_eq_of_lt, nl_0, nl_1, nl_2, nl_3, nl_6, nl_31, nl_63, nl_256, nl_1024, no_1, no_1024, pk_mul, nI_add, nm_ck, nI_clamp, nI_ltI, nI_leI, nI_eq, nb_b2, nb_b1, nb_let, nm_z0, nm_z1, nb_II, nb_IR, nb_RI, nb_RR, nm_IL, nm_IQ, nm_RL, nm_RQ, nm_LI, nm_LR, nm_LL, nm_LQ, nm_QI, nm_QR, nm_QL, nm_QQ, nm_rr, nm_ii, nm_eqm, not_false_eq_true, pk_sub, nm_div, nm_shl, nm_shr, nm_ush, nm_or8, nm_or64, nm_or256, nm_m1, nm_m3, nm_m7, nm_m15, nm_m31, nm_m63, nm_m255, nm_m511, nm_m1023, nm_m2047, nm_m65535, Nat.reduceMod, Nat.reducePow, Nat.reduceAdd, Nat.reduceSub, Nat.reduceMul, nm_bo, nm_bi, nm_rc, nm_ic, nm_ri, nm_rl, nm_rq, nm_ql, nm_qi, nm_li, nm_us, nm_uu, nm_cp, nm_sa31, nm_sa7, nm_m127, nm_m2, nm_nz, nm_nzk, nm_eq32, nm_nzf, if_true, if_false, ↓reduceIte, if_pos, if_neg]
    · rw [xU_id]
      simp (disch := omega) only [df_X16_leave_49, df_X16_leave_0, df_X16_leave, e1, nl_0, nl_1, nl_6, nl_16, nl_18, nl_1024, no_1, no_1024, pk_mul, nI_add, nm_ck, nI_clamp, nI_ltI, nI_leI, nI_eq, nb_b2, nb_b1, nb_let, nm_z0, nm_z1, nb_II, nb_IR, nb_RI, nb_RR, nm_IL, nm_IQ, nm_RL, nm_RQ, nm_LI, nm_LR, nm_LL, nm_LQ, nm_QI, nm_QR, nm_QL, nm_QQ, nm_rr, nm_ii, nm_eqm, not_false_eq_true, pk_sub, nm_div, nm_shl, nm_shr, nm_ush, nm_or8, nm_or64, nm_or256, nm_m1, nm_m3, nm_m7, nm_m15, nm_m31, nm_m63, nm_m255, nm_m511, nm_m1023, nm_m2047, nm_m65535, Nat.reduceMod, Nat.reducePow, Nat.reduceAdd, Nat.reduceSub, Nat.reduceMul, nm_bo, nm_bi, nm_rc, nm_ic, nm_ri, nm_rl, nm_rq, nm_ql, nm_qi, nm_li, nm_us, nm_uu, nm_cp, nm_sa31, nm_sa7, nm_m127, nm_m2, nm_nz, nm_nzk, nm_eq32, nm_nzf, if_true, if_false, ↓reduceIte, if_pos, if_neg]
  · obtain ⟨c1, c2⟩ := rQ_leave h (i := 64 * p + k) (by omega) hf e1
    obtain ⟨u1, u2⟩ := h.2.1 f hf
    have cl := cF_le (sR X.1 16) f
    have hz : (f * 8 + r) / 8 = f := by omega
    refine ⟨_, _, _, _, _, ?_, ?_, c2⟩
    · rw [mU_w]
      simp (disch := omega) only [df_X6_dropPage_67, df_X6_dropPage_0, df_X6_dropPage, hi, e3, hz, u1, nm_eqz, Nat.mod_eq_of_lt, nl_0, nl_1, nl_2, nl_3, nl_6, nl_31, nl_63, nl_256, nl_1024, no_1, no_1024, pk_mul, nI_add, nm_ck, nI_clamp, nI_ltI, nI_leI, nI_eq, nb_b2, nb_b1, nb_let, nm_z0, nm_z1, nb_II, nb_IR, nb_RI, nb_RR, nm_IL, nm_IQ, nm_RL, nm_RQ, nm_LI, nm_LR, nm_LL, nm_LQ, nm_QI, nm_QR, nm_QL, nm_QQ, nm_rr, nm_ii, nm_eqm, not_false_eq_true, pk_sub, nm_div, nm_shl, nm_shr, nm_ush, nm_or8, nm_or64, nm_or256, nm_m1, nm_m3, nm_m7, nm_m15, nm_m31, nm_m63, nm_m255, nm_m511, nm_m1023, nm_m2047, nm_m65535, Nat.reduceMod, Nat.reducePow, Nat.reduceAdd, Nat.reduceSub, Nat.reduceMul, nm_bo, nm_bi, nm_rc, nm_ic, nm_ri, nm_rl, nm_rq, nm_ql, nm_qi, nm_li, nm_us, nm_uu, nm_cp, nm_sa31, nm_sa7, nm_m127, nm_m2, nm_nz, nm_nzk, nm_eq32, nm_nzf, if_true, if_false, ↓reduceIte, if_pos, if_neg]
      by_cases c : cF (sR X.1 16) f = 1
      · rw [if_pos (by omega), if_pos c]
      · rw [if_neg (by omega), if_neg c]
        exact congrArg (fun z => some (z, M.2)) (nm_i0 _ 0).symm
    · rw [xU_fh]
      simp (disch := omega) only [df_X16_leave_49, df_X16_leave_0, df_X16_leave, e1, u2, nm_eqz, nl_0, nl_1, nl_6, nl_16, nl_18, nl_1024, no_1, no_1024, pk_mul, nI_add, nm_ck, nI_clamp, nI_ltI, nI_leI, nI_eq, nb_b2, nb_b1, nb_let, nm_z0, nm_z1, nb_II, nb_IR, nb_RI, nb_RR, nm_IL, nm_IQ, nm_RL, nm_RQ, nm_LI, nm_LR, nm_LL, nm_LQ, nm_QI, nm_QR, nm_QL, nm_QQ, nm_rr, nm_ii, nm_eqm, not_false_eq_true, pk_sub, nm_div, nm_shl, nm_shr, nm_ush, nm_or8, nm_or64, nm_or256, nm_m1, nm_m3, nm_m7, nm_m15, nm_m31, nm_m63, nm_m255, nm_m511, nm_m1023, nm_m2047, nm_m65535, Nat.reduceMod, Nat.reducePow, Nat.reduceAdd, Nat.reduceSub, Nat.reduceMul, nm_bo, nm_bi, nm_rc, nm_ic, nm_ri, nm_rl, nm_rq, nm_ql, nm_qi, nm_li, nm_us, nm_uu, nm_cp, nm_sa31, nm_sa7, nm_m127, nm_m2, nm_nz, nm_nzk, nm_eq32, nm_nzf, if_true, if_false, ↓reduceIte, if_pos, if_neg]
      by_cases c : cF (sR X.1 16) f = 1
      · rw [if_pos (by omega), if_pos c]
      · rw [if_neg (by omega), if_neg c]
        exact congrArg (fun z => some (z, X.2)) (nm_i0 _ 6).symm
/-- all pages of a process are dropped in both -/
theorem nk_leaveAll (n : Nat) (hn : 64 < n) {M X : St × St} (h : rK M X) {p : Nat} (hp : p < 16) : ∃ (u g : Nat → Int32) (fu : Int32) (fr ho : Nat → Int32) (us : Int32), df_X6_dropPages n (nI p) M = some (mU M (sR M.1 0) u g fu) ∧ df_X16_leaveAll n (nI p) X = some (xU X (sR X.1 15) fr (sR X.1 17) ho us) ∧ rQ (sR M.1 0) u g (sR X.1 15) fr (sR X.1 17) ho fu us ∧ (∀ k : Nat, k < 64 → fr (64 * p + k) = -nI 1) ∧ ∀ i : Nat, ¬ (64 * p ≤ i ∧ i < 64 * p + 64) → fr i = sR X.1 16 i := by
  obtain ⟨m, s, t, ⟨u, g, fu, fr, ho, us, rfl, rfl, i1, i2, i3⟩, e, f⟩ := nm_l2 (fun m k s => df_X6_dropPages_2 n m (nI p) (nI k) s) (fun m k s => df_X16_leaveAll_2 n m (nI p) (nI k) s)
    (fun k s t => ∃ (u g : Nat → Int32) (fu : Int32) (fr ho : Nat → Int32) (us : Int32), s = mU M (sR M.1 0) u g fu ∧ t = xU X (sR X.1 15) fr (sR X.1 17) ho us ∧ rQ (sR M.1 0) u g (sR X.1 15) fr (sR X.1 17) ho fu us ∧ (∀ j : Nat, j < k → fr (64 * p + j) = -nI 1) ∧ ∀ i : Nat, ¬ (64 * p ≤ i ∧ i < 64 * p + 64) → fr i = sR X.1 16 i) 64 n hn (fun k m s t hk ⟨u, g, fu, fr, ho, us, e1, e2, i1, i2, i3⟩ => by
      subst e1 e2
      obtain ⟨u', g', fu', ho', us', a1, a2, a3⟩ := nk_leave n (M := mU M (sR M.1 0) u g fu) (X := xU X (sR X.1 15) fr (sR X.1 17) ho us) i1 hp hk
      refine ⟨_, _, ⟨u', g', fu', upd fr (64 * p + k) (-nI 1), ho', us', rfl, rfl, a3, fun j hj => ?_, fun i hi => ?_⟩, ?_, ?_⟩
      · by_cases c : j = k
        · rw [c, nm_us]
        · rw [nm_un (by omega)]
          exact i2 j (by omega)
      · rw [nm_un (by omega)]
        exact i3 i hi
      · simp (disch := omega) only [(show df_X6_dropPages_2 n (m + 1) = dF_X6_dropPages_2 n (df_X6_dropPages_2 n m) from rfl), dF_X6_dropPages_2, df_X6_dropPages_0, df_X6_dropPages, a1, nl_0, nl_1, nl_64, no_1, no_1024, pk_mul, nI_add, nm_ck, nI_clamp, nI_ltI, nI_leI, nI_eq, nb_b2, nb_b1, nb_let, nm_z0, nm_z1, nb_II, nb_IR, nb_RI, nb_RR, nm_IL, nm_IQ, nm_RL, nm_RQ, nm_LI, nm_LR, nm_LL, nm_LQ, nm_QI, nm_QR, nm_QL, nm_QQ, nm_rr, nm_ii, nm_eqm, not_false_eq_true, pk_sub, nm_div, nm_shl, nm_shr, nm_ush, nm_or8, nm_or64, nm_or256, nm_m1, nm_m3, nm_m7, nm_m15, nm_m31, nm_m63, nm_m255, nm_m511, nm_m1023, nm_m2047, nm_m65535, Nat.reduceMod, Nat.reducePow, Nat.reduceAdd, Nat.reduceSub, Nat.reduceMul, nm_bo, nm_bi, nm_rc, nm_ic, nm_ri, nm_rl, nm_rq, nm_ql, nm_qi, nm_li, nm_us, nm_uu, nm_cp, nm_sa31, nm_sa7, nm_m127, nm_m2, nm_nz, nm_nzk, nm_eq32, nm_nzf, if_true, if_false, ↓reduceIte, if_pos, if_neg]
        rw [mU_mU]
        rfl
      · simp (disch := omega) only [(show df_X16_leaveAll_2 n (m + 1) = dF_X16_leaveAll_2 n (df_X16_leaveAll_2 n m) from rfl), dF_X16_leaveAll_2, df_X16_leaveAll_0, df_X16_leaveAll, a2, nl_0, nl_1, nl_64, no_1, no_1024, pk_mul, nI_add, nm_ck, nI_clamp, nI_ltI, nI_leI, nI_eq, nb_b2, nb_b1, nb_let, nm_z0, nm_z1, nb_II, nb_IR, nb_RI, nb_RR, nm_IL, nm_IQ, nm_RL, nm_RQ, nm_LI, nm_LR, nm_LL, nm_LQ, nm_QI, nm_QR, nm_QL, nm_QQ, nm_rr, nm_ii, nm_eqm, not_false_eq_true, pk_sub, nm_div, nm_shl, nm_shr, nm_ush, nm_or8, nm_or64, nm_or256, nm_m1, nm_m3, nm_m7, nm_m15, nm_m31, nm_m63, nm_m255, nm_m511, nm_m1023, nm_m2047, nm_m65535, Nat.reduceMod, Nat.reducePow, Nat.reduceAdd, Nat.reduceSub, Nat.reduceMul, nm_bo, nm_bi, nm_rc, nm_ic, nm_ri, nm_rl, nm_rq, nm_ql, nm_qi, nm_li, nm_us, nm_uu, nm_cp, nm_sa31, nm_sa7, nm_m127, nm_m2, nm_nz, nm_nzk, nm_eq32, nm_nzf, if_true, if_false, ↓reduceIte, if_pos, if_neg]
        rw [xU_xU]
        rfl) M X ⟨sR M.1 1, sR M.1 2, sI M.1 0, sR X.1 16, sR X.1 18, sI X.1 6, (mU_id M).symm, (xU_id X).symm, h, fun j hj => absurd hj (by omega), fun _ _ => rfl⟩
  refine ⟨u, g, fu, fr, ho, us, Eq.trans e ?_, Eq.trans f ?_, i1, i2, i3⟩
  · simp (disch := omega) only [(show df_X6_dropPages_2 n (m + 1) = dF_X6_dropPages_2 n (df_X6_dropPages_2 n m) from rfl), dF_X6_dropPages_2, df_X6_dropPages_0, df_X6_dropPages, nl_0, nl_1, nl_64, no_1, no_1024, pk_mul, nI_add, nm_ck, nI_clamp, nI_ltI, nI_leI, nI_eq, nb_b2, nb_b1, nb_let, nm_z0, nm_z1, nb_II, nb_IR, nb_RI, nb_RR, nm_IL, nm_IQ, nm_RL, nm_RQ, nm_LI, nm_LR, nm_LL, nm_LQ, nm_QI, nm_QR, nm_QL, nm_QQ, nm_rr, nm_ii, nm_eqm, not_false_eq_true, pk_sub, nm_div, nm_shl, nm_shr, nm_ush, nm_or8, nm_or64, nm_or256, nm_m1, nm_m3, nm_m7, nm_m15, nm_m31, nm_m63, nm_m255, nm_m511, nm_m1023, nm_m2047, nm_m65535, Nat.reduceMod, Nat.reducePow, Nat.reduceAdd, Nat.reduceSub, Nat.reduceMul, nm_bo, nm_bi, nm_rc, nm_ic, nm_ri, nm_rl, nm_rq, nm_ql, nm_qi, nm_li, nm_us, nm_uu, nm_cp, nm_sa31, nm_sa7, nm_m127, nm_m2, nm_nz, nm_nzk, nm_eq32, nm_nzf, if_true, if_false, ↓reduceIte, if_pos, if_neg]
  · simp (disch := omega) only [(show df_X16_leaveAll_2 n (m + 1) = dF_X16_leaveAll_2 n (df_X16_leaveAll_2 n m) from rfl), dF_X16_leaveAll_2, df_X16_leaveAll_0, df_X16_leaveAll, nl_0, nl_1, nl_64, no_1, no_1024, pk_mul, nI_add, nm_ck, nI_clamp, nI_ltI, nI_leI, nI_eq, nb_b2, nb_b1, nb_let, nm_z0, nm_z1, nb_II, nb_IR, nb_RI, nb_RR, nm_IL, nm_IQ, nm_RL, nm_RQ, nm_LI, nm_LR, nm_LL, nm_LQ, nm_QI, nm_QR, nm_QL, nm_QQ, nm_rr, nm_ii, nm_eqm, not_false_eq_true, pk_sub, nm_div, nm_shl, nm_shr, nm_ush, nm_or8, nm_or64, nm_or256, nm_m1, nm_m3, nm_m7, nm_m15, nm_m31, nm_m63, nm_m255, nm_m511, nm_m1023, nm_m2047, nm_m65535, Nat.reduceMod, Nat.reducePow, Nat.reduceAdd, Nat.reduceSub, Nat.reduceMul, nm_bo, nm_bi, nm_rc, nm_ic, nm_ri, nm_rl, nm_rq, nm_ql, nm_qi, nm_li, nm_us, nm_uu, nm_cp, nm_sa31, nm_sa7, nm_m127, nm_m2, nm_nz, nm_nzk, nm_eq32, nm_nzf, if_true, if_false, ↓reduceIte, if_pos, if_neg]

/-- a page's words, all 0 -/
def zf (b : Nat → Int32) (i : Nat) : Nat → Int32 := fun j => if i * 256 ≤ j ∧ j < i * 256 + 256 then nI 0 else b j
theorem zf_n {b : Nat → Int32} {i j : Nat} (h : ¬ (i * 256 ≤ j ∧ j < i * 256 + 256)) : zf b i j = b j := if_neg h
theorem zf_p {b : Nat → Int32} {i j : Nat} (h : i * 256 ≤ j ∧ j < i * 256 + 256) : zf b i j = nI 0 := if_pos h
def zk (b : Nat → Int32) (i k : Nat) : Nat → Int32 := fun j => if i * 256 ≤ j ∧ j < i * 256 + k then nI 0 else b j
theorem zk_0 (b : Nat → Int32) (i : Nat) : zk b i 0 = b := by
  funext j
  exact if_neg (by omega)
theorem zk_s (b : Nat → Int32) (i k : Nat) : upd (zk b i k) (i * 256 + k) (nI 0) = zk b i (k + 1) := by
  funext j
  show (if j = i * 256 + k then nI 0 else if i * 256 ≤ j ∧ j < i * 256 + k then nI 0 else b j) = if i * 256 ≤ j ∧ j < i * 256 + (k + 1) then nI 0 else b j
  by_cases c : j = i * 256 + k
  · rw [if_pos c, if_pos (by omega)]
  · rw [if_neg c]
    by_cases d : i * 256 ≤ j ∧ j < i * 256 + k
    · rw [if_pos d, if_pos (by omega)]
    · rw [if_neg d, if_neg (by omega)]
/-- no page is on a frame that has none -/
theorem cF_no {fr : Nat → Int32} {i f : Nat} (h : cF fr f = 0) (hi : i < 1024) : ¬ fr i = nI f := fun e => by
  have := cN_p (P := fun i => decide (fr i = nI f)) (i := i) (decide_eq_true e) hi
  have h : cN (fun i => decide (fr i = nI f)) 1024 = 0 := h
  omega
/-- a new page on a free frame -/
theorem rQ_new {w u g b fr ri ho : Nat → Int32} {fu us : Int32} (h : rQ w u g b fr ri ho fu us) {i f r : Nat} (hi : i < 1024) (hf : f < 256) (r1 : 1 ≤ r) (r2 : r < 8) (e : fr i = -nI 1) (z : cF fr f = 0) : rQ (zf w f) (upd u f (nI 1)) (upd g i (nI (f * 8 + r))) (zf b i) (upd fr i (nI f)) (upd ri i (nI r)) (upd ho f (nI 1)) (fu + nI 1) (us + nI 1) ∧ cU (upd fr i (nI f)) = cU fr + 1 := by
  obtain ⟨h1, h2, h3, h4, h5⟩ := h
  obtain ⟨c1, c2⟩ := cF_stand hi hf e
  have cu := cU_ch hf c1
  rw [nm_df (show ¬ 0 < cF fr f by omega), nm_dt (show 0 < cF (upd fr i (nI f)) f by omega)] at cu
  refine ⟨⟨fun j hj => ?_, fun a ha => ?_, fun a h0 ha => ?_, ?_, ?_⟩, by omega⟩
  · by_cases c : j = i
    · right
      rw [c]
      refine ⟨f, r, hf, r1, r2, nm_us, nm_us, nm_us, fun x hx => ?_⟩
      rw [zf_p (by omega), zf_p (by omega)]
    · rw [nm_un c, nm_un c, nm_un c]
      rcases h1 j hj with q | ⟨f', r', a1, a2, a3, a4, a5, a6, a7⟩
      · exact Or.inl q
      · right
        have hne : f' ≠ f := fun q => cF_no z hj (q ▸ a4)
        refine ⟨f', r', a1, a2, a3, a4, a5, a6, fun x hx => ?_⟩
        rw [zf_n (by omega), zf_n (by omega)]
        exact a7 x hx
  · by_cases c : a = f
    · rw [c, nm_us, nm_us, c2, z]
      exact ⟨rfl, rfl⟩
    · rw [nm_un c, nm_un c, c1 a ha c]
      exact h2 a ha
  · rw [nm_un (by omega)]
    exact h3 a h0 ha
  · rw [h4, nI_add]
    exact congrArg nI (by omega)
  · rw [h5, nI_add]
    exact congrArg nI (by omega)
/-- the least free frame -/
def fF (fr : Nat → Int32) : Nat := fN (fun f => decide (cF fr f = 0)) 0 256
theorem fF_lt {fr : Nat → Int32} (h : cU fr < 256) : fF fr < 256 ∧ cF fr (fF fr) = 0 ∧ ∀ f : Nat, f < fF fr → ¬ cF fr f = 0 := by
  obtain ⟨i, hi, e⟩ := cN_fr h
  have e := of_decide_eq_false e
  obtain ⟨a, b, c, d⟩ := fN_le (fun f => decide (cF fr f = 0)) 256 0
  have lt : fF fr < 256 := by
    by_cases z : i < fF fr
    · exact absurd (of_decide_eq_false (d i (by omega) z)) (fun q => q (by omega))
    · omega
  exact ⟨lt, of_decide_eq_true (c (by show fF fr < 0 + 256; omega)), fun f hf => of_decide_eq_false (d f (by omega) hf)⟩
theorem nk_ff (n : Nat) (hn : 1024 < n) {X : St × St} (h : ∀ f : Nat, f < 256 → sR X.1 18 f = nI (cF (sR X.1 16) f)) (hc : cU (sR X.1 16) < 256) : df_X16_freeFrame n X = some (nI (fF (sR X.1 16)), X) := by
  obtain ⟨f1, f2, f3⟩ := fF_lt hc
  obtain ⟨m, hm⟩ := nm_ls (fun m k => df_X16_freeFrame_2 n m (nI k) X) (fun f => decide (cF (sR X.1 16) f = 0)) 0 256 n (by omega) (fun k m h0 hk c => by
    have c := of_decide_eq_false c
    have cl := cF_le (sR X.1 16) k
    simp (disch := omega) only [(show df_X16_freeFrame_2 n (m + 1) = dF_X16_freeFrame_2 n (df_X16_freeFrame_2 n m) from rfl), dF_X16_freeFrame_2, df_X16_freeFrame_0, df_X16_freeFrame, (h k (by omega)), nl_0, nl_1, nl_18, nl_1024, no_1, no_1024, pk_mul, nI_add, nm_ck, nI_clamp, nI_ltI, nI_leI, nI_eq, nb_b2, nb_b1, nb_let, nm_z0, nm_z1, nb_II, nb_IR, nb_RI, nb_RR, nm_IL, nm_IQ, nm_RL, nm_RQ, nm_LI, nm_LR, nm_LL, nm_LQ, nm_QI, nm_QR, nm_QL, nm_QQ, nm_rr, nm_ii, nm_eqm, not_false_eq_true, pk_sub, nm_div, nm_shl, nm_shr, nm_ush, nm_or8, nm_or64, nm_or256, nm_m1, nm_m3, nm_m7, nm_m15, nm_m31, nm_m63, nm_m255, nm_m511, nm_m1023, nm_m2047, nm_m65535, Nat.reduceMod, Nat.reducePow, Nat.reduceAdd, Nat.reduceSub, Nat.reduceMul, nm_bo, nm_bi, nm_rc, nm_ic, nm_ri, nm_rl, nm_rq, nm_ql, nm_qi, nm_li, nm_us, nm_uu, nm_cp, nm_sa31, nm_sa7, nm_m127, nm_m2, nm_nz, nm_nzk, nm_eq32, nm_nzf, if_true, if_false, ↓reduceIte, if_pos, if_neg])
  refine Eq.trans hm ?_
  show df_X16_freeFrame_2 n (m + 1) (nI (fF (sR X.1 16))) X = _
  have e := h (fF (sR X.1 16)) f1
  generalize fF (sR X.1 16) = f at f1 f2 f3 e
  simp (disch := omega) only [(show df_X16_freeFrame_2 n (m + 1) = dF_X16_freeFrame_2 n (df_X16_freeFrame_2 n m) from rfl), dF_X16_freeFrame_2, df_X16_freeFrame_0, df_X16_freeFrame, e, f2, nl_0, nl_1, nl_18, nl_1024, no_1, no_1024, pk_mul, nI_add, nm_ck, nI_clamp, nI_ltI, nI_leI, nI_eq, nb_b2, nb_b1, nb_let, nm_z0, nm_z1, nb_II, nb_IR, nb_RI, nb_RR, nm_IL, nm_IQ, nm_RL, nm_RQ, nm_LI, nm_LR, nm_LL, nm_LQ, nm_QI, nm_QR, nm_QL, nm_QQ, nm_rr, nm_ii, nm_eqm, not_false_eq_true, pk_sub, nm_div, nm_shl, nm_shr, nm_ush, nm_or8, nm_or64, nm_or256, nm_m1, nm_m3, nm_m7, nm_m15, nm_m31, nm_m63, nm_m255, nm_m511, nm_m1023, nm_m2047, nm_m65535, Nat.reduceMod, Nat.reducePow, Nat.reduceAdd, Nat.reduceSub, Nat.reduceMul, nm_bo, nm_bi, nm_rc, nm_ic, nm_ri, nm_rl, nm_rq, nm_ql, nm_qi, nm_li, nm_us, nm_uu, nm_cp, nm_sa31, nm_sa7, nm_m127, nm_m2, nm_nz, nm_nzk, nm_eq32, nm_nzf, if_true, if_false, ↓reduceIte, if_pos, if_neg]
theorem nk_freeFrame (n : Nat) (hn : 1024 < n) {M X : St × St} (h : rK M X) (hc : cU (sR X.1 16) < 256) : df_X16_freeFrame n X = some (nI (fF (sR X.1 16)), X) := nk_ff n hn (fun f hf => (h.2.1 f hf).2) hc
theorem nk_newPage (n : Nat) (hn : 1024 < n) {M X : St × St} (h : rK M X) (hc : cU (sR X.1 16) < 256) {p k r : Nat} (hp : p < 16) (hk : k < 64) (hr : r < 8) : df_X16_newPage n (nI p) (nI k) (nI r) X = some (xU X (zf (sR X.1 15) (64 * p + k)) (upd (sR X.1 16) (64 * p + k) (nI (fF (sR X.1 16)))) (upd (sR X.1 17) (64 * p + k) (nI r)) (upd (sR X.1 18) (fF (sR X.1 16)) (nI 1)) (sI X.1 6 + nI 1)) := by
  have ff := nk_freeFrame n hn h hc
  obtain ⟨f1, f2, f3⟩ := fF_lt hc
  have e := (h.2.1 (fF (sR X.1 16)) f1).2
  generalize fF (sR X.1 16) = f at f1 f2 f3 e ff
  rw [f2] at e
  obtain ⟨m, hm⟩ := nm_lq (fun m j => df_X16_newPage_29 n m (nI p) (nI k) (nI j) (xU X (zk (sR X.1 15) (64 * p + k) j) (upd (sR X.1 16) (64 * p + k) (nI f)) (upd (sR X.1 17) (64 * p + k) (nI r)) (upd (sR X.1 18) f (nI 1)) (sI X.1 6 + nI 1))) 256 n (by omega) (fun j m hj => by
    have hx : 16384 * p + 256 * k + j = (64 * p + k) * 256 + j := by omega
    simp (disch := omega) only [(show df_X16_newPage_29 n (m + 1) = dF_X16_newPage_29 n (df_X16_newPage_29 n m) from rfl), dF_X16_newPage_29, df_X16_newPage_0, df_X16_newPage, xU, hx, zk_s, nm_rc (a := 16) (b := 15) (by decide), nm_rc (a := 17) (b := 15) (by decide), nm_rc (a := 17) (b := 16) (by decide), nm_rc (a := 18) (b := 15) (by decide), nm_rc (a := 18) (b := 16) (by decide), nm_rc (a := 18) (b := 17) (by decide), nl_0, nl_1, nl_15, nl_17, nl_64, nl_256, nl_1024, nl_16384, nl_262144, no_1, no_1024, pk_mul, nI_add, nm_ck, nI_clamp, nI_ltI, nI_leI, nI_eq, nb_b2, nb_b1, nb_let, nm_z0, nm_z1, nb_II, nb_IR, nb_RI, nb_RR, nm_IL, nm_IQ, nm_RL, nm_RQ, nm_LI, nm_LR, nm_LL, nm_LQ, nm_QI, nm_QR, nm_QL, nm_QQ, nm_rr, nm_ii, nm_eqm, not_false_eq_true, pk_sub, nm_div, nm_shl, nm_shr, nm_ush, nm_or8, nm_or64, nm_or256, nm_m1, nm_m3, nm_m7, nm_m15, nm_m31, nm_m63, nm_m255, nm_m511, nm_m1023, nm_m2047, nm_m65535, Nat.reduceMod, Nat.reducePow, Nat.reduceAdd, Nat.reduceSub, Nat.reduceMul, nm_bo, nm_bi, nm_rc, nm_ic, nm_ri, nm_rl, nm_rq, nm_ql, nm_qi, nm_li, nm_us, nm_uu, nm_cp, nm_sa31, nm_sa7, nm_m127, nm_m2, nm_nz, nm_nzk, nm_eq32, nm_nzf, if_true, if_false, ↓reduceIte, if_pos, if_neg])
  simp (disch := omega) only [df_X16_newPage_0, df_X16_newPage, df_X16_stand_26, df_X16_stand_0, df_X16_stand, ff, e, nl_0, nl_1, nl_6, nl_16, nl_17, nl_18, nl_64, nl_1024, no_1, no_1024, pk_mul, nI_add, nm_ck, nI_clamp, nI_ltI, nI_leI, nI_eq, nb_b2, nb_b1, nb_let, nm_z0, nm_z1, nb_II, nb_IR, nb_RI, nb_RR, nm_IL, nm_IQ, nm_RL, nm_RQ, nm_LI, nm_LR, nm_LL, nm_LQ, nm_QI, nm_QR, nm_QL, nm_QQ, nm_rr, nm_ii, nm_eqm, not_false_eq_true, pk_sub, nm_div, nm_shl, nm_shr, nm_ush, nm_or8, nm_or64, nm_or256, nm_m1, nm_m3, nm_m7, nm_m15, nm_m31, nm_m63, nm_m255, nm_m511, nm_m1023, nm_m2047, nm_m65535, Nat.reduceMod, Nat.reducePow, Nat.reduceAdd, Nat.reduceSub, Nat.reduceMul, nm_bo, nm_bi, nm_rc, nm_ic, nm_ri, nm_rl, nm_rq, nm_ql, nm_qi, nm_li, nm_us, nm_uu, nm_cp, nm_sa31, nm_sa7, nm_m127, nm_m2, nm_nz, nm_nzk, nm_eq32, nm_nzf, if_true, if_false, ↓reduceIte, if_pos, if_neg]
  rw [zk_0] at hm
  unfold xU at hm
  rw [nm_r0] at hm
  refine Eq.trans hm ?_
  simp (disch := omega) only [(show df_X16_newPage_29 n (m + 1) = dF_X16_newPage_29 n (df_X16_newPage_29 n m) from rfl), dF_X16_newPage_29, df_X16_newPage_0, df_X16_newPage, nl_0, nl_1, nl_15, nl_17, nl_64, nl_256, nl_1024, nl_16384, nl_262144, no_1, no_1024, pk_mul, nI_add, nm_ck, nI_clamp, nI_ltI, nI_leI, nI_eq, nb_b2, nb_b1, nb_let, nm_z0, nm_z1, nb_II, nb_IR, nb_RI, nb_RR, nm_IL, nm_IQ, nm_RL, nm_RQ, nm_LI, nm_LR, nm_LL, nm_LQ, nm_QI, nm_QR, nm_QL, nm_QQ, nm_rr, nm_ii, nm_eqm, not_false_eq_true, pk_sub, nm_div, nm_shl, nm_shr, nm_ush, nm_or8, nm_or64, nm_or256, nm_m1, nm_m3, nm_m7, nm_m15, nm_m31, nm_m63, nm_m255, nm_m511, nm_m1023, nm_m2047, nm_m65535, Nat.reduceMod, Nat.reducePow, Nat.reduceAdd, Nat.reduceSub, Nat.reduceMul, nm_bo, nm_bi, nm_rc, nm_ic, nm_ri, nm_rl, nm_rq, nm_ql, nm_qi, nm_li, nm_us, nm_uu, nm_cp, nm_sa31, nm_sa7, nm_m127, nm_m2, nm_nz, nm_nzk, nm_eq32, nm_nzf, if_true, if_false, ↓reduceIte, if_pos, if_neg]
  rfl

/-- the reference's new pages, one after the other -/
def nps (n q r a : Nat) : Nat → St × St → Option (St × St)
  | 0, X => some X
  | j + 1, X => nd_b1 (nps n q r a j X) (fun s => df_X16_newPage n (nI q) (nI (a + j)) (nI r) s)
/-- what j new pages leave -/
def iP (M X : St × St) (p r a j : Nat) (w u g : Nat → Int32) (fu : Int32) (b fr ri ho : Nat → Int32) (us : Int32) : Prop := rQ w u g b fr ri ho fu us ∧ cU fr = cU (sR X.1 16) + j ∧ (∀ k : Nat, a ≤ k → k < a + j → (∃ f : Nat, f < 256 ∧ fr (64 * p + k) = nI f) ∧ ri (64 * p + k) = nI r ∧ ∀ x : Nat, x < 256 → b ((64 * p + k) * 256 + x) = nI 0) ∧ (∀ i : Nat, ¬ (64 * p + a ≤ i ∧ i < 64 * p + a + j) → fr i = sR X.1 16 i ∧ ri i = sR X.1 17 i ∧ ∀ x : Nat, x < 256 → b (i * 256 + x) = sR X.1 15 (i * 256 + x))
theorem nk_addPages (n : Nat) (hn : 1024 < n) {M X : St × St} (h : rK M X) {p a c r : Nat} (hp : p < 16) (hac : a + c ≤ 64) (r1 : 1 ≤ r) (r2 : r < 8) (hc : cU (sR X.1 16) + c ≤ 256) (hab : ∀ k : Nat, a ≤ k → k < a + c → sR X.1 16 (64 * p + k) = -nI 1) : ∃ (w u g : Nat → Int32) (fu : Int32) (b fr ri ho : Nat → Int32) (us : Int32), df_X6_addPages n (nI p) (nI a) (nI c) (nI r) M = some (mU M w u g fu) ∧ nps n p r a c X = some (xU X b fr ri ho us) ∧ iP M X p r a c w u g fu b fr ri ho us := by
  have D := nm_le (S := Nat × (St × St)) (R := St × St) (fun m f s => df_X6_addPages_6 n m (nI p) (nI a) (nI c) (nI r) (nI s.1) (nI f) s.2)
    (fun f s => ∃ (j : Nat) (w u g : Nat → Int32) (fu : Int32) (b fr ri ho : Nat → Int32) (us : Int32), j ≤ c ∧ s = (a + j, mU M w u g fu) ∧ nps n p r a j X = some (xU X b fr ri ho us) ∧ iP M X p r a j w u g fu b fr ri ho us ∧ ∀ q : Nat, q < f → ¬ cF fr q = 0)
    (fun o => ∃ (w u g : Nat → Int32) (fu : Int32) (b fr ri ho : Nat → Int32) (us : Int32), o = some (mU M w u g fu) ∧ nps n p r a c X = some (xU X b fr ri ho us) ∧ iP M X p r a c w u g fu b fr ri ho us) 256 n (by omega)
    (fun f m s hf ⟨j, w, u, g, fu, b, fr, ri, ho, us, hj, es, e1, ⟨i1, i2, i3, i4⟩, i5⟩ => by
      subst es
      by_cases cj : j = c
      · left
        subst cj
        refine ⟨w, u, g, fu, b, fr, ri, ho, us, ?_, e1, i1, i2, i3, i4⟩
        simp (disch := omega) only [(show df_X6_addPages_6 n (m + 1) = dF_X6_addPages_6 n (df_X6_addPages_6 n m) from rfl), dF_X6_addPages_6, df_X6_addPages_117, df_X6_addPages_111, df_X6_addPages_0, df_X6_addPages, nl_0, nl_1, nl_64, nl_256, no_1, no_1024, pk_mul, nI_add, nm_ck, nI_clamp, nI_ltI, nI_leI, nI_eq, nb_b2, nb_b1, nb_let, nm_z0, nm_z1, nb_II, nb_IR, nb_RI, nb_RR, nm_IL, nm_IQ, nm_RL, nm_RQ, nm_LI, nm_LR, nm_LL, nm_LQ, nm_QI, nm_QR, nm_QL, nm_QQ, nm_rr, nm_ii, nm_eqm, not_false_eq_true, pk_sub, nm_div, nm_shl, nm_shr, nm_ush, nm_or8, nm_or64, nm_or256, nm_m1, nm_m3, nm_m7, nm_m15, nm_m31, nm_m63, nm_m255, nm_m511, nm_m1023, nm_m2047, nm_m65535, Nat.reduceMod, Nat.reducePow, Nat.reduceAdd, Nat.reduceSub, Nat.reduceMul, nm_bo, nm_bi, nm_rc, nm_ic, nm_ri, nm_rl, nm_rq, nm_ql, nm_qi, nm_li, nm_us, nm_uu, nm_cp, nm_sa31, nm_sa7, nm_m127, nm_m2, nm_nz, nm_nzk, nm_eq32, nm_nzf, if_true, if_false, ↓reduceIte, if_pos, if_neg]
      · right
        have cl := cF_le fr f
        have eu : sR (mU M w u g fu).1 1 f = nI (cF fr f) := (i1.2.1 f hf).1
        by_cases cz : cF fr f = 0
        · have hff : fF fr = f := fN_is (by omega) (by omega) (decide_eq_true cz) (fun q _ hq => decide_eq_false (i5 q hq))
          have hcu : cU fr < 256 := by omega
          have np := nk_newPage n hn (M := mU M w u g fu) (X := xU X b fr ri ho us) i1 hcu hp (k := a + j) (by omega) r2
          have np : df_X16_newPage n (nI p) (nI (a + j)) (nI r) (xU X b fr ri ho us) = some (xU (xU X b fr ri ho us) (zf b (64 * p + (a + j))) (upd fr (64 * p + (a + j)) (nI (fF fr))) (upd ri (64 * p + (a + j)) (nI r)) (upd ho (fF fr) (nI 1)) (us + nI 1)) := np
          rw [hff, xU_xU] at np
          have fi : fr (64 * p + (a + j)) = -nI 1 := by
            rw [(i4 _ (by omega)).1]
            exact hab _ (by omega) (by omega)
          obtain ⟨q1, q2⟩ := rQ_new i1 (i := 64 * p + (a + j)) (f := f) (r := r) (by omega) hf r1 r2 fi cz
          refine ⟨(a + (j + 1), mU M (zf w f) (upd u f (nI 1)) (upd g (64 * p + (a + j)) (nI (f * 8 + r))) (fu + nI 1)), ⟨j + 1, _, _, _, _, _, _, _, _, _, by omega, rfl, ?_, ⟨q1, by omega, fun k k0 k1 => ?_, fun i hi => ?_⟩, fun q hq => ?_⟩, ?_⟩
          · show nd_b1 (nps n p r a j X) _ = _
            rw [e1, nb_b1, np]
          · by_cases ck : k = a + j
            · rw [ck, nm_us, nm_us]
              exact ⟨⟨f, hf, rfl⟩, rfl, fun x hx => zf_p (by omega)⟩
            · rw [nm_un (by omega), nm_un (by omega)]
              obtain ⟨z1, z2, z3⟩ := i3 k k0 (by omega)
              exact ⟨z1, z2, fun x hx => by rw [zf_n (by omega)]; exact z3 x hx⟩
          · rw [nm_un (by omega), nm_un (by omega)]
            obtain ⟨z1, z2, z3⟩ := i4 i (by omega)
            exact ⟨z1, z2, fun x hx => by rw [zf_n (by omega)]; exact z3 x hx⟩
          · obtain ⟨c1, c2⟩ := cF_stand (fr := fr) (i := 64 * p + (a + j)) (by omega) hf fi
            by_cases cq : q = f
            · rw [cq, c2]; omega
            · rw [c1 q (by omega) cq]
              exact i5 q (by omega)
          · obtain ⟨m', hm⟩ := nm_lq (fun m' x => df_X6_addPages_42 n (df_X6_addPages_6 n m) m' (nI p) (nI a) (nI c) (nI r) (nI (a + j)) (nI f) (nI x) (mU M (zk w f x) u g fu)) 256 n (by omega) (fun x m' hx => by
              rw [show df_X6_addPages_42 n (df_X6_addPages_6 n m) (m' + 1) = dF_X6_addPages_42 n (df_X6_addPages_6 n m) (df_X6_addPages_42 n (df_X6_addPages_6 n m) m') from rfl]
              simp (disch := omega) only [dF_X6_addPages_42, mU, zk_s, nm_rc (a := 1) (b := 0) (by decide), nm_rc (a := 2) (b := 0) (by decide), nm_rc (a := 2) (b := 1) (by decide), nl_0, nl_1, nl_2, nl_3, nl_6, nl_31, nl_256, nl_1024, nl_65536, no_1, no_1024, pk_mul, nI_add, nm_ck, nI_clamp, nI_ltI, nI_leI, nI_eq, nb_b2, nb_b1, nb_let, nm_z0, nm_z1, nb_II, nb_IR, nb_RI, nb_RR, nm_IL, nm_IQ, nm_RL, nm_RQ, nm_LI, nm_LR, nm_LL, nm_LQ, nm_QI, nm_QR, nm_QL, nm_QQ, nm_rr, nm_ii, nm_eqm, not_false_eq_true, pk_sub, nm_div, nm_shl, nm_shr, nm_ush, nm_or8, nm_or64, nm_or256, nm_m1, nm_m3, nm_m7, nm_m15, nm_m31, nm_m63, nm_m255, nm_m511, nm_m1023, nm_m2047, nm_m65535, Nat.reduceMod, Nat.reducePow, Nat.reduceAdd, Nat.reduceSub, Nat.reduceMul, nm_bo, nm_bi, nm_rc, nm_ic, nm_ri, nm_rl, nm_rq, nm_ql, nm_qi, nm_li, nm_us, nm_uu, nm_cp, nm_sa31, nm_sa7, nm_m127, nm_m2, nm_nz, nm_nzk, nm_eq32, nm_nzf, if_true, if_false, ↓reduceIte, if_pos, if_neg])
            rw [zk_0] at hm
            simp (disch := omega) only [(show df_X6_addPages_6 n (m + 1) = dF_X6_addPages_6 n (df_X6_addPages_6 n m) from rfl), dF_X6_addPages_6, df_X6_addPages_117, df_X6_addPages_111, df_X6_addPages_0, df_X6_addPages, eu, cz, nl_0, nl_1, nl_64, nl_256, no_1, no_1024, pk_mul, nI_add, nm_ck, nI_clamp, nI_ltI, nI_leI, nI_eq, nb_b2, nb_b1, nb_let, nm_z0, nm_z1, nb_II, nb_IR, nb_RI, nb_RR, nm_IL, nm_IQ, nm_RL, nm_RQ, nm_LI, nm_LR, nm_LL, nm_LQ, nm_QI, nm_QR, nm_QL, nm_QQ, nm_rr, nm_ii, nm_eqm, not_false_eq_true, pk_sub, nm_div, nm_shl, nm_shr, nm_ush, nm_or8, nm_or64, nm_or256, nm_m1, nm_m3, nm_m7, nm_m15, nm_m31, nm_m63, nm_m255, nm_m511, nm_m1023, nm_m2047, nm_m65535, Nat.reduceMod, Nat.reducePow, Nat.reduceAdd, Nat.reduceSub, Nat.reduceMul, nm_bo, nm_bi, nm_rc, nm_ic, nm_ri, nm_rl, nm_rq, nm_ql, nm_qi, nm_li, nm_us, nm_uu, nm_cp, nm_sa31, nm_sa7, nm_m127, nm_m2, nm_nz, nm_nzk, nm_eq32, nm_nzf, if_true, if_false, ↓reduceIte, if_pos, if_neg]
            refine Eq.trans hm ?_
            rw [show df_X6_addPages_42 n (df_X6_addPages_6 n m) (m' + 1) = dF_X6_addPages_42 n (df_X6_addPages_6 n m) (df_X6_addPages_42 n (df_X6_addPages_6 n m) m') from rfl]
            simp (disch := omega) only [dF_X6_addPages_42, df_X6_addPages_111, mU, nm_rc (a := 1) (b := 0) (by decide), nm_rc (a := 2) (b := 0) (by decide), nm_rc (a := 2) (b := 1) (by decide), nl_0, nl_1, nl_2, nl_3, nl_6, nl_31, nl_256, nl_1024, nl_65536, no_1, no_1024, pk_mul, nI_add, nm_ck, nI_clamp, nI_ltI, nI_leI, nI_eq, nb_b2, nb_b1, nb_let, nm_z0, nm_z1, nb_II, nb_IR, nb_RI, nb_RR, nm_IL, nm_IQ, nm_RL, nm_RQ, nm_LI, nm_LR, nm_LL, nm_LQ, nm_QI, nm_QR, nm_QL, nm_QQ, nm_rr, nm_ii, nm_eqm, not_false_eq_true, pk_sub, nm_div, nm_shl, nm_shr, nm_ush, nm_or8, nm_or64, nm_or256, nm_m1, nm_m3, nm_m7, nm_m15, nm_m31, nm_m63, nm_m255, nm_m511, nm_m1023, nm_m2047, nm_m65535, Nat.reduceMod, Nat.reducePow, Nat.reduceAdd, Nat.reduceSub, Nat.reduceMul, nm_bo, nm_bi, nm_rc, nm_ic, nm_ri, nm_rl, nm_rq, nm_ql, nm_qi, nm_li, nm_us, nm_uu, nm_cp, nm_sa31, nm_sa7, nm_m127, nm_m2, nm_nz, nm_nzk, nm_eq32, nm_nzf, if_true, if_false, ↓reduceIte, if_pos, if_neg]
            rw [show p * 64 + (a + j) = 64 * p + (a + j) from by omega]
            rfl
        · refine ⟨(a + j, mU M w u g fu), ⟨j, w, u, g, fu, b, fr, ri, ho, us, hj, rfl, e1, ⟨i1, i2, i3, i4⟩, fun q hq => ?_⟩, ?_⟩
          · by_cases cq : q = f
            · rw [cq]; exact cz
            · exact i5 q (by omega)
          · simp (disch := omega) only [(show df_X6_addPages_6 n (m + 1) = dF_X6_addPages_6 n (df_X6_addPages_6 n m) from rfl), dF_X6_addPages_6, df_X6_addPages_117, df_X6_addPages_111, df_X6_addPages_0, df_X6_addPages, eu, nm_eqz, nl_0, nl_1, nl_64, nl_256, no_1, no_1024, pk_mul, nI_add, nm_ck, nI_clamp, nI_ltI, nI_leI, nI_eq, nb_b2, nb_b1, nb_let, nm_z0, nm_z1, nb_II, nb_IR, nb_RI, nb_RR, nm_IL, nm_IQ, nm_RL, nm_RQ, nm_LI, nm_LR, nm_LL, nm_LQ, nm_QI, nm_QR, nm_QL, nm_QQ, nm_rr, nm_ii, nm_eqm, not_false_eq_true, pk_sub, nm_div, nm_shl, nm_shr, nm_ush, nm_or8, nm_or64, nm_or256, nm_m1, nm_m3, nm_m7, nm_m15, nm_m31, nm_m63, nm_m255, nm_m511, nm_m1023, nm_m2047, nm_m65535, Nat.reduceMod, Nat.reducePow, Nat.reduceAdd, Nat.reduceSub, Nat.reduceMul, nm_bo, nm_bi, nm_rc, nm_ic, nm_ri, nm_rl, nm_rq, nm_ql, nm_qi, nm_li, nm_us, nm_uu, nm_cp, nm_sa31, nm_sa7, nm_m127, nm_m2, nm_nz, nm_nzk, nm_eq32, nm_nzf, if_true, if_false, ↓reduceIte, if_pos, if_neg])
    (fun m s ⟨j, w, u, g, fu, b, fr, ri, ho, us, hj, es, e1, ⟨i1, i2, i3, i4⟩, i5⟩ => by
      subst es
      have cj : j = c := by
        by_cases cj : j = c
        · exact cj
        · exfalso
          obtain ⟨q, hq, z⟩ := cN_fr (P := fun f => decide (0 < cF fr f)) (N := 256) (by show cU fr < 256; omega)
          have z := of_decide_eq_false z
          exact i5 q hq (by omega)
      subst cj
      refine ⟨w, u, g, fu, b, fr, ri, ho, us, ?_, e1, i1, i2, i3, i4⟩
      simp (disch := omega) only [(show df_X6_addPages_6 n (m + 1) = dF_X6_addPages_6 n (df_X6_addPages_6 n m) from rfl), dF_X6_addPages_6, df_X6_addPages_117, df_X6_addPages_111, df_X6_addPages_0, df_X6_addPages, nl_0, nl_1, nl_64, nl_256, no_1, no_1024, pk_mul, nI_add, nm_ck, nI_clamp, nI_ltI, nI_leI, nI_eq, nb_b2, nb_b1, nb_let, nm_z0, nm_z1, nb_II, nb_IR, nb_RI, nb_RR, nm_IL, nm_IQ, nm_RL, nm_RQ, nm_LI, nm_LR, nm_LL, nm_LQ, nm_QI, nm_QR, nm_QL, nm_QQ, nm_rr, nm_ii, nm_eqm, not_false_eq_true, pk_sub, nm_div, nm_shl, nm_shr, nm_ush, nm_or8, nm_or64, nm_or256, nm_m1, nm_m3, nm_m7, nm_m15, nm_m31, nm_m63, nm_m255, nm_m511, nm_m1023, nm_m2047, nm_m65535, Nat.reduceMod, Nat.reducePow, Nat.reduceAdd, Nat.reduceSub, Nat.reduceMul, nm_bo, nm_bi, nm_rc, nm_ic, nm_ri, nm_rl, nm_rq, nm_ql, nm_qi, nm_li, nm_us, nm_uu, nm_cp, nm_sa31, nm_sa7, nm_m127, nm_m2, nm_nz, nm_nzk, nm_eq32, nm_nzf, if_true, if_false, ↓reduceIte, if_pos, if_neg]) (a, M)
    ⟨0, sR M.1 0, sR M.1 1, sR M.1 2, sI M.1 0, sR X.1 15, sR X.1 16, sR X.1 17, sR X.1 18, sI X.1 6, by omega, by rw [mU_id, Nat.add_zero], by rw [xU_id]; rfl, ⟨h, (Nat.add_zero _).symm, fun k k0 k1 => absurd k1 (by omega), fun _ _ => ⟨rfl, rfl, fun _ _ => rfl⟩⟩, fun q hq => absurd hq (by omega)⟩
  exact D

/-- no other page is on a frame that one alone uses -/
theorem cF_one {fr : Nat → Int32} {i f : Nat} (hi : i < 1024) (hf : f < 256) (e : fr i = nI f) (c : cF fr f = 1) {j : Nat} (hj : j < 1024) (hne : j ≠ i) : ¬ fr j = nI f := fun z => by
  obtain ⟨_, c2⟩ := cF_leave hi hf e
  have c0 : cF (upd fr i (-nI 1)) f = 0 := by omega
  exact cF_no c0 hj (by rw [nm_un hne]; exact z)
theorem nm_inI {a b : Nat} (ha : a < 2 ^ 31) (hb : b < 2 ^ 31) (h : nI a = nI b) : a = b := (nI_eq ha hb).mp h
/-- a word of a page that has its frame alone -/
theorem rQ_put {w u g b fr ri ho : Nat → Int32} {fu us : Int32} (h : rQ w u g b fr ri ho fu us) {i f j : Nat} (hi : i < 1024) (hf : f < 256) (e : fr i = nI f) (c : cF fr f = 1) (hj : j < 256) (x : Int32) : rQ (upd w (f * 256 + j) x) u g (upd b (i * 256 + j) x) fr ri ho fu us := by
  obtain ⟨h1, h2⟩ := h
  refine ⟨fun k hk => ?_, h2⟩
  rcases h1 k hk with q | ⟨f', r', a1, a2, a3, a4, a5, a6, a7⟩
  · exact Or.inl q
  · right
    refine ⟨f', r', a1, a2, a3, a4, a5, a6, fun y hy => ?_⟩
    by_cases ck : k = i
    · have ef : f' = f := nm_inI (by omega) (by omega) (by rw [← a4, ck, e])
      rw [ck, ef]
      by_cases cy : y = j
      · rw [cy, nm_us, nm_us]
      · rw [nm_un (by omega), nm_un (by omega), ← ef, ← ck]
        exact a7 y hy
    · have ef : f' ≠ f := fun q => cF_one hi hf e c hk ck (q ▸ a4)
      rw [nm_un (by omega), nm_un (by omega)]
      exact a7 y hy
/-- a page that shares its frame comes into a free one -/
theorem rQ_own {w u g b fr ri ho : Nat → Int32} {fu us : Int32} (h : rQ w u g b fr ri ho fu us) {i f f' r : Nat} (hi : i < 1024) (hf : f < 256) (hf' : f' < 256) (hr : r < 8) (e : fr i = nI f) (eg : g i = nI (f * 8 + r)) (c : 1 < cF fr f) (z : cF fr f' = 0) : rQ (va_cpy w w (f * 256) (f' * 256) 256) (upd (upd u f (nI (cF fr f - 1))) f' (nI 1)) (upd g i (nI (f' * 8 + r))) b (upd fr i (nI f')) ri (upd (upd ho f (nI (cF fr f - 1))) f' (nI 1)) (fu + nI 1) (us + nI 1) ∧ cU (upd fr i (nI f')) = cU fr + 1 ∧ cF (upd fr i (nI f')) f' = 1 ∧ fF (upd fr i (-nI 1)) = fF fr := by
  obtain ⟨h1, h2, h3, h4, h5⟩ := h
  have hne : f' ≠ f := fun q => by rw [q] at z; omega
  obtain ⟨l1, l2⟩ := cF_leave hi hf e
  have lu := cU_ch hf l1
  rw [nm_dt (show 0 < cF fr f by omega), nm_dt (show 0 < cF (upd fr i (-nI 1)) f by omega)] at lu
  obtain ⟨s1, s2⟩ := cF_stand (fr := upd fr i (-nI 1)) hi hf' nm_us
  have su := cU_ch hf' s1
  rw [nm_uu] at s1 s2 su
  have z' : cF (upd fr i (-nI 1)) f' = 0 := by rw [l1 f' hf' hne, z]
  rw [nm_df (show ¬ 0 < cF (upd fr i (-nI 1)) f' by omega), nm_dt (show 0 < cF (upd fr i (nI f')) f' by omega)] at su
  refine ⟨⟨fun k hk => ?_, fun a ha => ?_, fun a h0 ha => ?_, ?_, ?_⟩, by omega, by omega, ?_⟩
  · by_cases ck : k = i
    · right
      rcases h1 i hi with q | ⟨f2, r2, a1, a2, a3, a4, a5, a6, a7⟩
      · rw [q.1] at e
        exact absurd e.symm (nk_ne (by omega))
      · have ef : f2 = f := nm_inI (by omega) (by omega) (by rw [← a4, e])
        have er : r2 = r := by
          have := nm_inI (a := f2 * 8 + r2) (b := f * 8 + r) (by omega) (by omega) (by rw [← a6, eg])
          omega
        rw [ck]
        refine ⟨f', r, hf', by omega, hr, nm_us, by rw [← er]; exact a5, nm_us, fun y hy => ?_⟩
        rw [← a7 y hy, ef]
        show (if f' * 256 ≤ f' * 256 + y ∧ f' * 256 + y < f' * 256 + 256 then w (f * 256 + (f' * 256 + y - f' * 256)) else w (f' * 256 + y)) = _
        rw [if_pos (by omega)]
        exact congrArg w (by omega)
    · rw [nm_un ck, nm_un ck]
      rcases h1 k hk with q | ⟨f2, r2, a1, a2, a3, a4, a5, a6, a7⟩
      · exact Or.inl q
      · right
        have hn2 : f2 ≠ f' := fun q => cF_no z hk (q ▸ a4)
        refine ⟨f2, r2, a1, a2, a3, a4, a5, a6, fun y hy => ?_⟩
        rw [← a7 y hy]
        show (if f' * 256 ≤ f2 * 256 + y ∧ f2 * 256 + y < f' * 256 + 256 then _ else w (f2 * 256 + y)) = _
        rw [if_neg (by omega)]
  · by_cases c1 : a = f'
    · rw [c1, nm_us, nm_us, s2, z']
      exact ⟨rfl, rfl⟩
    · rw [nm_un c1, nm_un c1, s1 a ha c1]
      by_cases c2 : a = f
      · rw [c2, nm_us, nm_us]
        exact ⟨congrArg nI (by omega), congrArg nI (by omega)⟩
      · rw [nm_un c2, nm_un c2, l1 a ha c2]
        exact h2 a ha
  · rw [nm_un (by omega), nm_un (by omega)]
    exact h3 a h0 ha
  · rw [h4, nI_add]
    exact congrArg nI (by omega)
  · rw [h5, nI_add]
    exact congrArg nI (by omega)
  · refine fN_c _ _ (fun q _ hq => ?_)
    by_cases cq : q = f
    · rw [cq, decide_eq_false (show ¬ cF (upd fr i (-nI 1)) f = 0 by omega), decide_eq_false (show ¬ cF fr f = 0 by omega)]
    · rw [l1 q (by omega) cq]
theorem cN_1x (fr : Nat → Int32) (h : cU fr = 256) (q : Nat) (hq : q < 256) : 0 < cF fr q := by
  by_cases c : 0 < cF fr q
  · exact c
  · exfalso
    have e := cN_u (P := fun f => decide (0 < cF fr f)) (Q := fun f => if f = q then true else decide (0 < cF fr f)) (j := q) (fun i hi => by rw [if_neg hi]) (N := 256) hq
    have l := cN_le (fun f => if f = q then true else decide (0 < cF fr f)) 256
    have h : cN (fun f => decide (0 < cF fr f)) 256 = 256 := h
    rw [nm_df c, if_pos rfl] at e
    have e : cN (fun f => if f = q then true else decide (0 < cF fr f)) 256 + 0 = cN (fun f => decide (0 < cF fr f)) 256 + 1 := e
    omega
theorem nk_own1 (n : Nat) {M X : St × St} (h : rK M X) {p a f : Nat} (hp : p < 16) (ha : a < 65536) (hf : f < 256) (e : sR X.1 16 (64 * p + a / 1024) = nI f) (c : cF (sR X.1 16) f = 1) : df_X6_own n (nI p) (nI a) M = some (nI 1, M) := by
  rcases h.1 (64 * p + a / 1024) (by omega) with q | ⟨f2, r2, a1, a2, a3, a4, a5, a6, a7⟩
  · rw [q.1] at e
    exact absurd e.symm (nk_ne (by omega))
  · have ef : f2 = f := nm_inI (by omega) (by omega) (by rw [← a4, e])
    subst ef
    have hx : p * 64 + a / 2 ^ 10 % 64 = 64 * p + a / 1024 := by omega
    have hy : (f2 * 8 + r2) / 2 ^ 3 = f2 := by omega
    have eu := (h.2.1 f2 hf).1
    rw [c] at eu
    simp (disch := omega) only [df_X6_own_0, df_X6_own, hx, a6, hy, eu, nl_0, nl_1, nl_2, nl_3, nl_6, nl_10, nl_31, nl_63, nl_256, nl_1024, no_1, no_1024, pk_mul, nI_add, nm_ck, nI_clamp, nI_ltI, nI_leI, nI_eq, nb_b2, nb_b1, nb_let, nm_z0, nm_z1, nb_II, nb_IR, nb_RI, nb_RR, nm_IL, nm_IQ, nm_RL, nm_RQ, nm_LI, nm_LR, nm_LL, nm_LQ, nm_QI, nm_QR, nm_QL, nm_QQ, nm_rr, nm_ii, nm_eqm, not_false_eq_true, pk_sub, nm_div, nm_shl, nm_shr, nm_ush, nm_or8, nm_or64, nm_or256, nm_m1, nm_m3, nm_m7, nm_m15, nm_m31, nm_m63, nm_m255, nm_m511, nm_m1023, nm_m2047, nm_m65535, Nat.reduceMod, Nat.reducePow, Nat.reduceAdd, Nat.reduceSub, Nat.reduceMul, nm_bo, nm_bi, nm_rc, nm_ic, nm_ri, nm_rl, nm_rq, nm_ql, nm_qi, nm_li, nm_us, nm_uu, nm_cp, nm_sa31, nm_sa7, nm_m127, nm_m2, nm_nz, nm_nzk, nm_eq32, nm_nzf, if_true, if_false, ↓reduceIte, if_pos, if_neg]
theorem nk_own2 (n : Nat) (hn : 1024 < n) {M X : St × St} (h : rK M X) {p a f : Nat} (hp : p < 16) (ha : a < 65536) (hf : f < 256) (e : sR X.1 16 (64 * p + a / 1024) = nI f) (c : 1 < cF (sR X.1 16) f) : (cU (sR X.1 16) = 256 → df_X6_own n (nI p) (nI a) M = some (nI 0, M)) ∧ (cU (sR X.1 16) < 256 → ∃ r : Nat, r < 8 ∧ sR M.1 2 (64 * p + a / 1024) = nI (f * 8 + r) ∧ df_X6_own n (nI p) (nI a) M = some (nI 1, mU M (va_cpy (sR M.1 0) (sR M.1 0) (f * 256) (fF (sR X.1 16) * 256) 256) (upd (upd (sR M.1 1) f (nI (cF (sR X.1 16) f - 1))) (fF (sR X.1 16)) (nI 1)) (upd (sR M.1 2) (64 * p + a / 1024) (nI (fF (sR X.1 16) * 8 + r))) (sI M.1 0 + nI 1))) := by
  rcases h.1 (64 * p + a / 1024) (by omega) with q | ⟨f2, r2, a1, a2, a3, a4, a5, a6, a7⟩
  · rw [q.1] at e
    exact absurd e.symm (nk_ne (by omega))
  · have ef : f2 = f := nm_inI (by omega) (by omega) (by rw [← a4, e])
    subst ef
    have hx : p * 64 + a / 2 ^ 10 % 64 = 64 * p + a / 1024 := by omega
    have hy : (f2 * 8 + r2) / 2 ^ 3 = f2 := by omega
    have eu := (h.2.1 f2 hf).1
    have cl := cF_le (sR X.1 16) f2
    obtain ⟨m, hm⟩ := nm_ls (fun m k => df_X6_own_39 n m (nI (64 * p + a / 1024)) (nI f2) (nI k) M) (fun f => decide (cF (sR X.1 16) f = 0)) 0 256 n (by omega) (fun k m h0 hk c => by
      have c := of_decide_eq_false c
      have cl := cF_le (sR X.1 16) k
      have ek := (h.2.1 k (by omega)).1
      simp (disch := omega) only [(show df_X6_own_39 n (m + 1) = dF_X6_own_39 n (df_X6_own_39 n m) from rfl), dF_X6_own_39, df_X6_own_0, df_X6_own, ek, nl_0, nl_1, nl_2, nl_3, nl_6, nl_7, nl_10, nl_31, nl_63, nl_256, nl_1024, nl_65536, no_1, no_1024, pk_mul, nI_add, nm_ck, nI_clamp, nI_ltI, nI_leI, nI_eq, nb_b2, nb_b1, nb_let, nm_z0, nm_z1, nb_II, nb_IR, nb_RI, nb_RR, nm_IL, nm_IQ, nm_RL, nm_RQ, nm_LI, nm_LR, nm_LL, nm_LQ, nm_QI, nm_QR, nm_QL, nm_QQ, nm_rr, nm_ii, nm_eqm, not_false_eq_true, pk_sub, nm_div, nm_shl, nm_shr, nm_ush, nm_or8, nm_or64, nm_or256, nm_m1, nm_m3, nm_m7, nm_m15, nm_m31, nm_m63, nm_m255, nm_m511, nm_m1023, nm_m2047, nm_m65535, Nat.reduceMod, Nat.reducePow, Nat.reduceAdd, Nat.reduceSub, Nat.reduceMul, nm_bo, nm_bi, nm_rc, nm_ic, nm_ri, nm_rl, nm_rq, nm_ql, nm_qi, nm_li, nm_us, nm_uu, nm_cp, nm_sa31, nm_sa7, nm_m127, nm_m2, nm_nz, nm_nzk, nm_eq32, nm_nzf, if_true, if_false, ↓reduceIte, if_pos, if_neg])
    have hm : df_X6_own_39 n n (nI (64 * p + a / 1024)) (nI f2) (nI 0) M = df_X6_own_39 n (m + 1) (nI (64 * p + a / 1024)) (nI f2) (nI (fF (sR X.1 16))) M := hm
    refine ⟨fun hc => ?_, fun hc => ?_⟩
    · have f256 : fF (sR X.1 16) = 256 := fN_no (fun q _ hq => decide_eq_false (fun z => by
        have c1 := cN_1x (sR X.1 16) hc q (by omega)
        omega))
      rw [f256] at hm
      simp (disch := omega) only [df_X6_own_0, df_X6_own, hx, a6, hy, eu, nl_0, nl_1, nl_2, nl_3, nl_6, nl_10, nl_31, nl_63, nl_256, nl_1024, no_1, no_1024, pk_mul, nI_add, nm_ck, nI_clamp, nI_ltI, nI_leI, nI_eq, nb_b2, nb_b1, nb_let, nm_z0, nm_z1, nb_II, nb_IR, nb_RI, nb_RR, nm_IL, nm_IQ, nm_RL, nm_RQ, nm_LI, nm_LR, nm_LL, nm_LQ, nm_QI, nm_QR, nm_QL, nm_QQ, nm_rr, nm_ii, nm_eqm, not_false_eq_true, pk_sub, nm_div, nm_shl, nm_shr, nm_ush, nm_or8, nm_or64, nm_or256, nm_m1, nm_m3, nm_m7, nm_m15, nm_m31, nm_m63, nm_m255, nm_m511, nm_m1023, nm_m2047, nm_m65535, Nat.reduceMod, Nat.reducePow, Nat.reduceAdd, Nat.reduceSub, Nat.reduceMul, nm_bo, nm_bi, nm_rc, nm_ic, nm_ri, nm_rl, nm_rq, nm_ql, nm_qi, nm_li, nm_us, nm_uu, nm_cp, nm_sa31, nm_sa7, nm_m127, nm_m2, nm_nz, nm_nzk, nm_eq32, nm_nzf, if_true, if_false, ↓reduceIte, if_pos, if_neg]
      refine Eq.trans hm ?_
      simp (disch := omega) only [(show df_X6_own_39 n (m + 1) = dF_X6_own_39 n (df_X6_own_39 n m) from rfl), dF_X6_own_39, df_X6_own_0, df_X6_own, nl_0, nl_1, nl_2, nl_3, nl_6, nl_7, nl_10, nl_31, nl_63, nl_256, nl_1024, nl_65536, no_1, no_1024, pk_mul, nI_add, nm_ck, nI_clamp, nI_ltI, nI_leI, nI_eq, nb_b2, nb_b1, nb_let, nm_z0, nm_z1, nb_II, nb_IR, nb_RI, nb_RR, nm_IL, nm_IQ, nm_RL, nm_RQ, nm_LI, nm_LR, nm_LL, nm_LQ, nm_QI, nm_QR, nm_QL, nm_QQ, nm_rr, nm_ii, nm_eqm, not_false_eq_true, pk_sub, nm_div, nm_shl, nm_shr, nm_ush, nm_or8, nm_or64, nm_or256, nm_m1, nm_m3, nm_m7, nm_m15, nm_m31, nm_m63, nm_m255, nm_m511, nm_m1023, nm_m2047, nm_m65535, Nat.reduceMod, Nat.reducePow, Nat.reduceAdd, Nat.reduceSub, Nat.reduceMul, nm_bo, nm_bi, nm_rc, nm_ic, nm_ri, nm_rl, nm_rq, nm_ql, nm_qi, nm_li, nm_us, nm_uu, nm_cp, nm_sa31, nm_sa7, nm_m127, nm_m2, nm_nz, nm_nzk, nm_eq32, nm_nzf, if_true, if_false, ↓reduceIte, if_pos, if_neg]
    · obtain ⟨f1, f2', f3⟩ := fF_lt hc
      have eu2 := (h.2.1 (fF (sR X.1 16)) f1).1
      rw [f2'] at eu2
      refine ⟨r2, a3, a6, ?_⟩
      simp (disch := omega) only [df_X6_own_0, df_X6_own, hx, a6, hy, eu, nl_0, nl_1, nl_2, nl_3, nl_6, nl_10, nl_31, nl_63, nl_256, nl_1024, no_1, no_1024, pk_mul, nI_add, nm_ck, nI_clamp, nI_ltI, nI_leI, nI_eq, nb_b2, nb_b1, nb_let, nm_z0, nm_z1, nb_II, nb_IR, nb_RI, nb_RR, nm_IL, nm_IQ, nm_RL, nm_RQ, nm_LI, nm_LR, nm_LL, nm_LQ, nm_QI, nm_QR, nm_QL, nm_QQ, nm_rr, nm_ii, nm_eqm, not_false_eq_true, pk_sub, nm_div, nm_shl, nm_shr, nm_ush, nm_or8, nm_or64, nm_or256, nm_m1, nm_m3, nm_m7, nm_m15, nm_m31, nm_m63, nm_m255, nm_m511, nm_m1023, nm_m2047, nm_m65535, Nat.reduceMod, Nat.reducePow, Nat.reduceAdd, Nat.reduceSub, Nat.reduceMul, nm_bo, nm_bi, nm_rc, nm_ic, nm_ri, nm_rl, nm_rq, nm_ql, nm_qi, nm_li, nm_us, nm_uu, nm_cp, nm_sa31, nm_sa7, nm_m127, nm_m2, nm_nz, nm_nzk, nm_eq32, nm_nzf, if_true, if_false, ↓reduceIte, if_pos, if_neg]
      refine Eq.trans hm ?_
      generalize fF (sR X.1 16) = ff at *
      have hz : (f2 * 8 + r2) % 8 = r2 := by omega
      simp (disch := omega) only [(show df_X6_own_39 n (m + 1) = dF_X6_own_39 n (df_X6_own_39 n m) from rfl), dF_X6_own_39, df_X6_own_0, df_X6_own, eu2, eu, a6, hz, mU, nm_rc (a := 1) (b := 0) (by decide), nm_rc (a := 2) (b := 0) (by decide), nm_rc (a := 2) (b := 1) (by decide), nl_0, nl_1, nl_2, nl_3, nl_6, nl_7, nl_10, nl_31, nl_63, nl_256, nl_1024, nl_65536, no_1, no_1024, pk_mul, nI_add, nm_ck, nI_clamp, nI_ltI, nI_leI, nI_eq, nb_b2, nb_b1, nb_let, nm_z0, nm_z1, nb_II, nb_IR, nb_RI, nb_RR, nm_IL, nm_IQ, nm_RL, nm_RQ, nm_LI, nm_LR, nm_LL, nm_LQ, nm_QI, nm_QR, nm_QL, nm_QQ, nm_rr, nm_ii, nm_eqm, not_false_eq_true, pk_sub, nm_div, nm_shl, nm_shr, nm_ush, nm_or8, nm_or64, nm_or256, nm_m1, nm_m3, nm_m7, nm_m15, nm_m31, nm_m63, nm_m255, nm_m511, nm_m1023, nm_m2047, nm_m65535, Nat.reduceMod, Nat.reducePow, Nat.reduceAdd, Nat.reduceSub, Nat.reduceMul, nm_bo, nm_bi, nm_rc, nm_ic, nm_ri, nm_rl, nm_rq, nm_ql, nm_qi, nm_li, nm_us, nm_uu, nm_cp, nm_sa31, nm_sa7, nm_m127, nm_m2, nm_nz, nm_nzk, nm_eq32, nm_nzf, if_true, if_false, ↓reduceIte, if_pos, if_neg]

/-- a mask's bits of a word -/
def pw (x : Int32) (s : Nat) (m v : Int32) : Int32 := (x &&& ((m <<< nI s) ^^^ -nI 1)) ||| ((v &&& m) <<< nI s)
/-- a byte of the reference's memory -/
def pb (b : Nat → Int32) (A : Nat) (v : Int32) : Nat → Int32 := upd b (A / 4) (pw (b (A / 4)) (8 * (A % 4)) (nI 255) v)
def wX (X : St × St) (b fr ri ho : Nat → Int32) (us re wr : Int32) : St × St := (pI (pI (pI (pR (pR (pR (pR X.1 15 b) 16 fr) 17 ri) 18 ho) 4 re) 6 us) 16 wr, X.2)
theorem wX_id (X : St × St) : wX X (sR X.1 15) (sR X.1 16) (sR X.1 17) (sR X.1 18) (sI X.1 6) (sI X.1 4) (sI X.1 16) = X := by
  unfold wX
  rw [nm_r0, nm_r0, nm_r0, nm_r0, nm_i0, nm_i0, nm_i0]
/-- what is reserved once a byte is written -/
def rv (re : Int32) (a : Nat) : Int32 := if re = nI (a / 4 * 4) then -nI 1 else re
def wv (X : St × St) (wr : Int32) (p a : Nat) : Int32 := if wr = nI 0 then (if nI p = sI X.1 14 ∧ nI a = sI X.1 15 then nI 1 else nI 0) else nI 1
def okR (re : Int32) : Prop := re = -nI 1 ∨ ∃ t : Nat, t < 16384 ∧ re = nI (4 * t)
def okB (wr : Int32) : Prop := wr = nI 0 ∨ wr = nI 1
theorem okR_rv {re : Int32} (h : okR re) (a : Nat) : okR (rv re a) := by
  unfold rv
  by_cases c : re = nI (a / 4 * 4)
  · rw [if_pos c]; exact Or.inl rfl
  · rw [if_neg c]; exact h
theorem okB_wv {X : St × St} {wr : Int32} {p a : Nat} : okB (wv X wr p a) := by
  unfold wv
  by_cases c : wr = nI 0
  · rw [if_pos c]
    by_cases d : nI p = sI X.1 14 ∧ nI a = sI X.1 15
    · rw [if_pos d]; exact Or.inr rfl
    · rw [if_neg d]; exact Or.inl rfl
  · rw [if_neg c]; exact Or.inr rfl
theorem nm_f0 {α : Type} {x : Option α} : nd_f .boolean (nI 0) x = x := if_pos (by decide)
theorem nm_f1 {α : Type} {x : Option α} : nd_f .boolean (nI 1) x = x := if_pos (by decide)
theorem nk_put (n : Nat) {X : St × St} {b fr ri ho : Nat → Int32} {us re wr : Int32} {p a : Nat} (hp : p < 16) (ha : a < 65536) (v : Int32) : df_X16_put n (nI (65536 * p + a)) v (wX X b fr ri ho us re wr) = some (wX X (pb b (65536 * p + a) v) fr ri ho us re wr) := by
  have hs : 8 * ((65536 * p + a) % 4) % 32 = 8 * ((65536 * p + a) % 4) := by omega
  simp (disch := omega) only [df_X16_put_0, df_X16_put, wX, pb, pw, hs, nm_rc (a := 16) (b := 15) (by decide), nm_rc (a := 17) (b := 15) (by decide), nm_rc (a := 17) (b := 16) (by decide), nm_rc (a := 18) (b := 15) (by decide), nm_rc (a := 18) (b := 16) (by decide), nm_rc (a := 18) (b := 17) (by decide), nm_ic (a := 6) (b := 4) (by decide), nm_ic (a := 16) (b := 4) (by decide), nm_ic (a := 16) (b := 6) (by decide), nl_1, nl_2, nl_3, nl_8, nl_15, nl_31, nl_255, nl_262144, no_1, no_1024, pk_mul, nI_add, nm_ck, nI_clamp, nI_ltI, nI_leI, nI_eq, nb_b2, nb_b1, nb_let, nm_z0, nm_z1, nb_II, nb_IR, nb_RI, nb_RR, nm_IL, nm_IQ, nm_RL, nm_RQ, nm_LI, nm_LR, nm_LL, nm_LQ, nm_QI, nm_QR, nm_QL, nm_QQ, nm_rr, nm_ii, nm_eqm, not_false_eq_true, pk_sub, nm_div, nm_shl, nm_shr, nm_ush, nm_or8, nm_or64, nm_or256, nm_m1, nm_m3, nm_m7, nm_m15, nm_m31, nm_m63, nm_m255, nm_m511, nm_m1023, nm_m2047, nm_m65535, Nat.reduceMod, Nat.reducePow, Nat.reduceAdd, Nat.reduceSub, Nat.reduceMul, nm_bo, nm_bi, nm_rc, nm_ic, nm_ri, nm_rl, nm_rq, nm_ql, nm_qi, nm_li, nm_us, nm_uu, nm_cp, nm_sa31, nm_sa7, nm_m127, nm_m2, nm_nz, nm_nzk, nm_eq32, nm_nzf, if_true, if_false, ↓reduceIte, if_pos, if_neg]
theorem nk_w80 (n : Nat) {X : St × St} {b fr ri ho : Nat → Int32} {us re wr : Int32} {p a : Nat} (hwr : okB wr) : df_X16_write_80 n (nI p) (nI a) (wX X b fr ri ho us re wr) = some (wX X b fr ri ho us re (wv X wr p a)) := by
  unfold wv
  rcases hwr with e | e
  · subst e
    by_cases c1 : nI p = sI X.1 14
    · by_cases c2 : nI a = sI X.1 15
      · rw [if_pos rfl, if_pos ⟨c1, c2⟩]
        simp (disch := omega) only [df_X16_write_80, df_X16_write_104, df_X16_write_108, df_X16_write_109, wX, c1, c2, nm_f0, nm_f1, nm_ic (a := 6) (b := 4) (by decide), nm_ic (a := 16) (b := 4) (by decide), nm_ic (a := 16) (b := 6) (by decide), nl_0, nl_1, nl_14, nl_15, nl_16, no_1, no_1024, pk_mul, nI_add, nm_ck, nI_clamp, nI_ltI, nI_leI, nI_eq, nb_b2, nb_b1, nb_let, nm_z0, nm_z1, nb_II, nb_IR, nb_RI, nb_RR, nm_IL, nm_IQ, nm_RL, nm_RQ, nm_LI, nm_LR, nm_LL, nm_LQ, nm_QI, nm_QR, nm_QL, nm_QQ, nm_rr, nm_ii, nm_eqm, not_false_eq_true, pk_sub, nm_div, nm_shl, nm_shr, nm_ush, nm_or8, nm_or64, nm_or256, nm_m1, nm_m3, nm_m7, nm_m15, nm_m31, nm_m63, nm_m255, nm_m511, nm_m1023, nm_m2047, nm_m65535, Nat.reduceMod, Nat.reducePow, Nat.reduceAdd, Nat.reduceSub, Nat.reduceMul, nm_bo, nm_bi, nm_rc, nm_ic, nm_ri, nm_rl, nm_rq, nm_ql, nm_qi, nm_li, nm_us, nm_uu, nm_cp, nm_sa31, nm_sa7, nm_m127, nm_m2, nm_nz, nm_nzk, nm_eq32, nm_nzf, if_true, if_false, ↓reduceIte, if_pos, if_neg]
      · rw [if_pos rfl, if_neg (fun z => c2 z.2)]
        simp (disch := omega) only [df_X16_write_80, df_X16_write_104, df_X16_write_108, df_X16_write_109, wX, c1, c2, nm_f0, nm_f1, nm_ic (a := 6) (b := 4) (by decide), nm_ic (a := 16) (b := 4) (by decide), nm_ic (a := 16) (b := 6) (by decide), nl_0, nl_1, nl_14, nl_15, nl_16, no_1, no_1024, pk_mul, nI_add, nm_ck, nI_clamp, nI_ltI, nI_leI, nI_eq, nb_b2, nb_b1, nb_let, nm_z0, nm_z1, nb_II, nb_IR, nb_RI, nb_RR, nm_IL, nm_IQ, nm_RL, nm_RQ, nm_LI, nm_LR, nm_LL, nm_LQ, nm_QI, nm_QR, nm_QL, nm_QQ, nm_rr, nm_ii, nm_eqm, not_false_eq_true, pk_sub, nm_div, nm_shl, nm_shr, nm_ush, nm_or8, nm_or64, nm_or256, nm_m1, nm_m3, nm_m7, nm_m15, nm_m31, nm_m63, nm_m255, nm_m511, nm_m1023, nm_m2047, nm_m65535, Nat.reduceMod, Nat.reducePow, Nat.reduceAdd, Nat.reduceSub, Nat.reduceMul, nm_bo, nm_bi, nm_rc, nm_ic, nm_ri, nm_rl, nm_rq, nm_ql, nm_qi, nm_li, nm_us, nm_uu, nm_cp, nm_sa31, nm_sa7, nm_m127, nm_m2, nm_nz, nm_nzk, nm_eq32, nm_nzf, if_true, if_false, ↓reduceIte, if_pos, if_neg]
    · rw [if_pos rfl, if_neg (fun z => c1 z.1)]
      simp (disch := omega) only [df_X16_write_80, df_X16_write_104, df_X16_write_108, df_X16_write_109, wX, c1, nm_f0, nm_f1, nm_ic (a := 6) (b := 4) (by decide), nm_ic (a := 16) (b := 4) (by decide), nm_ic (a := 16) (b := 6) (by decide), nl_0, nl_1, nl_14, nl_15, nl_16, no_1, no_1024, pk_mul, nI_add, nm_ck, nI_clamp, nI_ltI, nI_leI, nI_eq, nb_b2, nb_b1, nb_let, nm_z0, nm_z1, nb_II, nb_IR, nb_RI, nb_RR, nm_IL, nm_IQ, nm_RL, nm_RQ, nm_LI, nm_LR, nm_LL, nm_LQ, nm_QI, nm_QR, nm_QL, nm_QQ, nm_rr, nm_ii, nm_eqm, not_false_eq_true, pk_sub, nm_div, nm_shl, nm_shr, nm_ush, nm_or8, nm_or64, nm_or256, nm_m1, nm_m3, nm_m7, nm_m15, nm_m31, nm_m63, nm_m255, nm_m511, nm_m1023, nm_m2047, nm_m65535, Nat.reduceMod, Nat.reducePow, Nat.reduceAdd, Nat.reduceSub, Nat.reduceMul, nm_bo, nm_bi, nm_rc, nm_ic, nm_ri, nm_rl, nm_rq, nm_ql, nm_qi, nm_li, nm_us, nm_uu, nm_cp, nm_sa31, nm_sa7, nm_m127, nm_m2, nm_nz, nm_nzk, nm_eq32, nm_nzf, if_true, if_false, ↓reduceIte, if_pos, if_neg]
  · subst e
    rw [if_neg (by decide)]
    simp (disch := omega) only [df_X16_write_80, df_X16_write_104, df_X16_write_108, df_X16_write_109, wX, nm_f0, nm_f1, nm_ic (a := 6) (b := 4) (by decide), nm_ic (a := 16) (b := 4) (by decide), nm_ic (a := 16) (b := 6) (by decide), nl_0, nl_1, nl_14, nl_15, nl_16, no_1, no_1024, pk_mul, nI_add, nm_ck, nI_clamp, nI_ltI, nI_leI, nI_eq, nb_b2, nb_b1, nb_let, nm_z0, nm_z1, nb_II, nb_IR, nb_RI, nb_RR, nm_IL, nm_IQ, nm_RL, nm_RQ, nm_LI, nm_LR, nm_LL, nm_LQ, nm_QI, nm_QR, nm_QL, nm_QQ, nm_rr, nm_ii, nm_eqm, not_false_eq_true, pk_sub, nm_div, nm_shl, nm_shr, nm_ush, nm_or8, nm_or64, nm_or256, nm_m1, nm_m3, nm_m7, nm_m15, nm_m31, nm_m63, nm_m255, nm_m511, nm_m1023, nm_m2047, nm_m65535, Nat.reduceMod, Nat.reducePow, Nat.reduceAdd, Nat.reduceSub, Nat.reduceMul, nm_bo, nm_bi, nm_rc, nm_ic, nm_ri, nm_rl, nm_rq, nm_ql, nm_qi, nm_li, nm_us, nm_uu, nm_cp, nm_sa31, nm_sa7, nm_m127, nm_m2, nm_nz, nm_nzk, nm_eq32, nm_nzf, if_true, if_false, ↓reduceIte, if_pos, if_neg]
theorem nk_w44 (n : Nat) {X : St × St} {b fr ri ho : Nat → Int32} {us re wr : Int32} {p a : Nat} (hp : p < 16) (ha : a < 65536) (v : Int32) (hre : okR re) (hwr : okB wr) : df_X16_write_44 n (nI p) (nI a) v (wX X b fr ri ho us re wr) = some (wX X (pb b (65536 * p + a) v) fr ri ho us (rv re a) (wv X wr p a)) := by
  have hput := nk_put n (X := X) (b := b) (fr := fr) (ri := ri) (ho := ho) (us := us) (re := re) (wr := wr) hp ha v
  have w80 := fun re => nk_w80 n (X := X) (b := pb b (65536 * p + a) v) (fr := fr) (ri := ri) (ho := ho) (us := us) (re := re) (wr := wr) (p := p) (a := a) hwr
  have e4 : sI (wX X (pb b (65536 * p + a) v) fr ri ho us re wr).1 4 = re := rfl
  have ep : ∀ re' : Int32, (pI (wX X (pb b (65536 * p + a) v) fr ri ho us re wr).1 4 re', (wX X (pb b (65536 * p + a) v) fr ri ho us re wr).2) = wX X (pb b (65536 * p + a) v) fr ri ho us re' wr := fun re' => by
    unfold wX
    simp (disch := omega) only [df_X16_write_108, nm_ic (a := 6) (b := 4) (by decide), nm_ic (a := 16) (b := 4) (by decide), nm_ic (a := 16) (b := 6) (by decide), nl_0, no_1, no_1024, pk_mul, nI_add, nm_ck, nI_clamp, nI_ltI, nI_leI, nI_eq, nb_b2, nb_b1, nb_let, nm_z0, nm_z1, nb_II, nb_IR, nb_RI, nb_RR, nm_IL, nm_IQ, nm_RL, nm_RQ, nm_LI, nm_LR, nm_LL, nm_LQ, nm_QI, nm_QR, nm_QL, nm_QQ, nm_rr, nm_ii, nm_eqm, not_false_eq_true, pk_sub, nm_div, nm_shl, nm_shr, nm_ush, nm_or8, nm_or64, nm_or256, nm_m1, nm_m3, nm_m7, nm_m15, nm_m31, nm_m63, nm_m255, nm_m511, nm_m1023, nm_m2047, nm_m65535, Nat.reduceMod, Nat.reducePow, Nat.reduceAdd, Nat.reduceSub, Nat.reduceMul, nm_bo, nm_bi, nm_rc, nm_ic, nm_ri, nm_rl, nm_rq, nm_ql, nm_qi, nm_li, nm_us, nm_uu, nm_cp, nm_sa31, nm_sa7, nm_m127, nm_m2, nm_nz, nm_nzk, nm_eq32, nm_nzf, if_true, if_false, ↓reduceIte, if_pos, if_neg]
  unfold rv
  rcases hre with e | ⟨t, ht, e⟩
  · subst e
    rw [if_neg (fun z => nk_ne (by omega) z.symm)]
    simp (disch := omega) only [df_X16_write_44, hput, e4, nl_1, nl_4, nl_65536, no_1, no_1024, pk_mul, nI_add, nm_ck, nI_clamp, nI_ltI, nI_leI, nI_eq, nb_b2, nb_b1, nb_let, nm_z0, nm_z1, nb_II, nb_IR, nb_RI, nb_RR, nm_IL, nm_IQ, nm_RL, nm_RQ, nm_LI, nm_LR, nm_LL, nm_LQ, nm_QI, nm_QR, nm_QL, nm_QQ, nm_rr, nm_ii, nm_eqm, not_false_eq_true, pk_sub, nm_div, nm_shl, nm_shr, nm_ush, nm_or8, nm_or64, nm_or256, nm_m1, nm_m3, nm_m7, nm_m15, nm_m31, nm_m63, nm_m255, nm_m511, nm_m1023, nm_m2047, nm_m65535, Nat.reduceMod, Nat.reducePow, Nat.reduceAdd, Nat.reduceSub, Nat.reduceMul, nm_bo, nm_bi, nm_rc, nm_ic, nm_ri, nm_rl, nm_rq, nm_ql, nm_qi, nm_li, nm_us, nm_uu, nm_cp, nm_sa31, nm_sa7, nm_m127, nm_m2, nm_nz, nm_nzk, nm_eq32, nm_nzf, if_true, if_false, ↓reduceIte, if_pos, if_neg]
    exact w80 _
  · subst e
    by_cases c : a / 4 = t
    · rw [if_pos (congrArg nI (by omega))]
      simp (disch := omega) only [df_X16_write_44, hput, e4, nl_1, nl_4, nl_65536, no_1, no_1024, pk_mul, nI_add, nm_ck, nI_clamp, nI_ltI, nI_leI, nI_eq, nb_b2, nb_b1, nb_let, nm_z0, nm_z1, nb_II, nb_IR, nb_RI, nb_RR, nm_IL, nm_IQ, nm_RL, nm_RQ, nm_LI, nm_LR, nm_LL, nm_LQ, nm_QI, nm_QR, nm_QL, nm_QQ, nm_rr, nm_ii, nm_eqm, not_false_eq_true, pk_sub, nm_div, nm_shl, nm_shr, nm_ush, nm_or8, nm_or64, nm_or256, nm_m1, nm_m3, nm_m7, nm_m15, nm_m31, nm_m63, nm_m255, nm_m511, nm_m1023, nm_m2047, nm_m65535, Nat.reduceMod, Nat.reducePow, Nat.reduceAdd, Nat.reduceSub, Nat.reduceMul, nm_bo, nm_bi, nm_rc, nm_ic, nm_ri, nm_rl, nm_rq, nm_ql, nm_qi, nm_li, nm_us, nm_uu, nm_cp, nm_sa31, nm_sa7, nm_m127, nm_m2, nm_nz, nm_nzk, nm_eq32, nm_nzf, if_true, if_false, ↓reduceIte, if_pos, if_neg]
      rw [ep]
      exact w80 _
    · rw [if_neg (fun z => by have := nm_inI (by omega) (by omega) z; omega)]
      simp (disch := omega) only [df_X16_write_44, hput, e4, nl_1, nl_4, nl_65536, no_1, no_1024, pk_mul, nI_add, nm_ck, nI_clamp, nI_ltI, nI_leI, nI_eq, nb_b2, nb_b1, nb_let, nm_z0, nm_z1, nb_II, nb_IR, nb_RI, nb_RR, nm_IL, nm_IQ, nm_RL, nm_RQ, nm_LI, nm_LR, nm_LL, nm_LQ, nm_QI, nm_QR, nm_QL, nm_QQ, nm_rr, nm_ii, nm_eqm, not_false_eq_true, pk_sub, nm_div, nm_shl, nm_shr, nm_ush, nm_or8, nm_or64, nm_or256, nm_m1, nm_m3, nm_m7, nm_m15, nm_m31, nm_m63, nm_m255, nm_m511, nm_m1023, nm_m2047, nm_m65535, Nat.reduceMod, Nat.reducePow, Nat.reduceAdd, Nat.reduceSub, Nat.reduceMul, nm_bo, nm_bi, nm_rc, nm_ic, nm_ri, nm_rl, nm_rq, nm_ql, nm_qi, nm_li, nm_us, nm_uu, nm_cp, nm_sa31, nm_sa7, nm_m127, nm_m2, nm_nz, nm_nzk, nm_eq32, nm_nzf, if_true, if_false, ↓reduceIte, if_pos, if_neg]
      exact w80 _
theorem nk_wr1 (n : Nat) {X : St × St} {b fr ri ho : Nat → Int32} {us re wr : Int32} {p a f : Nat} (hp : p < 16) (ha : a < 65536) (hf : f < 256) (e : fr (64 * p + a / 1024) = nI f) (c : ho f = nI 1) (v : Int32) (hre : okR re) (hwr : okB wr) : df_X16_write n (nI p) (nI a) v (wX X b fr ri ho us re wr) = some (wX X (pb b (65536 * p + a) v) fr ri ho us (rv re a) (wv X wr p a)) := by
  have e1 : sR (wX X b fr ri ho us re wr).1 16 (64 * p + a / 1024) = nI f := e
  have e2 : sR (wX X b fr ri ho us re wr).1 18 f = nI 1 := c
  refine Eq.trans ?_ (nk_w44 n hp ha v hre hwr)
  simp (disch := omega) only [df_X16_write, df_X16_write_0, e1, e2, nl_1, nl_16, nl_18, nl_64, nl_1024, no_1, no_1024, pk_mul, nI_add, nm_ck, nI_clamp, nI_ltI, nI_leI, nI_eq, nb_b2, nb_b1, nb_let, nm_z0, nm_z1, nb_II, nb_IR, nb_RI, nb_RR, nm_IL, nm_IQ, nm_RL, nm_RQ, nm_LI, nm_LR, nm_LL, nm_LQ, nm_QI, nm_QR, nm_QL, nm_QQ, nm_rr, nm_ii, nm_eqm, not_false_eq_true, pk_sub, nm_div, nm_shl, nm_shr, nm_ush, nm_or8, nm_or64, nm_or256, nm_m1, nm_m3, nm_m7, nm_m15, nm_m31, nm_m63, nm_m255, nm_m511, nm_m1023, nm_m2047, nm_m65535, Nat.reduceMod, Nat.reducePow, Nat.reduceAdd, Nat.reduceSub, Nat.reduceMul, nm_bo, nm_bi, nm_rc, nm_ic, nm_ri, nm_rl, nm_rq, nm_ql, nm_qi, nm_li, nm_us, nm_uu, nm_cp, nm_sa31, nm_sa7, nm_m127, nm_m2, nm_nz, nm_nzk, nm_eq32, nm_nzf, if_true, if_false, ↓reduceIte, if_pos, if_neg]
theorem nk_wr2 (n : Nat) (hn : 1024 < n) {X : St × St} {b fr ri ho : Nat → Int32} {us re wr : Int32} {p a f : Nat} (hp : p < 16) (ha : a < 65536) (hf : f < 256) (e : fr (64 * p + a / 1024) = nI f) (hh : ∀ q : Nat, q < 256 → ho q = nI (cF fr q)) (c : 1 < cF fr f) (hc : cU fr < 256) (v : Int32) (hre : okR re) (hwr : okB wr) : df_X16_write n (nI p) (nI a) v (wX X b fr ri ho us re wr) = some (wX X (pb b (65536 * p + a) v) (upd fr (64 * p + a / 1024) (nI (fF fr))) ri (upd (upd ho f (nI (cF fr f - 1))) (fF fr) (nI 1)) (us + nI 1) (rv re a) (wv X wr p a)) := by
  refine Eq.trans ?_ (nk_w44 n hp ha v hre hwr)
  have e1 : sR (wX X b fr ri ho us re wr).1 16 (64 * p + a / 1024) = nI f := e
  have e2 : sR (wX X b fr ri ho us re wr).1 18 f = nI (cF fr f) := hh f hf
  have cl := cF_le fr f
  have hl : df_X16_leave n (nI (64 * p + a / 1024)) (wX X b fr ri ho us re wr) = some (wX X b (upd fr (64 * p + a / 1024) (-nI 1)) ri (upd ho f (nI (cF fr f - 1))) us re wr) := by
    have hf2 := hh f hf
    generalize cF fr f = cc at hf2 c cl ⊢
    clear e2 hc hh e1
    unfold wX
    simp (disch := omega) only [df_X16_leave_49, df_X16_leave_0, df_X16_leave, e, hf2, nm_rc (a := 16) (b := 15) (by decide), nm_rc (a := 17) (b := 15) (by decide), nm_rc (a := 17) (b := 16) (by decide), nm_rc (a := 18) (b := 15) (by decide), nm_rc (a := 18) (b := 16) (by decide), nm_rc (a := 18) (b := 17) (by decide), nm_ic (a := 6) (b := 4) (by decide), nm_ic (a := 16) (b := 4) (by decide), nm_ic (a := 16) (b := 6) (by decide), nl_0, nl_1, nl_6, nl_16, nl_18, nl_1024, no_1, no_1024, pk_mul, nI_add, nm_ck, nI_clamp, nI_ltI, nI_leI, nI_eq, nb_b2, nb_b1, nb_let, nm_z0, nm_z1, nb_II, nb_IR, nb_RI, nb_RR, nm_IL, nm_IQ, nm_RL, nm_RQ, nm_LI, nm_LR, nm_LL, nm_LQ, nm_QI, nm_QR, nm_QL, nm_QQ, nm_rr, nm_ii, nm_eqm, not_false_eq_true, pk_sub, nm_div, nm_shl, nm_shr, nm_ush, nm_or8, nm_or64, nm_or256, nm_m1, nm_m3, nm_m7, nm_m15, nm_m31, nm_m63, nm_m255, nm_m511, nm_m1023, nm_m2047, nm_m65535, Nat.reduceMod, Nat.reducePow, Nat.reduceAdd, Nat.reduceSub, Nat.reduceMul, nm_bo, nm_bi, nm_rc, nm_ic, nm_ri, nm_rl, nm_rq, nm_ql, nm_qi, nm_li, nm_us, nm_uu, nm_cp, nm_sa31, nm_sa7, nm_m127, nm_m2, nm_nz, nm_nzk, nm_eq32, nm_nzf, if_true, if_false, ↓reduceIte, if_pos, if_neg]
  obtain ⟨l1, l2⟩ := cF_leave (i := 64 * p + a / 1024) (by omega) hf e
  have lu := cU_ch hf l1
  rw [nm_dt (show 0 < cF fr f by omega), nm_dt (show 0 < cF (upd fr (64 * p + a / 1024) (-nI 1)) f by omega)] at lu
  have hfe : fF (upd fr (64 * p + a / 1024) (-nI 1)) = fF fr := fN_c _ _ (fun q _ hq => by
    by_cases cq : q = f
    · rw [cq, decide_eq_false (show ¬ cF (upd fr (64 * p + a / 1024) (-nI 1)) f = 0 by omega), decide_eq_false (show ¬ cF fr f = 0 by omega)]
    · rw [l1 q (by omega) cq])
  have ff : df_X16_freeFrame n (wX X b (upd fr (64 * p + a / 1024) (-nI 1)) ri (upd ho f (nI (cF fr f - 1))) us re wr) = some (nI (fF (upd fr (64 * p + a / 1024) (-nI 1))), _) := nk_ff n hn (X := wX X b (upd fr (64 * p + a / 1024) (-nI 1)) ri (upd ho f (nI (cF fr f - 1))) us re wr) (fun q hq => by
    show upd ho f (nI (cF fr f - 1)) q = nI (cF (upd fr (64 * p + a / 1024) (-nI 1)) q)
    by_cases cq : q = f
    · rw [cq, nm_us]; exact congrArg nI (by omega)
    · rw [nm_un cq, l1 q hq cq]; exact hh q hq) (by show cU (upd fr (64 * p + a / 1024) (-nI 1)) < 256; omega)
  rw [hfe] at ff
  obtain ⟨f1, f2, f3⟩ := fF_lt hc
  have hne : fF fr ≠ f := fun q => by rw [q] at f2; omega
  have hs : df_X16_stand n (nI (64 * p + a / 1024)) (nI (fF fr)) (wX X b (upd fr (64 * p + a / 1024) (-nI 1)) ri (upd ho f (nI (cF fr f - 1))) us re wr) = some (wX X b (upd fr (64 * p + a / 1024) (nI (fF fr))) ri (upd (upd ho f (nI (cF fr f - 1))) (fF fr) (nI 1)) (us + nI 1) re wr) := by
    have h0 := hh (fF fr) f1
    rw [f2] at h0
    generalize fF fr = ff at *
    unfold wX
    simp (disch := omega) only [df_X16_stand_26, df_X16_stand_0, df_X16_stand, nm_un hne, h0, nm_rc (a := 16) (b := 15) (by decide), nm_rc (a := 17) (b := 15) (by decide), nm_rc (a := 17) (b := 16) (by decide), nm_rc (a := 18) (b := 15) (by decide), nm_rc (a := 18) (b := 16) (by decide), nm_rc (a := 18) (b := 17) (by decide), nm_ic (a := 6) (b := 4) (by decide), nm_ic (a := 16) (b := 4) (by decide), nm_ic (a := 16) (b := 6) (by decide), nl_0, nl_1, nl_6, nl_16, nl_18, nl_1024, no_1, no_1024, pk_mul, nI_add, nm_ck, nI_clamp, nI_ltI, nI_leI, nI_eq, nb_b2, nb_b1, nb_let, nm_z0, nm_z1, nb_II, nb_IR, nb_RI, nb_RR, nm_IL, nm_IQ, nm_RL, nm_RQ, nm_LI, nm_LR, nm_LL, nm_LQ, nm_QI, nm_QR, nm_QL, nm_QQ, nm_rr, nm_ii, nm_eqm, not_false_eq_true, pk_sub, nm_div, nm_shl, nm_shr, nm_ush, nm_or8, nm_or64, nm_or256, nm_m1, nm_m3, nm_m7, nm_m15, nm_m31, nm_m63, nm_m255, nm_m511, nm_m1023, nm_m2047, nm_m65535, Nat.reduceMod, Nat.reducePow, Nat.reduceAdd, Nat.reduceSub, Nat.reduceMul, nm_bo, nm_bi, nm_rc, nm_ic, nm_ri, nm_rl, nm_rq, nm_ql, nm_qi, nm_li, nm_us, nm_uu, nm_cp, nm_sa31, nm_sa7, nm_m127, nm_m2, nm_nz, nm_nzk, nm_eq32, nm_nzf, if_true, if_false, ↓reduceIte, if_pos, if_neg]
  simp (disch := omega) only [df_X16_write, df_X16_write_0, e1, e2, hl, ff, hs, nl_1, nl_16, nl_18, nl_64, nl_1024, no_1, no_1024, pk_mul, nI_add, nm_ck, nI_clamp, nI_ltI, nI_leI, nI_eq, nb_b2, nb_b1, nb_let, nm_z0, nm_z1, nb_II, nb_IR, nb_RI, nb_RR, nm_IL, nm_IQ, nm_RL, nm_RQ, nm_LI, nm_LR, nm_LL, nm_LQ, nm_QI, nm_QR, nm_QL, nm_QQ, nm_rr, nm_ii, nm_eqm, not_false_eq_true, pk_sub, nm_div, nm_shl, nm_shr, nm_ush, nm_or8, nm_or64, nm_or256, nm_m1, nm_m3, nm_m7, nm_m15, nm_m31, nm_m63, nm_m255, nm_m511, nm_m1023, nm_m2047, nm_m65535, Nat.reduceMod, Nat.reducePow, Nat.reduceAdd, Nat.reduceSub, Nat.reduceMul, nm_bo, nm_bi, nm_rc, nm_ic, nm_ri, nm_rl, nm_rq, nm_ql, nm_qi, nm_li, nm_us, nm_uu, nm_cp, nm_sa31, nm_sa7, nm_m127, nm_m2, nm_nz, nm_nzk, nm_eq32, nm_nzf, if_true, if_false, ↓reduceIte, if_pos, if_neg]

/-- a page comes into a frame of its own, in both machines -/
theorem nk_wo (n : Nat) (hn : 1024 < n) {M X : St × St} {w u g b fr ri ho : Nat → Int32} {fu us : Int32} (h : rQ w u g b fr ri ho fu us) {p a f : Nat} (hp : p < 16) (ha : a < 65536) (hf : f < 256) (e : fr (64 * p + a / 1024) = nI f) (hc : cF fr f = 1 ∨ cU fr < 256) : ∃ (w' u' g' : Nat → Int32) (fu' : Int32) (fr' ho' : Nat → Int32) (us' : Int32) (f' : Nat), f' < 256 ∧ df_X6_own n (nI p) (nI a) (mU M w u g fu) = some (nI 1, mU M w' u' g' fu') ∧ rQ w' u' g' b fr' ri ho' fu' us' ∧ fr' (64 * p + a / 1024) = nI f' ∧ cF fr' f' = 1 ∧ (∀ j : Nat, j ≠ 64 * p + a / 1024 → fr' j = fr j) ∧ (∀ q : Nat, q < 256 → q ≠ f' → cF fr' q ≤ cF fr q) ∧ cU fr' = cU fr + (if cF fr f = 1 then 0 else 1) ∧ ∀ (b' : Nat → Int32) (re wr v : Int32) (a' : Nat), a' < 65536 → a' / 1024 = a / 1024 → okR re → okB wr → df_X16_write n (nI p) (nI a') v (wX X b' fr ri ho us re wr) = some (wX X (pb b' (65536 * p + a') v) fr' ri ho' us' (rv re a') (wv X wr p a')) := by
  by_cases c : cF fr f = 1
  · refine ⟨w, u, g, fu, fr, ho, us, f, hf, nk_own1 n (M := mU M w u g fu) (X := xU X b fr ri ho us) h hp ha hf e c, h, e, c, fun _ _ => rfl, fun _ _ _ => Nat.le_refl _, by rw [if_pos c, Nat.add_zero], fun b' re wr v a' ha' ea hre hwr => ?_⟩
    exact nk_wr1 n hp ha' hf (by rw [ea]; exact e) (by rw [(h.2.1 f hf).2, c]) v hre hwr
  · have c0 : 0 < cF fr f := cN_p (P := fun i => decide (fr i = nI f)) (i := 64 * p + a / 1024) (decide_eq_true e) (by omega)
    have c1 : 1 < cF fr f := by omega
    have hu : cU fr < 256 := by omega
    obtain ⟨r, hr, eg, eo⟩ := (nk_own2 n hn (M := mU M w u g fu) (X := xU X b fr ri ho us) h hp ha hf e c1).2 hu
    have eo : df_X6_own n (nI p) (nI a) (mU M w u g fu) = some (nI 1, mU (mU M w u g fu) (va_cpy w w (f * 256) (fF fr * 256) 256) (upd (upd u f (nI (cF fr f - 1))) (fF fr) (nI 1)) (upd g (64 * p + a / 1024) (nI (fF fr * 8 + r))) (fu + nI 1)) := eo
    rw [mU_mU] at eo
    obtain ⟨f1, f2, f3⟩ := fF_lt hu
    obtain ⟨q1, q2, q3, q4⟩ := rQ_own h (i := 64 * p + a / 1024) (by omega) hf f1 hr e eg c1 f2
    refine ⟨_, _, _, _, upd fr (64 * p + a / 1024) (nI (fF fr)), _, _, fF fr, f1, eo, q1, nm_us, q3, fun j hj => nm_un hj, fun q hq hne => ?_, by rw [if_neg c]; exact q2, fun b' re wr v a' ha' ea hre hwr => ?_⟩
    · obtain ⟨l1, l2⟩ := cF_leave (i := 64 * p + a / 1024) (by omega) hf e
      obtain ⟨s1, s2⟩ := cF_stand (fr := upd fr (64 * p + a / 1024) (-nI 1)) (i := 64 * p + a / 1024) (by omega) f1 nm_us
      rw [nm_uu] at s1 s2
      rw [s1 q hq hne]
      by_cases cq : q = f
      · rw [cq]; omega
      · rw [l1 q hq cq]; exact Nat.le_refl _
    · rw [← ea]
      exact nk_wr2 n hn hp ha' hf (by rw [ea]; exact e) (fun q hq => (h.2.1 q hq).2) c1 hu v hre hwr
/-- the reference's writes, one after the other -/
def wrs (n p a : Nat) (v : Nat → Int32) : Nat → St × St → Option (St × St)
  | 0, X => some X
  | k + 1, X => nd_b1 (wrs n p a v k X) (fun s => df_X16_write n (nI p) (nI (a + k)) (v k) s)
def pbs (b : Nat → Int32) (p a : Nat) (v : Nat → Int32) : Nat → Nat → Int32
  | 0 => b
  | k + 1 => pb (pbs b p a v k) (65536 * p + (a + k)) (v k)
def rvs (re : Int32) (a : Nat) : Nat → Int32
  | 0 => re
  | k + 1 => rv (rvs re a k) (a + k)
def wvs (X : St × St) (wr : Int32) (p a : Nat) : Nat → Int32
  | 0 => wr
  | k + 1 => wv X (wvs X wr p a k) p (a + k)
theorem okR_rvs {re : Int32} (h : okR re) (a : Nat) : ∀ k : Nat, okR (rvs re a k)
  | 0 => h
  | k + 1 => okR_rv (okR_rvs h a k) _
theorem okB_wvs {X : St × St} {wr : Int32} (h : okB wr) {p a : Nat} : ∀ k : Nat, okB (wvs X wr p a k)
  | 0 => h
  | _ + 1 => okB_wv
/-- how many frames are wanted for two pages -/
def wt (fr : Nat → Int32) (i j : Nat) : Nat := (if cF fr (Int32.toNatClampNeg (fr i)) = 1 then 0 else 1) + if i = j then 0 else if cF fr (Int32.toNatClampNeg (fr j)) = 1 then 0 else 1
theorem nk_write (n : Nat) (hn : 1024 < n) {M X : St × St} (h : rK M X) {p a m f1 f2 : Nat} (hp : p < 16) (hm : 1 ≤ m) (hm2 : m ≤ 1024) (ha : a + m ≤ 65536) (h1 : f1 < 256) (h2 : f2 < 256) (e1 : sR X.1 16 (64 * p + a / 1024) = nI f1) (e2 : sR X.1 16 (64 * p + (a + m - 1) / 1024) = nI f2) (hw : cU (sR X.1 16) + wt (sR X.1 16) (64 * p + a / 1024) (64 * p + (a + m - 1) / 1024) ≤ 256) (hre : okR (sI X.1 4)) (hwr : okB (sI X.1 16)) : ∃ (M1 : St × St) (w u g : Nat → Int32) (fu : Int32) (fr ho : Nat → Int32) (us : Int32), df_X6_own n (nI p) (nI a) M = some (nI 1, M1) ∧ df_X6_own n (nI p) (nI (a + m - 1)) M1 = some (nI 1, mU M w u g fu) ∧ rQ w u g (sR X.1 15) fr (sR X.1 17) ho fu us ∧ (∀ k : Nat, k < m → ∃ f : Nat, f < 256 ∧ fr (64 * p + (a + k) / 1024) = nI f ∧ cF fr f = 1) ∧ (∀ v : Nat → Int32, wrs n p a v m X = some (wX X (pbs (sR X.1 15) p a v m) fr (sR X.1 17) ho us (rvs (sI X.1 4) a m) (wvs X (sI X.1 16) p a m))) ∧ (∀ j : Nat, sR X.1 16 j = -nI 1 → j < 1024 → fr j = -nI 1) ∧ (∀ j : Nat, j < 1024 → ¬ sR X.1 16 j = -nI 1 → ¬ fr j = -nI 1) ∧ ((a + m - 1) / 1024 = a / 1024 → M1 = mU M w u g fu) ∧ (∀ (v : Nat → Int32) (k : Nat), k ≤ m → ∃ (b' fr' ho' : Nat → Int32) (us' re' wr' : Int32), wrs n p a v k X = some (wX X b' fr' (sR X.1 17) ho' us' re' wr')) := by
  unfold wt at hw
  rw [e1, e2, nI_clamp (by omega), nI_clamp (by omega)] at hw
  obtain ⟨w1, u1, g1, fu1, fr1, ho1, us1, f1', k1, k2, k3, k4, k5, k6, k7, k8, k9⟩ := nk_wo n hn (M := M) (X := X) h hp (a := a) (by omega) h1 e1 (by
    by_cases c : cF (sR X.1 16) f1 = 1
    · exact Or.inl c
    · rw [if_neg c] at hw; right; omega)
  rw [mU_id] at k2
  have B1 : ∀ (v : Nat → Int32) (k : Nat), 1 ≤ k → k ≤ m → a + k ≤ (a / 1024 + 1) * 1024 → wrs n p a v k X = some (wX X (pbs (sR X.1 15) p a v k) fr1 (sR X.1 17) ho1 us1 (rvs (sI X.1 4) a k) (wvs X (sI X.1 16) p a k)) := by
    intro v k
    induction k with
    | zero => intro z; exact absurd z (by omega)
    | succ k ih =>
      intro _ hk hl
      show nd_b1 (wrs n p a v k X) _ = _
      by_cases c : k = 0
      · subst c
        have := k9 (sR X.1 15) (sI X.1 4) (sI X.1 16) (v 0) a (by omega) rfl hre hwr
        rw [wX_id] at this
        exact this
      · rw [ih (by omega) (by omega) (by omega), nb_b1]
        exact nk_wr1 n (a := a + k) (fr := fr1) (ho := ho1) hp (by omega) k1 (by rw [show (a + k) / 1024 = a / 1024 from by omega]; exact k4) (by rw [(k3.2.1 f1' k1).2, k5]) _ (okR_rvs hre a k) (okB_wvs hwr k)
  by_cases cp : (a + m - 1) / 1024 = a / 1024
  · refine ⟨mU M w1 u1 g1 fu1, w1, u1, g1, fu1, fr1, ho1, us1, k2, ?_, k3, fun k hk => ⟨f1', k1, by rw [show (a + k) / 1024 = a / 1024 from by omega]; exact k4, k5⟩, fun v => B1 v m hm (Nat.le_refl m) (by omega), fun j hj _ => ?_, fun j hj z => ?_, fun _ => rfl, fun v k hk => ?_⟩
    · exact nk_own1 n (M := mU M w1 u1 g1 fu1) (X := xU X (sR X.1 15) fr1 (sR X.1 17) ho1 us1) k3 hp (by omega) k1 (by rw [cp]; exact k4) k5
    · by_cases c : j = 64 * p + a / 1024
      · rw [c, e1] at hj; exact absurd hj (nk_ne (by omega))
      · rw [k6 j c]; exact hj
    · by_cases c : j = 64 * p + a / 1024
      · rw [c, k4]; exact nk_ne (by omega)
      · rw [k6 j c]; exact z
    · by_cases k0 : k = 0
      · rw [k0]
        exact ⟨_, _, _, _, _, _, congrArg some (wX_id X).symm⟩
      · exact ⟨_, _, _, _, _, _, B1 v k (by omega) hk (by omega)⟩
  · have c64 : 64 * p + (a + m - 1) / 1024 ≠ 64 * p + a / 1024 := by omega
    rw [if_neg (show ¬ 64 * p + a / 1024 = 64 * p + (a + m - 1) / 1024 by omega)] at hw
    have e2' : fr1 (64 * p + (a + m - 1) / 1024) = nI f2 := by rw [k6 _ c64]; exact e2
    have hne : f2 ≠ f1' := fun q => cF_one (i := 64 * p + a / 1024) (by omega) k1 k4 k5 (j := 64 * p + (a + m - 1) / 1024) (by omega) c64 (by rw [e2', q])
    have le2 := k7 f2 h2 hne
    have p2 : 0 < cF fr1 f2 := cN_p (P := fun i => decide (fr1 i = nI f2)) (i := 64 * p + (a + m - 1) / 1024) (decide_eq_true e2') (by omega)
    obtain ⟨w2, u2, g2, fu2, fr2, ho2, us2, f2', m1, m2, m3, m4, m5, m6, m7, m8, m9⟩ := nk_wo n hn (M := M) (X := X) k3 hp (a := a + m - 1) (by omega) h2 e2' (by
      by_cases c : cF fr1 f2 = 1
      · exact Or.inl c
      · rw [if_neg (show ¬ cF (sR X.1 16) f2 = 1 by omega)] at hw; right; omega)
    have i1 : fr2 (64 * p + a / 1024) = nI f1' := by rw [m6 _ (by omega)]; exact k4
    have hne2 : f1' ≠ f2' := fun q => cF_one (i := 64 * p + (a + m - 1) / 1024) (by omega) m1 m4 m5 (j := 64 * p + a / 1024) (by omega) (by omega) (by rw [i1, q])
    have le1 := m7 f1' k1 hne2
    have p1 : 0 < cF fr2 f1' := cN_p (P := fun i => decide (fr2 i = nI f1')) (i := 64 * p + a / 1024) (decide_eq_true i1) (by omega)
    have B2 : ∀ (v : Nat → Int32) (k : Nat), (a / 1024 + 1) * 1024 < a + k → k ≤ m → wrs n p a v k X = some (wX X (pbs (sR X.1 15) p a v k) fr2 (sR X.1 17) ho2 us2 (rvs (sI X.1 4) a k) (wvs X (sI X.1 16) p a k)) := by
      intro v k
      induction k with
      | zero => intro z; exact absurd z (by omega)
      | succ k ih =>
        intro hl hk
        show nd_b1 (wrs n p a v k X) _ = _
        by_cases c : (a / 1024 + 1) * 1024 < a + k
        · rw [ih c (by omega), nb_b1]
          exact nk_wr1 n (a := a + k) (fr := fr2) (ho := ho2) hp (by omega) m1 (by rw [show (a + k) / 1024 = (a + m - 1) / 1024 from by omega]; exact m4) (by rw [(m3.2.1 f2' m1).2, m5]) _ (okR_rvs hre a k) (okB_wvs hwr k)
        · rw [B1 v k (by omega) (by omega) (by omega), nb_b1]
          exact m9 _ _ _ _ (a + k) (by omega) (by omega) (okR_rvs hre a k) (okB_wvs hwr k)
    refine ⟨mU M w1 u1 g1 fu1, w2, u2, g2, fu2, fr2, ho2, us2, k2, m2, m3, fun k hk => ?_, fun v => B2 v m (by omega) (Nat.le_refl m), fun j hj _ => ?_, fun j hj z => ?_, fun z => absurd z cp, fun v k hk => ?_⟩
    · by_cases ck : (a + k) / 1024 = a / 1024
      · exact ⟨f1', k1, by rw [ck]; exact i1, by omega⟩
      · exact ⟨f2', m1, by rw [show (a + k) / 1024 = (a + m - 1) / 1024 from by omega]; exact m4, m5⟩
    · by_cases c : j = 64 * p + (a + m - 1) / 1024
      · rw [c, e2] at hj; exact absurd hj (nk_ne (by omega))
      · rw [m6 j c]
        by_cases c' : j = 64 * p + a / 1024
        · rw [c', e1] at hj; exact absurd hj (nk_ne (by omega))
        · rw [k6 j c']; exact hj
    · by_cases c : j = 64 * p + (a + m - 1) / 1024
      · rw [c, m4]; exact nk_ne (by omega)
      · rw [m6 j c]
        by_cases c' : j = 64 * p + a / 1024
        · rw [c', k4]; exact nk_ne (by omega)
        · rw [k6 j c']; exact z
    · by_cases k0 : k = 0
      · rw [k0]
        exact ⟨_, _, _, _, _, _, congrArg some (wX_id X).symm⟩
      · by_cases c : (a / 1024 + 1) * 1024 < a + k
        · exact ⟨_, _, _, _, _, _, B2 v k c hk⟩
        · exact ⟨_, _, _, _, _, _, B1 v k (by omega) hk (by omega)⟩

/-- a bit -/
def gb (a : Int32) (i : Nat) : Bool := a.toBitVec.getLsbD i
theorem gb_ext {a b : Int32} (h : ∀ i : Nat, i < 32 → gb a i = gb b i) : a = b := Int32.toBitVec_inj.mp (BitVec.eq_of_getLsbD_eq h)
theorem gb_or (a b : Int32) (i : Nat) : gb (a ||| b) i = (gb a i || gb b i) := by unfold gb; rw [Int32.toBitVec_or, BitVec.getLsbD_or]
theorem gb_and (a b : Int32) (i : Nat) : gb (a &&& b) i = (gb a i && gb b i) := by unfold gb; rw [Int32.toBitVec_and, BitVec.getLsbD_and]
theorem gb_xor (a b : Int32) (i : Nat) : gb (a ^^^ b) i = (gb a i ^^ gb b i) := by unfold gb; rw [Int32.toBitVec_xor, BitVec.getLsbD_xor]
theorem gb_hi {a : Int32} {i : Nat} (h : 32 ≤ i) : gb a i = false := BitVec.getLsbD_of_ge _ _ h
theorem gb_shl {a : Int32} {s : Nat} (hs : s < 32) (i : Nat) : gb (a <<< nI s) i = (decide (i < 32) && !decide (i < s) && gb a (i - s)) := by
  unfold gb
  rw [Int32.toBitVec_shiftLeft, BitVec.shiftLeft_eq', nm_sh s hs, BitVec.getLsbD_shiftLeft]
theorem gb_shr {a : Int32} {s : Nat} (hs : s < 32) {i : Nat} (hi : i < 32) : gb (a >>> nI s) i = if s + i < 32 then gb a (s + i) else gb a 31 := by
  unfold gb
  rw [Int32.toBitVec_shiftRight, BitVec.sshiftRight_eq', nm_sh s hs, BitVec.getLsbD_sshiftRight]
  rw [decide_eq_false (by omega : ¬ 32 ≤ i), Bool.not_false, Bool.true_and]
  by_cases c : s + i < 32
  · rw [if_pos c, if_pos c]
  · rw [if_neg c, if_neg c]
    exact BitVec.msb_eq_getLsbD_last _
theorem gb_ush {a : Int32} {s : Nat} (hs : s < 32) (i : Nat) : gb ((a.toUInt32 >>> ((nI s).toUInt32 &&& Int32.toUInt32 (nI 31))).toInt32) i = gb a (s + i) := by
  unfold gb
  show ((a.toUInt32 >>> ((nI s).toUInt32 &&& Int32.toUInt32 (nI 31))).toBitVec).getLsbD i = _
  rw [UInt32.toBitVec_shiftRight, BitVec.ushiftRight_eq', nm_su s hs, BitVec.getLsbD_ushiftRight]
  rfl
theorem gb_n {k i : Nat} (hi : i < 32) : gb (nI k) i = k.testBit i := by
  unfold gb
  show (BitVec.ofNat 32 k).getLsbD i = _
  rw [BitVec.getLsbD_ofNat, decide_eq_true hi, Bool.true_and]
theorem gb_m (i : Nat) (hi : i < 32) : gb (-nI 1) i = true := by
  unfold gb
  rw [show (-nI 1 : Int32).toBitVec = BitVec.allOnes 32 from by decide, BitVec.getLsbD_allOnes, decide_eq_true hi]
/-- each of the 32 -/
theorem all32 {P : Nat → Prop} (h : P 0 ∧ P 1 ∧ P 2 ∧ P 3 ∧ P 4 ∧ P 5 ∧ P 6 ∧ P 7 ∧ P 8 ∧ P 9 ∧ P 10 ∧ P 11 ∧ P 12 ∧ P 13 ∧ P 14 ∧ P 15 ∧ P 16 ∧ P 17 ∧ P 18 ∧ P 19 ∧ P 20 ∧ P 21 ∧ P 22 ∧ P 23 ∧ P 24 ∧ P 25 ∧ P 26 ∧ P 27 ∧ P 28 ∧ P 29 ∧ P 30 ∧ P 31) : ∀ i : Nat, i < 32 → P i := by
  obtain ⟨h0, h1, h2, h3, h4, h5, h6, h7, h8, h9, h10, h11, h12, h13, h14, h15, h16, h17, h18, h19, h20, h21, h22, h23, h24, h25, h26, h27, h28, h29, h30, h31⟩ := h
  intro i hi
  match i, hi with
  | 0, _ => exact h0
  | 1, _ => exact h1
  | 2, _ => exact h2
  | 3, _ => exact h3
  | 4, _ => exact h4
  | 5, _ => exact h5
  | 6, _ => exact h6
  | 7, _ => exact h7
  | 8, _ => exact h8
  | 9, _ => exact h9
  | 10, _ => exact h10
  | 11, _ => exact h11
  | 12, _ => exact h12
  | 13, _ => exact h13
  | 14, _ => exact h14
  | 15, _ => exact h15
  | 16, _ => exact h16
  | 17, _ => exact h17
  | 18, _ => exact h18
  | 19, _ => exact h19
  | 20, _ => exact h20
  | 21, _ => exact h21
  | 22, _ => exact h22
  | 23, _ => exact h23
  | 24, _ => exact h24
  | 25, _ => exact h25
  | 26, _ => exact h26
  | 27, _ => exact h27
  | 28, _ => exact h28
  | 29, _ => exact h29
  | 30, _ => exact h30
  | 31, _ => exact h31
  | n + 32, h => exact absurd h (by omega)
/-- two bytes, four bytes -/
theorem pw_2 (x v : Int32) : pw x 0 (nI 65535) v = pw (pw x 0 (nI 255) v) 8 (nI 255) (v >>> nI 8) := by
  unfold pw
  (apply gb_ext; apply all32; simp (disch := decide) only [gb_or, gb_and, gb_xor, gb_shl, gb_shr, gb_ush, gb_n, gb_m, gb_hi, Nat.reduceAdd, Nat.reduceSub, Nat.reduceLT, Nat.reduceLeDiff, Nat.testBit, Nat.reduceShiftRight, Nat.reduceBNe, Nat.reduceAnd, Nat.one_and_eq_mod_two, Nat.reduceMod, decide_true, decide_false, Bool.and_true, Bool.true_and, Bool.and_false, Bool.false_and, Bool.or_false, Bool.false_or, Bool.or_true, Bool.true_or, Bool.not_true, Bool.not_false, Bool.xor_true, Bool.xor_false, Bool.true_xor, Bool.false_xor, if_true, if_false, ↓reduceIte, and_self, bne_self_eq_false, Bool.or_self, Bool.and_self, Bool.not_not])
theorem pw_2h (x v : Int32) : pw x 16 (nI 65535) v = pw (pw x 16 (nI 255) v) 24 (nI 255) (v >>> nI 8) := by
  unfold pw
  (apply gb_ext; apply all32; simp (disch := decide) only [gb_or, gb_and, gb_xor, gb_shl, gb_shr, gb_ush, gb_n, gb_m, gb_hi, Nat.reduceAdd, Nat.reduceSub, Nat.reduceLT, Nat.reduceLeDiff, Nat.testBit, Nat.reduceShiftRight, Nat.reduceBNe, Nat.reduceAnd, Nat.one_and_eq_mod_two, Nat.reduceMod, decide_true, decide_false, Bool.and_true, Bool.true_and, Bool.and_false, Bool.false_and, Bool.or_false, Bool.false_or, Bool.or_true, Bool.true_or, Bool.not_true, Bool.not_false, Bool.xor_true, Bool.xor_false, Bool.true_xor, Bool.false_xor, if_true, if_false, ↓reduceIte, and_self, bne_self_eq_false, Bool.or_self, Bool.and_self, Bool.not_not])
theorem pw_4 (x v : Int32) : pw x 0 (-nI 1) v = pw (pw (pw (pw x 0 (nI 255) v) 8 (nI 255) (v >>> nI 8)) 16 (nI 255) (v >>> nI 16)) 24 (nI 255) (v >>> nI 24) := by
  unfold pw
  (apply gb_ext; apply all32; simp (disch := decide) only [gb_or, gb_and, gb_xor, gb_shl, gb_shr, gb_ush, gb_n, gb_m, gb_hi, Nat.reduceAdd, Nat.reduceSub, Nat.reduceLT, Nat.reduceLeDiff, Nat.testBit, Nat.reduceShiftRight, Nat.reduceBNe, Nat.reduceAnd, Nat.one_and_eq_mod_two, Nat.reduceMod, decide_true, decide_false, Bool.and_true, Bool.true_and, Bool.and_false, Bool.false_and, Bool.or_false, Bool.false_or, Bool.or_true, Bool.true_or, Bool.not_true, Bool.not_false, Bool.xor_true, Bool.xor_false, Bool.true_xor, Bool.false_xor, if_true, if_false, ↓reduceIte, and_self, bne_self_eq_false, Bool.or_self, Bool.and_self, Bool.not_not])

