theorem nb_i1 {x : Int32} (h0 : 0 ≤ x.toInt) (h1 : x.toInt < 2147483647) : (x + 1).toInt = x.toInt + 1 := by
  rw [Int32.toInt_add, show (1 : Int32).toInt = 1 from by decide]
  exact Int.bmod_eq_of_le (by omega) (by omega)
theorem nb_255 : ∀ j : Fin 32, ¬ j.val < 8 → (Int32.toBitVec 255).getLsbD j.val = false := by decide
theorem nb_byte (z : Int32) : z.toInt8.toInt32 &&& 255 = z &&& 255 := by
  apply Int32.toBitVec_inj.mp
  ext i hi
  simp only [Int32.toBitVec_and, Int8.toBitVec_toInt32, Int32.toBitVec_toInt8]
  rw [BitVec.getElem_and, BitVec.getElem_and]
  by_cases c : i < 8
  · rw [BitVec.getElem_signExtend, dif_pos c, BitVec.getElem_signExtend, dif_pos hi]
  · have h : (Int32.toBitVec 255)[i] = false := by
      rw [← BitVec.getLsbD_eq_getElem]
      exact nb_255 ⟨i, hi⟩ c
    rw [h, Bool.and_false, Bool.and_false]
theorem nb_nar (z : Int32) : vp_nar .byte z = z.toInt8.toInt32 := rfl
/-- a byte put on the class's tape, on the reference's -/
def w1 (b : Int32) (s : S12) : S12 := (pI s.1 0 (sI s.1 0 + 1), (s.2.1, (s.2.2.1, ((s.2.2.2.1.1, (pR s.2.2.2.1.2 7 (upd (sR s.2.2.2.1.2 7) (Int32.toNatClampNeg (sI s.1 0)) b))), s.2.2.2.2))))
def u1 (b : Int32) (s : S19) : S19 := (pI s.1 1 (sI s.1 1 + 1), (s.2.1, (s.2.2.1, ((pR s.2.2.2.1 3 (upd (sR s.2.2.2.1 3) (Int32.toNatClampNeg (sI s.1 1)) b)), s.2.2.2.2))))
def bt (v k : Int32) : Int32 := vp_nar .byte ((((v : Int32) >>> ((k : Int32) &&& 31)) : Int32).toInt8.toInt32)
theorem nb_put1 (n T L k : Nat) (v x : Int32) (s : S12) (hx : ¬ x < 0) (h0 : 0 ≤ (sI s.1 0).toInt) (h1 : (sI s.1 0).toInt < 32768) : df_X12_putOnTape_3 n T L (k + 1) v x s = df_X12_putOnTape_3 n T L k v (x + Int32.ofInt (-8)) (w1 (bt v x) s) := by
  show dF_X12_putOnTape_3 n T L (df_X12_putOnTape_3 n T L k) v x s = _
  unfold dF_X12_putOnTape_3 df_X12_putOnTape_39
  rw [if_neg hx, if_neg (by rw [Int32.le_iff_toInt_le, show (32768 : Int32).toInt = 32768 from by decide]; omega), nb_ck h0 h1]
  rfl
theorem nb_put0 (n T L k : Nat) (v x : Int32) (s : S12) (hx : x < 0) : df_X12_putOnTape_3 n T L (k + 1) v x s = some s := by
  show dF_X12_putOnTape_3 n T L (df_X12_putOnTape_3 n T L k) v x s = _
  unfold dF_X12_putOnTape_3
  rw [if_pos hx]
def w4 (v : Int32) (s : S12) : S12 := w1 (bt v 0) (w1 (bt v 8) (w1 (bt v 16) (w1 (bt v 24) s)))
theorem nb_w1 (b : Int32) (s : S12) (h0 : 0 ≤ (sI s.1 0).toInt) (h1 : (sI s.1 0).toInt < 32768) : (sI (w1 b s).1 0).toInt = (sI s.1 0).toInt + 1 := nb_i1 h0 (by omega)
theorem nb_u1 (b : Int32) (s : S19) (h0 : 0 ≤ (sI s.1 1).toInt) (h1 : (sI s.1 1).toInt < 32768) : (sI (u1 b s).1 1).toInt = (sI s.1 1).toInt + 1 := nb_i1 h0 (by omega)
theorem nb_put (n T L : Nat) (hn : 5 ≤ n) (v : Int32) (s : S12) (h0 : 0 ≤ (sI s.1 0).toInt) (h1 : (sI s.1 0).toInt + 4 ≤ 32768) : df_X12_putOnTape n T L v s = some (w4 v s) ∧ (sI (w4 v s).1 0).toInt = (sI s.1 0).toInt + 4 := by
  obtain ⟨m, rfl⟩ : ∃ m, n = m + 5 := ⟨n - 5, by omega⟩
  have e1 := nb_w1 (bt v 24) s h0 (by omega)
  have e2 := nb_w1 (bt v 16) (w1 (bt v 24) s) (by omega) (by omega)
  have e3 := nb_w1 (bt v 8) (w1 (bt v 16) (w1 (bt v 24) s)) (by omega) (by omega)
  have e4 := nb_w1 (bt v 0) (w1 (bt v 8) (w1 (bt v 16) (w1 (bt v 24) s))) (by omega) (by omega)
  refine ⟨?_, by unfold w4; omega⟩
  unfold df_X12_putOnTape df_X12_putOnTape_0
  rw [nb_put1 _ _ _ _ _ _ _ (by decide) h0 (by omega), show (24 : Int32) + Int32.ofInt (-8) = 16 from by decide, nb_put1 _ _ _ _ _ _ _ (by decide) (by omega) (by omega), show (16 : Int32) + Int32.ofInt (-8) = 8 from by decide,
    nb_put1 _ _ _ _ _ _ _ (by decide) (by omega) (by omega), show (8 : Int32) + Int32.ofInt (-8) = 0 from by decide, nb_put1 _ _ _ _ _ _ _ (by decide) (by omega) (by omega), show (0 : Int32) + Int32.ofInt (-8) = -8 from by decide, nb_put0 _ _ _ _ _ _ _ (by decide)]
  rfl
/-- the tapes alone -/
def r0 (σ : S12) (τ : S19) : Prop := sI σ.1 0 = sI τ.1 1 ∧ 0 ≤ (sI σ.1 0).toInt ∧ ∀ j : Nat, (j : Int) < (sI σ.1 0).toInt → sR τ.2.2.2.1 3 j = sR σ.2.2.2.1.2 7 j &&& 255
theorem nb_r1 {σ : S12} {τ : S19} {b c : Int32} (h : r0 σ τ) (h1 : (sI σ.1 0).toInt < 32768) (e : c = b &&& 255) : r0 (w1 b σ) (u1 c τ) := by
  obtain ⟨a1, a2, a3⟩ := h
  have hw := nb_w1 b σ a2 h1
  refine ⟨?_, by omega, fun j hj => ?_⟩
  · show sI σ.1 0 + 1 = sI τ.1 1 + 1
    rw [a1]
  · show upd (sR τ.2.2.2.1 3) (Int32.toNatClampNeg (sI τ.1 1)) c j = upd (sR σ.2.2.2.1.2 7) (Int32.toNatClampNeg (sI σ.1 0)) b j &&& 255
    rw [← a1]
    unfold upd
    by_cases d : j = Int32.toNatClampNeg (sI σ.1 0)
    · rw [if_pos d, if_pos d, e]
    · rw [if_neg d, if_neg d]
      refine a3 j ?_
      have hz : Int32.toNatClampNeg (sI σ.1 0) = (sI σ.1 0).toInt.toNat := rfl
      omega
def wd (a b c d e : Int32) (k : Nat) : Int32 := if k < 4 then a else if k < 8 then b else if k < 12 then c else if k < 16 then d else e
def cb (v : Int32) (k : Nat) : Int32 := ((((v : Int32) >>> (((24 - (8 * ((Int32.ofNat k : Int32) - Int32.ofNat k / 4 * 4))) : Int32) &&& 31)) &&& 255))
theorem nb_fd1 (n m k : Nat) (a b c d e : Int32) (s : S19) (hk : k < 20) (h0 : 0 ≤ (sI s.1 1).toInt) (h1 : (sI s.1 1).toInt < 32768) : df_X19_feed_22 n (m + 1) a b c d e (Int32.ofNat k) s = df_X19_feed_22 n m a b c d e (Int32.ofNat (k + 1)) (u1 (cb (wd a b c d e k) k) s) := by
  show dF_X19_feed_22 n (df_X19_feed_22 n m) a b c d e (Int32.ofNat k) s = _
  have hi : Int32.ofNat k + Int32.ofInt 1 = Int32.ofNat (k + 1) := by
    have : ∀ k : Fin 20, Int32.ofNat k.val + Int32.ofInt 1 = Int32.ofNat (k.val + 1) := by decide
    exact this ⟨k, hk⟩
  have hc : ∀ q : Fin 21, (Int32.ofNat q.val ≤ Int32.ofNat k ↔ q.val ≤ k) := by
    have : ∀ (k : Fin 20) (q : Fin 21), (Int32.ofNat q.val ≤ Int32.ofNat k.val ↔ q.val ≤ k.val) := by decide +kernel
    exact this ⟨k, hk⟩
  have g20 : ((20 : Int32) ≤ Int32.ofNat k) ↔ 20 ≤ k := hc ⟨20, by omega⟩
  have g4 : ((4 : Int32) ≤ Int32.ofNat k) ↔ 4 ≤ k := hc ⟨4, by omega⟩
  have g8 : ((8 : Int32) ≤ Int32.ofNat k) ↔ 8 ≤ k := hc ⟨8, by omega⟩
  have g12 : ((12 : Int32) ≤ Int32.ofNat k) ↔ 12 ≤ k := hc ⟨12, by omega⟩
  have g16 : ((16 : Int32) ≤ Int32.ofNat k) ↔ 16 ≤ k := hc ⟨16, by omega⟩
  have hp : ∀ y : Int32, df_X19_feed_75 n (df_X19_feed_22 n m) a b c d e (Int32.ofNat k) y s = df_X19_feed_22 n m a b c d e (Int32.ofNat (k + 1)) (u1 (cb y k) s) := fun y => by
    unfold df_X19_feed_75
    rw [nb_ck h0 h1]
    show df_X19_feed_22 n m a b c d e (Int32.ofNat k + Int32.ofInt 1) _ = _
    rw [hi]
    rfl
  unfold dF_X19_feed_22 wd
  rw [if_neg (by rw [g20]; omega)]
  simp only [hp, g4, g8, g12, g16]
  by_cases c1 : k < 4
  · rw [if_neg (by omega), if_pos c1]
  · rw [if_pos (by omega), if_neg c1]
    by_cases c2 : k < 8
    · rw [if_neg (by omega), if_pos c2]
    · rw [if_pos (by omega), if_neg c2]
      by_cases c3 : k < 12
      · rw [if_neg (by omega), if_pos c3]
      · rw [if_pos (by omega), if_neg c3]
        by_cases c4 : k < 16
        · rw [if_neg (by omega), if_pos c4]
        · rw [if_pos (by omega), if_neg c4]
def sh (k : Nat) : Int32 := if k % 4 = 0 then 24 else if k % 4 = 1 then 16 else if k % 4 = 2 then 8 else 0
def wi (a b c d e : Int32) : Nat → S12 → S12
  | 0, s => s
  | k + 1, s => w1 (bt (wd a b c d e k) (sh k)) (wi a b c d e k s)
def ui (a b c d e : Int32) : Nat → S19 → S19
  | 0, s => s
  | k + 1, s => u1 (cb (wd a b c d e k) k) (ui a b c d e k s)
theorem nb_cb (v : Int32) (k : Nat) (hk : k < 20) : cb v k = bt v (sh k) &&& 255 := by
  have hs : ((24 - (8 * ((Int32.ofNat k : Int32) - Int32.ofNat k / 4 * 4))) : Int32) &&& 31 = sh k &&& 31 := by
    have : ∀ k : Fin 20, ((24 - (8 * ((Int32.ofNat k.val : Int32) - Int32.ofNat k.val / 4 * 4))) : Int32) &&& 31 = sh k.val &&& 31 := by decide +kernel
    exact this ⟨k, hk⟩
  unfold cb bt
  rw [hs, nb_nar, nb_byte, nb_byte]
theorem nb_ri (a b c d e : Int32) {σ : S12} {τ : S19} (h : r0 σ τ) (h20 : (sI σ.1 0).toInt + 20 ≤ 32768) : ∀ k : Nat, k ≤ 20 → r0 (wi a b c d e k σ) (ui a b c d e k τ) ∧ (sI (wi a b c d e k σ).1 0).toInt = (sI σ.1 0).toInt + k := by
  intro k
  induction k with
  | zero => intro _; exact ⟨h, by show (sI σ.1 0).toInt = (sI σ.1 0).toInt + (0 : Nat); omega⟩
  | succ k ih =>
    intro hk
    obtain ⟨h1, h2⟩ := ih (by omega)
    refine ⟨nb_r1 h1 (by omega) (nb_cb _ k (by omega)), ?_⟩
    have := nb_w1 (bt (wd a b c d e k) (sh k)) (wi a b c d e k σ) h1.2.1 (by omega)
    show (sI (w1 (bt (wd a b c d e k) (sh k)) (wi a b c d e k σ)).1 0).toInt = _
    omega
theorem nb_fdi (n : Nat) (a b c d e : Int32) {σ : S12} {τ : S19} (h : r0 σ τ) (h20 : (sI σ.1 0).toInt + 20 ≤ 32768) : ∀ k m : Nat, k ≤ 20 → df_X19_feed_22 n (m + k) a b c d e (Int32.ofNat 0) τ = df_X19_feed_22 n m a b c d e (Int32.ofNat k) (ui a b c d e k τ) := by
  intro k
  induction k with
  | zero => intro m _; rfl
  | succ k ih =>
    intro m hk
    rw [show m + (k + 1) = (m + 1) + k from by omega, ih (m + 1) (by omega)]
    obtain ⟨h1, h2⟩ := nb_ri a b c d e h h20 k (by omega)
    have e1 := h1.1
    have e2 := h1.2.1
    exact nb_fd1 n m k a b c d e _ (by omega) (by rw [← e1]; exact e2) (by rw [← e1]; omega)
theorem nb_fd20 (n m : Nat) (a b c d e : Int32) (Y : S19) : df_X19_feed_22 n (m + 1) a b c d e (Int32.ofNat 20) Y = some (sI Y.1 1, (pI Y.1 2 1, Y.2)) := by
  show dF_X19_feed_22 n (df_X19_feed_22 n m) a b c d e (Int32.ofNat 20) Y = _
  unfold dF_X19_feed_22
  rw [if_pos (by decide)]
  rfl
theorem nb_feed (n T L : Nat) (hn : 21 ≤ n) (a b c d e : Int32) (σ : S12) (τ : S19) (h : rt σ τ) : ∃ (r : Int32) (σ' : S12) (τ' : S19), df_X12_feed n T L a b c d e σ = some (r, σ') ∧ df_X19_feed n a b c d e τ = some (r, τ') ∧ rt σ' τ' := by
  obtain ⟨h1, h2, h3, h4, h5, h6⟩ := h
  have h20 : (sI σ.1 0 + 20).toInt = (sI σ.1 0).toInt + 20 := by
    rw [Int32.toInt_add, show (20 : Int32).toInt = 20 from by decide]
    exact Int.bmod_eq_of_le (by omega) (by omega)
  have hc : (sI σ.1 0 + 20 ≤ 32768) ↔ (sI σ.1 0).toInt + 20 ≤ 32768 := by rw [Int32.le_iff_toInt_le, h20, show (32768 : Int32).toInt = 32768 from by decide]
  unfold df_X12_feed df_X12_feed_0 df_X19_feed df_X19_feed_0
  by_cases cc : sI σ.1 0 + 20 ≤ 32768
  · have hh := hc.mp cc
    have p1 := nb_put n T L (by omega) a σ h3 (by omega)
    have p2 := nb_put n T L (by omega) b (w4 a σ) (by omega) (by omega)
    have p3 := nb_put n T L (by omega) c (w4 b (w4 a σ)) (by omega) (by omega)
    have p4 := nb_put n T L (by omega) d (w4 c (w4 b (w4 a σ))) (by omega) (by omega)
    have p5 := nb_put n T L (by omega) e (w4 d (w4 c (w4 b (w4 a σ)))) (by omega) (by omega)
    rw [if_pos cc, p1.1]
    show ∃ (r : Int32) (σ' : S12) (τ' : S19), (nd_b1 (df_X12_putOnTape n T L b (w4 a σ)) _ = _) ∧ _
    rw [p2.1]
    show ∃ (r : Int32) (σ' : S12) (τ' : S19), (nd_b1 (df_X12_putOnTape n T L c (w4 b (w4 a σ))) _ = _) ∧ _
    rw [p3.1]
    show ∃ (r : Int32) (σ' : S12) (τ' : S19), (nd_b1 (df_X12_putOnTape n T L d (w4 c (w4 b (w4 a σ)))) _ = _) ∧ _
    rw [p4.1]
    show ∃ (r : Int32) (σ' : S12) (τ' : S19), (nd_b1 (df_X12_putOnTape n T L e (w4 d (w4 c (w4 b (w4 a σ))))) _ = _) ∧ _
    rw [p5.1]
    have hw : w4 e (w4 d (w4 c (w4 b (w4 a σ)))) = wi a b c d e 20 σ := rfl
    rw [hw]
    have hr0 : r0 σ (pI τ.1 0 0, τ.2) := ⟨h1, h3, h6⟩
    obtain ⟨m, rfl⟩ : ∃ m, n = (m + 1) + 20 := ⟨n - 21, by omega⟩
    have hf := nb_fdi (m + 1 + 20) a b c d e hr0 hh 20 (m + 1) (by omega)
    obtain ⟨hr, ht⟩ := nb_ri a b c d e hr0 hh 20 (by omega)
    obtain ⟨X, hX⟩ : ∃ X, X = wi a b c d e 20 σ := ⟨_, rfl⟩
    obtain ⟨Y, hY⟩ : ∃ Y, Y = ui a b c d e 20 (pI τ.1 0 0, τ.2) := ⟨_, rfl⟩
    rw [← hX, ← hY] at hr
    rw [← hX] at ht
    rw [← hX]
    rw [← hY] at hf
    have hz := nb_fd20 (m + 1 + 20) m a b c d e Y
    obtain ⟨q1, q2, q3⟩ := hr
    refine ⟨sI X.1 0, (pI X.1 1 1, X.2), (pI Y.1 2 1, Y.2), rfl, ?_, q1, rfl, q2, by show (sI X.1 0).toInt ≤ 32768; omega, fun _ => by show 20 ≤ (sI X.1 0).toInt; omega, q3⟩
    show (if sI τ.1 1 + 20 ≤ 32768 then _ else _) = _
    rw [← h1, if_pos cc]
    refine Eq.trans hf ?_
    rw [hz, q1]
  · rw [if_neg cc]
    refine ⟨-1, σ, (pI τ.1 0 0, τ.2), rfl, ?_, h1, h2, h3, h4, h5, h6⟩
    show (if sI τ.1 1 + 20 ≤ 32768 then _ else _) = _
    rw [← h1, if_neg cc]
