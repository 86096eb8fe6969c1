theorem lT {n : Nat} (h : n < 2 ^ 63) : (Int64.ofNat n).toInt = (n : Int) := lg_ofNat_toInt h
theorem lshr {n : Nat} (h : n < 2 ^ 63) (s : Int64) (k : Nat) (hs : (s.toBitVec.smod 64).toNat = k) : Int64.ofNat n >>> s = Int64.ofNat (n / 2 ^ k) := by
  apply Int64.toInt_inj.mp
  have h2 : n / 2 ^ k ≤ n := Nat.div_le_self _ _
  have e : (Int64.ofNat n >>> s).toInt = (Int64.ofNat n).toInt >>> k := by
    show ((Int64.ofNat n).toBitVec.sshiftRight (s.toBitVec.smod 64).toNat).toInt = _
    rw [hs, BitVec.toInt_sshiftRight]
    rfl
  rw [e, lT h, lT (by omega), Int.shiftRight_eq_div_pow]
  rfl
theorem dn_1 (k : Nat) : nI k + Int32.ofInt (-1) = nI k - nI 1 := by
  rw [Int32.sub_eq_add_neg]
  rfl
theorem dn_2 (k : Nat) : nI (k + 1) - nI 1 = nI k := (pk_sub (show 1 ≤ k + 1 by omega)).trans (by rw [show k + 1 - 1 = k by omega])
theorem dn_0 : nI 0 - nI 1 < (0 : Int32) := by decide
theorem dn_3 {k : Nat} (h : k < 2 ^ 31) : ¬ nI k < (0 : Int32) := fun z => by rw [lz_0 (by omega)] at z; omega
/-- how long behind the one before -/
def dT (t : Nat → Nat) (i : Nat) : Nat := if i = 0 then t 0 else t i - t (i - 1)
def dP (t : Nat → Nat) (i : Nat) : Nat := if i = 0 then 0 else dT t (i - 1)
/-- the events that are packed, in both -/
def pkR (N : Nat) (K t : Nat → Nat) (A : Nat → Int64) (B : Nat → Int32) (V C : St) : Prop := N ≤ 2048 ∧ sI V 0 = nI N ∧ sI C 0 = nI N ∧ (∀ i : Nat, i + 1 < N → t i ≤ t (i + 1)) ∧ ∀ i : Nat, i < N → K i < 5 ∧ t i ≤ 60000 ∧ evV (K i) (A i) (B i) ∧ (sR V 0 i = nI (K i) ∧ sQ V 0 i = Int64.ofNat (t i) ∧ sQ V 1 i = A i ∧ sR V 1 i = B i) ∧ sR C 0 i = nI (K i) ∧ sR C 1 i = B i ∧ sQ C 0 i = Int64.ofNat (dT t i) ∧ sQ C 1 i = A i
/-- p bytes are written, the same in both -/
def pkJ (T p : Nat) (V0 C0 : St) (s : St × St) (C : St) : Prop := p ≤ 32768 ∧ sO s.2 0 = some T ∧ sI s.2 2 = nI p ∧ sI C 1 = nI p ∧ (∀ j : Nat, j < p → sR C 2 j = sR s.1 0 j &&& 255) ∧ (∀ k : Nat, ¬ k = 2 → sI s.2 k = sI V0 k) ∧ (∀ k : Nat, sR s.2 k = sR V0 k) ∧ (∀ k : Nat, sQ s.2 k = sQ V0 k) ∧ (∀ k : Nat, ¬ k = 1 → sI C k = sI C0 k) ∧ (∀ k : Nat, ¬ k = 2 → sR C k = sR C0 k) ∧ (∀ k : Nat, sQ C k = sQ C0 k) ∧ ∀ k : Nat, sO C k = sO C0 k
theorem pkR_J {N : Nat} {K t : Nat → Nat} {A : Nat → Int64} {B : Nat → Int32} {V0 C0 C : St} {s : St × St} {T p : Nat} (h : pkR N K t A B V0 C0) (j : pkJ T p V0 C0 s C) : pkR N K t A B s.2 C := by
  obtain ⟨a1, a2, a3, a4, a5, a6, a7, a8, a9, b1, b2, b3⟩ := j
  obtain ⟨h1, h2, h3, h4, h5⟩ := h
  refine ⟨h1, (a6 0 (by omega)).trans h2, (a9 0 (by omega)).trans h3, h4, fun i hi => ?_⟩
  rw [a7 0, a7 1, a8 0, a8 1, b1 0 (by omega), b1 1 (by omega), b2 0, b2 1]
  exact h5 i hi
theorem pk_byte (n T : Nat) {p : Nat} {V0 C0 C : St} {s : St × St} (h : pkJ T p V0 C0 s C) (hp : p < 32768) (v : Int32) : ∃ (s' : St × St) (C' : St), df_X3_putByte n T v s = some s' ∧ df_X14_put n v C = some C' ∧ pkJ T (p + 1) V0 C0 s' C' := by
  obtain ⟨a1, a2, a3, a4, a5, a6, a7, a8, a9, b1, b2, b3⟩ := h
  have u1 : p < 2 ^ 31 := by omega
  have k1 : ¬ 32768 ≤ p := by omega
  refine ⟨(pR s.1 0 (upd (sR s.1 0) p (vp_nar .byte (v.toInt8.toInt32))), pI s.2 2 (nI (p + 1))), pI (pR C 2 (upd (sR C 2) p (v &&& nI 255))) 1 (nI (p + 1)), ?_, ?_, by omega, a2, rfl, rfl, fun j hj => ?_, fun k hk => ?_, a7, a8, fun k hk => ?_, fun k hk => ?_, b2, b3⟩
  · simp (disch := (first | assumption | decide | omega)) only [df_X3_putByte_33, df_X3_putByte_0, df_X3_putByte, nb_o, a3, eq_self, Nat.reduceEqDiff, Nat.reduceLeDiff, nl_0, nl_1, nl_2, nl_32768, no_1, no_1024, pk_mul, nI_add, nm_ck, nI_clamp, nI_ltI, nI_leI, nI_eq, nb_b2, nb_b1, ↓nb_let, nm_z0, nm_z1, nb_II, nb_IR, nb_RI, nb_RR, nm_IL, nm_IQ, nm_RL, nm_RQ, nm_LI, nm_LR, nm_LL, nm_LQ, nm_QI, nm_QR, nm_QL, nm_QQ, nm_rr, nm_ii, nm_eqm, not_false_eq_true, pk_sub, nm_div, nm_shl, nm_shr, nm_ush, nm_or8, nm_or64, nm_or256, nm_m1, nm_m3, nm_m7, nm_m15, nm_m31, nm_m63, nm_m255, nm_m511, nm_m1023, nm_m2047, nm_m65535, Nat.reduceMod, Nat.reducePow, Nat.reduceAdd, Nat.reduceSub, Nat.reduceMul, nm_bo, nm_bi, nm_rc, nm_ic, nm_ri, nm_rl, nm_rq, nm_ql, nm_qi, nm_li, nm_us, nm_uu, nm_cp, nm_sa31, nm_sa7, nm_m127, nm_m2, nm_nz, nm_nzk, nm_eq32, nm_nzf, if_true, if_false, ↓reduceIte, if_pos, if_neg]
  · simp (disch := (first | assumption | decide | omega)) only [df_X14_put_0, df_X14_put, a4, eq_self, Nat.reduceEqDiff, Nat.reduceLeDiff, nl_1, nl_2, nl_255, nl_32768, no_1, no_1024, pk_mul, nI_add, nm_ck, nI_clamp, nI_ltI, nI_leI, nI_eq, nb_b2, nb_b1, ↓nb_let, nm_z0, nm_z1, nb_II, nb_IR, nb_RI, nb_RR, nm_IL, nm_IQ, nm_RL, nm_RQ, nm_LI, nm_LR, nm_LL, nm_LQ, nm_QI, nm_QR, nm_QL, nm_QQ, nm_rr, nm_ii, nm_eqm, not_false_eq_true, pk_sub, nm_div, nm_shl, nm_shr, nm_ush, nm_or8, nm_or64, nm_or256, nm_m1, nm_m3, nm_m7, nm_m15, nm_m31, nm_m63, nm_m255, nm_m511, nm_m1023, nm_m2047, nm_m65535, Nat.reduceMod, Nat.reducePow, Nat.reduceAdd, Nat.reduceSub, Nat.reduceMul, nm_bo, nm_bi, nm_rc, nm_ic, nm_ri, nm_rl, nm_rq, nm_ql, nm_qi, nm_li, nm_us, nm_uu, nm_cp, nm_sa31, nm_sa7, nm_m127, nm_m2, nm_nz, nm_nzk, nm_eq32, nm_nzf, if_true, if_false, ↓reduceIte, if_pos, if_neg]
  · show upd (sR C 2) p (v &&& nI 255) j = upd (sR s.1 0) p (vp_nar .byte (v.toInt8.toInt32)) j &&& 255
    by_cases c : j = p
    · rw [c, nm_us, nm_us, pk_vb]
      exact (nb_byte v).symm
    · rw [nm_un c, nm_un c]
      exact a5 j (by omega)
  · show sI (pI s.2 2 _) k = _
    rw [nb_II, if_neg hk]
    exact a6 k hk
  · show sI (pI (pR C 2 _) 1 _) k = _
    rw [nb_II, if_neg hk]
    exact a9 k hk
  · show sR (pR C 2 _) k = _
    rw [nb_RR, if_neg hk]
    exact b1 k hk
/-- a number in bytes of seven bits, in both -/
theorem pk_var (n T : Nat) {V0 C0 : St} : ∀ (m x i g g' p : Nat) (s : St × St) (C : St), x < 2 ^ (7 * m) → 1 ≤ m → i + m ≤ 7 → m ≤ g → m ≤ g' → p + m ≤ 32768 → pkJ T p V0 C0 s C → ∃ (p' : Nat) (s' : St × St) (C' : St), p' ≤ p + m ∧ df_X3_putVarint_5 n T g (Int64.ofNat x) (nI i) s = some s' ∧ df_X14_varint_2 n g' (Int64.ofNat x) C = some C' ∧ pkJ T p' V0 C0 s' C'
  | 0, _, _, _, _, _, _, _, _, h1, _, _, _, _, _ => absurd h1 (by omega)
  | m + 1, x, i, g, g', p, s, C, hx, _, hi, hg, hg', hp, h => by
    obtain ⟨g1, rfl⟩ : ∃ g1 : Nat, g = g1 + 1 := ⟨g - 1, by omega⟩
    obtain ⟨g2, rfl⟩ : ∃ g2 : Nat, g' = g2 + 1 := ⟨g' - 1, by omega⟩
    have b49 : 2 ^ (7 * (m + 1)) ≤ 2 ^ 49 := Nat.pow_le_pow_right (by omega) (by omega)
    have x63 : x < 2 ^ 63 := by omega
    have i7 : ¬ (7 : Int32) ≤ nI i := fun z => by have z : nI 7 ≤ nI i := z; rw [nI_leI (by omega) (by omega)] at z; omega
    have t127 : (127 : Int64).toInt = 127 := by decide
    show ∃ (p' : Nat) (s' : St × St) (C' : St), p' ≤ p + (m + 1) ∧ dF_X3_putVarint_5 n T (df_X3_putVarint_5 n T g1) (Int64.ofNat x) (nI i) s = some s' ∧ dF_X14_varint_2 n (df_X14_varint_2 n g2) (Int64.ofNat x) C = some C' ∧ pkJ T p' V0 C0 s' C'
    by_cases c : x ≤ 127
    · obtain ⟨s', C', e1, e2, e3⟩ := pk_byte n T h (by omega) (Int64.ofNat x).toInt32
      have lc : lg_cmp (Int64.ofNat x) 127 ≤ (0 : Int32) := (lcD _ _).mpr (by rw [lT x63, t127]; omega)
      refine ⟨p + 1, s', C', by omega, ?_, ?_, e3⟩
      · unfold dF_X3_putVarint_5 df_X3_putVarint_45
        rw [if_neg i7, if_pos lc, e1, nb_b1]
      · unfold dF_X14_varint_2
        rw [if_pos lc, e2, nb_b1]
    · have lc : ¬ lg_cmp (Int64.ofNat x) 127 ≤ (0 : Int32) := fun z => by have z := (lcD _ _).mp z; rw [lT x63, t127] at z; omega
      obtain ⟨s1, C1, e1, e2, e3⟩ := pk_byte n T h (by omega) ((Int64.ofNat x &&& 127).toInt32 ||| 128)
      have m1 : 1 ≤ m := by
        by_cases y : m = 0
        · subst y
          have : x < 2 ^ 7 := hx
          omega
        · omega
      have xd : x / 128 < 2 ^ (7 * m) := by
        apply Nat.div_lt_of_lt_mul
        rw [show 7 * (m + 1) = 7 + 7 * m by omega, Nat.pow_add] at hx
        exact hx
      obtain ⟨p', s', C', f1, f2, f3, f4⟩ := pk_var n T m (x / 128) (i + 1) g1 g2 (p + 1) s1 C1 xd m1 (by omega) (by omega) (by omega) (by omega) e3
      have sh : Int64.ofNat x >>> ((7 : Int32).toInt64 &&& 63) = Int64.ofNat (x / 128) := lshr x63 _ 7 (by decide)
      refine ⟨p', s', C', by omega, ?_, ?_, f4⟩
      · unfold dF_X3_putVarint_5
        rw [if_neg i7, if_neg lc, e1, nb_b1, nb_let, nb_let, sh, show nI i + Int32.ofInt 1 = nI (i + 1) from nI_add ..]
        exact f2
      · unfold dF_X14_varint_2
        rw [if_neg lc, e2, nb_b1, nb_let, sh]
        exact f3
theorem pk_varN (n T : Nat) (hn : 1024 < n) {V0 C0 C : St} {s : St × St} {m x p : Nat} (hx : x < 2 ^ (7 * m)) (h1 : 1 ≤ m) (h7 : m ≤ 7) (hp : p + m ≤ 32768) (h : pkJ T p V0 C0 s C) : ∃ (p' : Nat) (s' : St × St) (C' : St), p' ≤ p + m ∧ df_X3_putVarint n T (Int64.ofNat x) s = some s' ∧ df_X14_varint n (Int64.ofNat x) C = some C' ∧ pkJ T p' V0 C0 s' C' := pk_var n T m x 0 n n p s C hx h1 (by omega) (by omega) (by omega) hp h
/-- bytes, the highest first, in both -/
theorem pk_bytes (n T : Nat) {V0 C0 : St} {a : Int64} {e : Nat} (hq : sQ C0 1 e = a) (he : e < 2048) : ∀ (k g g' p : Nat) (s : St × St) (C : St), k < g → k < g' → p + k ≤ 32768 → k ≤ 8 → pkJ T p V0 C0 s C → ∃ (s' : St × St) (C' : St), df_X3_putBytes_5 n T g a (nI k - nI 1) s = some s' ∧ df_X14_entry_291 n g' (nI e) (nI k - nI 1) C = some C' ∧ pkJ T (p + k) V0 C0 s' C'
  | 0, g, g', p, s, C, hg, hg', _, _, h => by
    obtain ⟨g1, rfl⟩ : ∃ g1 : Nat, g = g1 + 1 := ⟨g - 1, by omega⟩
    obtain ⟨g2, rfl⟩ : ∃ g2 : Nat, g' = g2 + 1 := ⟨g' - 1, by omega⟩
    refine ⟨s, C, ?_, ?_, h⟩
    · show dF_X3_putBytes_5 n T (df_X3_putBytes_5 n T g1) a _ s = _
      unfold dF_X3_putBytes_5
      rw [if_pos dn_0]
    · show dF_X14_entry_291 n (df_X14_entry_291 n g2) (nI e) _ C = _
      unfold dF_X14_entry_291
      rw [if_pos dn_0]
  | k + 1, g, g', p, s, C, hg, hg', hp, h8, h => by
    obtain ⟨g1, rfl⟩ : ∃ g1 : Nat, g = g1 + 1 := ⟨g - 1, by omega⟩
    obtain ⟨g2, rfl⟩ : ∃ g2 : Nat, g' = g2 + 1 := ⟨g' - 1, by omega⟩
    obtain ⟨s1, C1, e1, e2, e3⟩ := pk_byte n T h (by omega) (a >>> ((8 * nI k).toInt64 &&& 63)).toInt32
    obtain ⟨s', C', f1, f2, f3⟩ := pk_bytes n T hq he k g1 g2 (p + 1) s1 C1 (by omega) (by omega) (by omega) (by omega) e3
    have qa : sQ C 1 e = a := by rw [h.2.2.2.2.2.2.2.2.2.2.1 1]; exact hq
    refine ⟨s', C', ?_, ?_, by rw [show p + (k + 1) = p + 1 + k by omega]; exact f3⟩
    · rw [dn_2]
      show dF_X3_putBytes_5 n T (df_X3_putBytes_5 n T g1) a _ s = _
      unfold dF_X3_putBytes_5
      rw [if_neg (dn_3 (by omega)), e1, nb_b1, nb_let, dn_1]
      exact f1
    · rw [dn_2]
      show dF_X14_entry_291 n (df_X14_entry_291 n g2) (nI e) _ C = _
      unfold dF_X14_entry_291
      rw [if_neg (dn_3 (by omega)), nm_ck he (by omega), nI_clamp (by omega), qa, e2, nb_b1, nb_let, dn_1]
      exact f2
/-- whether two bring the same, in both -/
theorem pk_same (n : Nat) {N : Nat} {K t : Nat → Nat} {A : Nat → Int64} {B : Nat → Int32} {V C : St} (h : pkR N K t A B V C) {i j : Nat} (hi : i < N) (hj : j < N) : ∃ r : Int32, (r = nI 0 ∨ r = nI 1) ∧ df_X3_bringsSame n (nI i) (nI j) V = some (r, V) ∧ df_X14_bringsSame n (nI i) (nI j) C = some (r, C) ∧ (r = nI 1 ↔ K i = K j ∧ A i = A j ∧ B i = B j) := by
  obtain ⟨h1, h2, h3, h4, h5⟩ := h
  obtain ⟨i1, i2, i3, ⟨i4, i5, i6, i7⟩, i8, i9, ia, ib⟩ := h5 i hi
  obtain ⟨j1, j2, j3, ⟨j4, j5, j6, j7⟩, j8, j9, ja, jb⟩ := h5 j hj
  have ui : i < 2 ^ 31 := by omega
  have uj : j < 2 ^ 31 := by omega
  have vi : i < 2048 := by omega
  have vj : j < 2048 := by omega
  have n10 : ¬ nI 0 = nI 1 := by decide
  unfold df_X3_bringsSame df_X3_bringsSame_0 df_X3_bringsSame_50 df_X3_bringsSame_51 df_X14_bringsSame df_X14_bringsSame_0 df_X14_bringsSame_50 df_X14_bringsSame_51
  simp only [nm_ck vi ui, nm_ck vj uj, nI_clamp ui, nI_clamp uj, i4, i6, i7, j4, j6, j7, i8, i9, ib, j8, j9, jb, lcE]
  by_cases a : K i = K j
  · rw [if_pos (show nI (K i) = nI (K j) by rw [a]), if_pos (show nI (K i) = nI (K j) by rw [a])]
    by_cases b : A i = A j
    · rw [if_pos b, if_pos b]
      by_cases c : B i = B j
      · rw [if_pos c, if_pos c]
        exact ⟨nI 1, Or.inr rfl, nm_z1, nm_z1, fun _ => ⟨a, b, c⟩, fun _ => rfl⟩
      · rw [if_neg c, if_neg c]
        exact ⟨nI 0, Or.inl rfl, nm_z0, nm_z0, fun z => absurd z n10, fun z => absurd z.2.2 c⟩
    · rw [if_neg b, if_neg b]
      exact ⟨nI 0, Or.inl rfl, nm_z0, nm_z0, fun z => absurd z n10, fun z => absurd z.2.1 b⟩
  · have a' : ¬ nI (K i) = nI (K j) := fun z => by rw [nI_eq (by omega) (by omega)] at z; exact a z
    rw [if_neg a', if_neg a']
    exact ⟨nI 0, Or.inl rfl, nm_z0, nm_z0, fun z => absurd z n10, fun z => absurd z.1 a⟩
theorem pk_diff (n : Nat) {N : Nat} {K t : Nat → Nat} {A : Nat → Int64} {B : Nat → Int32} {V C : St} (h : pkR N K t A B V C) {i : Nat} (hi : i < N) : df_X3_difference n (nI i) V = some (Int64.ofNat (dT t i), V) := by
  obtain ⟨h1, h2, h3, h4, h5⟩ := h
  unfold df_X3_difference df_X3_difference_0 df_X3_difference_28 dT
  by_cases c : i = 0
  · subst c
    rw [if_neg (show ¬ (0 : Int32) < nI 0 by decide), if_pos rfl]
    rw [show (Int32.toNatClampNeg 0) = 0 from rfl, (h5 0 hi).2.2.2.1.2.1]
  · rw [if_pos (show (0 : Int32) < nI i from (show nI 0 < nI i by rw [nI_ltI (by omega) (by omega)]; omega)), if_neg c, nm_ck (by omega) (by omega), show nI i - 1 = nI (i - 1) from pk_sub (show 1 ≤ i by omega), nm_ck (by omega) (by omega), nI_clamp (by omega), nI_clamp (by omega), (h5 i hi).2.2.2.1.2.1, (h5 (i - 1) (by omega)).2.2.2.1.2.1]
    have m := h4 (i - 1) (by omega)
    rw [show i - 1 + 1 = i by omega] at m
    rw [on_sub m]
theorem dT_le {N : Nat} {K t : Nat → Nat} {A : Nat → Int64} {B : Nat → Int32} {V C : St} (h : pkR N K t A B V C) {i : Nat} (hi : i < N) : dT t i ≤ 60000 := by
  have := (h.2.2.2.2 i hi).2.1
  unfold dT
  by_cases c : i = 0
  · rw [if_pos c]; rw [c] at this; exact this
  · rw [if_neg c]; omega
/-- which of the latest typed ones is the same, in both -/
theorem pk_copy (n : Nat) {N : Nat} {K t : Nat → Nat} {A : Nat → Int64} {B : Nat → Int32} {V C : St} (h : pkR N K t A B V C) {i : Nat} (hi : i < N) : ∀ (j x g g' : Nat), j ≤ i → j < g → j < g' → x ≤ 20 → ∃ r : Nat, r ≤ 20 ∧ df_X3_sameTyped_6 n g (nI i) (nI x) (nI j - nI 1) V = some (nI r, V) ∧ df_X14_copyOf_6 n g' (nI i) (nI x) (nI j - nI 1) C = some (nI r, C)
  | 0, x, g, g', _, hg, hg', _ => by
    obtain ⟨g1, rfl⟩ : ∃ g1 : Nat, g = g1 + 1 := ⟨g - 1, by omega⟩
    obtain ⟨g2, rfl⟩ : ∃ g2 : Nat, g' = g2 + 1 := ⟨g' - 1, by omega⟩
    refine ⟨0, by omega, ?_, ?_⟩
    · show dF_X3_sameTyped_6 n (df_X3_sameTyped_6 n g1) _ _ _ V = _
      unfold dF_X3_sameTyped_6
      rw [if_pos dn_0]
      rfl
    · show dF_X14_copyOf_6 n (df_X14_copyOf_6 n g2) _ _ _ C = _
      unfold dF_X14_copyOf_6
      rw [if_pos dn_0]
      rfl
  | j + 1, x, g, g', hj, hg, hg', hx => by
    obtain ⟨g1, rfl⟩ : ∃ g1 : Nat, g = g1 + 1 := ⟨g - 1, by omega⟩
    obtain ⟨g2, rfl⟩ : ∃ g2 : Nat, g' = g2 + 1 := ⟨g' - 1, by omega⟩
    have ih := fun x hx => pk_copy n h hi j x g1 g2 (by omega) (by omega) (by omega) hx
    obtain ⟨r, r1, s1, s2, s3⟩ := pk_same n h hi (show j < N by omega)
    obtain ⟨h1, h2, h3, h4, h5⟩ := h
    obtain ⟨i1, i2, i3, ⟨i4, i5, i6, i7⟩, i8, i9, ia, ib⟩ := h5 i hi
    obtain ⟨j1, j2, j3, ⟨j4, j5, j6, j7⟩, j8, j9, ja, jb⟩ := h5 j (by omega)
    have ui : i < 2 ^ 31 := by omega
    have uj : j < 2 ^ 31 := by omega
    have vi : i < 2048 := by omega
    have vj : j < 2048 := by omega
    rw [dn_2]
    show ∃ r : Nat, r ≤ 20 ∧ dF_X3_sameTyped_6 n (df_X3_sameTyped_6 n g1) (nI i) (nI x) (nI j) V = some (nI r, V) ∧ dF_X14_copyOf_6 n (df_X14_copyOf_6 n g2) (nI i) (nI x) (nI j) C = some (nI r, C)
    generalize df_X3_sameTyped_6 n g1 = G at ih
    generalize df_X14_copyOf_6 n g2 = H at ih
    unfold dF_X3_sameTyped_6 dF_X14_copyOf_6 df_X3_sameTyped_50 df_X3_sameTyped_56 df_X14_copyOf_53 df_X14_copyOf_59
    rw [if_neg (dn_3 uj), if_neg (dn_3 uj)]
    by_cases c : 20 ≤ x
    · have c' : (20 : Int32) ≤ nI x := (show nI 20 ≤ nI x by rw [nI_leI (by omega) (by omega)]; exact c)
      rw [if_pos c', if_pos c']
      exact ⟨0, by omega, rfl, rfl⟩
    · have c' : ¬ (20 : Int32) ≤ nI x := fun z => by have z : nI 20 ≤ nI x := z; rw [nI_leI (by omega) (by omega)] at z; exact c z
      rw [if_neg c', if_neg c', nm_ck vi ui, nm_ck vi ui, nI_clamp ui, i7, i9]
      by_cases d : B i ≤ 1
      · rw [if_pos d, if_pos d]
        exact ⟨0, by omega, rfl, rfl⟩
      · rw [if_neg d, if_neg d, nm_ck vj uj, nm_ck vj uj, nI_clamp uj, j4, j8]
        by_cases k1 : K j = 1
        · rw [if_pos (show nI (K j) = 1 by rw [k1]; rfl), if_pos (show nI (K j) = 1 by rw [k1]; rfl), nb_let, nb_let, s1, s2, nb_b2, nb_b2, show nI x + Int32.ofInt 1 = nI (x + 1) from nI_add ..]
          rcases r1 with e | e
          · rw [if_pos (show r = 0 from e), if_pos (show r = 0 from e), nb_let, nb_let, dn_1]
            exact ih (x + 1) (by omega)
          · have e' : ¬ r = 0 := by rw [e]; decide
            rw [if_neg e', if_neg e']
            exact ⟨x + 1, by omega, rfl, rfl⟩
        · have k1' : ¬ nI (K j) = 1 := fun z => by have z : nI (K j) = nI 1 := z; rw [nI_eq (by omega) (by omega)] at z; exact k1 z
          rw [if_neg k1', if_neg k1', nb_let, nb_let, dn_1]
          exact ih x hx
/-- the clock that was set last, in both -/
theorem pk_far (n : Nat) {N : Nat} {K t : Nat → Nat} {A : Nat → Int64} {B : Nat → Int32} {V C : St} (h : pkR N K t A B V C) {i : Nat} (hi : i < N) : ∀ (j g g' : Nat), j ≤ i → j < g → j < g' → (df_X3_latest_9 n g 3 1 (nI j - nI 1) V = some (-1, V) ∧ df_X14_isAsFar_4 n g' (nI i) (nI j - nI 1) C = some (nI 0, C)) ∨ ∃ f : Nat, f < N ∧ df_X3_latest_9 n g 3 1 (nI j - nI 1) V = some (nI f, V) ∧ df_X14_isAsFar_4 n g' (nI i) (nI j - nI 1) C = some (if A f = A i then nI 1 else nI 0, C)
  | 0, g, g', _, hg, hg' => by
    obtain ⟨g1, rfl⟩ : ∃ g1 : Nat, g = g1 + 1 := ⟨g - 1, by omega⟩
    obtain ⟨g2, rfl⟩ : ∃ g2 : Nat, g' = g2 + 1 := ⟨g' - 1, by omega⟩
    refine Or.inl ⟨?_, ?_⟩
    · show dF_X3_latest_9 n (df_X3_latest_9 n g1) _ _ _ V = _
      unfold dF_X3_latest_9
      rw [if_pos dn_0]
    · show dF_X14_isAsFar_4 n (df_X14_isAsFar_4 n g2) _ _ C = _
      unfold dF_X14_isAsFar_4 df_X14_isAsFar_24
      rw [if_pos dn_0, if_pos dn_0]
      exact nm_z0
  | j + 1, g, g', hj, hg, hg' => by
    obtain ⟨g1, rfl⟩ : ∃ g1 : Nat, g = g1 + 1 := ⟨g - 1, by omega⟩
    obtain ⟨g2, rfl⟩ : ∃ g2 : Nat, g' = g2 + 1 := ⟨g' - 1, by omega⟩
    have ih := pk_far n h hi j g1 g2 (by omega) (by omega) (by omega)
    obtain ⟨h1, h2, h3, h4, h5⟩ := h
    obtain ⟨i1, i2, i3, ⟨i4, i5, i6, i7⟩, i8, i9, ia, ib⟩ := h5 i hi
    obtain ⟨j1, j2, j3, ⟨j4, j5, j6, j7⟩, j8, j9, ja, jb⟩ := h5 j (by omega)
    have ui : i < 2 ^ 31 := by omega
    have uj : j < 2 ^ 31 := by omega
    have vi : i < 2048 := by omega
    have vj : j < 2048 := by omega
    rw [dn_2]
    show (dF_X3_latest_9 n (df_X3_latest_9 n g1) 3 1 (nI j) V = some (-1, V) ∧ dF_X14_isAsFar_4 n (df_X14_isAsFar_4 n g2) (nI i) (nI j) C = some (nI 0, C)) ∨ ∃ f : Nat, f < N ∧ dF_X3_latest_9 n (df_X3_latest_9 n g1) 3 1 (nI j) V = some (nI f, V) ∧ dF_X14_isAsFar_4 n (df_X14_isAsFar_4 n g2) (nI i) (nI j) C = some (if A f = A i then nI 1 else nI 0, C)
    generalize df_X3_latest_9 n g1 = G at ih
    generalize df_X14_isAsFar_4 n g2 = H at ih
    unfold dF_X3_latest_9 dF_X14_isAsFar_4 df_X3_latest_41 df_X14_isAsFar_24 df_X14_isAsFar_48 df_X14_isAsFar_49
    rw [if_neg (dn_3 uj), if_neg (dn_3 uj), if_neg (dn_3 uj), nm_ck vj uj, nm_ck vj uj, nm_ck vj uj, nI_clamp uj, nm_ck vi ui, nI_clamp ui, j4, j8, jb, ib]
    by_cases k3 : K j = 3
    · rw [if_pos (show nI (K j) = 3 by rw [k3]; rfl), if_pos (show nI (K j) = 3 by rw [k3]; rfl), nb_let, show (1 : Int64) - 1 = 0 by decide, if_pos (show lg_cmp 0 0 = (0 : Int32) by decide)]
      refine Or.inr ⟨j, by omega, rfl, ?_⟩
      by_cases a : A j = A i
      · rw [if_pos ((lcE _ _).mpr a), if_pos a]
        exact nm_z1
      · rw [if_neg (fun z => a ((lcE _ _).mp z)), if_neg a]
        exact nm_z0
    · have k3' : ¬ nI (K j) = 3 := fun z => by have z : nI (K j) = nI 3 := z; rw [nI_eq (by omega) (by omega)] at z; exact k3 z
      rw [if_neg k3', if_neg k3', nb_let, nb_let, dn_1]
      exact ih
theorem pk_clock (n : Nat) (hn : 4096 < n) {N : Nat} {K t : Nat → Nat} {A : Nat → Int64} {B : Nat → Int32} {V C : St} (h : pkR N K t A B V C) {i : Nat} (hi : i < N) : ∃ r : Nat, r < 2 ∧ df_X3_sameClock n (nI i) V = some (nI r, V) ∧ df_X14_isAsFar n (nI i) C = some (nI r, C) := by
  have N8 := h.1
  have vi : i < 2048 := by omega
  have ui : i < 2 ^ 31 := by omega
  unfold df_X3_sameClock df_X3_sameClock_0 df_X3_sameClock_32 df_X3_sameClock_33 df_X3_latest df_X3_latest_0 df_X14_isAsFar df_X14_isAsFar_0
  rw [nb_let, nb_let]
  rcases pk_far n h hi i n n (Nat.le_refl i) (by omega) (by omega) with ⟨a, b⟩ | ⟨f, f1, a, b⟩
  · refine ⟨0, by omega, ?_, b⟩
    have a : df_X3_latest_9 n n 3 1 (nI i - 1) V = some (-1, V) := a
    rw [a, nb_b2, if_pos (show (-1 : Int32) < 0 by decide)]
    rfl
  · have a : df_X3_latest_9 n n 3 1 (nI i - 1) V = some (nI f, V) := a
    obtain ⟨h1, h2, h3, h4, h5⟩ := h
    rw [a, nb_b2, if_neg (dn_3 (by omega)), nm_ck (by omega) (by omega), nm_ck vi ui, nI_clamp (by omega), nI_clamp ui, (h5 f f1).2.2.2.1.2.2.1, (h5 i hi).2.2.2.1.2.2.1]
    by_cases c : A f = A i
    · rw [if_pos c] at b
      rw [if_pos ((lcE _ _).mpr c)]
      exact ⟨1, by omega, rfl, b⟩
    · rw [if_neg c] at b
      rw [if_neg (fun z => c ((lcE _ _).mp z))]
      exact ⟨0, by omega, rfl, b⟩
/-- the head of an entry, in both -/
theorem pk_head (n T : Nat) (hn : 4096 < n) {N : Nat} {K t : Nat → Nat} {A : Nat → Int64} {B : Nat → Int32} {V0 C0 C : St} {s : St × St} {p i : Nat} (hR : pkR N K t A B V0 C0) (h : pkJ T p V0 C0 s C) (hi : i < N) (hp : p + 4 ≤ 32768) {x2 : Int32} (h2 : x2 = 0 ∨ x2 = 1) (x3 x4 k far y1 y2 : Int32) : ∃ (p1 : Nat) (s1 : St × St) (C1 : St), p1 ≤ p + 4 ∧ df_X3_putEntry_161 n T (nI i) x2 x3 x4 y1 y2 s = df_X3_putEntry_183 n T (nI i) x3 s1 ∧ df_X14_entry_167 n (nI i) x2 k far x4 y1 y2 C = df_X14_entry_190 n (nI i) k far C1 ∧ pkJ T p1 V0 C0 s1 C1 := by
  have N8 := hR.1
  obtain ⟨s1, C1, e1, e2, e3⟩ := pk_byte n T h (by omega) ((y1 ||| y2) ||| (x4 <<< ((4 : Int32) &&& 31)))
  have R1 := pkR_J hR e3
  unfold df_X3_putEntry_161 df_X14_entry_167
  rw [e1, e2, nb_b1, nb_b1]
  rcases h2 with z | z
  · obtain ⟨p', s', C', f1, f2, f3, f4⟩ := pk_varN n T (by omega) (m := 3) (x := dT t i) (by have := dT_le hR hi; omega) (by omega) (by omega) (by omega) e3
    refine ⟨p', s', C', by omega, ?_, ?_, f4⟩
    · rw [if_pos z, pk_diff n R1 hi, nb_b2, nb_let, f2, nb_b1]
    · rw [if_pos z, nm_ck (by omega) (by omega), nI_clamp (by omega), (R1.2.2.2.2 i hi).2.2.2.2.2.2.1, f3, nb_b1]
  · have z' : ¬ x2 = 0 := by rw [z]; decide
    rw [if_neg z', if_neg z']
    exact ⟨p + 1, s1, C1, by omega, rfl, rfl, e3⟩
