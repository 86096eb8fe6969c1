/-- where a line ends -/
def lnE (c : Nat → Nat) (L p : Nat) : Nat := fN (fun i => decide (c i = 10)) p (L - p)
theorem lnE_1 {c : Nat → Nat} {L p : Nat} (hp : p ≤ L) (hend : ∀ i : Nat, L ≤ i → c i = 10) : p ≤ lnE c L p ∧ lnE c L p ≤ L ∧ c (lnE c L p) = 10 ∧ ∀ i : Nat, p ≤ i → i < lnE c L p → ¬ c i = 10 := by
  obtain ⟨a, b, d, f⟩ := fN_le (fun i => decide (c i = 10)) (L - p) p
  have hb : lnE c L p ≤ L := by unfold lnE; omega
  refine ⟨a, hb, ?_, fun i h1 h2 => ?_⟩
  · by_cases z : lnE c L p < L
    · have := d (by unfold lnE at z; omega)
      exact of_decide_eq_true this
    · exact hend _ (by omega)
  · have := f i h1 h2
    exact of_decide_eq_false this
theorem chA {n L : Nat} {c : Nat → Nat} {S : St} (hL : L ≤ 32768) (h0 : sI S 0 = nI L) (ht : ∀ i : Nat, i < L → sR S 2 i = nI (c i)) (hend : ∀ i : Nat, L ≤ i → c i = 10) {k : Nat} (hk : k < 2 ^ 30) : df_X13_charAt n (nI k) S = some (nI (c k), S) := by
  unfold df_X13_charAt df_X13_charAt_0
  rw [h0]
  by_cases z : k < L
  · rw [if_neg (znle z (by omega)), nm_ck (by omega) (by omega), nI_clamp (by omega), ht k z]
    rfl
  · rw [if_pos (zle (by omega) (by omega)), hend k (by omega)]
    rfl
/-- the reference: to the next line -/
theorem rd_152 {n L e : Nat} {c : Nat → Nat} {S : St} (G : St → Option St) (hL : L ≤ 32768) (heL : e ≤ L) (h0 : sI S 0 = nI L) (ht : ∀ i : Nat, i < L → sR S 2 i = nI (c i)) (hend : ∀ i : Nat, L ≤ i → c i = 10) (hce : c e = 10) (h127 : ∀ i : Nat, c i < 127) : ∀ j ap g : Nat, ap + j = e → j < g → (∀ i : Nat, ap ≤ i → i < e → ¬ c i = 10) → df_X13_readAll_152 n G g (pI S 7 (nI ap)) = G (pI (pI S 7 (nI (e + 1))) 13 (sI S 13 + 1)) := fun j => by
  have p7 : ∀ a b : Int32, pI (pI S 7 a) 7 b = pI S 7 b := fun a b => Prod.ext (funext fun i => by
    show (if i = 7 then b else if i = 7 then a else S.1 i) = (if i = 7 then b else S.1 i)
    by_cases z : i = 7
    · rw [if_pos z, if_pos z]
    · rw [if_neg z, if_neg z, if_neg z]) rfl
  induction j with
  | zero =>
    intro ap g h1 h2 h3
    obtain ⟨g, rfl⟩ : ∃ m : Nat, g = m + 1 := ⟨g - 1, by omega⟩
    have : ap = e := by omega
    subst this
    show dF_X13_readAll_152 n G (df_X13_readAll_152 n G g) (pI S 7 (nI ap)) = _
    unfold dF_X13_readAll_152
    rw [show sI (pI S 7 (nI ap)) 7 = nI ap from rfl, chA (S := pI S 7 (nI ap)) hL h0 ht hend (by omega), nb_b2, if_pos (show nI (c ap) = 10 from congrArg nI hce), nb_let, show sI (pI S 7 (nI ap)) 7 + 1 = nI (ap + 1) from nI_add ap 1, p7, nb_let]
    rfl
  | succ j ih =>
    intro ap g h1 h2 h3
    obtain ⟨g, rfl⟩ : ∃ m : Nat, g = m + 1 := ⟨g - 1, by omega⟩
    show dF_X13_readAll_152 n G (df_X13_readAll_152 n G g) (pI S 7 (nI ap)) = _
    unfold dF_X13_readAll_152
    have := h127 ap
    rw [show sI (pI S 7 (nI ap)) 7 = nI ap from rfl, chA (S := pI S 7 (nI ap)) hL h0 ht hend (by omega), nb_b2, if_neg (show ¬ nI (c ap) = 10 from zne (b := 10) (h3 ap (Nat.le_refl _) (by omega)) (by omega) (by omega)), nb_let, show sI (pI S 7 (nI ap)) 7 + 1 = nI (ap + 1) from nI_add ap 1, p7]
    exact ih (ap + 1) g (by omega) (by omega) (fun i i1 i2 => h3 i (by omega) i2)
/-- the class: to the end of a line -/
theorem mk_w {n L e p : Nat} {c : Nat → Nat} {s1 s3 Q U : St} (hL : L ≤ 32768) (heL : e ≤ L) (hQ : sI Q 2 = 0) (ht : ∀ i : Nat, i < L → sR U 7 i = nI (c i)) (hce : c e = 10) (h127 : ∀ i : Nat, c i < 127) : ∀ j i g : Nat, i + j = e → j < g → (∀ k : Nat, i ≤ k → k < e → ¬ c k = 10) → df_X1_make_12 n g (nI L) (nI p) (nI i) (s1, ((Q, U), s3)) = df_X1_make_40 n (df_X1_make_12 n (g - j - 1)) (nI L) (nI p) (nI e) (s1, ((Q, U), s3)) := fun j => by
  induction j with
  | zero =>
    intro i g h1 h2 h3
    obtain ⟨g, rfl⟩ : ∃ m : Nat, g = m + 1 := ⟨g - 1, by omega⟩
    have : i = e := by omega
    subst this
    show dF_X1_make_12 n (df_X1_make_12 n g) (nI L) (nI p) (nI i) (s1, ((Q, U), s3)) = _
    unfold dF_X1_make_12
    rw [if_neg (znl heL (by omega)), if_pos (show sI (s1, ((Q, U), s3)).2.1.1 2 = 0 from hQ)]
    rw [show g + 1 - 0 - 1 = g by omega]
    by_cases z : i = L
    · rw [if_pos (congrArg nI z)]
    · rw [if_neg (zne z (by omega) (by omega)), nm_ck (by omega) (by omega), nI_clamp (by omega), if_pos (show sR (s1, ((Q, U), s3)).2.1.2 7 i = 10 from by rw [show sR (s1, ((Q, U), s3)).2.1.2 7 i = nI (c i) from ht i (by omega), hce]; rfl)]
  | succ j ih =>
    intro i g h1 h2 h3
    obtain ⟨g, rfl⟩ : ∃ m : Nat, g = m + 1 := ⟨g - 1, by omega⟩
    show dF_X1_make_12 n (df_X1_make_12 n g) (nI L) (nI p) (nI i) (s1, ((Q, U), s3)) = _
    unfold dF_X1_make_12 df_X1_make_84
    have := h127 i
    rw [if_neg (znl (show i ≤ L by omega) (by omega)), if_pos (show sI (s1, ((Q, U), s3)).2.1.1 2 = 0 from hQ), if_neg (zne (show ¬ i = L by omega) (by omega) (by omega)), nm_ck (by omega) (by omega), nI_clamp (by omega), if_neg (show ¬ sR (s1, ((Q, U), s3)).2.1.2 7 i = 10 from by rw [show sR (s1, ((Q, U), s3)).2.1.2 7 i = nI (c i) from ht i (by omega)]; exact zne (b := 10) (h3 i (Nat.le_refl _) (by omega)) (by omega) (by omega)), nb_let, show nI i + Int32.ofInt 1 = nI (i + 1) from nI_add i 1]
    rw [ih (i + 1) g (by omega) (by omega) (fun k k1 k2 => h3 k (by omega) k2), show g + 1 - (j + 1) - 1 = g - j - 1 by omega]
/-- the class begins a line -/
theorem stl_L {n L e p : Nat} {c : Nat → Nat} {B0 BR0 : St} {e0 nl : Nat} {NR LB : Nat → Int32} {cs tp st ns : Nat} {fx : Bool} {C A S NM BK : Nat → Int32} {ap kd fr : Nat} {nm : Int32} (hT : atx n L e c (bC B0 e nl NR LB) BR0) (hp : p ≤ e) (hl : ∀ i : Nat, p ≤ i → i < e → ¬ c i = 10) (Q : St) : ∃ (q p' κ τ v : Nat) (x : Int32), TS n L e c (bC B0 e nl NR LB) p q p' κ τ v x ∧ df_X1_readLine n (nI p) (nI e) (Q, uC (xC (bC B0 e0 nl NR LB) cs tp st ns fx C A S NM BK) ap kd fr nm) = df_X1_readLine_13 n n (nI (e - p)) (Q, uC (xC (bC B0 e nl NR LB) cs tp st ns fx C A S NM BK) p' κ q x) := by
  obtain ⟨hn, hL, heL, h127, hend, hce, hO, hst, htC, h0, htR, hch⟩ := id hT
  obtain ⟨q, p', κ, τ, v, x, n1, n2⟩ := nx_1 hT (cs := cs) (tp := tp) (st := st) (ns := ns) (fx := fx) (C := C) (A := A) (S := S) (NM := NM) (BK := BK) p kd fr nm hp hl
  refine ⟨q, p', κ, τ, v, x, n2, ?_⟩
  unfold df_X1_readLine df_X1_readLine_0 df_X9_startLine df_X9_startLine_0
  show nd_b1 (nd_let (pI (uC (xC (bC B0 e0 nl NR LB) cs tp st ns fx C A S NM BK) ap kd fr nm) 0 (nI p)) _) _ = _
  rw [uC_w0, nb_let, show sO (uC (xC (bC B0 e0 nl NR LB) cs tp st ns fx C A S NM BK) p kd fr nm) 0 = some 8 from hO, o8, if_neg (show ¬ (32768 : Int32) < nI e from znl (a := 32768) (by omega) (by omega)), bC_w1, nb_let, n1, nb_b1, nb_b1, nb_let, pk_sub hp, nb_let]
