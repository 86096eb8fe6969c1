/-- a name's token, read from its own first letter -/
theorem ts_q {n L e : Nat} {c : Nat → Nat} {BC BR0 : St} (hT0 : atx n L e c BC BR0) {p q p' κ v : Nat} {x : Int32} (T : TS n L e c BC p q p' κ 1 v x) : ∃ (v0 : Nat) (x0 : Int32), TS n L e c BC q q p' κ 1 v0 x0 := by
  obtain ⟨hn, hL, heL, _⟩ := id hT0
  obtain ⟨t1, t2, t3, t4, t5, t6, t7, t8, t9⟩ := id T
  obtain ⟨w1, w2, w3, w4, w5, w6⟩ := ts_w T rfl
  obtain ⟨pa, κa, τa, va, a1, a2, a3, a4, a5⟩ := tok2 p t1 t2 hT0
  obtain ⟨xa, ea, va'⟩ := (a5 BR0 hT0).1 0 0 0
  have qp := qT_1 c t1
  have Ta : TS n L e c BC p (qT c e p) pa κa τa va xa := ⟨t1, t2, qp.1, a1, a2, a3, a4, va', fun BR hT => (a5 BR hT).2⟩
  obtain ⟨x1, p2, e1, e2, e3⟩ := t9 BR0 hT0 0 0 0 0
  obtain ⟨x2, p3, f1, f2, f3⟩ := (a5 BR0 hT0).2 0 0 0 0
  rw [e1] at f1
  have f1 := Option.some.inj f1
  have q9 : nI q = nI (qT c e p) := congrArg (fun s => sI s 9) f1
  have q8 : nI 1 = nI τa := congrArg (fun s => sI s 8) f1
  have h300 := ts_300 Ta
  rw [nI_eq (by omega) (by omega)] at q9 q8
  have q8 : τa = 1 := q8.symm
  subst q8
  obtain ⟨y1, y2, y3, y4, y5, y6⟩ := ts_w Ta rfl
  rw [← q9] at y1 y2 ea Ta
  have hpa : pa = p' := by rw [y2, w2]
  have tq : ∀ i : Nat, q ≤ i → i < e → ¬ c i = 10 := fun i i1 i2 => t2 i (by omega) i2
  obtain ⟨pb, κb, τb, vb, b1, b2, b3, b4, b5⟩ := tok2 q (by omega) tq hT0
  obtain ⟨xb, eb, vb'⟩ := (b5 BR0 hT0).1 0 0 0
  have qq := qT_1 c (show q ≤ e by omega)
  have hqq : qT c e q = q := by
    refine Classical.byContradiction fun z => ?_
    have := qq.2.2.2 q (Nat.le_refl _) (by have := qq.1; omega)
    rcases this with u | u
    · rw [u] at w4; exact absurd w4 (by decide)
    · rw [u] at w4; exact absurd w4 (by decide)
  have Tb : TS n L e c BC q (qT c e q) pb κb τb vb xb := ⟨by omega, tq, qq.1, b1, b2, b3, b4, vb', fun BR hT => (b5 BR hT).2⟩
  have k1 := ak_sk hT0 p 0 0 0 t1
  have k2 := ak_sk hT0 q 0 0 0 (by omega)
  rw [hqq] at k2 eb Tb
  rw [← q9] at k1
  have k3 := (ea.symm.trans k1).trans (k2.symm.trans eb)
  have k3 := Option.some.inj k3
  have z0 : nI pa = nI pb := congrArg (fun s => sI s 0) k3
  have z2 : nI κa = nI κb := congrArg (fun s => sI s 2) k3
  have h6b := (ts_0 Tb).2.1
  rw [nI_eq (by omega) (by omega)] at z0 z2
  have hτb : τb = 1 := (ts_0 Tb).2.2.1.mp (by omega)
  subst hτb
  have : κb = κ := by omega
  subst this
  have : pb = p' := by omega
  subst this
  exact ⟨vb, xb, Tb⟩
/-- a label's row in the class -/
def lrow (LB : Nat → Int32) (nl : Nat) (a b nmd : Int32) : Nat → Int32 := upd (upd (upd (upd (upd LB (5 * nl) a) (5 * nl + 1) b) (5 * nl + 2) 0) (5 * nl + 3) 0) (5 * nl + 4) nmd
theorem ix5 (j k : Nat) : nI j * 5 + nI k = nI (5 * j + k) := by
  rw [show (5 : Int32) = nI 5 from rfl, pk_mul, nI_add, Nat.mul_comm]
theorem adl_0 {n : Nat} {B : St} {e nl : Nat} {NR LB : Nat → Int32} {cs tp st ns : Nat} {fx : Bool} {C A S NM BK : Nat → Int32} {ap kd fr : Nat} {nm : Int32} (h : nl < 16384) (a b : Int32) (v2 : Int32) : df_X9_addLabel n a b v2 (uC (xC (bC B e nl NR LB) cs tp st ns fx C A S NM BK) ap kd fr nm) = df_X9_addLabel_87 n v2 (nI nl) (nI (5 * nl + 4)) (if 0 ≤ v2 then 0 else 1) (uC (xC (bC B e (nl + 1) NR (upd (upd (upd (upd LB (5 * nl) a) (5 * nl + 1) b) (5 * nl + 2) 0) (5 * nl + 3) 0)) cs tp st ns fx C A S NM BK) ap kd fr nm) := by
  unfold df_X9_addLabel df_X9_addLabel_0
  rw [bC_u9, if_neg (show ¬ (16384 : Int32) < nI nl from znl (a := 16384) (by omega) (by omega)), nb_let, show nI nl + 1 = nI (nl + 1) from nI_add nl 1, bC_w9, nb_let]
  rw [show nI nl * 5 + 0 = nI (5 * nl) from ix5 nl 0, nm_ck (by omega) (by omega), nI_clamp (by omega), bC_r6, bC_y6, nb_let]
  rw [show nI nl * 5 + 1 = nI (5 * nl + 1) from ix5 nl 1, nm_ck (by omega) (by omega), nI_clamp (by omega), bC_r6, bC_y6, nb_let]
  rw [show nI nl * 5 + 2 = nI (5 * nl + 2) from ix5 nl 2, nm_ck (by omega) (by omega), nI_clamp (by omega), bC_r6, bC_y6, nb_let]
  rw [show nI nl * 5 + 3 = nI (5 * nl + 3) from ix5 nl 3, nm_ck (by omega) (by omega), nI_clamp (by omega), bC_r6, bC_y6, nb_let]
  rw [show nI nl * 5 + 4 = nI (5 * nl + 4) from ix5 nl 4]
  by_cases z : 0 ≤ v2
  · rw [if_pos z, if_pos z]
  · rw [if_neg z, if_neg z]
theorem adl_n {n : Nat} {B : St} {e nl : Nat} {NR LB : Nat → Int32} {cs tp st ns : Nat} {fx : Bool} {C A S NM BK : Nat → Int32} {ap kd fr : Nat} {nm : Int32} (h : nl < 16384) (a b : Int32) : df_X9_addLabel n a b (-1) (uC (xC (bC B e nl NR LB) cs tp st ns fx C A S NM BK) ap kd fr nm) = some (nI nl, uC (xC (bC B e (nl + 1) NR (lrow LB nl a b 1)) cs tp st ns fx C A S NM BK) ap kd fr nm) := by
  rw [adl_0 h, if_neg (show ¬ (0 : Int32) ≤ -1 by decide)]
  unfold df_X9_addLabel_87 df_X9_addLabel_157
  rw [nm_ck (by omega) (by omega), nI_clamp (by omega), bC_r6, bC_y6, nb_let, if_pos (show (-1 : Int32) < 0 by decide)]
  rfl
theorem adl_d {n : Nat} {B : St} {e nl : Nat} {NR LB : Nat → Int32} {cs tp st ns : Nat} {fx : Bool} {C A S NM BK : Nat → Int32} {ap kd fr : Nat} {nm : Int32} (h : nl < 16384) (a b : Int32) (d : Nat) (hd : d ≤ 9) : (NR (10 + d) = 0 → df_X9_addLabel n a b (nI d) (uC (xC (bC B e nl NR LB) cs tp st ns fx C A S NM BK) ap kd fr nm) = some (nI nl, uC (xC (bC B e (nl + 1) (upd (upd NR d (nI (nl + 1))) (10 + d) (nI (nl + 1))) (lrow LB nl a b 0)) cs tp st ns fx C A S NM BK) ap kd fr nm)) ∧ (∀ j : Nat, j < 16384 → NR (10 + d) = nI (j + 1) → df_X9_addLabel n a b (nI d) (uC (xC (bC B e nl NR LB) cs tp st ns fx C A S NM BK) ap kd fr nm) = some (nI nl, uC (xC (bC B e (nl + 1) (upd NR (10 + d) (nI (nl + 1))) (upd (lrow LB nl a b 0) (5 * j + 3) (nI (nl + 1)))) cs tp st ns fx C A S NM BK) ap kd fr nm)) := by
  have h0 : df_X9_addLabel n a b (nI d) (uC (xC (bC B e nl NR LB) cs tp st ns fx C A S NM BK) ap kd fr nm) = nd_let (NR (10 + d)) (fun (z17 : Int32) => if z17 = 0 then (nd_ck (nI d) 20 (nd_let (pR (uC (xC (bC B e (nl + 1) NR (lrow LB nl a b 0)) cs tp st ns fx C A S NM BK) ap kd fr nm) 5 (upd NR d (nI nl + 1))) (fun (s24 : St) => df_X9_addLabel_144 n (nI d) (nI nl) s24))) else (nd_ck (((z17 - 1) * 5) + 3) 81925 (nd_let (pR (uC (xC (bC B e (nl + 1) NR (lrow LB nl a b 0)) cs tp st ns fx C A S NM BK) ap kd fr nm) 6 (upd (lrow LB nl a b 0) (Int32.toNatClampNeg (((z17 - 1) * 5) + 3)) (nI nl + 1))) (fun (s20 : St) => df_X9_addLabel_144 n (nI d) (nI nl) s20)))) := by
    rw [adl_0 h, if_pos (show (0 : Int32) ≤ nI d from zle (a := 0) (Nat.zero_le _) (by omega))]
    unfold df_X9_addLabel_87
    rw [nm_ck (by omega) (by omega), nI_clamp (by omega), bC_r6, bC_y6, nb_let, if_neg (show ¬ nI d < (0 : Int32) from znl (b := 0) (Nat.zero_le _) (by omega)), if_neg (show ¬ (9 : Int32) < nI d from znl (a := 9) (by omega) (by omega)), show (10 : Int32) + nI d = nI (10 + d) from nI_add 10 d, nm_ck (by omega) (by omega), nI_clamp (by omega), nI_clamp (by omega), bC_r5]
    rfl
  have h144 : ∀ (NR' LB' : Nat → Int32), df_X9_addLabel_144 n (nI d) (nI nl) (uC (xC (bC B e (nl + 1) NR' LB') cs tp st ns fx C A S NM BK) ap kd fr nm) = some (nI nl, uC (xC (bC B e (nl + 1) (upd NR' (10 + d) (nI (nl + 1))) LB') cs tp st ns fx C A S NM BK) ap kd fr nm) := fun NR' LB' => by
    unfold df_X9_addLabel_144 df_X9_addLabel_157
    rw [show (10 : Int32) + nI d = nI (10 + d) from nI_add 10 d, nm_ck (by omega) (by omega), nI_clamp (by omega), bC_r5, bC_y5, nb_let, show nI nl + 1 = nI (nl + 1) from nI_add nl 1]
  rw [h0, nb_let]
  constructor
  · intro z
    rw [if_pos z, nm_ck (by omega) (by omega), bC_y5, nb_let, h144, show nI nl + 1 = nI (nl + 1) from nI_add nl 1]
  · intro j hj z
    rw [z, if_neg (show ¬ nI (j + 1) = 0 from zne (b := 0) (by omega) (by omega) (by omega)), show nI (j + 1) - 1 = nI j from (pk_sub (a := j + 1) (b := 1) (by omega)), show nI j * 5 + 3 = nI (5 * j + 3) from ix5 j 3, nm_ck (by omega) (by omega), nI_clamp (by omega), bC_y6, nb_let, h144, show nI nl + 1 = nI (nl + 1) from nI_add nl 1]
/-- first and last of a row -/
theorem fr_z (fw : Bool) (P : Nat → Bool) : ∀ k : Nat, frF fw P k = 0 ↔ ∀ j : Nat, j < k → P j = false := fun k => by
  induction k with
  | zero => exact ⟨fun _ j hj => absurd hj (Nat.not_lt_zero j), fun _ => rfl⟩
  | succ k ih =>
    have e : frF fw P (k + 1) = if P k = true ∧ ¬ (fw = true ∧ 0 < frF fw P k) then k + 1 else frF fw P k := rfl
    rw [e]
    by_cases z : P k = true ∧ ¬ (fw = true ∧ 0 < frF fw P k)
    · rw [if_pos z]
      exact ⟨fun w => absurd w (by omega), fun w => by have := w k (by omega); rw [this] at z; exact absurd z.1 (by decide)⟩
    · rw [if_neg z]
      constructor
      · intro w j hj
        by_cases y : j = k
        · subst y
          cases hP : P j with
          | false => rfl
          | true => exact absurd ⟨hP, fun u => by omega⟩ z
        · exact ih.mp w j (by omega)
      · intro w
        exact ih.mpr (fun j hj => w j (by omega))
theorem fr_u (fw : Bool) (P : Nat → Bool) : ∀ n k : Nat, k < n → P k = true → (fw = false → ∀ j : Nat, k < j → j < n → P j = false) → (fw = true → ∀ j : Nat, j < k → P j = false) → frF fw P n = k + 1 := fun n => by
  induction n with
  | zero => intro k h; exact absurd h (Nat.not_lt_zero k)
  | succ n ih =>
    intro k h1 h2 h3 h4
    have e : frF fw P (n + 1) = if P n = true ∧ ¬ (fw = true ∧ 0 < frF fw P n) then n + 1 else frF fw P n := rfl
    rw [e]
    by_cases y : k = n
    · subst y
      rw [if_pos ⟨h2, fun u => by
        have := (fr_z fw P k).mpr (h4 u.1)
        omega⟩]
    · have r := ih k (by omega) h2 (fun a j j1 j2 => h3 a j j1 (by omega)) h4
      rw [r]
      cases fw with
      | true => rw [if_neg (fun u => u.2 ⟨rfl, by omega⟩)]
      | false => rw [if_neg (fun u => by have := h3 rfl n (by omega) (by omega); rw [this] at u; exact absurd u.1 (by decide))]
theorem fr_s (fw : Bool) (P : Nat → Bool) : ∀ n k : Nat, frF fw P n = k + 1 → k < n ∧ P k = true ∧ (fw = false → ∀ j : Nat, k < j → j < n → P j = false) ∧ (fw = true → ∀ j : Nat, j < k → P j = false) := fun n => by
  induction n with
  | zero => intro k h; exact absurd (show 0 = k + 1 from h) (by omega)
  | succ n ih =>
    intro k h
    have e : frF fw P (n + 1) = if P n = true ∧ ¬ (fw = true ∧ 0 < frF fw P n) then n + 1 else frF fw P n := rfl
    rw [e] at h
    by_cases z : P n = true ∧ ¬ (fw = true ∧ 0 < frF fw P n)
    · rw [if_pos z] at h
      have : n = k := by omega
      subst this
      refine ⟨by omega, z.1, fun _ j j1 j2 => by omega, fun a => ?_⟩
      exact (fr_z fw P n).mp (Nat.eq_zero_of_not_pos fun u => z.2 ⟨a, u⟩)
    · rw [if_neg z] at h
      obtain ⟨a1, a2, a3, a4⟩ := ih k h
      refine ⟨by omega, a2, fun b j j1 j2 => ?_, a4⟩
      by_cases y : j = n
      · subst y
        cases hP : P j with
        | false => rfl
        | true => exact absurd ⟨hP, fun u => by rw [b] at u; exact absurd u.1 (by decide)⟩ z
      · exact a3 b j j1 (by omega)
