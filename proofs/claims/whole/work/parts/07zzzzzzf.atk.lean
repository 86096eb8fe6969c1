/-- the assemblers' readers: both states while a token is read, one term each -/
def uC (B : St) (ap kd fr : Nat) (nm : Int32) : St := (fun j => if j = 0 then nI ap else if j = 2 then nI kd else if j = 3 then nI fr else if j = 4 then nm else B.1 j, B.2)
def uR (B : St) (ap tk fr to : Nat) (nm : Int32) : St := (fun j => if j = 7 then nI ap else if j = 8 then nI tk else if j = 9 then nI fr else if j = 10 then nI to else if j = 11 then nm else B.1 j, B.2)
theorem uC_i0 {B : St} {ap kd fr : Nat} {nm : Int32} : sI (uC B ap kd fr nm) 0 = nI ap := rfl
theorem uC_i2 {B : St} {ap kd fr : Nat} {nm : Int32} : sI (uC B ap kd fr nm) 2 = nI kd := rfl
theorem uC_i3 {B : St} {ap kd fr : Nat} {nm : Int32} : sI (uC B ap kd fr nm) 3 = nI fr := rfl
theorem uC_i4 {B : St} {ap kd fr : Nat} {nm : Int32} : sI (uC B ap kd fr nm) 4 = nm := rfl
theorem uC_i1 {B : St} {ap kd fr : Nat} {nm : Int32} : sI (uC B ap kd fr nm) 1 = sI B 1 := rfl
theorem uC_r {B : St} {ap kd fr : Nat} {nm : Int32} {k : Nat} : sR (uC B ap kd fr nm) k = sR B k := rfl
theorem uC_o {B : St} {ap kd fr : Nat} {nm : Int32} {k : Nat} : sO (uC B ap kd fr nm) k = sO B k := rfl
theorem uC_w0 {B : St} {ap kd fr : Nat} {nm : Int32} {v : Nat} : pI (uC B ap kd fr nm) 0 (nI v) = uC B v kd fr nm := Prod.ext (funext fun j => by
  show (if j = 0 then (nI v) else _) = _
  by_cases h : j = 0
  · subst h; rfl
  · unfold uC
    simp only [if_neg h]) rfl
theorem uC_w2 {B : St} {ap kd fr : Nat} {nm : Int32} {v : Nat} : pI (uC B ap kd fr nm) 2 (nI v) = uC B ap v fr nm := Prod.ext (funext fun j => by
  show (if j = 2 then (nI v) else _) = _
  by_cases h : j = 2
  · subst h; rfl
  · unfold uC
    simp only [if_neg h]) rfl
theorem uC_w3 {B : St} {ap kd fr : Nat} {nm : Int32} {v : Nat} : pI (uC B ap kd fr nm) 3 (nI v) = uC B ap kd v nm := Prod.ext (funext fun j => by
  show (if j = 3 then (nI v) else _) = _
  by_cases h : j = 3
  · subst h; rfl
  · unfold uC
    simp only [if_neg h]) rfl
theorem uC_w4 {B : St} {ap kd fr : Nat} {nm : Int32} {v : Int32} : pI (uC B ap kd fr nm) 4 v = uC B ap kd fr v := Prod.ext (funext fun j => by
  show (if j = 4 then v else _) = _
  by_cases h : j = 4
  · subst h; rfl
  · unfold uC
    simp only [if_neg h]) rfl
theorem uR_i7 {B : St} {ap tk fr to : Nat} {nm : Int32} : sI (uR B ap tk fr to nm) 7 = nI ap := rfl
theorem uR_i8 {B : St} {ap tk fr to : Nat} {nm : Int32} : sI (uR B ap tk fr to nm) 8 = nI tk := rfl
theorem uR_i9 {B : St} {ap tk fr to : Nat} {nm : Int32} : sI (uR B ap tk fr to nm) 9 = nI fr := rfl
theorem uR_i10 {B : St} {ap tk fr to : Nat} {nm : Int32} : sI (uR B ap tk fr to nm) 10 = nI to := rfl
theorem uR_i11 {B : St} {ap tk fr to : Nat} {nm : Int32} : sI (uR B ap tk fr to nm) 11 = nm := rfl
theorem uR_i0 {B : St} {ap tk fr to : Nat} {nm : Int32} : sI (uR B ap tk fr to nm) 0 = sI B 0 := rfl
theorem uR_r {B : St} {ap tk fr to : Nat} {nm : Int32} {k : Nat} : sR (uR B ap tk fr to nm) k = sR B k := rfl
theorem uR_w7 {B : St} {ap tk fr to : Nat} {nm : Int32} {v : Nat} : pI (uR B ap tk fr to nm) 7 (nI v) = uR B v tk fr to nm := Prod.ext (funext fun j => by
  show (if j = 7 then (nI v) else _) = _
  by_cases h : j = 7
  · subst h; rfl
  · unfold uR
    simp only [if_neg h]) rfl
theorem uR_w8 {B : St} {ap tk fr to : Nat} {nm : Int32} {v : Nat} : pI (uR B ap tk fr to nm) 8 (nI v) = uR B ap v fr to nm := Prod.ext (funext fun j => by
  show (if j = 8 then (nI v) else _) = _
  by_cases h : j = 8
  · subst h; rfl
  · unfold uR
    simp only [if_neg h]) rfl
theorem uR_w9 {B : St} {ap tk fr to : Nat} {nm : Int32} {v : Nat} : pI (uR B ap tk fr to nm) 9 (nI v) = uR B ap tk v to nm := Prod.ext (funext fun j => by
  show (if j = 9 then (nI v) else _) = _
  by_cases h : j = 9
  · subst h; rfl
  · unfold uR
    simp only [if_neg h]) rfl
theorem uR_w10 {B : St} {ap tk fr to : Nat} {nm : Int32} {v : Nat} : pI (uR B ap tk fr to nm) 10 (nI v) = uR B ap tk fr v nm := Prod.ext (funext fun j => by
  show (if j = 10 then (nI v) else _) = _
  by_cases h : j = 10
  · subst h; rfl
  · unfold uR
    simp only [if_neg h]) rfl
theorem uR_w11 {B : St} {ap tk fr to : Nat} {nm : Int32} {v : Int32} : pI (uR B ap tk fr to nm) 11 v = uR B ap tk fr to v := Prod.ext (funext fun j => by
  show (if j = 11 then v else _) = _
  by_cases h : j = 11
  · subst h; rfl
  · unfold uR
    simp only [if_neg h]) rfl
theorem uC_of (B : St) {ap kd fr : Nat} (h0 : sI B 0 = nI ap) (h2 : sI B 2 = nI kd) (h3 : sI B 3 = nI fr) : B = uC B ap kd fr (sI B 4) := Prod.ext (funext fun j => by
  show B.1 j = (if j = 0 then nI ap else if j = 2 then nI kd else if j = 3 then nI fr else if j = 4 then sI B 4 else B.1 j)
  by_cases e0 : j = 0
  · rw [if_pos e0, e0]; exact h0
  rw [if_neg e0]
  by_cases e2 : j = 2
  · rw [if_pos e2, e2]; exact h2
  rw [if_neg e2]
  by_cases e3 : j = 3
  · rw [if_pos e3, e3]; exact h3
  rw [if_neg e3]
  by_cases e4 : j = 4
  · rw [if_pos e4, e4]; rfl
  rw [if_neg e4]) rfl
/-- letters of names, digits -/
def aP (c : Nat) : Bool := aD c || aL c || decide (c = 95 ∨ c = 46 ∨ c = 36)
def dgv (c : Nat) : Nat := if 48 ≤ c ∧ c ≤ 57 then c - 48 else if 97 ≤ c ∧ c ≤ 102 then c - 87 else if 65 ≤ c ∧ c ≤ 70 then c - 55 else 99
theorem in_90 : ∀ c : Fin 128, df_X9_isInName 0 (nI c.1) () = some (bI (aP c.1), ()) := by decide +kernel
theorem in_9 (n : Nat) {c : Nat} (h : c < 128) : df_X9_isInName n (nI c) () = some (bI (aP c), ()) := (show df_X9_isInName n (nI c) () = df_X9_isInName 0 (nI c) () from rfl).trans (in_90 ⟨c, h⟩)
theorem ip_130 : ∀ c : Fin 128, df_X13_isPlain 0 (nI c.1) () = some (bI (aP c.1), ()) := by decide +kernel
theorem ip_13 (n : Nat) {c : Nat} (h : c < 128) : df_X13_isPlain n (nI c) () = some (bI (aP c), ()) := (show df_X13_isPlain n (nI c) () = df_X13_isPlain 0 (nI c) () from rfl).trans (ip_130 ⟨c, h⟩)
theorem id_130 : ∀ c : Fin 128, df_X13_isDigit 0 (nI c.1) () = some (bI (aD c.1), ()) := by decide +kernel
theorem id_13 (n : Nat) {c : Nat} (h : c < 128) : df_X13_isDigit n (nI c) () = some (bI (aD c), ()) := (show df_X13_isDigit n (nI c) () = df_X13_isDigit 0 (nI c) () from rfl).trans (id_130 ⟨c, h⟩)
theorem wo_130 : ∀ c : Fin 128, df_X13_worth 0 (nI c.1) () = some (nI (dgv c.1), ()) := by decide +kernel
theorem wo_13 (n : Nat) {c : Nat} (h : c < 128) : df_X13_worth n (nI c) () = some (nI (dgv c), ()) := (show df_X13_worth n (nI c) () = df_X13_worth 0 (nI c) () from rfl).trans (wo_130 ⟨c, h⟩)
theorem aD_v {c : Nat} : aD c = true ↔ 48 ≤ c ∧ c ≤ 57 := decide_eq_true_iff
theorem aD_P {c : Nat} (h : aD c = true) : aP c = true := by unfold aP; rw [h]; rfl
/-- the text, a line of it up to e, in both -/
def atx (n L e : Nat) (c : Nat → Nat) (BC BR : St) : Prop := 70000 < n ∧ L ≤ 32768 ∧ e ≤ L ∧ (∀ i : Nat, c i < 127) ∧ (∀ i : Nat, L ≤ i → c i = 10) ∧ c e = 10 ∧ sO BC 0 = some 8 ∧ sI BC 1 = nI e ∧ (∀ i : Nat, i < L → sR BC 7 i = nI (c i)) ∧ sI BR 0 = nI L ∧ (∀ i : Nat, i < L → sR BR 2 i = nI (c i)) ∧ ∀ i : Nat, c i = 9 ∨ c i = 10 ∨ 32 ≤ c i
def qT (c : Nat → Nat) (e p : Nat) : Nat := fN (fun i => !decide (c i = 32 ∨ c i = 9)) p (e - p)
def eT (c : Nat → Nat) (e q : Nat) : Nat := fN (fun i => !aP (c i)) q (e - q)
theorem qT_1 (c : Nat → Nat) {e p : Nat} (h : p ≤ e) : p ≤ qT c e p ∧ qT c e p ≤ e ∧ (qT c e p < e → ¬ (c (qT c e p) = 32 ∨ c (qT c e p) = 9)) ∧ ∀ i : Nat, p ≤ i → i < qT c e p → (c i = 32 ∨ c i = 9) := by
  obtain ⟨a, b, d, f⟩ := fN_le (fun i => !decide (c i = 32 ∨ c i = 9)) (e - p) p
  refine ⟨a, by unfold qT; omega, fun h2 z2 => ?_, fun i h1 h2 => ?_⟩
  · have := d (by unfold qT at h2; omega)
    have z2 : c (fN (fun i => !decide (c i = 32 ∨ c i = 9)) p (e - p)) = 32 ∨ c (fN (fun i => !decide (c i = 32 ∨ c i = 9)) p (e - p)) = 9 := z2
    have this : (!decide (c (fN (fun i => !decide (c i = 32 ∨ c i = 9)) p (e - p)) = 32 ∨ c (fN (fun i => !decide (c i = 32 ∨ c i = 9)) p (e - p)) = 9)) = true := this
    rw [decide_eq_true z2] at this
    exact absurd this (by decide)
  · have g := f i h1 h2
    have g : (!decide (c i = 32 ∨ c i = 9)) = false := g
    exact Classical.byContradiction fun y => by
      rw [decide_eq_false y] at g
      exact absurd g (by decide)
theorem eT_1 (c : Nat → Nat) {e q : Nat} (h : q ≤ e) : q ≤ eT c e q ∧ eT c e q ≤ e ∧ (eT c e q < e → aP (c (eT c e q)) = false) ∧ ∀ i : Nat, q ≤ i → i < eT c e q → aP (c i) = true := by
  obtain ⟨a, b, d, f⟩ := fN_le (fun i => !aP (c i)) (e - q) q
  refine ⟨a, by unfold eT; omega, fun h2 => ?_, fun i h1 h2 => ?_⟩
  · have this : (!aP (c (eT c e q))) = true := d (by unfold eT at h2; omega)
    cases hh : aP (c (eT c e q)) with
    | true => rw [hh] at this; exact absurd this (by decide)
    | false => rfl
  · have g : (!aP (c i)) = false := f i h1 h2
    cases hh : aP (c i) with
    | true => rfl
    | false => rw [hh] at g; exact absurd g (by decide)
theorem eT_p (c : Nat → Nat) {e q : Nat} (h : q < e) (ha : aP (c q) = true) : q < eT c e q := by
  obtain ⟨a, b, d, f⟩ := eT_1 c (Nat.le_of_lt h)
  refine Nat.lt_of_le_of_ne a (fun y => ?_)
  have := d (by omega)
  rw [← y, ha] at this
  exact absurd this (by decide)
theorem eT_n (c : Nat → Nat) {e q : Nat} (h : q ≤ e) (ha : aP (c q) = false) : eT c e q = q := by
  obtain ⟨a, b, d, f⟩ := eT_1 c h
  refine Nat.le_antisymm (Nat.le_of_not_lt fun y => ?_) a
  have := f q (Nat.le_refl q) y
  rw [ha] at this
  exact absurd this (by decide)
theorem o8 {α : Type} {x : Option α} : nd_o (some 8) 8 x = x := if_pos rfl
theorem aP10 : aP 10 = false := by decide
/-- the class: over blanks -/
theorem ak_sk {n L e : Nat} {c : Nat → Nat} {BC BR : St} (hT : atx n L e c BC BR) (p kd fr : Nat) (nm : Int32) (hp : p ≤ e) : df_X9_next n (uC BC p kd fr nm) = df_X9_next_52 n (uC BC (qT c e p) kd fr nm) := by
  obtain ⟨hn, hL, heL, h127, hend, hce, hO, h1, htC, h0, htR, hch⟩ := hT
  obtain ⟨q1, q2, q3, q4⟩ := qT_1 c hp
  obtain ⟨m, em⟩ := nm_ls (fun g i => df_X9_next_0 n g (uC BC i kd fr nm)) (fun i => !decide (c i = 32 ∨ c i = 9)) p (e - p) n (by omega) (fun k m k1 k2 k3 => by
    have hk : k < e := by omega
    have ck : c k = 32 ∨ c k = 9 := Classical.byContradiction fun y => by
      have k3 : (!decide (c k = 32 ∨ c k = 9)) = false := k3
      rw [decide_eq_false y] at k3
      exact absurd k3 (by decide)
    have t := htC k (by omega)
    have le : ¬ e ≤ k := by omega
    show df_X9_next_0 n (m + 1) (uC BC k kd fr nm) = df_X9_next_0 n m (uC BC (k + 1) kd fr nm)
    rcases ck with ck | ck
    · rw [ck] at t
      simp (disch := (first | assumption | decide | omega)) only [(show df_X9_next_0 n (m + 1) = dF_X9_next_0 n (df_X9_next_0 n m) from rfl), dF_X9_next_0, df_X9_next_39, uC_i0, uC_i1, uC_i2, uC_i3, uC_i4, uC_r, uC_o, uC_w0, uC_w2, uC_w3, uC_w4, hO, o8, h1, t, eq_self, Nat.reduceEqDiff, Nat.reduceLeDiff, nl_0, nl_1, nl_7, nl_8, nl_9, nl_32, nl_32768, no_1, no_1024, pk_mul, nI_add, nm_ck, nI_clamp, nI_ltI, nI_leI, nI_eq, nb_b2, nb_b1, ↓nb_let, nm_z0, nm_z1, nb_II, nb_IR, nb_RI, nb_RR, nm_IL, nm_IQ, nm_RL, nm_RQ, nm_LI, nm_LR, nm_LL, nm_LQ, nm_QI, nm_QR, nm_QL, nm_QQ, nm_rr, nm_ii, nm_eqm, not_false_eq_true, pk_sub, nm_div, nm_shl, nm_shr, nm_ush, nm_or8, nm_or64, nm_or256, nm_m1, nm_m3, nm_m7, nm_m15, nm_m31, nm_m63, nm_m255, nm_m511, nm_m1023, nm_m2047, nm_m65535, Nat.reduceMod, Nat.reducePow, Nat.reduceAdd, Nat.reduceSub, Nat.reduceMul, nm_bo, nm_bi, nm_rc, nm_ic, nm_ri, nm_rl, nm_rq, nm_ql, nm_qi, nm_li, nm_us, nm_uu, nm_cp, nm_sa31, nm_sa7, nm_m127, nm_m2, nm_nz, nm_nzk, nm_eq32, nm_nzf, if_true, if_false, ↓reduceIte, if_pos, if_neg]
    · rw [ck] at t
      simp (disch := (first | assumption | decide | omega)) only [(show df_X9_next_0 n (m + 1) = dF_X9_next_0 n (df_X9_next_0 n m) from rfl), dF_X9_next_0, df_X9_next_39, uC_i0, uC_i1, uC_i2, uC_i3, uC_i4, uC_r, uC_o, uC_w0, uC_w2, uC_w3, uC_w4, hO, o8, h1, t, eq_self, Nat.reduceEqDiff, Nat.reduceLeDiff, nl_0, nl_1, nl_7, nl_8, nl_9, nl_32, nl_32768, no_1, no_1024, pk_mul, nI_add, nm_ck, nI_clamp, nI_ltI, nI_leI, nI_eq, nb_b2, nb_b1, ↓nb_let, nm_z0, nm_z1, nb_II, nb_IR, nb_RI, nb_RR, nm_IL, nm_IQ, nm_RL, nm_RQ, nm_LI, nm_LR, nm_LL, nm_LQ, nm_QI, nm_QR, nm_QL, nm_QQ, nm_rr, nm_ii, nm_eqm, not_false_eq_true, pk_sub, nm_div, nm_shl, nm_shr, nm_ush, nm_or8, nm_or64, nm_or256, nm_m1, nm_m3, nm_m7, nm_m15, nm_m31, nm_m63, nm_m255, nm_m511, nm_m1023, nm_m2047, nm_m65535, Nat.reduceMod, Nat.reducePow, Nat.reduceAdd, Nat.reduceSub, Nat.reduceMul, nm_bo, nm_bi, nm_rc, nm_ic, nm_ri, nm_rl, nm_rq, nm_ql, nm_qi, nm_li, nm_us, nm_uu, nm_cp, nm_sa31, nm_sa7, nm_m127, nm_m2, nm_nz, nm_nzk, nm_eq32, nm_nzf, if_true, if_false, ↓reduceIte, if_pos, if_neg])
  refine Eq.trans (show _ = df_X9_next_0 n n (uC BC p kd fr nm) from rfl) (Eq.trans em ?_)
  show df_X9_next_0 n (m + 1) (uC BC (qT c e p) kd fr nm) = _
  generalize qT c e p = q at q1 q2 q3
  show dF_X9_next_0 n (df_X9_next_0 n m) (uC BC q kd fr nm) = _
  unfold dF_X9_next_0
  by_cases y : q < e
  · have t := htC q (by omega)
    have y2 := q3 y
    have y3 : ¬ c q = 32 := fun w => y2 (Or.inl w)
    have y4 : ¬ c q = 9 := fun w => y2 (Or.inr w)
    have y5 : c q < 127 := h127 q
    simp (disch := (first | assumption | decide | omega)) only [uC_i0, uC_i1, uC_i2, uC_i3, uC_i4, uC_r, uC_o, uC_w0, uC_w2, uC_w3, uC_w4, hO, o8, h1, t, eq_self, Nat.reduceEqDiff, Nat.reduceLeDiff, nl_9, nl_32, no_1, no_1024, pk_mul, nI_add, nm_ck, nI_clamp, nI_ltI, nI_leI, nI_eq, nb_b2, nb_b1, ↓nb_let, nm_z0, nm_z1, nb_II, nb_IR, nb_RI, nb_RR, nm_IL, nm_IQ, nm_RL, nm_RQ, nm_LI, nm_LR, nm_LL, nm_LQ, nm_QI, nm_QR, nm_QL, nm_QQ, nm_rr, nm_ii, nm_eqm, not_false_eq_true, pk_sub, nm_div, nm_shl, nm_shr, nm_ush, nm_or8, nm_or64, nm_or256, nm_m1, nm_m3, nm_m7, nm_m15, nm_m31, nm_m63, nm_m255, nm_m511, nm_m1023, nm_m2047, nm_m65535, Nat.reduceMod, Nat.reducePow, Nat.reduceAdd, Nat.reduceSub, Nat.reduceMul, nm_bo, nm_bi, nm_rc, nm_ic, nm_ri, nm_rl, nm_rq, nm_ql, nm_qi, nm_li, nm_us, nm_uu, nm_cp, nm_sa31, nm_sa7, nm_m127, nm_m2, nm_nz, nm_nzk, nm_eq32, nm_nzf, if_true, if_false, ↓reduceIte, if_pos, if_neg]
  · have y : q = e := by omega
    subst y
    simp (disch := (first | assumption | decide | omega)) only [uC_i0, uC_i1, uC_i2, uC_i3, uC_i4, uC_r, uC_o, uC_w0, uC_w2, uC_w3, uC_w4, hO, o8, h1, eq_self, Nat.reduceEqDiff, Nat.reduceLeDiff, no_1, no_1024, pk_mul, nI_add, nm_ck, nI_clamp, nI_ltI, nI_leI, nI_eq, nb_b2, nb_b1, ↓nb_let, nm_z0, nm_z1, nb_II, nb_IR, nb_RI, nb_RR, nm_IL, nm_IQ, nm_RL, nm_RQ, nm_LI, nm_LR, nm_LL, nm_LQ, nm_QI, nm_QR, nm_QL, nm_QQ, nm_rr, nm_ii, nm_eqm, not_false_eq_true, pk_sub, nm_div, nm_shl, nm_shr, nm_ush, nm_or8, nm_or64, nm_or256, nm_m1, nm_m3, nm_m7, nm_m15, nm_m31, nm_m63, nm_m255, nm_m511, nm_m1023, nm_m2047, nm_m65535, Nat.reduceMod, Nat.reducePow, Nat.reduceAdd, Nat.reduceSub, Nat.reduceMul, nm_bo, nm_bi, nm_rc, nm_ic, nm_ri, nm_rl, nm_rq, nm_ql, nm_qi, nm_li, nm_us, nm_uu, nm_cp, nm_sa31, nm_sa7, nm_m127, nm_m2, nm_nz, nm_nzk, nm_eq32, nm_nzf, if_true, if_false, ↓reduceIte, if_pos, if_neg]
/-- the reference: a letter, and over blanks -/
theorem ca_13 {n L e : Nat} {c : Nat → Nat} {BC BR : St} (hT : atx n L e c BC BR) (k ap tk fr to : Nat) (nm : Int32) (hk : k < 2 ^ 30) : df_X13_charAt n (nI k) (uR BR ap tk fr to nm) = some (nI (c k), uR BR ap tk fr to nm) := by
  obtain ⟨hn, hL, heL, h127, hend, hce, hO, h1, htC, h0, htR, hch⟩ := hT
  by_cases y : k < L
  · have t := htR k y
    simp (disch := (first | assumption | decide | omega)) only [df_X13_charAt_19, df_X13_charAt_0, df_X13_charAt, uR_i0, uR_i7, uR_i8, uR_i9, uR_i10, uR_i11, uR_r, uR_w7, uR_w8, uR_w9, uR_w10, uR_w11, h0, t, eq_self, Nat.reduceEqDiff, Nat.reduceLeDiff, nl_0, nl_2, nl_10, nl_32772, no_1, no_1024, pk_mul, nI_add, nm_ck, nI_clamp, nI_ltI, nI_leI, nI_eq, nb_b2, nb_b1, ↓nb_let, nm_z0, nm_z1, nb_II, nb_IR, nb_RI, nb_RR, nm_IL, nm_IQ, nm_RL, nm_RQ, nm_LI, nm_LR, nm_LL, nm_LQ, nm_QI, nm_QR, nm_QL, nm_QQ, nm_rr, nm_ii, nm_eqm, not_false_eq_true, pk_sub, nm_div, nm_shl, nm_shr, nm_ush, nm_or8, nm_or64, nm_or256, nm_m1, nm_m3, nm_m7, nm_m15, nm_m31, nm_m63, nm_m255, nm_m511, nm_m1023, nm_m2047, nm_m65535, Nat.reduceMod, Nat.reducePow, Nat.reduceAdd, Nat.reduceSub, Nat.reduceMul, nm_bo, nm_bi, nm_rc, nm_ic, nm_ri, nm_rl, nm_rq, nm_ql, nm_qi, nm_li, nm_us, nm_uu, nm_cp, nm_sa31, nm_sa7, nm_m127, nm_m2, nm_nz, nm_nzk, nm_eq32, nm_nzf, if_true, if_false, ↓reduceIte, if_pos, if_neg]
  · rw [hend k (by omega)]
    simp (disch := (first | assumption | decide | omega)) only [df_X13_charAt_19, df_X13_charAt_0, df_X13_charAt, uR_i0, uR_i7, uR_i8, uR_i9, uR_i10, uR_i11, uR_r, uR_w7, uR_w8, uR_w9, uR_w10, uR_w11, h0, eq_self, Nat.reduceEqDiff, Nat.reduceLeDiff, nl_0, nl_2, nl_10, nl_32772, no_1, no_1024, pk_mul, nI_add, nm_ck, nI_clamp, nI_ltI, nI_leI, nI_eq, nb_b2, nb_b1, ↓nb_let, nm_z0, nm_z1, nb_II, nb_IR, nb_RI, nb_RR, nm_IL, nm_IQ, nm_RL, nm_RQ, nm_LI, nm_LR, nm_LL, nm_LQ, nm_QI, nm_QR, nm_QL, nm_QQ, nm_rr, nm_ii, nm_eqm, not_false_eq_true, pk_sub, nm_div, nm_shl, nm_shr, nm_ush, nm_or8, nm_or64, nm_or256, nm_m1, nm_m3, nm_m7, nm_m15, nm_m31, nm_m63, nm_m255, nm_m511, nm_m1023, nm_m2047, nm_m65535, Nat.reduceMod, Nat.reducePow, Nat.reduceAdd, Nat.reduceSub, Nat.reduceMul, nm_bo, nm_bi, nm_rc, nm_ic, nm_ri, nm_rl, nm_rq, nm_ql, nm_qi, nm_li, nm_us, nm_uu, nm_cp, nm_sa31, nm_sa7, nm_m127, nm_m2, nm_nz, nm_nzk, nm_eq32, nm_nzf, if_true, if_false, ↓reduceIte, if_pos, if_neg]
theorem as_sk {n L e : Nat} {c : Nat → Nat} {BC BR : St} (hT : atx n L e c BC BR) (p tk fr to : Nat) (nm : Int32) (hp : p ≤ e) : ∃ m : Nat, df_X13_scan n (uR BR p tk fr to nm) = dF_X13_scan_0 n (df_X13_scan_0 n m) (uR BR (qT c e p) tk fr to nm) := by
  obtain ⟨hn, hL, heL, h127, hend, hce, hO, h1, htC, h0, htR, hch⟩ := id hT
  obtain ⟨m, em⟩ := nm_ls (fun g i => df_X13_scan_0 n g (uR BR i tk fr to nm)) (fun i => !decide (c i = 32 ∨ c i = 9)) p (e - p) n (by omega) (fun k m k1 k2 k3 => by
    have ck : c k = 32 ∨ c k = 9 := Classical.byContradiction fun y => by
      have k3 : (!decide (c k = 32 ∨ c k = 9)) = false := k3
      rw [decide_eq_false y] at k3
      exact absurd k3 (by decide)
    have ca := ca_13 hT k k tk fr to nm (by omega)
    show dF_X13_scan_0 n (df_X13_scan_0 n m) (uR BR k tk fr to nm) = df_X13_scan_0 n m (uR BR (k + 1) tk fr to nm)
    unfold dF_X13_scan_0
    have e26 : df_X13_scan_26 n (df_X13_scan_0 n m) (uR BR k tk fr to nm) = df_X13_scan_0 n m (uR BR (k + 1) tk fr to nm) := by
      simp (disch := (first | assumption | decide | omega)) only [df_X13_scan_26, uR_i0, uR_i7, uR_i8, uR_i9, uR_i10, uR_i11, uR_r, uR_w7, uR_w8, uR_w9, uR_w10, uR_w11, eq_self, Nat.reduceEqDiff, Nat.reduceLeDiff, nl_1, nl_7, no_1, no_1024, pk_mul, nI_add, nm_ck, nI_clamp, nI_ltI, nI_leI, nI_eq, nb_b2, nb_b1, ↓nb_let, nm_z0, nm_z1, nb_II, nb_IR, nb_RI, nb_RR, nm_IL, nm_IQ, nm_RL, nm_RQ, nm_LI, nm_LR, nm_LL, nm_LQ, nm_QI, nm_QR, nm_QL, nm_QQ, nm_rr, nm_ii, nm_eqm, not_false_eq_true, pk_sub, nm_div, nm_shl, nm_shr, nm_ush, nm_or8, nm_or64, nm_or256, nm_m1, nm_m3, nm_m7, nm_m15, nm_m31, nm_m63, nm_m255, nm_m511, nm_m1023, nm_m2047, nm_m65535, Nat.reduceMod, Nat.reducePow, Nat.reduceAdd, Nat.reduceSub, Nat.reduceMul, nm_bo, nm_bi, nm_rc, nm_ic, nm_ri, nm_rl, nm_rq, nm_ql, nm_qi, nm_li, nm_us, nm_uu, nm_cp, nm_sa31, nm_sa7, nm_m127, nm_m2, nm_nz, nm_nzk, nm_eq32, nm_nzf, if_true, if_false, ↓reduceIte, if_pos, if_neg]
    rcases ck with ck | ck
    · rw [ck] at ca
      rw [uR_i7, ca, nb_b2, if_neg (show ¬ nI 32 = (9 : Int32) by decide), uR_i7, ca, nb_b2, if_pos (show nI 32 = (32 : Int32) from rfl), e26]
    · rw [ck] at ca
      rw [uR_i7, ca, nb_b2, if_pos (show nI 9 = (9 : Int32) from rfl), e26])
  exact ⟨m, em⟩
/-- the end of a line -/
theorem ak_E {n L e : Nat} {c : Nat → Nat} {BC BR : St} (hT : atx n L e c BC BR) (q kd fr : Nat) (nm : Int32) (hq : q ≤ e) (h : q = e ∨ c q = 35) : df_X9_next_52 n (uC BC q kd fr nm) = some (uC BC q 0 q nm) := by
  obtain ⟨hn, hL, heL, h127, hend, hce, hO, h1, htC, h0, htR, hch⟩ := hT
  by_cases y : q = e
  · subst y
    simp (disch := (first | assumption | decide | omega)) only [df_X9_next_52, df_X9_next_85, uC_i0, uC_i1, uC_i2, uC_i3, uC_i4, uC_r, uC_o, uC_w0, uC_w2, uC_w3, uC_w4, hO, o8, h1, eq_self, Nat.reduceEqDiff, Nat.reduceLeDiff, nl_0, nl_1, nl_2, nl_3, nl_7, nl_8, nl_35, nl_32768, no_1, no_1024, pk_mul, nI_add, nm_ck, nI_clamp, nI_ltI, nI_leI, nI_eq, nb_b2, nb_b1, ↓nb_let, nm_z0, nm_z1, nb_II, nb_IR, nb_RI, nb_RR, nm_IL, nm_IQ, nm_RL, nm_RQ, nm_LI, nm_LR, nm_LL, nm_LQ, nm_QI, nm_QR, nm_QL, nm_QQ, nm_rr, nm_ii, nm_eqm, not_false_eq_true, pk_sub, nm_div, nm_shl, nm_shr, nm_ush, nm_or8, nm_or64, nm_or256, nm_m1, nm_m3, nm_m7, nm_m15, nm_m31, nm_m63, nm_m255, nm_m511, nm_m1023, nm_m2047, nm_m65535, Nat.reduceMod, Nat.reducePow, Nat.reduceAdd, Nat.reduceSub, Nat.reduceMul, nm_bo, nm_bi, nm_rc, nm_ic, nm_ri, nm_rl, nm_rq, nm_ql, nm_qi, nm_li, nm_us, nm_uu, nm_cp, nm_sa31, nm_sa7, nm_m127, nm_m2, nm_nz, nm_nzk, nm_eq32, nm_nzf, if_true, if_false, ↓reduceIte, if_pos, if_neg]
  · have h : c q = 35 := by omega
    have t := htC q (by omega)
    rw [h] at t
    have y2 : ¬ e ≤ q := by omega
    simp (disch := (first | assumption | decide | omega)) only [df_X9_next_52, df_X9_next_85, uC_i0, uC_i1, uC_i2, uC_i3, uC_i4, uC_r, uC_o, uC_w0, uC_w2, uC_w3, uC_w4, hO, o8, h1, t, eq_self, Nat.reduceEqDiff, Nat.reduceLeDiff, nl_0, nl_1, nl_2, nl_3, nl_7, nl_8, nl_35, nl_32768, no_1, no_1024, pk_mul, nI_add, nm_ck, nI_clamp, nI_ltI, nI_leI, nI_eq, nb_b2, nb_b1, ↓nb_let, nm_z0, nm_z1, nb_II, nb_IR, nb_RI, nb_RR, nm_IL, nm_IQ, nm_RL, nm_RQ, nm_LI, nm_LR, nm_LL, nm_LQ, nm_QI, nm_QR, nm_QL, nm_QQ, nm_rr, nm_ii, nm_eqm, not_false_eq_true, pk_sub, nm_div, nm_shl, nm_shr, nm_ush, nm_or8, nm_or64, nm_or256, nm_m1, nm_m3, nm_m7, nm_m15, nm_m31, nm_m63, nm_m255, nm_m511, nm_m1023, nm_m2047, nm_m65535, Nat.reduceMod, Nat.reducePow, Nat.reduceAdd, Nat.reduceSub, Nat.reduceMul, nm_bo, nm_bi, nm_rc, nm_ic, nm_ri, nm_rl, nm_rq, nm_ql, nm_qi, nm_li, nm_us, nm_uu, nm_cp, nm_sa31, nm_sa7, nm_m127, nm_m2, nm_nz, nm_nzk, nm_eq32, nm_nzf, if_true, if_false, ↓reduceIte, if_pos, if_neg]
def sgB (n : Nat) (q11 : Int32) (s14 : St) : Option St := (if q11 = 39 then (nd_b1 (df_X13_character n  s14) (fun (s64 : St) => df_X13_scan_348 n  s64)) else (if q11 = 34 then (nd_b1 (df_X13_quote n  s14) (fun (s61 : St) => df_X13_scan_348 n  s61)) else (if q11 = 60 then (df_X13_scan_203 n (q11) s14) else (if q11 = 62 then (df_X13_scan_203 n (q11) s14) else (if q11 = 58 then (df_X13_scan_329 n (q11) s14) else (if q11 = 44 then (df_X13_scan_329 n (q11) s14) else (if q11 = 40 then (df_X13_scan_329 n (q11) s14) else (if q11 = 41 then (df_X13_scan_329 n (q11) s14) else (if q11 = 43 then (df_X13_scan_329 n (q11) s14) else (if q11 = 45 then (df_X13_scan_329 n (q11) s14) else (if q11 = 42 then (df_X13_scan_329 n (q11) s14) else (if q11 = 47 then (df_X13_scan_329 n (q11) s14) else (if q11 = 37 then (df_X13_scan_329 n (q11) s14) else (if q11 = 38 then (df_X13_scan_329 n (q11) s14) else (if q11 = 124 then (df_X13_scan_329 n (q11) s14) else (if q11 = 94 then (df_X13_scan_329 n (q11) s14) else (if q11 = 126 then (df_X13_scan_329 n (q11) s14) else (df_X13_scan_334 n (q11) (0) s14))))))))))))))))))
theorem as_0 {n L e : Nat} {c : Nat → Nat} {BC BR : St} (hT : atx n L e c BC BR) {G : St → Option St} (q tk fr to : Nat) (nm : Int32) (hq : q ≤ e) (hb : ¬ (c q = 32 ∨ c q = 9)) : dF_X13_scan_0 n G (uR BR q tk fr to nm) = if c q = 10 ∨ c q = 35 then df_X13_scan_78 n (uR BR q tk q (q + 1) nm) else if aD (c q) = true then nd_b2 (df_X13_plain n (nI q) (uR BR q tk q (q + 1) nm)) (fun (q75 : Int32) (s76 : St) => nd_let (pI s76 10 q75) (fun (s78 : St) => nd_b1 (df_X13_digits n s78) (fun (s80 : St) => df_X13_scan_348 n s80))) else if aP (c q) = true then nd_b2 (df_X13_plain n (nI q) (uR BR q tk q (q + 1) nm)) (fun (q66 : Int32) (s67 : St) => nd_let (pI s67 10 q66) (fun (s69 : St) => nd_let (pI s69 8 1) (fun (s70 : St) => if sI s70 10 - sI s70 9 ≤ 31 then df_X13_scan_348 n s70 else nd_b1 (df_X13_bad n s70) (fun (s73 : St) => df_X13_scan_348 n s73)))) else sgB n (nI (c q)) (uR BR q tk q (q + 1) nm) := by
  have h127 := hT.2.2.2.1 q
  have hL := hT.2.1
  have heL := hT.2.2.1
  have ca := ca_13 hT q q tk fr to nm (by omega)
  have ca2 := ca_13 hT q q tk q to nm (by omega)
  have ip := ip_13 n (c := c q) (by omega)
  have idg := id_13 n (c := c q) (by omega)
  unfold dF_X13_scan_0
  rw [uR_i7, ca, nb_b2, if_neg (show ¬ nI (c q) = 9 from ne_I (b := 9) (by omega) (by omega) (fun z => hb (Or.inr z))), uR_i7, ca, nb_b2, if_neg (show ¬ nI (c q) = 32 from ne_I (b := 32) (by omega) (by omega) (fun z => hb (Or.inl z))), uR_i7, uR_w9, nb_let, uR_i7, ca2, nb_b2, uR_i7, show nI q + 1 = nI (q + 1) by rw [show (1 : Int32) = nI 1 from rfl, nI_add], uR_w10, nb_let]
  by_cases k10 : c q = 10
  · rw [if_pos (show nI (c q) = 10 by rw [k10]; rfl), if_pos (Or.inl k10)]
  · rw [if_neg (show ¬ nI (c q) = 10 from ne_I (b := 10) (by omega) (by omega) k10)]
    by_cases k35 : c q = 35
    · rw [if_pos (show nI (c q) = 35 by rw [k35]; rfl), if_pos (Or.inr k35)]
    · rw [if_neg (show ¬ nI (c q) = 35 from ne_I (b := 35) (by omega) (by omega) k35), if_neg (show ¬ (c q = 10 ∨ c q = 35) by omega), idg, nb_b2]
      cases hd : aD (c q) with
      | true => rw [if_neg (show ¬ bI true = 0 by decide), if_pos rfl, uR_i7]
      | false =>
        rw [if_pos (show bI false = 0 from rfl), if_neg (show ¬ false = true by decide), ip, nb_b2]
        cases hp : aP (c q) with
        | true => rw [if_neg (show ¬ bI true = 0 by decide), if_pos rfl, uR_i7]
        | false =>
          rw [if_pos (show bI false = 0 from rfl), if_neg (show ¬ false = true by decide)]
          rfl
theorem as_E {n L e : Nat} {c : Nat → Nat} {BC BR : St} (hT : atx n L e c BC BR) {G : St → Option St} (q tk fr to : Nat) (nm : Int32) (hq : q ≤ e) (h : c q = 10 ∨ c q = 35) : dF_X13_scan_0 n G (uR BR q tk fr to nm) = some (uR BR q 0 q q nm) := by
  rw [as_0 hT q tk fr to nm hq (by omega), if_pos h]
  simp (disch := (first | assumption | decide | omega)) only [df_X13_scan_78, df_X13_scan_348, uR_i0, uR_i7, uR_i8, uR_i9, uR_i10, uR_i11, uR_r, uR_w7, uR_w8, uR_w9, uR_w10, uR_w11, eq_self, Nat.reduceEqDiff, Nat.reduceLeDiff, nl_0, nl_7, nl_8, nl_10, no_1, no_1024, pk_mul, nI_add, nm_ck, nI_clamp, nI_ltI, nI_leI, nI_eq, nb_b2, nb_b1, ↓nb_let, nm_z0, nm_z1, nb_II, nb_IR, nb_RI, nb_RR, nm_IL, nm_IQ, nm_RL, nm_RQ, nm_LI, nm_LR, nm_LL, nm_LQ, nm_QI, nm_QR, nm_QL, nm_QQ, nm_rr, nm_ii, nm_eqm, not_false_eq_true, pk_sub, nm_div, nm_shl, nm_shr, nm_ush, nm_or8, nm_or64, nm_or256, nm_m1, nm_m3, nm_m7, nm_m15, nm_m31, nm_m63, nm_m255, nm_m511, nm_m1023, nm_m2047, nm_m65535, Nat.reduceMod, Nat.reducePow, Nat.reduceAdd, Nat.reduceSub, Nat.reduceMul, nm_bo, nm_bi, nm_rc, nm_ic, nm_ri, nm_rl, nm_rq, nm_ql, nm_qi, nm_li, nm_us, nm_uu, nm_cp, nm_sa31, nm_sa7, nm_m127, nm_m2, nm_nz, nm_nzk, nm_eq32, nm_nzf, if_true, if_false, ↓reduceIte, if_pos, if_neg]
/-- what a token's first letter makes of it: the class -/
theorem ak_1 {n L e : Nat} {c : Nat → Nat} {BC BR : St} (hT : atx n L e c BC BR) (q kd fr : Nat) (nm : Int32) (hq : q < e) (h35 : ¬ c q = 35) : df_X9_next_52 n (uC BC q kd fr nm) = df_X9_next_140 n (nI (c q)) (uC BC (eT c e q) kd q nm) := by
  obtain ⟨hn, hL, heL, h127, hend, hce, hO, h1, htC, h0, htR, hch⟩ := hT
  have t := htC q (by omega)
  have q127 := h127 q
  have le : ¬ e ≤ q := by omega
  have s1 : df_X9_next_52 n (uC BC q kd fr nm) = df_X9_next_101 n n (nI (c q)) (uC BC q kd q nm) := by
    simp (disch := (first | assumption | decide | omega)) only [df_X9_next_52, uC_i0, uC_i1, uC_i2, uC_i3, uC_i4, uC_r, uC_o, uC_w0, uC_w2, uC_w3, uC_w4, hO, o8, h1, t, eq_self, Nat.reduceEqDiff, Nat.reduceLeDiff, nl_0, nl_1, nl_3, nl_7, nl_8, nl_35, nl_32768, no_1, no_1024, pk_mul, nI_add, nm_ck, nI_clamp, nI_ltI, nI_leI, nI_eq, nb_b2, nb_b1, ↓nb_let, nm_z0, nm_z1, nb_II, nb_IR, nb_RI, nb_RR, nm_IL, nm_IQ, nm_RL, nm_RQ, nm_LI, nm_LR, nm_LL, nm_LQ, nm_QI, nm_QR, nm_QL, nm_QQ, nm_rr, nm_ii, nm_eqm, not_false_eq_true, pk_sub, nm_div, nm_shl, nm_shr, nm_ush, nm_or8, nm_or64, nm_or256, nm_m1, nm_m3, nm_m7, nm_m15, nm_m31, nm_m63, nm_m255, nm_m511, nm_m1023, nm_m2047, nm_m65535, Nat.reduceMod, Nat.reducePow, Nat.reduceAdd, Nat.reduceSub, Nat.reduceMul, nm_bo, nm_bi, nm_rc, nm_ic, nm_ri, nm_rl, nm_rq, nm_ql, nm_qi, nm_li, nm_us, nm_uu, nm_cp, nm_sa31, nm_sa7, nm_m127, nm_m2, nm_nz, nm_nzk, nm_eq32, nm_nzf, if_true, if_false, ↓reduceIte, if_pos, if_neg]
  rw [s1]
  obtain ⟨e1, e2, e3, e4⟩ := eT_1 c (Nat.le_of_lt hq)
  obtain ⟨m, em⟩ := nm_ls (fun g i => df_X9_next_101 n g (nI (c q)) (uC BC i kd q nm)) (fun i => !aP (c i)) q (e - q) n (by omega) (fun k m k1 k2 k3 => by
    have k3 : (!aP (c k)) = false := k3
    have hk : aP (c k) = true := by
      cases hh : aP (c k) with
      | true => rfl
      | false => rw [hh] at k3; exact absurd k3 (by decide)
    have tk := htC k (by omega)
    have k127 := h127 k
    have ik := in_9 n (c := c k) (by omega)
    rw [hk] at ik
    have ik : df_X9_isInName n (nI (c k)) () = some (nI 1, ()) := ik
    have le : ¬ e ≤ k := by omega
    show dF_X9_next_101 n (df_X9_next_101 n m) (nI (c q)) (uC BC k kd q nm) = df_X9_next_101 n m (nI (c q)) (uC BC (k + 1) kd q nm)
    unfold dF_X9_next_101
    simp (disch := (first | assumption | decide | omega)) only [uC_i0, uC_i1, uC_i2, uC_i3, uC_i4, uC_r, uC_o, uC_w0, uC_w2, uC_w3, uC_w4, hO, o8, h1, tk, ik, eq_self, Nat.reduceEqDiff, Nat.reduceLeDiff, nl_0, nl_1, no_1, no_1024, pk_mul, nI_add, nm_ck, nI_clamp, nI_ltI, nI_leI, nI_eq, nb_b2, nb_b1, ↓nb_let, nm_z0, nm_z1, nb_II, nb_IR, nb_RI, nb_RR, nm_IL, nm_IQ, nm_RL, nm_RQ, nm_LI, nm_LR, nm_LL, nm_LQ, nm_QI, nm_QR, nm_QL, nm_QQ, nm_rr, nm_ii, nm_eqm, not_false_eq_true, pk_sub, nm_div, nm_shl, nm_shr, nm_ush, nm_or8, nm_or64, nm_or256, nm_m1, nm_m3, nm_m7, nm_m15, nm_m31, nm_m63, nm_m255, nm_m511, nm_m1023, nm_m2047, nm_m65535, Nat.reduceMod, Nat.reducePow, Nat.reduceAdd, Nat.reduceSub, Nat.reduceMul, nm_bo, nm_bi, nm_rc, nm_ic, nm_ri, nm_rl, nm_rq, nm_ql, nm_qi, nm_li, nm_us, nm_uu, nm_cp, nm_sa31, nm_sa7, nm_m127, nm_m2, nm_nz, nm_nzk, nm_eq32, nm_nzf, if_true, if_false, ↓reduceIte, if_pos, if_neg])
  refine Eq.trans em ?_
  show df_X9_next_101 n (m + 1) (nI (c q)) (uC BC (eT c e q) kd q nm) = _
  generalize eT c e q = y at e1 e2 e3
  show dF_X9_next_101 n (df_X9_next_101 n m) (nI (c q)) (uC BC y kd q nm) = _
  unfold dF_X9_next_101
  by_cases yl : y < e
  · have tk := htC y (by omega)
    have y127 := h127 y
    have ik := in_9 n (c := c y) (by omega)
    rw [e3 yl] at ik
    have ik : df_X9_isInName n (nI (c y)) () = some (nI 0, ()) := ik
    have le : ¬ e ≤ y := by omega
    simp (disch := (first | assumption | decide | omega)) only [uC_i0, uC_i1, uC_i2, uC_i3, uC_i4, uC_r, uC_o, uC_w0, uC_w2, uC_w3, uC_w4, hO, o8, h1, tk, ik, eq_self, Nat.reduceEqDiff, Nat.reduceLeDiff, nl_0, no_1, no_1024, pk_mul, nI_add, nm_ck, nI_clamp, nI_ltI, nI_leI, nI_eq, nb_b2, nb_b1, ↓nb_let, nm_z0, nm_z1, nb_II, nb_IR, nb_RI, nb_RR, nm_IL, nm_IQ, nm_RL, nm_RQ, nm_LI, nm_LR, nm_LL, nm_LQ, nm_QI, nm_QR, nm_QL, nm_QQ, nm_rr, nm_ii, nm_eqm, not_false_eq_true, pk_sub, nm_div, nm_shl, nm_shr, nm_ush, nm_or8, nm_or64, nm_or256, nm_m1, nm_m3, nm_m7, nm_m15, nm_m31, nm_m63, nm_m255, nm_m511, nm_m1023, nm_m2047, nm_m65535, Nat.reduceMod, Nat.reducePow, Nat.reduceAdd, Nat.reduceSub, Nat.reduceMul, nm_bo, nm_bi, nm_rc, nm_ic, nm_ri, nm_rl, nm_rq, nm_ql, nm_qi, nm_li, nm_us, nm_uu, nm_cp, nm_sa31, nm_sa7, nm_m127, nm_m2, nm_nz, nm_nzk, nm_eq32, nm_nzf, if_true, if_false, ↓reduceIte, if_pos, if_neg]
  · have yl : y = e := by omega
    subst yl
    simp (disch := (first | assumption | decide | omega)) only [uC_i0, uC_i1, uC_i2, uC_i3, uC_i4, uC_r, uC_o, uC_w0, uC_w2, uC_w3, uC_w4, hO, o8, h1, eq_self, Nat.reduceEqDiff, Nat.reduceLeDiff, no_1, no_1024, pk_mul, nI_add, nm_ck, nI_clamp, nI_ltI, nI_leI, nI_eq, nb_b2, nb_b1, ↓nb_let, nm_z0, nm_z1, nb_II, nb_IR, nb_RI, nb_RR, nm_IL, nm_IQ, nm_RL, nm_RQ, nm_LI, nm_LR, nm_LL, nm_LQ, nm_QI, nm_QR, nm_QL, nm_QQ, nm_rr, nm_ii, nm_eqm, not_false_eq_true, pk_sub, nm_div, nm_shl, nm_shr, nm_ush, nm_or8, nm_or64, nm_or256, nm_m1, nm_m3, nm_m7, nm_m15, nm_m31, nm_m63, nm_m255, nm_m511, nm_m1023, nm_m2047, nm_m65535, Nat.reduceMod, Nat.reducePow, Nat.reduceAdd, Nat.reduceSub, Nat.reduceMul, nm_bo, nm_bi, nm_rc, nm_ic, nm_ri, nm_rl, nm_rq, nm_ql, nm_qi, nm_li, nm_us, nm_uu, nm_cp, nm_sa31, nm_sa7, nm_m127, nm_m2, nm_nz, nm_nzk, nm_eq32, nm_nzf, if_true, if_false, ↓reduceIte, if_pos, if_neg]
/-- the reference: past its names' letters -/
theorem pl_13 {n L e : Nat} {c : Nat → Nat} {BC BR : St} (hT : atx n L e c BC BR) (q ap tk fr to : Nat) (nm : Int32) (hq : q ≤ e) : df_X13_plain n (nI q) (uR BR ap tk fr to nm) = some (nI (eT c e q), uR BR ap tk fr to nm) := by
  obtain ⟨hn, hL, heL, h127, hend, hce, hO, h1, htC, h0, htR, hch⟩ := id hT
  obtain ⟨e1, e2, e3, e4⟩ := eT_1 c hq
  obtain ⟨m, em⟩ := nm_ls (fun g i => df_X13_plain_2 n g (nI i) (uR BR ap tk fr to nm)) (fun i => !aP (c i)) q (e - q) n (by omega) (fun k m k1 k2 k3 => by
    have k3 : (!aP (c k)) = false := k3
    have hk : aP (c k) = true := by
      cases hh : aP (c k) with
      | true => rfl
      | false => rw [hh] at k3; exact absurd k3 (by decide)
    have k127 := h127 k
    have ik := ip_13 n (c := c k) (by omega)
    rw [hk] at ik
    have ca := ca_13 hT k ap tk fr to nm (by omega)
    show dF_X13_plain_2 n (df_X13_plain_2 n m) (nI k) (uR BR ap tk fr to nm) = df_X13_plain_2 n m (nI (k + 1)) (uR BR ap tk fr to nm)
    unfold dF_X13_plain_2
    rw [ca, nb_b2, ik, nb_b2, if_neg (show ¬ bI true = (0 : Int32) by decide), nb_let, show nI k + Int32.ofInt 1 = nI (k + 1) by rw [show Int32.ofInt 1 = nI 1 from rfl, nI_add]])
  refine Eq.trans (show _ = df_X13_plain_2 n n (nI q) (uR BR ap tk fr to nm) from rfl) (Eq.trans em ?_)
  show df_X13_plain_2 n (m + 1) (nI (eT c e q)) (uR BR ap tk fr to nm) = _
  have ec : aP (c (eT c e q)) = false := by
    by_cases yl : eT c e q < e
    · exact e3 yl
    · rw [show eT c e q = e by omega, hce]; exact aP10
  generalize eT c e q = y at e1 e2 ec
  have y127 := h127 y
  have ik := ip_13 n (c := c y) (by omega)
  rw [ec] at ik
  have ca := ca_13 hT y ap tk fr to nm (by omega)
  show dF_X13_plain_2 n (df_X13_plain_2 n m) (nI y) (uR BR ap tk fr to nm) = _
  unfold dF_X13_plain_2
  rw [ca, nb_b2, ik, nb_b2, if_pos (show bI false = (0 : Int32) from rfl)]
theorem bad_13 (n : Nat) (BR : St) (ap tk fr to : Nat) (nm : Int32) : df_X13_bad n (uR BR ap tk fr to nm) = some (uR BR ap 5 fr fr nm) := by
  simp (disch := (first | assumption | decide | omega)) only [df_X13_bad_0, df_X13_bad, uR_i0, uR_i7, uR_i8, uR_i9, uR_i10, uR_i11, uR_r, uR_w7, uR_w8, uR_w9, uR_w10, uR_w11, eq_self, Nat.reduceEqDiff, Nat.reduceLeDiff, nl_5, nl_8, nl_9, nl_10, no_1, no_1024, pk_mul, nI_add, nm_ck, nI_clamp, nI_ltI, nI_leI, nI_eq, nb_b2, nb_b1, ↓nb_let, nm_z0, nm_z1, nb_II, nb_IR, nb_RI, nb_RR, nm_IL, nm_IQ, nm_RL, nm_RQ, nm_LI, nm_LR, nm_LL, nm_LQ, nm_QI, nm_QR, nm_QL, nm_QQ, nm_rr, nm_ii, nm_eqm, not_false_eq_true, pk_sub, nm_div, nm_shl, nm_shr, nm_ush, nm_or8, nm_or64, nm_or256, nm_m1, nm_m3, nm_m7, nm_m15, nm_m31, nm_m63, nm_m255, nm_m511, nm_m1023, nm_m2047, nm_m65535, Nat.reduceMod, Nat.reducePow, Nat.reduceAdd, Nat.reduceSub, Nat.reduceMul, nm_bo, nm_bi, nm_rc, nm_ic, nm_ri, nm_rl, nm_rq, nm_ql, nm_qi, nm_li, nm_us, nm_uu, nm_cp, nm_sa31, nm_sa7, nm_m127, nm_m2, nm_nz, nm_nzk, nm_eq32, nm_nzf, if_true, if_false, ↓reduceIte, if_pos, if_neg]
/-- names -/
theorem ak_N {n L e : Nat} {c : Nat → Nat} {BC BR : St} (hT : atx n L e c BC BR) (q kd fr : Nat) (nm : Int32) (hq : q < e) (hp : aP (c q) = true) (hd : aD (c q) = false) : df_X9_next_52 n (uC BC q kd fr nm) = some (uC BC (eT c e q) (if 31 < eT c e q - q then 6 else 1) q nm) := by
  have h127 := hT.2.2.2.1 q
  have h35 : ¬ c q = 35 := fun z => by rw [z] at hp; exact absurd hp (by decide)
  have e0 := eT_p c hq hp
  have e2 := (eT_1 c (Nat.le_of_lt hq)).2.1
  have hL := hT.2.1
  have heL := hT.2.2.1
  rw [ak_1 hT q kd fr nm hq h35]
  generalize eT c e q = y at e0 e2
  have w : nI y - nI q = nI (y - q) := by rw [pk_sub (by omega)]
  have s1 : df_X9_next_140 n (nI (c q)) (uC BC y kd q nm) = df_X9_next_159 n (nI (c q)) (uC BC y kd q nm) := by
    by_cases a : c q < 48
    · simp (disch := (first | assumption | decide | omega)) only [df_X9_next_140, eq_self, Nat.reduceEqDiff, Nat.reduceLeDiff, nl_48, nl_57, no_1, no_1024, pk_mul, nI_add, nm_ck, nI_clamp, nI_ltI, nI_leI, nI_eq, nb_b2, nb_b1, ↓nb_let, nm_z0, nm_z1, nb_II, nb_IR, nb_RI, nb_RR, nm_IL, nm_IQ, nm_RL, nm_RQ, nm_LI, nm_LR, nm_LL, nm_LQ, nm_QI, nm_QR, nm_QL, nm_QQ, nm_rr, nm_ii, nm_eqm, not_false_eq_true, pk_sub, nm_div, nm_shl, nm_shr, nm_ush, nm_or8, nm_or64, nm_or256, nm_m1, nm_m3, nm_m7, nm_m15, nm_m31, nm_m63, nm_m255, nm_m511, nm_m1023, nm_m2047, nm_m65535, Nat.reduceMod, Nat.reducePow, Nat.reduceAdd, Nat.reduceSub, Nat.reduceMul, nm_bo, nm_bi, nm_rc, nm_ic, nm_ri, nm_rl, nm_rq, nm_ql, nm_qi, nm_li, nm_us, nm_uu, nm_cp, nm_sa31, nm_sa7, nm_m127, nm_m2, nm_nz, nm_nzk, nm_eq32, nm_nzf, if_true, if_false, ↓reduceIte, if_pos, if_neg]
    · have b : 57 < c q := Classical.byContradiction fun b => by
        have := aD_v.mpr (show 48 ≤ c q ∧ c q ≤ 57 by omega)
        rw [hd] at this
        exact absurd this (by decide)
      simp (disch := (first | assumption | decide | omega)) only [df_X9_next_140, eq_self, Nat.reduceEqDiff, Nat.reduceLeDiff, nl_48, nl_57, no_1, no_1024, pk_mul, nI_add, nm_ck, nI_clamp, nI_ltI, nI_leI, nI_eq, nb_b2, nb_b1, ↓nb_let, nm_z0, nm_z1, nb_II, nb_IR, nb_RI, nb_RR, nm_IL, nm_IQ, nm_RL, nm_RQ, nm_LI, nm_LR, nm_LL, nm_LQ, nm_QI, nm_QR, nm_QL, nm_QQ, nm_rr, nm_ii, nm_eqm, not_false_eq_true, pk_sub, nm_div, nm_shl, nm_shr, nm_ush, nm_or8, nm_or64, nm_or256, nm_m1, nm_m3, nm_m7, nm_m15, nm_m31, nm_m63, nm_m255, nm_m511, nm_m1023, nm_m2047, nm_m65535, Nat.reduceMod, Nat.reducePow, Nat.reduceAdd, Nat.reduceSub, Nat.reduceMul, nm_bo, nm_bi, nm_rc, nm_ic, nm_ri, nm_rl, nm_rq, nm_ql, nm_qi, nm_li, nm_us, nm_uu, nm_cp, nm_sa31, nm_sa7, nm_m127, nm_m2, nm_nz, nm_nzk, nm_eq32, nm_nzf, if_true, if_false, ↓reduceIte, if_pos, if_neg]
  rw [s1]
  have le : ¬ y ≤ q := by omega
  by_cases l : 31 < y - q
  · rw [if_pos l]
    simp (disch := (first | assumption | decide | omega)) only [df_X9_next_159, df_X9_next_191, df_X9_next_228, uC_i0, uC_i1, uC_i2, uC_i3, uC_i4, uC_r, uC_o, uC_w0, uC_w2, uC_w3, uC_w4, w, eq_self, Nat.reduceEqDiff, Nat.reduceLeDiff, nl_0, nl_1, nl_2, nl_3, nl_6, nl_31, nl_34, nl_39, no_1, no_1024, pk_mul, nI_add, nm_ck, nI_clamp, nI_ltI, nI_leI, nI_eq, nb_b2, nb_b1, ↓nb_let, nm_z0, nm_z1, nb_II, nb_IR, nb_RI, nb_RR, nm_IL, nm_IQ, nm_RL, nm_RQ, nm_LI, nm_LR, nm_LL, nm_LQ, nm_QI, nm_QR, nm_QL, nm_QQ, nm_rr, nm_ii, nm_eqm, not_false_eq_true, pk_sub, nm_div, nm_shl, nm_shr, nm_ush, nm_or8, nm_or64, nm_or256, nm_m1, nm_m3, nm_m7, nm_m15, nm_m31, nm_m63, nm_m255, nm_m511, nm_m1023, nm_m2047, nm_m65535, Nat.reduceMod, Nat.reducePow, Nat.reduceAdd, Nat.reduceSub, Nat.reduceMul, nm_bo, nm_bi, nm_rc, nm_ic, nm_ri, nm_rl, nm_rq, nm_ql, nm_qi, nm_li, nm_us, nm_uu, nm_cp, nm_sa31, nm_sa7, nm_m127, nm_m2, nm_nz, nm_nzk, nm_eq32, nm_nzf, if_true, if_false, ↓reduceIte, if_pos, if_neg]
  · rw [if_neg l]
    simp (disch := (first | assumption | decide | omega)) only [df_X9_next_159, df_X9_next_191, df_X9_next_228, uC_i0, uC_i1, uC_i2, uC_i3, uC_i4, uC_r, uC_o, uC_w0, uC_w2, uC_w3, uC_w4, w, eq_self, Nat.reduceEqDiff, Nat.reduceLeDiff, nl_0, nl_1, nl_2, nl_3, nl_6, nl_31, nl_34, nl_39, no_1, no_1024, pk_mul, nI_add, nm_ck, nI_clamp, nI_ltI, nI_leI, nI_eq, nb_b2, nb_b1, ↓nb_let, nm_z0, nm_z1, nb_II, nb_IR, nb_RI, nb_RR, nm_IL, nm_IQ, nm_RL, nm_RQ, nm_LI, nm_LR, nm_LL, nm_LQ, nm_QI, nm_QR, nm_QL, nm_QQ, nm_rr, nm_ii, nm_eqm, not_false_eq_true, pk_sub, nm_div, nm_shl, nm_shr, nm_ush, nm_or8, nm_or64, nm_or256, nm_m1, nm_m3, nm_m7, nm_m15, nm_m31, nm_m63, nm_m255, nm_m511, nm_m1023, nm_m2047, nm_m65535, Nat.reduceMod, Nat.reducePow, Nat.reduceAdd, Nat.reduceSub, Nat.reduceMul, nm_bo, nm_bi, nm_rc, nm_ic, nm_ri, nm_rl, nm_rq, nm_ql, nm_qi, nm_li, nm_us, nm_uu, nm_cp, nm_sa31, nm_sa7, nm_m127, nm_m2, nm_nz, nm_nzk, nm_eq32, nm_nzf, if_true, if_false, ↓reduceIte, if_pos, if_neg]
theorem as_N {n L e : Nat} {c : Nat → Nat} {BC BR : St} (hT : atx n L e c BC BR) {G : St → Option St} (q tk fr to : Nat) (nm : Int32) (hq : q < e) (hp : aP (c q) = true) (hd : aD (c q) = false) : dF_X13_scan_0 n G (uR BR q tk fr to nm) = some (if 31 < eT c e q - q then uR BR q 5 q q nm else uR BR (eT c e q) 1 q (eT c e q) nm) := by
  have h127 := hT.2.2.2.1 q
  have hL := hT.2.1
  have heL := hT.2.2.1
  have nb : ¬ (c q = 32 ∨ c q = 9) := fun z => by rcases z with z | z <;> (rw [z] at hp; exact absurd hp (by decide))
  have nE : ¬ (c q = 10 ∨ c q = 35) := fun z => by rcases z with z | z <;> (rw [z] at hp; exact absurd hp (by decide))
  rw [as_0 hT q tk fr to nm (Nat.le_of_lt hq) nb, if_neg nE, if_neg (show ¬ aD (c q) = true by rw [hd]; decide), if_pos hp]
  have pl := pl_13 hT q q tk q (q + 1) nm (Nat.le_of_lt hq)
  have e0 := eT_p c hq hp
  have e2 := (eT_1 c (Nat.le_of_lt hq)).2.1
  generalize eT c e q = y at e0 e2 pl
  have w : nI y - nI q = nI (y - q) := by rw [pk_sub (by omega)]
  have bd := bad_13 n BR q 1 q y nm
  by_cases l : 31 < y - q
  · rw [if_pos l]
    simp (disch := (first | assumption | decide | omega)) only [df_X13_scan_348, uR_i0, uR_i7, uR_i8, uR_i9, uR_i10, uR_i11, uR_r, uR_w7, uR_w8, uR_w9, uR_w10, uR_w11, pl, w, bd, eq_self, Nat.reduceEqDiff, Nat.reduceLeDiff, nl_0, nl_1, nl_7, nl_10, nl_31, no_1, no_1024, pk_mul, nI_add, nm_ck, nI_clamp, nI_ltI, nI_leI, nI_eq, nb_b2, nb_b1, ↓nb_let, nm_z0, nm_z1, nb_II, nb_IR, nb_RI, nb_RR, nm_IL, nm_IQ, nm_RL, nm_RQ, nm_LI, nm_LR, nm_LL, nm_LQ, nm_QI, nm_QR, nm_QL, nm_QQ, nm_rr, nm_ii, nm_eqm, not_false_eq_true, pk_sub, nm_div, nm_shl, nm_shr, nm_ush, nm_or8, nm_or64, nm_or256, nm_m1, nm_m3, nm_m7, nm_m15, nm_m31, nm_m63, nm_m255, nm_m511, nm_m1023, nm_m2047, nm_m65535, Nat.reduceMod, Nat.reducePow, Nat.reduceAdd, Nat.reduceSub, Nat.reduceMul, nm_bo, nm_bi, nm_rc, nm_ic, nm_ri, nm_rl, nm_rq, nm_ql, nm_qi, nm_li, nm_us, nm_uu, nm_cp, nm_sa31, nm_sa7, nm_m127, nm_m2, nm_nz, nm_nzk, nm_eq32, nm_nzf, if_true, if_false, ↓reduceIte, if_pos, if_neg]
  · rw [if_neg l]
    simp (disch := (first | assumption | decide | omega)) only [df_X13_scan_348, uR_i0, uR_i7, uR_i8, uR_i9, uR_i10, uR_i11, uR_r, uR_w7, uR_w8, uR_w9, uR_w10, uR_w11, pl, w, bd, eq_self, Nat.reduceEqDiff, Nat.reduceLeDiff, nl_0, nl_1, nl_7, nl_10, nl_31, no_1, no_1024, pk_mul, nI_add, nm_ck, nI_clamp, nI_ltI, nI_leI, nI_eq, nb_b2, nb_b1, ↓nb_let, nm_z0, nm_z1, nb_II, nb_IR, nb_RI, nb_RR, nm_IL, nm_IQ, nm_RL, nm_RQ, nm_LI, nm_LR, nm_LL, nm_LQ, nm_QI, nm_QR, nm_QL, nm_QQ, nm_rr, nm_ii, nm_eqm, not_false_eq_true, pk_sub, nm_div, nm_shl, nm_shr, nm_ush, nm_or8, nm_or64, nm_or256, nm_m1, nm_m3, nm_m7, nm_m15, nm_m31, nm_m63, nm_m255, nm_m511, nm_m1023, nm_m2047, nm_m65535, Nat.reduceMod, Nat.reducePow, Nat.reduceAdd, Nat.reduceSub, Nat.reduceMul, nm_bo, nm_bi, nm_rc, nm_ic, nm_ri, nm_rl, nm_rq, nm_ql, nm_qi, nm_li, nm_us, nm_uu, nm_cp, nm_sa31, nm_sa7, nm_m127, nm_m2, nm_nz, nm_nzk, nm_eq32, nm_nzf, if_true, if_false, ↓reduceIte, if_pos, if_neg]
