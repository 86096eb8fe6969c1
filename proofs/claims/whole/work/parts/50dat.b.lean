/-- the assemblers' readers: both states while a token is read, one term each -/
def uC (B : St) (ap kd fr : Nat) (nm : Int32) : St := (fun j => if j = 0 then nI ap else if j = 2 then nI kd else if j = 3 then nI fr else if j = 4 then nm else B.1 j, B.2)
def uR (B : St) (ap tk fr to : Nat) (nm : Int32) : St := (fun j => if j = 7 then nI ap else if j = 8 then nI tk else if j = 9 then nI fr else if j = 10 then nI to else if j = 11 then nm else B.1 j, B.2)
theorem uC_i0 {B : St} {ap kd fr : Nat} {nm : Int32} : sI (uC B ap kd fr nm) 0 = nI ap := rfl
theorem uC_i2 {B : St} {ap kd fr : Nat} {nm : Int32} : sI (uC B ap kd fr nm) 2 = nI kd := rfl
theorem uC_i3 {B : St} {ap kd fr : Nat} {nm : Int32} : sI (uC B ap kd fr nm) 3 = nI fr := rfl
theorem uC_i4 {B : St} {ap kd fr : Nat} {nm : Int32} : sI (uC B ap kd fr nm) 4 = nm := rfl
theorem uC_i1 {B : St} {ap kd fr : Nat} {nm : Int32} : sI (uC B ap kd fr nm) 1 = sI B 1 := rfl
theorem uC_r {B : St} {ap kd fr : Nat} {nm : Int32} {k : Nat} : sR (uC B ap kd fr nm) k = sR B k := rfl
theorem uC_o {B : St} {ap kd fr : Nat} {nm : Int32} {k : Nat} : sO (uC B ap kd fr nm) k = sO B k := rfl
theorem uC_w0 {B : St} {ap kd fr : Nat} {nm : Int32} {v : Nat} : pI (uC B ap kd fr nm) 0 (nI v) = uC B v kd fr nm := Prod.ext (funext fun j => by
  show (if j = 0 then (nI v) else _) = _
  by_cases h : j = 0
  · subst h; rfl
  · unfold uC
    simp only [if_neg h]) rfl
theorem uC_w2 {B : St} {ap kd fr : Nat} {nm : Int32} {v : Nat} : pI (uC B ap kd fr nm) 2 (nI v) = uC B ap v fr nm := Prod.ext (funext fun j => by
  show (if j = 2 then (nI v) else _) = _
  by_cases h : j = 2
  · subst h; rfl
  · unfold uC
    simp only [if_neg h]) rfl
theorem uC_w3 {B : St} {ap kd fr : Nat} {nm : Int32} {v : Nat} : pI (uC B ap kd fr nm) 3 (nI v) = uC B ap kd v nm := Prod.ext (funext fun j => by
  show (if j = 3 then (nI v) else _) = _
  by_cases h : j = 3
  · subst h; rfl
  · unfold uC
    simp only [if_neg h]) rfl
theorem uC_w4 {B : St} {ap kd fr : Nat} {nm : Int32} {v : Int32} : pI (uC B ap kd fr nm) 4 v = uC B ap kd fr v := Prod.ext (funext fun j => by
  show (if j = 4 then v else _) = _
  by_cases h : j = 4
  · subst h; rfl
  · unfold uC
    simp only [if_neg h]) rfl
theorem uR_i7 {B : St} {ap tk fr to : Nat} {nm : Int32} : sI (uR B ap tk fr to nm) 7 = nI ap := rfl
theorem uR_i8 {B : St} {ap tk fr to : Nat} {nm : Int32} : sI (uR B ap tk fr to nm) 8 = nI tk := rfl
theorem uR_i9 {B : St} {ap tk fr to : Nat} {nm : Int32} : sI (uR B ap tk fr to nm) 9 = nI fr := rfl
theorem uR_i10 {B : St} {ap tk fr to : Nat} {nm : Int32} : sI (uR B ap tk fr to nm) 10 = nI to := rfl
theorem uR_i11 {B : St} {ap tk fr to : Nat} {nm : Int32} : sI (uR B ap tk fr to nm) 11 = nm := rfl
theorem uR_i0 {B : St} {ap tk fr to : Nat} {nm : Int32} : sI (uR B ap tk fr to nm) 0 = sI B 0 := rfl
theorem uR_r {B : St} {ap tk fr to : Nat} {nm : Int32} {k : Nat} : sR (uR B ap tk fr to nm) k = sR B k := rfl
theorem uR_w7 {B : St} {ap tk fr to : Nat} {nm : Int32} {v : Nat} : pI (uR B ap tk fr to nm) 7 (nI v) = uR B v tk fr to nm := Prod.ext (funext fun j => by
  show (if j = 7 then (nI v) else _) = _
  by_cases h : j = 7
  · subst h; rfl
  · unfold uR
    simp only [if_neg h]) rfl
theorem uR_w8 {B : St} {ap tk fr to : Nat} {nm : Int32} {v : Nat} : pI (uR B ap tk fr to nm) 8 (nI v) = uR B ap v fr to nm := Prod.ext (funext fun j => by
  show (if j = 8 then (nI v) else _) = _
  by_cases h : j = 8
  · subst h; rfl
  · unfold uR
    simp only [if_neg h]) rfl
theorem uR_w9 {B : St} {ap tk fr to : Nat} {nm : Int32} {v : Nat} : pI (uR B ap tk fr to nm) 9 (nI v) = uR B ap tk v to nm := Prod.ext (funext fun j => by
  show (if j = 9 then (nI v) else _) = _
  by_cases h : j = 9
  · subst h; rfl
  · unfold uR
    simp only [if_neg h]) rfl
theorem uR_w10 {B : St} {ap tk fr to : Nat} {nm : Int32} {v : Nat} : pI (uR B ap tk fr to nm) 10 (nI v) = uR B ap tk fr v nm := Prod.ext (funext fun j => by
  show (if j = 10 then (nI v) else _) = _
  by_cases h : j = 10
  · subst h; rfl
  · unfold uR
    simp only [if_neg h]) rfl
theorem uR_w11 {B : St} {ap tk fr to : Nat} {nm : Int32} {v : Int32} : pI (uR B ap tk fr to nm) 11 v = uR B ap tk fr to v := Prod.ext (funext fun j => by
  show (if j = 11 then v else _) = _
  by_cases h : j = 11
  · subst h; rfl
  · unfold uR
    simp only [if_neg h]) rfl
theorem uC_of (B : St) {ap kd fr : Nat} (h0 : sI B 0 = nI ap) (h2 : sI B 2 = nI kd) (h3 : sI B 3 = nI fr) : B = uC B ap kd fr (sI B 4) := Prod.ext (funext fun j => by
  show B.1 j = (if j = 0 then nI ap else if j = 2 then nI kd else if j = 3 then nI fr else if j = 4 then sI B 4 else B.1 j)
  by_cases e0 : j = 0
  · rw [if_pos e0, e0]; exact h0
  rw [if_neg e0]
  by_cases e2 : j = 2
  · rw [if_pos e2, e2]; exact h2
  rw [if_neg e2]
  by_cases e3 : j = 3
  · rw [if_pos e3, e3]; exact h3
  rw [if_neg e3]
  by_cases e4 : j = 4
  · rw [if_pos e4, e4]; rfl
  rw [if_neg e4]) rfl
/-- letters of names, digits -/
def aP (c : Nat) : Bool := aD c || aL c || decide (c = 95 ∨ c = 46 ∨ c = 36)
def dgv (c : Nat) : Nat := if 48 ≤ c ∧ c ≤ 57 then c - 48 else if 97 ≤ c ∧ c ≤ 102 then c - 87 else if 65 ≤ c ∧ c ≤ 70 then c - 55 else 99
theorem in_90 : ∀ c : Fin 128, df_X9_isInName 0 (nI c.1) () = some (bI (aP c.1), ()) := by decide +kernel
theorem in_9 (n : Nat) {c : Nat} (h : c < 128) : df_X9_isInName n (nI c) () = some (bI (aP c), ()) := (show df_X9_isInName n (nI c) () = df_X9_isInName 0 (nI c) () from rfl).trans (in_90 ⟨c, h⟩)
theorem ip_130 : ∀ c : Fin 128, df_X13_isPlain 0 (nI c.1) () = some (bI (aP c.1), ()) := by decide +kernel
theorem ip_13 (n : Nat) {c : Nat} (h : c < 128) : df_X13_isPlain n (nI c) () = some (bI (aP c), ()) := (show df_X13_isPlain n (nI c) () = df_X13_isPlain 0 (nI c) () from rfl).trans (ip_130 ⟨c, h⟩)
theorem id_130 : ∀ c : Fin 128, df_X13_isDigit 0 (nI c.1) () = some (bI (aD c.1), ()) := by decide +kernel
theorem id_13 (n : Nat) {c : Nat} (h : c < 128) : df_X13_isDigit n (nI c) () = some (bI (aD c), ()) := (show df_X13_isDigit n (nI c) () = df_X13_isDigit 0 (nI c) () from rfl).trans (id_130 ⟨c, h⟩)
theorem wo_130 : ∀ c : Fin 128, df_X13_worth 0 (nI c.1) () = some (nI (dgv c.1), ()) := by decide +kernel
theorem wo_13 (n : Nat) {c : Nat} (h : c < 128) : df_X13_worth n (nI c) () = some (nI (dgv c), ()) := (show df_X13_worth n (nI c) () = df_X13_worth 0 (nI c) () from rfl).trans (wo_130 ⟨c, h⟩)
theorem aD_v {c : Nat} : aD c = true ↔ 48 ≤ c ∧ c ≤ 57 := decide_eq_true_iff
theorem aD_P {c : Nat} (h : aD c = true) : aP c = true := by unfold aP; rw [h]; rfl
/-- the text, a line of it up to e, in both -/
def atx (n L e : Nat) (c : Nat → Nat) (BC BR : St) : Prop := 70000 < n ∧ L ≤ 32768 ∧ e ≤ L ∧ (∀ i : Nat, c i < 127) ∧ (∀ i : Nat, L ≤ i → c i = 10) ∧ c e = 10 ∧ sO BC 0 = some 8 ∧ sI BC 1 = nI e ∧ (∀ i : Nat, i < L → sR BC 7 i = nI (c i)) ∧ sI BR 0 = nI L ∧ (∀ i : Nat, i < L → sR BR 2 i = nI (c i)) ∧ ∀ i : Nat, c i = 9 ∨ c i = 10 ∨ 32 ≤ c i
def qT (c : Nat → Nat) (e p : Nat) : Nat := fN (fun i => !decide (c i = 32 ∨ c i = 9)) p (e - p)
def eT (c : Nat → Nat) (e q : Nat) : Nat := fN (fun i => !aP (c i)) q (e - q)
theorem qT_1 (c : Nat → Nat) {e p : Nat} (h : p ≤ e) : p ≤ qT c e p ∧ qT c e p ≤ e ∧ (qT c e p < e → ¬ (c (qT c e p) = 32 ∨ c (qT c e p) = 9)) ∧ ∀ i : Nat, p ≤ i → i < qT c e p → (c i = 32 ∨ c i = 9) := by
  obtain ⟨a, b, d, f⟩ := fN_le (fun i => !decide (c i = 32 ∨ c i = 9)) (e - p) p
  refine ⟨a, by unfold qT; omega, fun h2 z2 => ?_, fun i h1 h2 => ?_⟩
  · have := d (by unfold qT at h2; omega)
    have z2 : c (fN (fun i => !decide (c i = 32 ∨ c i = 9)) p (e - p)) = 32 ∨ c (fN (fun i => !decide (c i = 32 ∨ c i = 9)) p (e - p)) = 9 := z2
    have this : (!decide (c (fN (fun i => !decide (c i = 32 ∨ c i = 9)) p (e - p)) = 32 ∨ c (fN (fun i => !decide (c i = 32 ∨ c i = 9)) p (e - p)) = 9)) = true := this
    rw [decide_eq_true z2] at this
    exact absurd this (by decide)
  · have g := f i h1 h2
    have g : (!decide (c i = 32 ∨ c i = 9)) = false := g
    exact Classical.byContradiction fun y => by
      rw [decide_eq_false y] at g
      exact absurd g (by decide)
theorem eT_1 (c : Nat → Nat) {e q : Nat} (h : q ≤ e) : q ≤ eT c e q ∧ eT c e q ≤ e ∧ (eT c e q < e → aP (c (eT c e q)) = false) ∧ ∀ i : Nat, q ≤ i → i < eT c e q → aP (c i) = true := by
  obtain ⟨a, b, d, f⟩ := fN_le (fun i => !aP (c i)) (e - q) q
  refine ⟨a, by unfold eT; omega, fun h2 => ?_, fun i h1 h2 => ?_⟩
  · have this : (!aP (c (eT c e q))) = true := d (by unfold eT at h2; omega)
    cases hh : aP (c (eT c e q)) with
    | true => rw [hh] at this; exact absurd this (by decide)
    | false => rfl
  · have g : (!aP (c i)) = false := f i h1 h2
    cases hh : aP (c i) with
    | true => rfl
    | false => rw [hh] at g; exact absurd g (by decide)
theorem eT_p (c : Nat → Nat) {e q : Nat} (h : q < e) (ha : aP (c q) = true) : q < eT c e q := by
  obtain ⟨a, b, d, f⟩ := eT_1 c (Nat.le_of_lt h)
  refine Nat.lt_of_le_of_ne a (fun y => ?_)
  have := d (by omega)
  rw [← y, ha] at this
  exact absurd this (by decide)
theorem eT_n (c : Nat → Nat) {e q : Nat} (h : q ≤ e) (ha : aP (c q) = false) : eT c e q = q := by
  obtain ⟨a, b, d, f⟩ := eT_1 c h
  refine Nat.le_antisymm (Nat.le_of_not_lt fun y => ?_) a
  have := f q (Nat.le_refl q) y
  rw [ha] at this
  exact absurd this (by decide)
theorem o8 {α : Type} {x : Option α} : nd_o (some 8) 8 x = x := if_pos rfl
theorem aP10 : aP 10 = false := by decide
/-- the class: over blanks -/
theorem ak_sk {n L e : Nat} {c : Nat → Nat} {BC BR : St} (hT : atx n L e c BC BR) (p kd fr : Nat) (nm : Int32) (hp : p ≤ e) : df_X9_next n (uC BC p kd fr nm) = df_X9_next_52 n (uC BC (qT c e p) kd fr nm) := by
  obtain ⟨hn, hL, heL, h127, hend, hce, hO, h1, htC, h0, htR, hch⟩ := hT
  obtain ⟨q1, q2, q3, q4⟩ := qT_1 c hp
  obtain ⟨m, em⟩ := nm_ls (fun g i => df_X9_next_0 n g (uC BC i kd fr nm)) (fun i => !decide (c i = 32 ∨ c i = 9)) p (e - p) n (by omega) (fun k m k1 k2 k3 => by
    have hk : k < e := by omega
    have ck : c k = 32 ∨ c k = 9 := Classical.byContradiction fun y => by
      have k3 : (!decide (c k = 32 ∨ c k = 9)) = false := k3
      rw [decide_eq_false y] at k3
      exact absurd k3 (by decide)
    have t := htC k (by omega)
    have le : ¬ e ≤ k := by omega
    show df_X9_next_0 n (m + 1) (uC BC k kd fr nm) = df_X9_next_0 n m (uC BC (k + 1) kd fr nm)
    rcases ck with ck | ck
    · rw [ck] at t
      simp (disch := (first | assumption | decide | omega)) only [(show df_X9_next_0 n (m + 1) = dF_X9_next_0 n (df_X9_next_0 n m) from rfl), dF_X9_next_0, df_X9_next_39, uC_i0, uC_i1, uC_i2, uC_i3, uC_i4, uC_r, uC_o, uC_w0, uC_w2, uC_w3, uC_w4, hO, o8, h1, t, eq_self, Nat.reduceEqDiff, Nat.reduceLeDiff, nl_0, nl_1, nl_7, nl_8, nl_9, nl_32, nl_32768, no_1, no_1024, pk_mul, nI_add, nm_ck, nI_clamp, nI_ltI, nI_leI, nI_eq, nb_b2, nb_b1, ↓nb_let, nm_z0, nm_z1, nb_II, nb_IR, nb_RI, nb_RR, nm_IL, nm_IQ, nm_RL, nm_RQ, nm_LI, nm_LR, nm_LL, nm_LQ, nm_QI, nm_QR, nm_QL, nm_QQ, nm_rr, nm_ii, nm_eqm, not_false_eq_true, pk_sub, nm_div, nm_shl, nm_shr, nm_ush, nm_or8, nm_or64, nm_or256, nm_m1, nm_m3, nm_m7, nm_m15, nm_m31, nm_m63, nm_m255, nm_m511, nm_m1023, nm_m2047, nm_m65535, Nat.reduceMod, Nat.reducePow, Nat.reduceAdd, Nat.reduceSub, Nat.reduceMul, nm_bo, nm_bi, nm_rc, nm_ic, nm_ri, nm_rl, nm_rq, nm_ql, nm_qi, nm_li, nm_us, nm_uu, nm_cp, nm_sa31, nm_sa7, nm_m127, nm_m2, nm_nz, nm_nzk, nm_eq32, nm_nzf, if_true, if_false, ↓reduceIte, if_pos, if_neg]
    · rw [ck] at t
      simp (disch := (first | assumption | decide | omega)) only [(show df_X9_next_0 n (m + 1) = dF_X9_next_0 n (df_X9_next_0 n m) from rfl), dF_X9_next_0, df_X9_next_39, uC_i0, uC_i1, uC_i2, uC_i3, uC_i4, uC_r, uC_o, uC_w0, uC_w2, uC_w3, uC_w4, hO, o8, h1, t, eq_self, Nat.reduceEqDiff, Nat.reduceLeDiff, nl_0, nl_1, nl_7, nl_8, nl_9, nl_32, nl_32768, no_1, no_1024, pk_mul, nI_add, nm_ck, nI_clamp, nI_ltI, nI_leI, nI_eq, nb_b2, nb_b1, ↓nb_let, nm_z0, nm_z1, nb_II, nb_IR, nb_RI, nb_RR, nm_IL, nm_IQ, nm_RL, nm_RQ, nm_LI, nm_LR, nm_LL, nm_LQ, nm_QI, nm_QR, nm_QL, nm_QQ, nm_rr, nm_ii, nm_eqm, not_false_eq_true, pk_sub, nm_div, nm_shl, nm_shr, nm_ush, nm_or8, nm_or64, nm_or256, nm_m1, nm_m3, nm_m7, nm_m15, nm_m31, nm_m63, nm_m255, nm_m511, nm_m1023, nm_m2047, nm_m65535, Nat.reduceMod, Nat.reducePow, Nat.reduceAdd, Nat.reduceSub, Nat.reduceMul, nm_bo, nm_bi, nm_rc, nm_ic, nm_ri, nm_rl, nm_rq, nm_ql, nm_qi, nm_li, nm_us, nm_uu, nm_cp, nm_sa31, nm_sa7, nm_m127, nm_m2, nm_nz, nm_nzk, nm_eq32, nm_nzf, if_true, if_false, ↓reduceIte, if_pos, if_neg])
  refine Eq.trans (show _ = df_X9_next_0 n n (uC BC p kd fr nm) from rfl) (Eq.trans em ?_)
  show df_X9_next_0 n (m + 1) (uC BC (qT c e p) kd fr nm) = _
  generalize qT c e p = q at q1 q2 q3
  show dF_X9_next_0 n (df_X9_next_0 n m) (uC BC q kd fr nm) = _
  unfold dF_X9_next_0
  by_cases y : q < e
  · have t := htC q (by omega)
    have y2 := q3 y
    have y3 : ¬ c q = 32 := fun w => y2 (Or.inl w)
    have y4 : ¬ c q = 9 := fun w => y2 (Or.inr w)
    have y5 : c q < 127 := h127 q
    simp (disch := (first | assumption | decide | omega)) only [uC_i0, uC_i1, uC_i2, uC_i3, uC_i4, uC_r, uC_o, uC_w0, uC_w2, uC_w3, uC_w4, hO, o8, h1, t, eq_self, Nat.reduceEqDiff, Nat.reduceLeDiff, nl_9, nl_32, no_1, no_1024, pk_mul, nI_add, nm_ck, nI_clamp, nI_ltI, nI_leI, nI_eq, nb_b2, nb_b1, ↓nb_let, nm_z0, nm_z1, nb_II, nb_IR, nb_RI, nb_RR, nm_IL, nm_IQ, nm_RL, nm_RQ, nm_LI, nm_LR, nm_LL, nm_LQ, nm_QI, nm_QR, nm_QL, nm_QQ, nm_rr, nm_ii, nm_eqm, not_false_eq_true, pk_sub, nm_div, nm_shl, nm_shr, nm_ush, nm_or8, nm_or64, nm_or256, nm_m1, nm_m3, nm_m7, nm_m15, nm_m31, nm_m63, nm_m255, nm_m511, nm_m1023, nm_m2047, nm_m65535, Nat.reduceMod, Nat.reducePow, Nat.reduceAdd, Nat.reduceSub, Nat.reduceMul, nm_bo, nm_bi, nm_rc, nm_ic, nm_ri, nm_rl, nm_rq, nm_ql, nm_qi, nm_li, nm_us, nm_uu, nm_cp, nm_sa31, nm_sa7, nm_m127, nm_m2, nm_nz, nm_nzk, nm_eq32, nm_nzf, if_true, if_false, ↓reduceIte, if_pos, if_neg]
  · have y : q = e := by omega
    subst y
    simp (disch := (first | assumption | decide | omega)) only [uC_i0, uC_i1, uC_i2, uC_i3, uC_i4, uC_r, uC_o, uC_w0, uC_w2, uC_w3, uC_w4, hO, o8, h1, eq_self, Nat.reduceEqDiff, Nat.reduceLeDiff, no_1, no_1024, pk_mul, nI_add, nm_ck, nI_clamp, nI_ltI, nI_leI, nI_eq, nb_b2, nb_b1, ↓nb_let, nm_z0, nm_z1, nb_II, nb_IR, nb_RI, nb_RR, nm_IL, nm_IQ, nm_RL, nm_RQ, nm_LI, nm_LR, nm_LL, nm_LQ, nm_QI, nm_QR, nm_QL, nm_QQ, nm_rr, nm_ii, nm_eqm, not_false_eq_true, pk_sub, nm_div, nm_shl, nm_shr, nm_ush, nm_or8, nm_or64, nm_or256, nm_m1, nm_m3, nm_m7, nm_m15, nm_m31, nm_m63, nm_m255, nm_m511, nm_m1023, nm_m2047, nm_m65535, Nat.reduceMod, Nat.reducePow, Nat.reduceAdd, Nat.reduceSub, Nat.reduceMul, nm_bo, nm_bi, nm_rc, nm_ic, nm_ri, nm_rl, nm_rq, nm_ql, nm_qi, nm_li, nm_us, nm_uu, nm_cp, nm_sa31, nm_sa7, nm_m127, nm_m2, nm_nz, nm_nzk, nm_eq32, nm_nzf, if_true, if_false, ↓reduceIte, if_pos, if_neg]
/-- the reference: a letter, and over blanks -/
theorem ca_13 {n L e : Nat} {c : Nat → Nat} {BC BR : St} (hT : atx n L e c BC BR) (k ap tk fr to : Nat) (nm : Int32) (hk : k < 2 ^ 30) : df_X13_charAt n (nI k) (uR BR ap tk fr to nm) = some (nI (c k), uR BR ap tk fr to nm) := by
  obtain ⟨hn, hL, heL, h127, hend, hce, hO, h1, htC, h0, htR, hch⟩ := hT
  by_cases y : k < L
  · have t := htR k y
    simp (disch := (first | assumption | decide | omega)) only [df_X13_charAt_19, df_X13_charAt_0, df_X13_charAt, uR_i0, uR_i7, uR_i8, uR_i9, uR_i10, uR_i11, uR_r, uR_w7, uR_w8, uR_w9, uR_w10, uR_w11, h0, t, eq_self, Nat.reduceEqDiff, Nat.reduceLeDiff, nl_0, nl_2, nl_10, nl_32772, no_1, no_1024, pk_mul, nI_add, nm_ck, nI_clamp, nI_ltI, nI_leI, nI_eq, nb_b2, nb_b1, ↓nb_let, nm_z0, nm_z1, nb_II, nb_IR, nb_RI, nb_RR, nm_IL, nm_IQ, nm_RL, nm_RQ, nm_LI, nm_LR, nm_LL, nm_LQ, nm_QI, nm_QR, nm_QL, nm_QQ, nm_rr, nm_ii, nm_eqm, not_false_eq_true, pk_sub, nm_div, nm_shl, nm_shr, nm_ush, nm_or8, nm_or64, nm_or256, nm_m1, nm_m3, nm_m7, nm_m15, nm_m31, nm_m63, nm_m255, nm_m511, nm_m1023, nm_m2047, nm_m65535, Nat.reduceMod, Nat.reducePow, Nat.reduceAdd, Nat.reduceSub, Nat.reduceMul, nm_bo, nm_bi, nm_rc, nm_ic, nm_ri, nm_rl, nm_rq, nm_ql, nm_qi, nm_li, nm_us, nm_uu, nm_cp, nm_sa31, nm_sa7, nm_m127, nm_m2, nm_nz, nm_nzk, nm_eq32, nm_nzf, if_true, if_false, ↓reduceIte, if_pos, if_neg]
  · rw [hend k (by omega)]
    simp (disch := (first | assumption | decide | omega)) only [df_X13_charAt_19, df_X13_charAt_0, df_X13_charAt, uR_i0, uR_i7, uR_i8, uR_i9, uR_i10, uR_i11, uR_r, uR_w7, uR_w8, uR_w9, uR_w10, uR_w11, h0, eq_self, Nat.reduceEqDiff, Nat.reduceLeDiff, nl_0, nl_2, nl_10, nl_32772, no_1, no_1024, pk_mul, nI_add, nm_ck, nI_clamp, nI_ltI, nI_leI, nI_eq, nb_b2, nb_b1, ↓nb_let, nm_z0, nm_z1, nb_II, nb_IR, nb_RI, nb_RR, nm_IL, nm_IQ, nm_RL, nm_RQ, nm_LI, nm_LR, nm_LL, nm_LQ, nm_QI, nm_QR, nm_QL, nm_QQ, nm_rr, nm_ii, nm_eqm, not_false_eq_true, pk_sub, nm_div, nm_shl, nm_shr, nm_ush, nm_or8, nm_or64, nm_or256, nm_m1, nm_m3, nm_m7, nm_m15, nm_m31, nm_m63, nm_m255, nm_m511, nm_m1023, nm_m2047, nm_m65535, Nat.reduceMod, Nat.reducePow, Nat.reduceAdd, Nat.reduceSub, Nat.reduceMul, nm_bo, nm_bi, nm_rc, nm_ic, nm_ri, nm_rl, nm_rq, nm_ql, nm_qi, nm_li, nm_us, nm_uu, nm_cp, nm_sa31, nm_sa7, nm_m127, nm_m2, nm_nz, nm_nzk, nm_eq32, nm_nzf, if_true, if_false, ↓reduceIte, if_pos, if_neg]
theorem as_sk {n L e : Nat} {c : Nat → Nat} {BC BR : St} (hT : atx n L e c BC BR) (p tk fr to : Nat) (nm : Int32) (hp : p ≤ e) : ∃ m : Nat, df_X13_scan n (uR BR p tk fr to nm) = dF_X13_scan_0 n (df_X13_scan_0 n m) (uR BR (qT c e p) tk fr to nm) := by
  obtain ⟨hn, hL, heL, h127, hend, hce, hO, h1, htC, h0, htR, hch⟩ := id hT
  obtain ⟨m, em⟩ := nm_ls (fun g i => df_X13_scan_0 n g (uR BR i tk fr to nm)) (fun i => !decide (c i = 32 ∨ c i = 9)) p (e - p) n (by omega) (fun k m k1 k2 k3 => by
    have ck : c k = 32 ∨ c k = 9 := Classical.byContradiction fun y => by
      have k3 : (!decide (c k = 32 ∨ c k = 9)) = false := k3
      rw [decide_eq_false y] at k3
      exact absurd k3 (by decide)
    have ca := ca_13 hT k k tk fr to nm (by omega)
    show dF_X13_scan_0 n (df_X13_scan_0 n m) (uR BR k tk fr to nm) = df_X13_scan_0 n m (uR BR (k + 1) tk fr to nm)
    unfold dF_X13_scan_0
    have e26 : df_X13_scan_26 n (df_X13_scan_0 n m) (uR BR k tk fr to nm) = df_X13_scan_0 n m (uR BR (k + 1) tk fr to nm) := by
      simp (disch := (first | assumption | decide | omega)) only [df_X13_scan_26, uR_i0, uR_i7, uR_i8, uR_i9, uR_i10, uR_i11, uR_r, uR_w7, uR_w8, uR_w9, uR_w10, uR_w11, eq_self, Nat.reduceEqDiff, Nat.reduceLeDiff, nl_1, nl_7, no_1, no_1024, pk_mul, nI_add, nm_ck, nI_clamp, nI_ltI, nI_leI, nI_eq, nb_b2, nb_b1, ↓nb_let, nm_z0, nm_z1, nb_II, nb_IR, nb_RI, nb_RR, nm_IL, nm_IQ, nm_RL, nm_RQ, nm_LI, nm_LR, nm_LL, nm_LQ, nm_QI, nm_QR, nm_QL, nm_QQ, nm_rr, nm_ii, nm_eqm, not_false_eq_true, pk_sub, nm_div, nm_shl, nm_shr, nm_ush, nm_or8, nm_or64, nm_or256, nm_m1, nm_m3, nm_m7, nm_m15, nm_m31, nm_m63, nm_m255, nm_m511, nm_m1023, nm_m2047, nm_m65535, Nat.reduceMod, Nat.reducePow, Nat.reduceAdd, Nat.reduceSub, Nat.reduceMul, nm_bo, nm_bi, nm_rc, nm_ic, nm_ri, nm_rl, nm_rq, nm_ql, nm_qi, nm_li, nm_us, nm_uu, nm_cp, nm_sa31, nm_sa7, nm_m127, nm_m2, nm_nz, nm_nzk, nm_eq32, nm_nzf, if_true, if_false, ↓reduceIte, if_pos, if_neg]
    rcases ck with ck | ck
    · rw [ck] at ca
      rw [uR_i7, ca, nb_b2, if_neg (show ¬ nI 32 = (9 : Int32) by decide), uR_i7, ca, nb_b2, if_pos (show nI 32 = (32 : Int32) from rfl), e26]
    · rw [ck] at ca
      rw [uR_i7, ca, nb_b2, if_pos (show nI 9 = (9 : Int32) from rfl), e26])
  exact ⟨m, em⟩
/-- the end of a line -/
theorem ak_E {n L e : Nat} {c : Nat → Nat} {BC BR : St} (hT : atx n L e c BC BR) (q kd fr : Nat) (nm : Int32) (hq : q ≤ e) (h : q = e ∨ c q = 35) : df_X9_next_52 n (uC BC q kd fr nm) = some (uC BC q 0 q nm) := by
  obtain ⟨hn, hL, heL, h127, hend, hce, hO, h1, htC, h0, htR, hch⟩ := hT
  by_cases y : q = e
  · subst y
    simp (disch := (first | assumption | decide | omega)) only [df_X9_next_52, df_X9_next_85, uC_i0, uC_i1, uC_i2, uC_i3, uC_i4, uC_r, uC_o, uC_w0, uC_w2, uC_w3, uC_w4, hO, o8, h1, eq_self, Nat.reduceEqDiff, Nat.reduceLeDiff, nl_0, nl_1, nl_2, nl_3, nl_7, nl_8, nl_35, nl_32768, no_1, no_1024, pk_mul, nI_add, nm_ck, nI_clamp, nI_ltI, nI_leI, nI_eq, nb_b2, nb_b1, ↓nb_let, nm_z0, nm_z1, nb_II, nb_IR, nb_RI, nb_RR, nm_IL, nm_IQ, nm_RL, nm_RQ, nm_LI, nm_LR, nm_LL, nm_LQ, nm_QI, nm_QR, nm_QL, nm_QQ, nm_rr, nm_ii, nm_eqm, not_false_eq_true, pk_sub, nm_div, nm_shl, nm_shr, nm_ush, nm_or8, nm_or64, nm_or256, nm_m1, nm_m3, nm_m7, nm_m15, nm_m31, nm_m63, nm_m255, nm_m511, nm_m1023, nm_m2047, nm_m65535, Nat.reduceMod, Nat.reducePow, Nat.reduceAdd, Nat.reduceSub, Nat.reduceMul, nm_bo, nm_bi, nm_rc, nm_ic, nm_ri, nm_rl, nm_rq, nm_ql, nm_qi, nm_li, nm_us, nm_uu, nm_cp, nm_sa31, nm_sa7, nm_m127, nm_m2, nm_nz, nm_nzk, nm_eq32, nm_nzf, if_true, if_false, ↓reduceIte, if_pos, if_neg]
  · have h : c q = 35 := by omega
    have t := htC q (by omega)
    rw [h] at t
    have y2 : ¬ e ≤ q := by omega
    simp (disch := (first | assumption | decide | omega)) only [df_X9_next_52, df_X9_next_85, uC_i0, uC_i1, uC_i2, uC_i3, uC_i4, uC_r, uC_o, uC_w0, uC_w2, uC_w3, uC_w4, hO, o8, h1, t, eq_self, Nat.reduceEqDiff, Nat.reduceLeDiff, nl_0, nl_1, nl_2, nl_3, nl_7, nl_8, nl_35, nl_32768, no_1, no_1024, pk_mul, nI_add, nm_ck, nI_clamp, nI_ltI, nI_leI, nI_eq, nb_b2, nb_b1, ↓nb_let, nm_z0, nm_z1, nb_II, nb_IR, nb_RI, nb_RR, nm_IL, nm_IQ, nm_RL, nm_RQ, nm_LI, nm_LR, nm_LL, nm_LQ, nm_QI, nm_QR, nm_QL, nm_QQ, nm_rr, nm_ii, nm_eqm, not_false_eq_true, pk_sub, nm_div, nm_shl, nm_shr, nm_ush, nm_or8, nm_or64, nm_or256, nm_m1, nm_m3, nm_m7, nm_m15, nm_m31, nm_m63, nm_m255, nm_m511, nm_m1023, nm_m2047, nm_m65535, Nat.reduceMod, Nat.reducePow, Nat.reduceAdd, Nat.reduceSub, Nat.reduceMul, nm_bo, nm_bi, nm_rc, nm_ic, nm_ri, nm_rl, nm_rq, nm_ql, nm_qi, nm_li, nm_us, nm_uu, nm_cp, nm_sa31, nm_sa7, nm_m127, nm_m2, nm_nz, nm_nzk, nm_eq32, nm_nzf, if_true, if_false, ↓reduceIte, if_pos, if_neg]
def sgB (n : Nat) (q11 : Int32) (s14 : St) : Option St := (if q11 = 39 then (nd_b1 (df_X13_character n  s14) (fun (s64 : St) => df_X13_scan_348 n  s64)) else (if q11 = 34 then (nd_b1 (df_X13_quote n  s14) (fun (s61 : St) => df_X13_scan_348 n  s61)) else (if q11 = 60 then (df_X13_scan_203 n (q11) s14) else (if q11 = 62 then (df_X13_scan_203 n (q11) s14) else (if q11 = 58 then (df_X13_scan_329 n (q11) s14) else (if q11 = 44 then (df_X13_scan_329 n (q11) s14) else (if q11 = 40 then (df_X13_scan_329 n (q11) s14) else (if q11 = 41 then (df_X13_scan_329 n (q11) s14) else (if q11 = 43 then (df_X13_scan_329 n (q11) s14) else (if q11 = 45 then (df_X13_scan_329 n (q11) s14) else (if q11 = 42 then (df_X13_scan_329 n (q11) s14) else (if q11 = 47 then (df_X13_scan_329 n (q11) s14) else (if q11 = 37 then (df_X13_scan_329 n (q11) s14) else (if q11 = 38 then (df_X13_scan_329 n (q11) s14) else (if q11 = 124 then (df_X13_scan_329 n (q11) s14) else (if q11 = 94 then (df_X13_scan_329 n (q11) s14) else (if q11 = 126 then (df_X13_scan_329 n (q11) s14) else (df_X13_scan_334 n (q11) (0) s14))))))))))))))))))
theorem as_0 {n L e : Nat} {c : Nat → Nat} {BC BR : St} (hT : atx n L e c BC BR) {G : St → Option St} (q tk fr to : Nat) (nm : Int32) (hq : q ≤ e) (hb : ¬ (c q = 32 ∨ c q = 9)) : dF_X13_scan_0 n G (uR BR q tk fr to nm) = if c q = 10 ∨ c q = 35 then df_X13_scan_78 n (uR BR q tk q (q + 1) nm) else if aD (c q) = true then nd_b2 (df_X13_plain n (nI q) (uR BR q tk q (q + 1) nm)) (fun (q75 : Int32) (s76 : St) => nd_let (pI s76 10 q75) (fun (s78 : St) => nd_b1 (df_X13_digits n s78) (fun (s80 : St) => df_X13_scan_348 n s80))) else if aP (c q) = true then nd_b2 (df_X13_plain n (nI q) (uR BR q tk q (q + 1) nm)) (fun (q66 : Int32) (s67 : St) => nd_let (pI s67 10 q66) (fun (s69 : St) => nd_let (pI s69 8 1) (fun (s70 : St) => if sI s70 10 - sI s70 9 ≤ 31 then df_X13_scan_348 n s70 else nd_b1 (df_X13_bad n s70) (fun (s73 : St) => df_X13_scan_348 n s73)))) else sgB n (nI (c q)) (uR BR q tk q (q + 1) nm) := by
  have h127 := hT.2.2.2.1 q
  have hL := hT.2.1
  have heL := hT.2.2.1
  have ca := ca_13 hT q q tk fr to nm (by omega)
  have ca2 := ca_13 hT q q tk q to nm (by omega)
  have ip := ip_13 n (c := c q) (by omega)
  have idg := id_13 n (c := c q) (by omega)
  unfold dF_X13_scan_0
  rw [uR_i7, ca, nb_b2, if_neg (show ¬ nI (c q) = 9 from ne_I (b := 9) (by omega) (by omega) (fun z => hb (Or.inr z))), uR_i7, ca, nb_b2, if_neg (show ¬ nI (c q) = 32 from ne_I (b := 32) (by omega) (by omega) (fun z => hb (Or.inl z))), uR_i7, uR_w9, nb_let, uR_i7, ca2, nb_b2, uR_i7, show nI q + 1 = nI (q + 1) by rw [show (1 : Int32) = nI 1 from rfl, nI_add], uR_w10, nb_let]
  by_cases k10 : c q = 10
  · rw [if_pos (show nI (c q) = 10 by rw [k10]; rfl), if_pos (Or.inl k10)]
  · rw [if_neg (show ¬ nI (c q) = 10 from ne_I (b := 10) (by omega) (by omega) k10)]
    by_cases k35 : c q = 35
    · rw [if_pos (show nI (c q) = 35 by rw [k35]; rfl), if_pos (Or.inr k35)]
    · rw [if_neg (show ¬ nI (c q) = 35 from ne_I (b := 35) (by omega) (by omega) k35), if_neg (show ¬ (c q = 10 ∨ c q = 35) by omega), idg, nb_b2]
      cases hd : aD (c q) with
      | true => rw [if_neg (show ¬ bI true = 0 by decide), if_pos rfl, uR_i7]
      | false =>
        rw [if_pos (show bI false = 0 from rfl), if_neg (show ¬ false = true by decide), ip, nb_b2]
        cases hp : aP (c q) with
        | true => rw [if_neg (show ¬ bI true = 0 by decide), if_pos rfl, uR_i7]
        | false =>
          rw [if_pos (show bI false = 0 from rfl), if_neg (show ¬ false = true by decide)]
          rfl
theorem as_E {n L e : Nat} {c : Nat → Nat} {BC BR : St} (hT : atx n L e c BC BR) {G : St → Option St} (q tk fr to : Nat) (nm : Int32) (hq : q ≤ e) (h : c q = 10 ∨ c q = 35) : dF_X13_scan_0 n G (uR BR q tk fr to nm) = some (uR BR q 0 q q nm) := by
  rw [as_0 hT q tk fr to nm hq (by omega), if_pos h]
  simp (disch := (first | assumption | decide | omega)) only [df_X13_scan_78, df_X13_scan_348, uR_i0, uR_i7, uR_i8, uR_i9, uR_i10, uR_i11, uR_r, uR_w7, uR_w8, uR_w9, uR_w10, uR_w11, eq_self, Nat.reduceEqDiff, Nat.reduceLeDiff, nl_0, nl_7, nl_8, nl_10, no_1, no_1024, pk_mul, nI_add, nm_ck, nI_clamp, nI_ltI, nI_leI, nI_eq, nb_b2, nb_b1, ↓nb_let, nm_z0, nm_z1, nb_II, nb_IR, nb_RI, nb_RR, nm_IL, nm_IQ, nm_RL, nm_RQ, nm_LI, nm_LR, nm_LL, nm_LQ, nm_QI, nm_QR, nm_QL, nm_QQ, nm_rr, nm_ii, nm_eqm, not_false_eq_true, pk_sub, nm_div, nm_shl, nm_shr, nm_ush, nm_or8, nm_or64, nm_or256, nm_m1, nm_m3, nm_m7, nm_m15, nm_m31, nm_m63, nm_m255, nm_m511, nm_m1023, nm_m2047, nm_m65535, Nat.reduceMod, Nat.reducePow, Nat.reduceAdd, Nat.reduceSub, Nat.reduceMul, nm_bo, nm_bi, nm_rc, nm_ic, nm_ri, nm_rl, nm_rq, nm_ql, nm_qi, nm_li, nm_us, nm_uu, nm_cp, nm_sa31, nm_sa7, nm_m127, nm_m2, nm_nz, nm_nzk, nm_eq32, nm_nzf, if_true, if_false, ↓reduceIte, if_pos, if_neg]
/-- what a token's first letter makes of it: the class -/
theorem ak_1 {n L e : Nat} {c : Nat → Nat} {BC BR : St} (hT : atx n L e c BC BR) (q kd fr : Nat) (nm : Int32) (hq : q < e) (h35 : ¬ c q = 35) : df_X9_next_52 n (uC BC q kd fr nm) = df_X9_next_140 n (nI (c q)) (uC BC (eT c e q) kd q nm) := by
  obtain ⟨hn, hL, heL, h127, hend, hce, hO, h1, htC, h0, htR, hch⟩ := hT
  have t := htC q (by omega)
  have q127 := h127 q
  have le : ¬ e ≤ q := by omega
  have s1 : df_X9_next_52 n (uC BC q kd fr nm) = df_X9_next_101 n n (nI (c q)) (uC BC q kd q nm) := by
    simp (disch := (first | assumption | decide | omega)) only [df_X9_next_52, uC_i0, uC_i1, uC_i2, uC_i3, uC_i4, uC_r, uC_o, uC_w0, uC_w2, uC_w3, uC_w4, hO, o8, h1, t, eq_self, Nat.reduceEqDiff, Nat.reduceLeDiff, nl_0, nl_1, nl_3, nl_7, nl_8, nl_35, nl_32768, no_1, no_1024, pk_mul, nI_add, nm_ck, nI_clamp, nI_ltI, nI_leI, nI_eq, nb_b2, nb_b1, ↓nb_let, nm_z0, nm_z1, nb_II, nb_IR, nb_RI, nb_RR, nm_IL, nm_IQ, nm_RL, nm_RQ, nm_LI, nm_LR, nm_LL, nm_LQ, nm_QI, nm_QR, nm_QL, nm_QQ, nm_rr, nm_ii, nm_eqm, not_false_eq_true, pk_sub, nm_div, nm_shl, nm_shr, nm_ush, nm_or8, nm_or64, nm_or256, nm_m1, nm_m3, nm_m7, nm_m15, nm_m31, nm_m63, nm_m255, nm_m511, nm_m1023, nm_m2047, nm_m65535, Nat.reduceMod, Nat.reducePow, Nat.reduceAdd, Nat.reduceSub, Nat.reduceMul, nm_bo, nm_bi, nm_rc, nm_ic, nm_ri, nm_rl, nm_rq, nm_ql, nm_qi, nm_li, nm_us, nm_uu, nm_cp, nm_sa31, nm_sa7, nm_m127, nm_m2, nm_nz, nm_nzk, nm_eq32, nm_nzf, if_true, if_false, ↓reduceIte, if_pos, if_neg]
  rw [s1]
  obtain ⟨e1, e2, e3, e4⟩ := eT_1 c (Nat.le_of_lt hq)
  obtain ⟨m, em⟩ := nm_ls (fun g i => df_X9_next_101 n g (nI (c q)) (uC BC i kd q nm)) (fun i => !aP (c i)) q (e - q) n (by omega) (fun k m k1 k2 k3 => by
    have k3 : (!aP (c k)) = false := k3
    have hk : aP (c k) = true := by
      cases hh : aP (c k) with
      | true => rfl
      | false => rw [hh] at k3; exact absurd k3 (by decide)
    have tk := htC k (by omega)
    have k127 := h127 k
    have ik := in_9 n (c := c k) (by omega)
    rw [hk] at ik
    have ik : df_X9_isInName n (nI (c k)) () = some (nI 1, ()) := ik
    have le : ¬ e ≤ k := by omega
    show dF_X9_next_101 n (df_X9_next_101 n m) (nI (c q)) (uC BC k kd q nm) = df_X9_next_101 n m (nI (c q)) (uC BC (k + 1) kd q nm)
    unfold dF_X9_next_101
    simp (disch := (first | assumption | decide | omega)) only [uC_i0, uC_i1, uC_i2, uC_i3, uC_i4, uC_r, uC_o, uC_w0, uC_w2, uC_w3, uC_w4, hO, o8, h1, tk, ik, eq_self, Nat.reduceEqDiff, Nat.reduceLeDiff, nl_0, nl_1, no_1, no_1024, pk_mul, nI_add, nm_ck, nI_clamp, nI_ltI, nI_leI, nI_eq, nb_b2, nb_b1, ↓nb_let, nm_z0, nm_z1, nb_II, nb_IR, nb_RI, nb_RR, nm_IL, nm_IQ, nm_RL, nm_RQ, nm_LI, nm_LR, nm_LL, nm_LQ, nm_QI, nm_QR, nm_QL, nm_QQ, nm_rr, nm_ii, nm_eqm, not_false_eq_true, pk_sub, nm_div, nm_shl, nm_shr, nm_ush, nm_or8, nm_or64, nm_or256, nm_m1, nm_m3, nm_m7, nm_m15, nm_m31, nm_m63, nm_m255, nm_m511, nm_m1023, nm_m2047, nm_m65535, Nat.reduceMod, Nat.reducePow, Nat.reduceAdd, Nat.reduceSub, Nat.reduceMul, nm_bo, nm_bi, nm_rc, nm_ic, nm_ri, nm_rl, nm_rq, nm_ql, nm_qi, nm_li, nm_us, nm_uu, nm_cp, nm_sa31, nm_sa7, nm_m127, nm_m2, nm_nz, nm_nzk, nm_eq32, nm_nzf, if_true, if_false, ↓reduceIte, if_pos, if_neg])
  refine Eq.trans em ?_
  show df_X9_next_101 n (m + 1) (nI (c q)) (uC BC (eT c e q) kd q nm) = _
  generalize eT c e q = y at e1 e2 e3
  show dF_X9_next_101 n (df_X9_next_101 n m) (nI (c q)) (uC BC y kd q nm) = _
  unfold dF_X9_next_101
  by_cases yl : y < e
  · have tk := htC y (by omega)
    have y127 := h127 y
    have ik := in_9 n (c := c y) (by omega)
    rw [e3 yl] at ik
    have ik : df_X9_isInName n (nI (c y)) () = some (nI 0, ()) := ik
    have le : ¬ e ≤ y := by omega
    simp (disch := (first | assumption | decide | omega)) only [uC_i0, uC_i1, uC_i2, uC_i3, uC_i4, uC_r, uC_o, uC_w0, uC_w2, uC_w3, uC_w4, hO, o8, h1, tk, ik, eq_self, Nat.reduceEqDiff, Nat.reduceLeDiff, nl_0, no_1, no_1024, pk_mul, nI_add, nm_ck, nI_clamp, nI_ltI, nI_leI, nI_eq, nb_b2, nb_b1, ↓nb_let, nm_z0, nm_z1, nb_II, nb_IR, nb_RI, nb_RR, nm_IL, nm_IQ, nm_RL, nm_RQ, nm_LI, nm_LR, nm_LL, nm_LQ, nm_QI, nm_QR, nm_QL, nm_QQ, nm_rr, nm_ii, nm_eqm, not_false_eq_true, pk_sub, nm_div, nm_shl, nm_shr, nm_ush, nm_or8, nm_or64, nm_or256, nm_m1, nm_m3, nm_m7, nm_m15, nm_m31, nm_m63, nm_m255, nm_m511, nm_m1023, nm_m2047, nm_m65535, Nat.reduceMod, Nat.reducePow, Nat.reduceAdd, Nat.reduceSub, Nat.reduceMul, nm_bo, nm_bi, nm_rc, nm_ic, nm_ri, nm_rl, nm_rq, nm_ql, nm_qi, nm_li, nm_us, nm_uu, nm_cp, nm_sa31, nm_sa7, nm_m127, nm_m2, nm_nz, nm_nzk, nm_eq32, nm_nzf, if_true, if_false, ↓reduceIte, if_pos, if_neg]
  · have yl : y = e := by omega
    subst yl
    simp (disch := (first | assumption | decide | omega)) only [uC_i0, uC_i1, uC_i2, uC_i3, uC_i4, uC_r, uC_o, uC_w0, uC_w2, uC_w3, uC_w4, hO, o8, h1, eq_self, Nat.reduceEqDiff, Nat.reduceLeDiff, no_1, no_1024, pk_mul, nI_add, nm_ck, nI_clamp, nI_ltI, nI_leI, nI_eq, nb_b2, nb_b1, ↓nb_let, nm_z0, nm_z1, nb_II, nb_IR, nb_RI, nb_RR, nm_IL, nm_IQ, nm_RL, nm_RQ, nm_LI, nm_LR, nm_LL, nm_LQ, nm_QI, nm_QR, nm_QL, nm_QQ, nm_rr, nm_ii, nm_eqm, not_false_eq_true, pk_sub, nm_div, nm_shl, nm_shr, nm_ush, nm_or8, nm_or64, nm_or256, nm_m1, nm_m3, nm_m7, nm_m15, nm_m31, nm_m63, nm_m255, nm_m511, nm_m1023, nm_m2047, nm_m65535, Nat.reduceMod, Nat.reducePow, Nat.reduceAdd, Nat.reduceSub, Nat.reduceMul, nm_bo, nm_bi, nm_rc, nm_ic, nm_ri, nm_rl, nm_rq, nm_ql, nm_qi, nm_li, nm_us, nm_uu, nm_cp, nm_sa31, nm_sa7, nm_m127, nm_m2, nm_nz, nm_nzk, nm_eq32, nm_nzf, if_true, if_false, ↓reduceIte, if_pos, if_neg]
/-- the reference: past its names' letters -/
theorem pl_13 {n L e : Nat} {c : Nat → Nat} {BC BR : St} (hT : atx n L e c BC BR) (q ap tk fr to : Nat) (nm : Int32) (hq : q ≤ e) : df_X13_plain n (nI q) (uR BR ap tk fr to nm) = some (nI (eT c e q), uR BR ap tk fr to nm) := by
  obtain ⟨hn, hL, heL, h127, hend, hce, hO, h1, htC, h0, htR, hch⟩ := id hT
  obtain ⟨e1, e2, e3, e4⟩ := eT_1 c hq
  obtain ⟨m, em⟩ := nm_ls (fun g i => df_X13_plain_2 n g (nI i) (uR BR ap tk fr to nm)) (fun i => !aP (c i)) q (e - q) n (by omega) (fun k m k1 k2 k3 => by
    have k3 : (!aP (c k)) = false := k3
    have hk : aP (c k) = true := by
      cases hh : aP (c k) with
      | true => rfl
      | false => rw [hh] at k3; exact absurd k3 (by decide)
    have k127 := h127 k
    have ik := ip_13 n (c := c k) (by omega)
    rw [hk] at ik
    have ca := ca_13 hT k ap tk fr to nm (by omega)
    show dF_X13_plain_2 n (df_X13_plain_2 n m) (nI k) (uR BR ap tk fr to nm) = df_X13_plain_2 n m (nI (k + 1)) (uR BR ap tk fr to nm)
    unfold dF_X13_plain_2
    rw [ca, nb_b2, ik, nb_b2, if_neg (show ¬ bI true = (0 : Int32) by decide), nb_let, show nI k + Int32.ofInt 1 = nI (k + 1) by rw [show Int32.ofInt 1 = nI 1 from rfl, nI_add]])
  refine Eq.trans (show _ = df_X13_plain_2 n n (nI q) (uR BR ap tk fr to nm) from rfl) (Eq.trans em ?_)
  show df_X13_plain_2 n (m + 1) (nI (eT c e q)) (uR BR ap tk fr to nm) = _
  have ec : aP (c (eT c e q)) = false := by
    by_cases yl : eT c e q < e
    · exact e3 yl
    · rw [show eT c e q = e by omega, hce]; exact aP10
  generalize eT c e q = y at e1 e2 ec
  have y127 := h127 y
  have ik := ip_13 n (c := c y) (by omega)
  rw [ec] at ik
  have ca := ca_13 hT y ap tk fr to nm (by omega)
  show dF_X13_plain_2 n (df_X13_plain_2 n m) (nI y) (uR BR ap tk fr to nm) = _
  unfold dF_X13_plain_2
  rw [ca, nb_b2, ik, nb_b2, if_pos (show bI false = (0 : Int32) from rfl)]
theorem bad_13 (n : Nat) (BR : St) (ap tk fr to : Nat) (nm : Int32) : df_X13_bad n (uR BR ap tk fr to nm) = some (uR BR ap 5 fr fr nm) := by
  simp (disch := (first | assumption | decide | omega)) only [df_X13_bad_0, df_X13_bad, uR_i0, uR_i7, uR_i8, uR_i9, uR_i10, uR_i11, uR_r, uR_w7, uR_w8, uR_w9, uR_w10, uR_w11, eq_self, Nat.reduceEqDiff, Nat.reduceLeDiff, nl_5, nl_8, nl_9, nl_10, no_1, no_1024, pk_mul, nI_add, nm_ck, nI_clamp, nI_ltI, nI_leI, nI_eq, nb_b2, nb_b1, ↓nb_let, nm_z0, nm_z1, nb_II, nb_IR, nb_RI, nb_RR, nm_IL, nm_IQ, nm_RL, nm_RQ, nm_LI, nm_LR, nm_LL, nm_LQ, nm_QI, nm_QR, nm_QL, nm_QQ, nm_rr, nm_ii, nm_eqm, not_false_eq_true, pk_sub, nm_div, nm_shl, nm_shr, nm_ush, nm_or8, nm_or64, nm_or256, nm_m1, nm_m3, nm_m7, nm_m15, nm_m31, nm_m63, nm_m255, nm_m511, nm_m1023, nm_m2047, nm_m65535, Nat.reduceMod, Nat.reducePow, Nat.reduceAdd, Nat.reduceSub, Nat.reduceMul, nm_bo, nm_bi, nm_rc, nm_ic, nm_ri, nm_rl, nm_rq, nm_ql, nm_qi, nm_li, nm_us, nm_uu, nm_cp, nm_sa31, nm_sa7, nm_m127, nm_m2, nm_nz, nm_nzk, nm_eq32, nm_nzf, if_true, if_false, ↓reduceIte, if_pos, if_neg]
/-- names -/
theorem ak_N {n L e : Nat} {c : Nat → Nat} {BC BR : St} (hT : atx n L e c BC BR) (q kd fr : Nat) (nm : Int32) (hq : q < e) (hp : aP (c q) = true) (hd : aD (c q) = false) : df_X9_next_52 n (uC BC q kd fr nm) = some (uC BC (eT c e q) (if 31 < eT c e q - q then 6 else 1) q nm) := by
  have h127 := hT.2.2.2.1 q
  have h35 : ¬ c q = 35 := fun z => by rw [z] at hp; exact absurd hp (by decide)
  have e0 := eT_p c hq hp
  have e2 := (eT_1 c (Nat.le_of_lt hq)).2.1
  have hL := hT.2.1
  have heL := hT.2.2.1
  rw [ak_1 hT q kd fr nm hq h35]
  generalize eT c e q = y at e0 e2
  have w : nI y - nI q = nI (y - q) := by rw [pk_sub (by omega)]
  have s1 : df_X9_next_140 n (nI (c q)) (uC BC y kd q nm) = df_X9_next_159 n (nI (c q)) (uC BC y kd q nm) := by
    by_cases a : c q < 48
    · simp (disch := (first | assumption | decide | omega)) only [df_X9_next_140, eq_self, Nat.reduceEqDiff, Nat.reduceLeDiff, nl_48, nl_57, no_1, no_1024, pk_mul, nI_add, nm_ck, nI_clamp, nI_ltI, nI_leI, nI_eq, nb_b2, nb_b1, ↓nb_let, nm_z0, nm_z1, nb_II, nb_IR, nb_RI, nb_RR, nm_IL, nm_IQ, nm_RL, nm_RQ, nm_LI, nm_LR, nm_LL, nm_LQ, nm_QI, nm_QR, nm_QL, nm_QQ, nm_rr, nm_ii, nm_eqm, not_false_eq_true, pk_sub, nm_div, nm_shl, nm_shr, nm_ush, nm_or8, nm_or64, nm_or256, nm_m1, nm_m3, nm_m7, nm_m15, nm_m31, nm_m63, nm_m255, nm_m511, nm_m1023, nm_m2047, nm_m65535, Nat.reduceMod, Nat.reducePow, Nat.reduceAdd, Nat.reduceSub, Nat.reduceMul, nm_bo, nm_bi, nm_rc, nm_ic, nm_ri, nm_rl, nm_rq, nm_ql, nm_qi, nm_li, nm_us, nm_uu, nm_cp, nm_sa31, nm_sa7, nm_m127, nm_m2, nm_nz, nm_nzk, nm_eq32, nm_nzf, if_true, if_false, ↓reduceIte, if_pos, if_neg]
    · have b : 57 < c q := Classical.byContradiction fun b => by
        have := aD_v.mpr (show 48 ≤ c q ∧ c q ≤ 57 by omega)
        rw [hd] at this
        exact absurd this (by decide)
      simp (disch := (first | assumption | decide | omega)) only [df_X9_next_140, eq_self, Nat.reduceEqDiff, Nat.reduceLeDiff, nl_48, nl_57, no_1, no_1024, pk_mul, nI_add, nm_ck, nI_clamp, nI_ltI, nI_leI, nI_eq, nb_b2, nb_b1, ↓nb_let, nm_z0, nm_z1, nb_II, nb_IR, nb_RI, nb_RR, nm_IL, nm_IQ, nm_RL, nm_RQ, nm_LI, nm_LR, nm_LL, nm_LQ, nm_QI, nm_QR, nm_QL, nm_QQ, nm_rr, nm_ii, nm_eqm, not_false_eq_true, pk_sub, nm_div, nm_shl, nm_shr, nm_ush, nm_or8, nm_or64, nm_or256, nm_m1, nm_m3, nm_m7, nm_m15, nm_m31, nm_m63, nm_m255, nm_m511, nm_m1023, nm_m2047, nm_m65535, Nat.reduceMod, Nat.reducePow, Nat.reduceAdd, Nat.reduceSub, Nat.reduceMul, nm_bo, nm_bi, nm_rc, nm_ic, nm_ri, nm_rl, nm_rq, nm_ql, nm_qi, nm_li, nm_us, nm_uu, nm_cp, nm_sa31, nm_sa7, nm_m127, nm_m2, nm_nz, nm_nzk, nm_eq32, nm_nzf, if_true, if_false, ↓reduceIte, if_pos, if_neg]
  rw [s1]
  have le : ¬ y ≤ q := by omega
  by_cases l : 31 < y - q
  · rw [if_pos l]
    simp (disch := (first | assumption | decide | omega)) only [df_X9_next_159, df_X9_next_191, df_X9_next_228, uC_i0, uC_i1, uC_i2, uC_i3, uC_i4, uC_r, uC_o, uC_w0, uC_w2, uC_w3, uC_w4, w, eq_self, Nat.reduceEqDiff, Nat.reduceLeDiff, nl_0, nl_1, nl_2, nl_3, nl_6, nl_31, nl_34, nl_39, no_1, no_1024, pk_mul, nI_add, nm_ck, nI_clamp, nI_ltI, nI_leI, nI_eq, nb_b2, nb_b1, ↓nb_let, nm_z0, nm_z1, nb_II, nb_IR, nb_RI, nb_RR, nm_IL, nm_IQ, nm_RL, nm_RQ, nm_LI, nm_LR, nm_LL, nm_LQ, nm_QI, nm_QR, nm_QL, nm_QQ, nm_rr, nm_ii, nm_eqm, not_false_eq_true, pk_sub, nm_div, nm_shl, nm_shr, nm_ush, nm_or8, nm_or64, nm_or256, nm_m1, nm_m3, nm_m7, nm_m15, nm_m31, nm_m63, nm_m255, nm_m511, nm_m1023, nm_m2047, nm_m65535, Nat.reduceMod, Nat.reducePow, Nat.reduceAdd, Nat.reduceSub, Nat.reduceMul, nm_bo, nm_bi, nm_rc, nm_ic, nm_ri, nm_rl, nm_rq, nm_ql, nm_qi, nm_li, nm_us, nm_uu, nm_cp, nm_sa31, nm_sa7, nm_m127, nm_m2, nm_nz, nm_nzk, nm_eq32, nm_nzf, if_true, if_false, ↓reduceIte, if_pos, if_neg]
  · rw [if_neg l]
    simp (disch := (first | assumption | decide | omega)) only [df_X9_next_159, df_X9_next_191, df_X9_next_228, uC_i0, uC_i1, uC_i2, uC_i3, uC_i4, uC_r, uC_o, uC_w0, uC_w2, uC_w3, uC_w4, w, eq_self, Nat.reduceEqDiff, Nat.reduceLeDiff, nl_0, nl_1, nl_2, nl_3, nl_6, nl_31, nl_34, nl_39, no_1, no_1024, pk_mul, nI_add, nm_ck, nI_clamp, nI_ltI, nI_leI, nI_eq, nb_b2, nb_b1, ↓nb_let, nm_z0, nm_z1, nb_II, nb_IR, nb_RI, nb_RR, nm_IL, nm_IQ, nm_RL, nm_RQ, nm_LI, nm_LR, nm_LL, nm_LQ, nm_QI, nm_QR, nm_QL, nm_QQ, nm_rr, nm_ii, nm_eqm, not_false_eq_true, pk_sub, nm_div, nm_shl, nm_shr, nm_ush, nm_or8, nm_or64, nm_or256, nm_m1, nm_m3, nm_m7, nm_m15, nm_m31, nm_m63, nm_m255, nm_m511, nm_m1023, nm_m2047, nm_m65535, Nat.reduceMod, Nat.reducePow, Nat.reduceAdd, Nat.reduceSub, Nat.reduceMul, nm_bo, nm_bi, nm_rc, nm_ic, nm_ri, nm_rl, nm_rq, nm_ql, nm_qi, nm_li, nm_us, nm_uu, nm_cp, nm_sa31, nm_sa7, nm_m127, nm_m2, nm_nz, nm_nzk, nm_eq32, nm_nzf, if_true, if_false, ↓reduceIte, if_pos, if_neg]
theorem as_N {n L e : Nat} {c : Nat → Nat} {BC BR : St} (hT : atx n L e c BC BR) {G : St → Option St} (q tk fr to : Nat) (nm : Int32) (hq : q < e) (hp : aP (c q) = true) (hd : aD (c q) = false) : dF_X13_scan_0 n G (uR BR q tk fr to nm) = some (if 31 < eT c e q - q then uR BR q 5 q q nm else uR BR (eT c e q) 1 q (eT c e q) nm) := by
  have h127 := hT.2.2.2.1 q
  have hL := hT.2.1
  have heL := hT.2.2.1
  have nb : ¬ (c q = 32 ∨ c q = 9) := fun z => by rcases z with z | z <;> (rw [z] at hp; exact absurd hp (by decide))
  have nE : ¬ (c q = 10 ∨ c q = 35) := fun z => by rcases z with z | z <;> (rw [z] at hp; exact absurd hp (by decide))
  rw [as_0 hT q tk fr to nm (Nat.le_of_lt hq) nb, if_neg nE, if_neg (show ¬ aD (c q) = true by rw [hd]; decide), if_pos hp]
  have pl := pl_13 hT q q tk q (q + 1) nm (Nat.le_of_lt hq)
  have e0 := eT_p c hq hp
  have e2 := (eT_1 c (Nat.le_of_lt hq)).2.1
  generalize eT c e q = y at e0 e2 pl
  have w : nI y - nI q = nI (y - q) := by rw [pk_sub (by omega)]
  have bd := bad_13 n BR q 1 q y nm
  by_cases l : 31 < y - q
  · rw [if_pos l]
    simp (disch := (first | assumption | decide | omega)) only [df_X13_scan_348, uR_i0, uR_i7, uR_i8, uR_i9, uR_i10, uR_i11, uR_r, uR_w7, uR_w8, uR_w9, uR_w10, uR_w11, pl, w, bd, eq_self, Nat.reduceEqDiff, Nat.reduceLeDiff, nl_0, nl_1, nl_7, nl_10, nl_31, no_1, no_1024, pk_mul, nI_add, nm_ck, nI_clamp, nI_ltI, nI_leI, nI_eq, nb_b2, nb_b1, ↓nb_let, nm_z0, nm_z1, nb_II, nb_IR, nb_RI, nb_RR, nm_IL, nm_IQ, nm_RL, nm_RQ, nm_LI, nm_LR, nm_LL, nm_LQ, nm_QI, nm_QR, nm_QL, nm_QQ, nm_rr, nm_ii, nm_eqm, not_false_eq_true, pk_sub, nm_div, nm_shl, nm_shr, nm_ush, nm_or8, nm_or64, nm_or256, nm_m1, nm_m3, nm_m7, nm_m15, nm_m31, nm_m63, nm_m255, nm_m511, nm_m1023, nm_m2047, nm_m65535, Nat.reduceMod, Nat.reducePow, Nat.reduceAdd, Nat.reduceSub, Nat.reduceMul, nm_bo, nm_bi, nm_rc, nm_ic, nm_ri, nm_rl, nm_rq, nm_ql, nm_qi, nm_li, nm_us, nm_uu, nm_cp, nm_sa31, nm_sa7, nm_m127, nm_m2, nm_nz, nm_nzk, nm_eq32, nm_nzf, if_true, if_false, ↓reduceIte, if_pos, if_neg]
  · rw [if_neg l]
    simp (disch := (first | assumption | decide | omega)) only [df_X13_scan_348, uR_i0, uR_i7, uR_i8, uR_i9, uR_i10, uR_i11, uR_r, uR_w7, uR_w8, uR_w9, uR_w10, uR_w11, pl, w, bd, eq_self, Nat.reduceEqDiff, Nat.reduceLeDiff, nl_0, nl_1, nl_7, nl_10, nl_31, no_1, no_1024, pk_mul, nI_add, nm_ck, nI_clamp, nI_ltI, nI_leI, nI_eq, nb_b2, nb_b1, ↓nb_let, nm_z0, nm_z1, nb_II, nb_IR, nb_RI, nb_RR, nm_IL, nm_IQ, nm_RL, nm_RQ, nm_LI, nm_LR, nm_LL, nm_LQ, nm_QI, nm_QR, nm_QL, nm_QQ, nm_rr, nm_ii, nm_eqm, not_false_eq_true, pk_sub, nm_div, nm_shl, nm_shr, nm_ush, nm_or8, nm_or64, nm_or256, nm_m1, nm_m3, nm_m7, nm_m15, nm_m31, nm_m63, nm_m255, nm_m511, nm_m1023, nm_m2047, nm_m65535, Nat.reduceMod, Nat.reducePow, Nat.reduceAdd, Nat.reduceSub, Nat.reduceMul, nm_bo, nm_bi, nm_rc, nm_ic, nm_ri, nm_rl, nm_rq, nm_ql, nm_qi, nm_li, nm_us, nm_uu, nm_cp, nm_sa31, nm_sa7, nm_m127, nm_m2, nm_nz, nm_nzk, nm_eq32, nm_nzf, if_true, if_false, ↓reduceIte, if_pos, if_neg]

/-- numbers, in both -/
def nuO (b : Nat) (c : Nat → Nat) : Nat → Nat → Nat → Option Nat
  | 0, _, a => some a
  | k + 1, i, a => if dgv (c i) < b ∧ a * b + dgv (c i) < 2 ^ 32 then nuO b c k (i + 1) (a * b + dgv (c i)) else none
def oL (o : Option Nat) : Int64 := match o with | some x => Int64.ofNat x | none => -1
def cN2 (BC : St) (y q : Nat) (nm : Int32) (o : Option Nat) : Option St := match o with | some x => some (uC BC y 2 q (nI x)) | none => some (uC BC y 6 q nm)
def cWt (BC : St) (y q : Nat) (nm : Int32) (o : Option (Nat × Nat)) : St := match o with | some w => uC BC y w.1 q (nI w.2) | none => uC BC y 6 q nm
def rW (BR : St) (ap y q : Nat) (x' : Int32) (o : Option (Nat × Nat)) : St := match o with | some w => uR BR ap w.1 q y (nI w.2) | none => uR BR q 5 q q x'
theorem or_32 : ∀ c : Fin 128, nI c.1 ||| nI 32 = nI (c.1 ||| 32) := by decide +kernel
theorem or_v : ∀ c : Fin 128, ((97 ≤ c.1 ||| 32 ∧ c.1 ||| 32 ≤ 102) → (c.1 ||| 32) - 97 + 10 = dgv c.1) ∧ (¬ (97 ≤ c.1 ||| 32 ∧ c.1 ||| 32 ≤ 102) → 57 < c.1 → dgv c.1 = 99) ∧ c.1 ||| 32 < 128 := by decide +kernel
theorem dgv_d {c : Nat} (h : 48 ≤ c) (h2 : c ≤ 57) : dgv c = c - 48 := if_pos ⟨h, h2⟩
theorem dgv_s {c : Nat} (h : c < 48) : dgv c = 99 := by
  unfold dgv
  rw [if_neg (by omega), if_neg (by omega), if_neg (by omega)]
theorem dgv_lt : ∀ c : Fin 128, dgv c.1 < 100 := by decide +kernel
theorem an_255 (n : Nat) (G : Int32 → Int64 → Int32 → St → Option St) (b d a i : Nat) (S : St) (hb : b < 20) (hd : d < b) (ha : a < 2 ^ 32) (hi : i < 2 ^ 30) : df_X9_readNumber_255 n G (nI b) (Int64.ofNat a) (nI i) (nI d) S = if a * b + d < 2 ^ 32 then G (nI b) (Int64.ofNat (a * b + d)) (nI (i + 1)) S else df_X9_readNumber_288 n S := by
  have hm : a * b ≤ 2 ^ 32 * 20 := Nat.mul_le_mul (Nat.le_of_lt ha) (Nat.le_of_lt hb)
  have e1 := lma a b d (by omega) (by omega)
  have cm := (nlb (a * b + d) (by omega)).1
  have w : nI i + Int32.ofInt 1 = nI (i + 1) := by rw [show Int32.ofInt 1 = nI 1 from rfl, nI_add]
  unfold df_X9_readNumber_255
  rw [nb_let, e1, if_neg (show ¬ nI d < 0 from fun z => by have z : nI d < nI 0 := z; rw [nI_ltI (by omega) (by omega)] at z; omega), if_neg (show ¬ nI b ≤ nI d from fun z => by rw [nI_leI (by omega) (by omega)] at z; omega)]
  by_cases y : a * b + d < 2 ^ 32
  · rw [if_pos y, if_pos (show lg_cmp (Int64.ofNat (a * b + d)) 4294967295 ≤ 0 from cm.mpr y), nb_let, w]
  · rw [if_neg y, if_neg (show ¬ lg_cmp (Int64.ofNat (a * b + d)) 4294967295 ≤ 0 from fun z => y (cm.mp z))]
theorem an_255b (n : Nat) (G : Int32 → Int64 → Int32 → St → Option St) (b : Nat) (d : Int32) (x : Int64) (i : Int32) (S : St) (h : d < 0 ∨ nI b ≤ d) : df_X9_readNumber_255 n G (nI b) x i d S = df_X9_readNumber_288 n S := by
  unfold df_X9_readNumber_255
  rw [nb_let]
  by_cases y : d < 0
  · rw [if_pos y]
  · rw [if_neg y, if_pos (h.resolve_left y)]
theorem an_288 (n : Nat) (BC : St) (ap kd fr : Nat) (nm : Int32) : df_X9_readNumber_288 n (uC BC ap kd fr nm) = some (uC BC ap 6 fr nm) := by
  simp (disch := (first | assumption | decide | omega)) only [df_X9_readNumber_288, uC_i0, uC_i1, uC_i2, uC_i3, uC_i4, uC_r, uC_o, uC_w0, uC_w2, uC_w3, uC_w4, eq_self, Nat.reduceEqDiff, Nat.reduceLeDiff, nl_2, nl_6, no_1, no_1024, pk_mul, nI_add, nm_ck, nI_clamp, nI_ltI, nI_leI, nI_eq, nb_b2, nb_b1, ↓nb_let, nm_z0, nm_z1, nb_II, nb_IR, nb_RI, nb_RR, nm_IL, nm_IQ, nm_RL, nm_RQ, nm_LI, nm_LR, nm_LL, nm_LQ, nm_QI, nm_QR, nm_QL, nm_QQ, nm_rr, nm_ii, nm_eqm, not_false_eq_true, pk_sub, nm_div, nm_shl, nm_shr, nm_ush, nm_or8, nm_or64, nm_or256, nm_m1, nm_m3, nm_m7, nm_m15, nm_m31, nm_m63, nm_m255, nm_m511, nm_m1023, nm_m2047, nm_m65535, Nat.reduceMod, Nat.reducePow, Nat.reduceAdd, Nat.reduceSub, Nat.reduceMul, nm_bo, nm_bi, nm_rc, nm_ic, nm_ri, nm_rl, nm_rq, nm_ql, nm_qi, nm_li, nm_us, nm_uu, nm_cp, nm_sa31, nm_sa7, nm_m127, nm_m2, nm_nz, nm_nzk, nm_eq32, nm_nzf, if_true, if_false, ↓reduceIte, if_pos, if_neg]
theorem an_187 {n L e : Nat} {c : Nat → Nat} {BC BR : St} (hT : atx n L e c BC BR) (m b y i q : Nat) (x : Int64) (nm : Int32) (hy : y ≤ e) (hi : i < y) : df_X9_readNumber_187 n (m + 1) (nI b) x (nI i) (uC BC y 2 q nm) = if c i ≤ 57 then df_X9_readNumber_255 n (df_X9_readNumber_187 n m) (nI b) x (nI i) (nI (c i) - 48) (uC BC y 2 q nm) else if 97 ≤ c i ||| 32 ∧ c i ||| 32 ≤ 102 then df_X9_readNumber_255 n (df_X9_readNumber_187 n m) (nI b) x (nI i) (nI (dgv (c i))) (uC BC y 2 q nm) else df_X9_readNumber_255 n (df_X9_readNumber_187 n m) (nI b) x (nI i) (nI b) (uC BC y 2 q nm) := by
  obtain ⟨hn, hL, heL, h127, hend, hce, hO, h1, htC, h0, htR, hch⟩ := hT
  have t := htC i (by omega)
  have i127 := h127 i
  have ov := or_v ⟨c i, by omega⟩
  have o3 := or_32 ⟨c i, by omega⟩
  have o3 : nI (c i) ||| 32 = nI (c i ||| 32) := o3
  have o1 : (97 ≤ c i ||| 32 ∧ c i ||| 32 ≤ 102) → (c i ||| 32) - 97 + 10 = dgv (c i) := ov.1
  have o2 : c i ||| 32 < 128 := ov.2.2
  show dF_X9_readNumber_187 n (df_X9_readNumber_187 n m) (nI b) x (nI i) (uC BC y 2 q nm) = _
  unfold dF_X9_readNumber_187
  rw [uC_i0, if_neg (show ¬ nI y ≤ nI i from fun z => by rw [nI_leI (by omega) (by omega)] at z; omega), uC_o, hO, o8, nm_ck (by omega) (by omega), uC_r, nI_clamp (by omega), t, nb_let, nb_let]
  by_cases a : c i ≤ 57
  · rw [if_pos a, if_pos (show nI (c i) ≤ 57 by show nI (c i) ≤ nI 57; rw [nI_leI (by omega) (by omega)]; exact a)]
  · rw [if_neg a, if_neg (show ¬ nI (c i) ≤ 57 from fun z => a (by have z : nI (c i) ≤ nI 57 := z; rw [nI_leI (by omega) (by omega)] at z; exact z)), nb_let, o3]
    generalize c i ||| 32 = w at o1 o2
    by_cases d : 97 ≤ w
    · rw [if_neg (show ¬ nI w < 97 from fun z => by have z : nI w < nI 97 := z; rw [nI_ltI (by omega) (by omega)] at z; omega)]
      by_cases f : w ≤ 102
      · rw [if_pos (show 97 ≤ w ∧ w ≤ 102 from ⟨d, f⟩), if_neg (show ¬ 102 < nI w from fun z => by have z : nI 102 < nI w := z; rw [nI_ltI (by omega) (by omega)] at z; omega)]
        unfold df_X9_readNumber_253
        rw [show nI w - 97 + 10 = nI (w - 97 + 10) by rw [show (97 : Int32) = nI 97 from rfl, show (10 : Int32) = nI 10 from rfl, pk_sub d, nI_add], o1 ⟨d, f⟩]
      · rw [if_neg (show ¬ (97 ≤ w ∧ w ≤ 102) from fun z => f z.2), if_pos (show 102 < nI w by show nI 102 < nI w; rw [nI_ltI (by omega) (by omega)]; omega)]
        rfl
    · rw [if_neg (show ¬ (97 ≤ w ∧ w ≤ 102) from fun z => d z.1), if_pos (show nI w < 97 by show nI w < nI 97; rw [nI_ltI (by omega) (by omega)]; omega)]
      rfl
theorem an_t {n L e : Nat} {c : Nat → Nat} {BC BR : St} (hT : atx n L e c BC BR) (m b y i q a : Nat) (nm : Int32) (hy : y ≤ e) (hi : i < y) (hb : b = 2 ∨ b = 10 ∨ b = 16) (ha : a < 2 ^ 32) : df_X9_readNumber_187 n (m + 1) (nI b) (Int64.ofNat a) (nI i) (uC BC y 2 q nm) = if dgv (c i) < b ∧ a * b + dgv (c i) < 2 ^ 32 then df_X9_readNumber_187 n m (nI b) (Int64.ofNat (a * b + dgv (c i))) (nI (i + 1)) (uC BC y 2 q nm) else some (uC BC y 6 q nm) := by
  have hL := hT.2.1
  have heL := hT.2.2.1
  have i127 := hT.2.2.2.1 i
  have ov := or_v ⟨c i, by omega⟩
  have o2 : ¬ (97 ≤ c i ||| 32 ∧ c i ||| 32 ≤ 102) → 57 < c i → dgv (c i) = 99 := ov.2.1
  have dl := dgv_lt ⟨c i, by omega⟩
  have dl : dgv (c i) < 100 := dl
  have fin : ∀ d : Nat, d < 100 → (if d < b ∧ a * b + d < 2 ^ 32 then df_X9_readNumber_187 n m (nI b) (Int64.ofNat (a * b + d)) (nI (i + 1)) (uC BC y 2 q nm) else some (uC BC y 6 q nm)) = df_X9_readNumber_255 n (df_X9_readNumber_187 n m) (nI b) (Int64.ofNat a) (nI i) (nI d) (uC BC y 2 q nm) := fun d hd => by
    by_cases k : d < b
    · rw [an_255 n _ b d a i _ (by omega) k ha (by omega)]
      by_cases k2 : a * b + d < 2 ^ 32
      · rw [if_pos ⟨k, k2⟩, if_pos k2]
      · rw [if_neg (fun z => k2 z.2), if_neg k2, an_288]
    · rw [if_neg (fun z => k z.1), an_255b n _ b (nI d) _ _ _ (Or.inr (by rw [nI_leI (by omega) (by omega)]; omega)), an_288]
  rw [an_187 hT m b y i q (Int64.ofNat a) nm hy hi, fin (dgv (c i)) dl]
  by_cases k : c i ≤ 57
  · rw [if_pos k]
    by_cases k2 : 48 ≤ c i
    · rw [dgv_d k2 k, show nI (c i) - 48 = nI (c i - 48) from pk_sub k2]
    · rw [dgv_s (by omega), an_255b n _ b (nI 99) _ _ _ (Or.inr (by rw [nI_leI (by omega) (by omega)]; omega))]
      refine an_255b n _ b _ _ _ _ (Or.inl ?_)
      have e : ∀ c : Fin 48, nI c.1 - 48 < 0 := by decide +kernel
      exact e ⟨c i, by omega⟩
  · rw [if_neg k]
    by_cases k2 : 97 ≤ c i ||| 32 ∧ c i ||| 32 ≤ 102
    · rw [if_pos k2]
    · rw [if_neg k2, o2 k2 (by omega), an_255b n _ b (nI 99) _ _ _ (Or.inr (by rw [nI_leI (by omega) (by omega)]; omega))]
      exact an_255b n _ b (nI b) _ _ _ (Or.inr (by rw [nI_leI (by omega) (by omega)]; omega))
theorem i64_32 (a : Nat) : (Int64.ofNat a).toInt32 = nI a := Int64.toInt32_ofNat'
theorem an_all {n L e : Nat} {c : Nat → Nat} {BC BR : St} (hT : atx n L e c BC BR) (b y q : Nat) (nm : Int32) (hy : y ≤ e) (hb : b = 2 ∨ b = 10 ∨ b = 16) : ∀ k i a g : Nat, i + k = y → k < g → a < 2 ^ 32 → df_X9_readNumber_187 n g (nI b) (Int64.ofNat a) (nI i) (uC BC y 2 q nm) = cN2 BC y q nm (nuO b c k i a) := fun k => by
  have hL := hT.2.1
  have heL := hT.2.2.1
  induction k with
  | zero =>
    intro i a g hi hg ha
    obtain ⟨m, rfl⟩ : ∃ m : Nat, g = m + 1 := ⟨g - 1, by omega⟩
    rw [show i = y by omega]
    show dF_X9_readNumber_187 n (df_X9_readNumber_187 n m) (nI b) (Int64.ofNat a) (nI y) (uC BC y 2 q nm) = some (uC BC y 2 q (nI a))
    unfold dF_X9_readNumber_187
    rw [uC_i0, if_pos (show nI y ≤ nI y by rw [nI_leI (by omega) (by omega)]; omega), i64_32, uC_w4, nb_let]
  | succ k ih =>
    intro i a g hi hg ha
    obtain ⟨m, rfl⟩ : ∃ m : Nat, g = m + 1 := ⟨g - 1, by omega⟩
    rw [an_t hT m b y i q a nm hy (by omega) hb ha]
    show _ = cN2 BC y q nm ((if dgv (c i) < b ∧ a * b + dgv (c i) < 2 ^ 32 then nuO b c k (i + 1) (a * b + dgv (c i)) else none))
    by_cases h : dgv (c i) < b ∧ a * b + dgv (c i) < 2 ^ 32
    · rw [if_pos h, if_pos h]
      exact ih (i + 1) (a * b + dgv (c i)) m (by omega) (by omega) h.2
    · rw [if_neg h, if_neg h]
      rfl
/-- the reference's -/
theorem ar_m (n g y b i : Nat) (S : St) (hg : 0 < g) : df_X13_numeral_17 n g (nI y) (nI b) (-1) (nI i) S = some (-1, S) := by
  obtain ⟨m, rfl⟩ : ∃ m : Nat, g = m + 1 := ⟨g - 1, by omega⟩
  show dF_X13_numeral_17 n (df_X13_numeral_17 n m) (nI y) (nI b) (-1) (nI i) S = _
  unfold dF_X13_numeral_17 df_X13_numeral_90
  by_cases h : nI y ≤ nI i
  · rw [if_pos h]
  · rw [if_neg h, if_pos (show lg_cmp (-1) 0 < 0 by decide)]
theorem ar_all {n L e : Nat} {c : Nat → Nat} {BC BR : St} (hT : atx n L e c BC BR) (b y ap tk fr to : Nat) (nm : Int32) (hy : y ≤ e) (hb : b = 2 ∨ b = 10 ∨ b = 16) : ∀ k i a g : Nat, i + k = y → k + 1 < g → a < 2 ^ 32 → df_X13_numeral_17 n g (nI y) (nI b) (Int64.ofNat a) (nI i) (uR BR ap tk fr to nm) = some (oL (nuO b c k i a), uR BR ap tk fr to nm) := fun k => by
  obtain ⟨hn, hL, heL, h127, hend, hce, hO, h1, htC, h0, htR, hch⟩ := hT
  induction k with
  | zero =>
    intro i a g hi hg ha
    obtain ⟨m, rfl⟩ : ∃ m : Nat, g = m + 1 := ⟨g - 1, by omega⟩
    rw [show i = y by omega]
    show dF_X13_numeral_17 n (df_X13_numeral_17 n m) (nI y) (nI b) (Int64.ofNat a) (nI y) _ = some (Int64.ofNat a, _)
    unfold dF_X13_numeral_17 df_X13_numeral_90
    rw [if_pos (show nI y ≤ nI y by rw [nI_leI (by omega) (by omega)]; omega)]
  | succ k ih =>
    intro i a g hi hg ha
    obtain ⟨m, rfl⟩ : ∃ m : Nat, g = m + 1 := ⟨g - 1, by omega⟩
    have t := htR i (by omega)
    have i127 := h127 i
    have wo := wo_13 n (c := c i) (by omega)
    have dl : dgv (c i) < 100 := dgv_lt ⟨c i, by omega⟩
    have w : nI i + Int32.ofInt 1 = nI (i + 1) := by rw [show Int32.ofInt 1 = nI 1 from rfl, nI_add]
    have hm : a * b ≤ 2 ^ 32 * 20 := Nat.mul_le_mul (Nat.le_of_lt ha) (by omega)
    show _ = some (oL ((if dgv (c i) < b ∧ a * b + dgv (c i) < 2 ^ 32 then nuO b c k (i + 1) (a * b + dgv (c i)) else none)), _)
    have cz : ¬ lg_cmp (Int64.ofNat a) 0 < 0 := fun z => by
      have z : lg_cmp (Int64.ofNat a) 0 < nI 0 := z
      rw [lgA, Int64.toInt_ofNat_of_lt (by omega)] at z
      have z : (a : Int) < 0 := z
      omega
    have s1 : df_X13_numeral_17 n (m + 1) (nI y) (nI b) (Int64.ofNat a) (nI i) (uR BR ap tk fr to nm) = if b ≤ dgv (c i) then df_X13_numeral_63 n (df_X13_numeral_17 n m) (nI y) (nI b) (nI i) (-1) (uR BR ap tk fr to nm) else df_X13_numeral_63 n (df_X13_numeral_17 n m) (nI y) (nI b) (nI i) (Int64.ofNat a * (nI b).toInt64 + (nI (dgv (c i))).toInt64) (uR BR ap tk fr to nm) := by
      show dF_X13_numeral_17 n (df_X13_numeral_17 n m) (nI y) (nI b) (Int64.ofNat a) (nI i) (uR BR ap tk fr to nm) = _
      unfold dF_X13_numeral_17
      rw [if_neg (show ¬ nI y ≤ nI i from fun z => by rw [nI_leI (by omega) (by omega)] at z; omega), if_neg cz, nm_ck (by omega) (by omega), uR_r, nI_clamp (by omega), t, wo, nb_b2]
      by_cases h : b ≤ dgv (c i)
      · rw [if_pos h, if_pos (show nI b ≤ nI (dgv (c i)) by rw [nI_leI (by omega) (by omega)]; exact h)]
      · rw [if_neg h, if_neg (show ¬ nI b ≤ nI (dgv (c i)) from fun z => h (by rw [nI_leI (by omega) (by omega)] at z; exact z))]
    rw [s1]
    by_cases h : b ≤ dgv (c i)
    · rw [if_pos h, if_neg (show ¬ (dgv (c i) < b ∧ a * b + dgv (c i) < 2 ^ 32) from fun z => by omega)]
      unfold df_X13_numeral_63 df_X13_numeral_82
      rw [if_pos (show lg_cmp (-1) 4294967295 ≤ 0 by decide), nb_let, w]
      exact ar_m n m y b (i + 1) _ (by omega)
    · have e1 := lma a b (dgv (c i)) (by omega) (by omega)
      have cm := (nlb (a * b + dgv (c i)) (by omega)).1
      rw [if_neg h, e1]
      unfold df_X13_numeral_63 df_X13_numeral_82
      by_cases h2 : a * b + dgv (c i) < 2 ^ 32
      · rw [if_pos (show dgv (c i) < b ∧ a * b + dgv (c i) < 2 ^ 32 from ⟨by omega, h2⟩), if_pos (show lg_cmp (Int64.ofNat (a * b + dgv (c i))) 4294967295 ≤ 0 from cm.mpr h2), nb_let, w]
        exact ih (i + 1) (a * b + dgv (c i)) m (by omega) (by omega) h2
      · rw [if_neg (show ¬ (dgv (c i) < b ∧ a * b + dgv (c i) < 2 ^ 32) from fun z => h2 z.2), if_neg (show ¬ lg_cmp (Int64.ofNat (a * b + dgv (c i))) 4294967295 ≤ 0 from fun z => h2 (cm.mp z)), nb_let, w]
        exact ar_m n m y b (i + 1) _ (by omega)
theorem ar_1 {n L e : Nat} {c : Nat → Nat} {BC BR : St} (hT : atx n L e c BC BR) (b y ap tk fr to i : Nat) (nm : Int32) (hy : y ≤ e) (hb : b = 2 ∨ b = 10 ∨ b = 16) (hi : i < y) : df_X13_numeral n (nI i) (nI y) (nI b) (uR BR ap tk fr to nm) = some (oL (nuO b c (y - i) i 0), uR BR ap tk fr to nm) := by
  have hL := hT.2.1
  have heL := hT.2.2.1
  have hn := hT.1
  have a := ar_all hT b y ap tk fr to nm hy hb (y - i) i 0 n (by omega) (by omega) (by omega)
  unfold df_X13_numeral df_X13_numeral_0 df_X13_numeral_12
  rw [if_neg (show ¬ nI y ≤ nI i from fun z => by rw [nI_leI (by omega) (by omega)] at z; omega)]
  exact a
theorem ar_0 {n L e : Nat} {c : Nat → Nat} {BC BR : St} (hT : atx n L e c BC BR) (b y ap tk fr to : Nat) (nm : Int32) (hy : y ≤ e) : df_X13_numeral n (nI y) (nI y) (nI b) (uR BR ap tk fr to nm) = some (-1, uR BR ap tk fr to nm) := by
  have hL := hT.2.1
  have heL := hT.2.2.1
  have hn := hT.1
  unfold df_X13_numeral df_X13_numeral_0 df_X13_numeral_12
  rw [if_pos (show nI y ≤ nI y by rw [nI_leI (by omega) (by omega)]; omega)]
  exact ar_m n n y b y _ (by omega)
/-- a number's token -/
def nuT (c : Nat → Nat) (q y : Nat) : Option (Nat × Nat) := if y - q = 2 ∧ (c (q + 1) = 102 ∨ c (q + 1) = 98) then some (3, c q - 48) else Option.map (fun x => (2, x)) (if 2 < y - q ∧ c q = 48 ∧ c (q + 1) = 120 then nuO 16 c (y - (q + 2)) (q + 2) 0 else if 2 < y - q ∧ c q = 48 ∧ c (q + 1) = 98 then nuO 2 c (y - (q + 2)) (q + 2) 0 else nuO 10 c (y - q) q 0)
theorem nu_m {BC : St} {y q : Nat} {nm : Int32} (o : Option Nat) : cN2 BC y q nm o = some (cWt BC y q nm (Option.map (fun x => ((2 : Nat), x)) o)) := by
  cases o <;> rfl
theorem ak_D {n L e : Nat} {c : Nat → Nat} {BC BR : St} (hT : atx n L e c BC BR) (q kd fr : Nat) (nm : Int32) (hq : q < e) (hd : aD (c q) = true) : df_X9_next_52 n (uC BC q kd fr nm) = some (cWt BC (eT c e q) q nm (nuT c q (eT c e q))) := by
  obtain ⟨hn, hL, heL, h127, hend, hce, hO, h1, htC, h0, htR, hch⟩ := id hT
  have hp := aD_P hd
  have d9 := aD_v.mp hd
  rw [ak_1 hT q kd fr nm hq (by omega)]
  have e0 := eT_p c hq hp
  have e2 := (eT_1 c (Nat.le_of_lt hq)).2.1
  generalize eT c e q = y at e0 e2
  have w : nI y - nI q = nI (y - q) := by rw [pk_sub (by omega)]
  have t := htC q (by omega)
  have q127 := h127 q
  have s1 : df_X9_next_140 n (nI (c q)) (uC BC y kd q nm) = df_X9_readNumber n (uC BC y kd q nm) := by
    have a1 : ¬ c q < 48 := by omega
    have a2 : ¬ 57 < c q := by omega
    unfold df_X9_next_140
    rw [if_neg (show ¬ nI (c q) < 48 from fun z => by have z : nI (c q) < nI 48 := z; rw [nI_ltI (by omega) (by omega)] at z; omega), if_neg (show ¬ 57 < nI (c q) from fun z => by have z : nI 57 < nI (c q) := z; rw [nI_ltI (by omega) (by omega)] at z; omega)]
    cases df_X9_readNumber n (uC BC y kd q nm) <;> rfl
  rw [s1]
  have s10 : ∀ kd : Nat, df_X9_readNumber_185 n (nI 10) 0 (nI q) (uC BC y 2 q nm) = some (cWt BC y q nm (Option.map (fun x => ((2 : Nat), x)) (nuO 10 c (y - q) q 0))) := fun kd => by
    unfold df_X9_readNumber_185
    rw [← nu_m]
    exact an_all hT 10 y q nm e2 (Or.inr (Or.inl rfl)) (y - q) q 0 n (by omega) (by omega) (by omega)
  have sxx : ∀ b : Nat, b = 2 ∨ b = 10 ∨ b = 16 → 2 < y - q → df_X9_readNumber_172 n (nI b) 0 (uC BC y 2 q nm) = some (cWt BC y q nm (Option.map (fun x => ((2 : Nat), x)) (nuO b c (y - (q + 2)) (q + 2) 0))) := fun b hb hl => by
    unfold df_X9_readNumber_172 df_X9_readNumber_185
    rw [← nu_m, uC_i3, show nI q + 2 = nI (q + 2) by rw [show (2 : Int32) = nI 2 from rfl, nI_add]]
    exact an_all hT b y q nm e2 hb (y - (q + 2)) (q + 2) 0 n (by omega) (by omega) (by omega)
  have s16 := sxx 16 (Or.inr (Or.inr rfl))
  have s2 := sxx 2 (Or.inl rfl)
  have s10 := s10 kd
  unfold nuT
  by_cases l1 : y - q ≤ 1
  · rw [if_neg (by omega), if_neg (by omega), if_neg (by omega)]
    have l2 : ¬ y - q = 2 := by omega
    have l3 : y - q ≤ 2 := by omega
    rw [← s10]
    simp (disch := (first | assumption | decide | omega)) only [df_X9_readNumber, df_X9_readNumber_0, df_X9_readNumber_30, df_X9_readNumber_70, df_X9_readNumber_99, df_X9_readNumber_100, df_X9_readNumber_130, df_X9_readNumber_131, df_X9_readNumber_153, uC_i0, uC_i1, uC_i2, uC_i3, uC_i4, uC_r, uC_o, uC_w0, uC_w2, uC_w3, uC_w4, w, eq_self, Nat.reduceEqDiff, Nat.reduceLeDiff, nl_0, nl_1, nl_2, nl_3, nl_7, nl_8, nl_10, nl_16, nl_48, nl_98, nl_102, nl_120, nl_32768, no_1, no_1024, pk_mul, nI_add, nm_ck, nI_clamp, nI_ltI, nI_leI, nI_eq, nb_b2, nb_b1, ↓nb_let, nm_z0, nm_z1, nb_II, nb_IR, nb_RI, nb_RR, nm_IL, nm_IQ, nm_RL, nm_RQ, nm_LI, nm_LR, nm_LL, nm_LQ, nm_QI, nm_QR, nm_QL, nm_QQ, nm_rr, nm_ii, nm_eqm, not_false_eq_true, pk_sub, nm_div, nm_shl, nm_shr, nm_ush, nm_or8, nm_or64, nm_or256, nm_m1, nm_m3, nm_m7, nm_m15, nm_m31, nm_m63, nm_m255, nm_m511, nm_m1023, nm_m2047, nm_m65535, Nat.reduceMod, Nat.reducePow, Nat.reduceAdd, Nat.reduceSub, Nat.reduceMul, nm_bo, nm_bi, nm_rc, nm_ic, nm_ri, nm_rl, nm_rq, nm_ql, nm_qi, nm_li, nm_us, nm_uu, nm_cp, nm_sa31, nm_sa7, nm_m127, nm_m2, nm_nz, nm_nzk, nm_eq32, nm_nzf, if_true, if_false, ↓reduceIte, if_pos, if_neg]
  · have t1 := htC (q + 1) (by omega)
    have r127 := h127 (q + 1)
    by_cases l2 : y - q = 2
    · by_cases nr : c (q + 1) = 102 ∨ c (q + 1) = 98
      · rw [if_pos ⟨l2, nr⟩]
        have sb : nI (c q) - nI 48 = nI (c q - 48) := pk_sub (by omega)
        rcases nr with nr | nr
        · rw [nr] at t1
          simp (disch := (first | assumption | decide | omega)) only [df_X9_readNumber, df_X9_readNumber_0, df_X9_readNumber_30, df_X9_readNumber_48, uC_i0, uC_i1, uC_i2, uC_i3, uC_i4, uC_r, uC_o, uC_w0, uC_w2, uC_w3, uC_w4, hO, o8, w, t1, t, sb, l2, eq_self, Nat.reduceEqDiff, Nat.reduceLeDiff, nl_0, nl_1, nl_2, nl_3, nl_4, nl_7, nl_8, nl_48, nl_98, nl_102, nl_32768, no_1, no_1024, pk_mul, nI_add, nm_ck, nI_clamp, nI_ltI, nI_leI, nI_eq, nb_b2, nb_b1, ↓nb_let, nm_z0, nm_z1, nb_II, nb_IR, nb_RI, nb_RR, nm_IL, nm_IQ, nm_RL, nm_RQ, nm_LI, nm_LR, nm_LL, nm_LQ, nm_QI, nm_QR, nm_QL, nm_QQ, nm_rr, nm_ii, nm_eqm, not_false_eq_true, pk_sub, nm_div, nm_shl, nm_shr, nm_ush, nm_or8, nm_or64, nm_or256, nm_m1, nm_m3, nm_m7, nm_m15, nm_m31, nm_m63, nm_m255, nm_m511, nm_m1023, nm_m2047, nm_m65535, Nat.reduceMod, Nat.reducePow, Nat.reduceAdd, Nat.reduceSub, Nat.reduceMul, nm_bo, nm_bi, nm_rc, nm_ic, nm_ri, nm_rl, nm_rq, nm_ql, nm_qi, nm_li, nm_us, nm_uu, nm_cp, nm_sa31, nm_sa7, nm_m127, nm_m2, nm_nz, nm_nzk, nm_eq32, nm_nzf, if_true, if_false, ↓reduceIte, if_pos, if_neg]
          rfl
        · rw [nr] at t1
          simp (disch := (first | assumption | decide | omega)) only [df_X9_readNumber, df_X9_readNumber_0, df_X9_readNumber_30, df_X9_readNumber_48, uC_i0, uC_i1, uC_i2, uC_i3, uC_i4, uC_r, uC_o, uC_w0, uC_w2, uC_w3, uC_w4, hO, o8, w, t1, t, sb, l2, eq_self, Nat.reduceEqDiff, Nat.reduceLeDiff, nl_0, nl_1, nl_2, nl_3, nl_4, nl_7, nl_8, nl_48, nl_98, nl_102, nl_32768, no_1, no_1024, pk_mul, nI_add, nm_ck, nI_clamp, nI_ltI, nI_leI, nI_eq, nb_b2, nb_b1, ↓nb_let, nm_z0, nm_z1, nb_II, nb_IR, nb_RI, nb_RR, nm_IL, nm_IQ, nm_RL, nm_RQ, nm_LI, nm_LR, nm_LL, nm_LQ, nm_QI, nm_QR, nm_QL, nm_QQ, nm_rr, nm_ii, nm_eqm, not_false_eq_true, pk_sub, nm_div, nm_shl, nm_shr, nm_ush, nm_or8, nm_or64, nm_or256, nm_m1, nm_m3, nm_m7, nm_m15, nm_m31, nm_m63, nm_m255, nm_m511, nm_m1023, nm_m2047, nm_m65535, Nat.reduceMod, Nat.reducePow, Nat.reduceAdd, Nat.reduceSub, Nat.reduceMul, nm_bo, nm_bi, nm_rc, nm_ic, nm_ri, nm_rl, nm_rq, nm_ql, nm_qi, nm_li, nm_us, nm_uu, nm_cp, nm_sa31, nm_sa7, nm_m127, nm_m2, nm_nz, nm_nzk, nm_eq32, nm_nzf, if_true, if_false, ↓reduceIte, if_pos, if_neg]
          rfl
      · rw [if_neg (fun z => nr z.2), if_neg (by omega), if_neg (by omega), ← s10]
        have n1 : ¬ c (q + 1) = 102 := fun z => nr (Or.inl z)
        have n2 : ¬ c (q + 1) = 98 := fun z => nr (Or.inr z)
        simp (disch := (first | assumption | decide | omega)) only [df_X9_readNumber, df_X9_readNumber_0, df_X9_readNumber_30, df_X9_readNumber_70, df_X9_readNumber_99, df_X9_readNumber_100, df_X9_readNumber_130, df_X9_readNumber_131, df_X9_readNumber_153, uC_i0, uC_i1, uC_i2, uC_i3, uC_i4, uC_r, uC_o, uC_w0, uC_w2, uC_w3, uC_w4, hO, o8, w, t1, t, l2, n1, n2, eq_self, Nat.reduceEqDiff, Nat.reduceLeDiff, nl_0, nl_1, nl_2, nl_3, nl_7, nl_8, nl_10, nl_16, nl_48, nl_98, nl_102, nl_120, nl_32768, no_1, no_1024, pk_mul, nI_add, nm_ck, nI_clamp, nI_ltI, nI_leI, nI_eq, nb_b2, nb_b1, ↓nb_let, nm_z0, nm_z1, nb_II, nb_IR, nb_RI, nb_RR, nm_IL, nm_IQ, nm_RL, nm_RQ, nm_LI, nm_LR, nm_LL, nm_LQ, nm_QI, nm_QR, nm_QL, nm_QQ, nm_rr, nm_ii, nm_eqm, not_false_eq_true, pk_sub, nm_div, nm_shl, nm_shr, nm_ush, nm_or8, nm_or64, nm_or256, nm_m1, nm_m3, nm_m7, nm_m15, nm_m31, nm_m63, nm_m255, nm_m511, nm_m1023, nm_m2047, nm_m65535, Nat.reduceMod, Nat.reducePow, Nat.reduceAdd, Nat.reduceSub, Nat.reduceMul, nm_bo, nm_bi, nm_rc, nm_ic, nm_ri, nm_rl, nm_rq, nm_ql, nm_qi, nm_li, nm_us, nm_uu, nm_cp, nm_sa31, nm_sa7, nm_m127, nm_m2, nm_nz, nm_nzk, nm_eq32, nm_nzf, if_true, if_false, ↓reduceIte, if_pos, if_neg]
    · have l3 : ¬ y - q ≤ 2 := by omega
      rw [if_neg (fun z => l2 z.1)]
      by_cases z0 : c q = 48
      · rw [z0] at t
        by_cases x1 : c (q + 1) = 120
        · rw [if_pos ⟨by omega, z0, x1⟩, ← s16 (by omega)]
          rw [x1] at t1
          simp (disch := (first | assumption | decide | omega)) only [df_X9_readNumber, df_X9_readNumber_0, df_X9_readNumber_30, df_X9_readNumber_70, df_X9_readNumber_99, df_X9_readNumber_100, df_X9_readNumber_130, df_X9_readNumber_131, df_X9_readNumber_153, uC_i0, uC_i1, uC_i2, uC_i3, uC_i4, uC_r, uC_o, uC_w0, uC_w2, uC_w3, uC_w4, hO, o8, w, t1, t, l2, eq_self, Nat.reduceEqDiff, Nat.reduceLeDiff, nl_0, nl_1, nl_2, nl_3, nl_7, nl_8, nl_10, nl_16, nl_48, nl_98, nl_102, nl_120, nl_32768, no_1, no_1024, pk_mul, nI_add, nm_ck, nI_clamp, nI_ltI, nI_leI, nI_eq, nb_b2, nb_b1, ↓nb_let, nm_z0, nm_z1, nb_II, nb_IR, nb_RI, nb_RR, nm_IL, nm_IQ, nm_RL, nm_RQ, nm_LI, nm_LR, nm_LL, nm_LQ, nm_QI, nm_QR, nm_QL, nm_QQ, nm_rr, nm_ii, nm_eqm, not_false_eq_true, pk_sub, nm_div, nm_shl, nm_shr, nm_ush, nm_or8, nm_or64, nm_or256, nm_m1, nm_m3, nm_m7, nm_m15, nm_m31, nm_m63, nm_m255, nm_m511, nm_m1023, nm_m2047, nm_m65535, Nat.reduceMod, Nat.reducePow, Nat.reduceAdd, Nat.reduceSub, Nat.reduceMul, nm_bo, nm_bi, nm_rc, nm_ic, nm_ri, nm_rl, nm_rq, nm_ql, nm_qi, nm_li, nm_us, nm_uu, nm_cp, nm_sa31, nm_sa7, nm_m127, nm_m2, nm_nz, nm_nzk, nm_eq32, nm_nzf, if_true, if_false, ↓reduceIte, if_pos, if_neg]
        · rw [if_neg (fun z => x1 z.2.2)]
          by_cases b1 : c (q + 1) = 98
          · rw [if_pos ⟨by omega, z0, b1⟩, ← s2 (by omega)]
            rw [b1] at t1
            simp (disch := (first | assumption | decide | omega)) only [df_X9_readNumber, df_X9_readNumber_0, df_X9_readNumber_30, df_X9_readNumber_70, df_X9_readNumber_99, df_X9_readNumber_100, df_X9_readNumber_130, df_X9_readNumber_131, df_X9_readNumber_153, uC_i0, uC_i1, uC_i2, uC_i3, uC_i4, uC_r, uC_o, uC_w0, uC_w2, uC_w3, uC_w4, hO, o8, w, t1, t, l2, eq_self, Nat.reduceEqDiff, Nat.reduceLeDiff, nl_0, nl_1, nl_2, nl_3, nl_7, nl_8, nl_10, nl_16, nl_48, nl_98, nl_102, nl_120, nl_32768, no_1, no_1024, pk_mul, nI_add, nm_ck, nI_clamp, nI_ltI, nI_leI, nI_eq, nb_b2, nb_b1, ↓nb_let, nm_z0, nm_z1, nb_II, nb_IR, nb_RI, nb_RR, nm_IL, nm_IQ, nm_RL, nm_RQ, nm_LI, nm_LR, nm_LL, nm_LQ, nm_QI, nm_QR, nm_QL, nm_QQ, nm_rr, nm_ii, nm_eqm, not_false_eq_true, pk_sub, nm_div, nm_shl, nm_shr, nm_ush, nm_or8, nm_or64, nm_or256, nm_m1, nm_m3, nm_m7, nm_m15, nm_m31, nm_m63, nm_m255, nm_m511, nm_m1023, nm_m2047, nm_m65535, Nat.reduceMod, Nat.reducePow, Nat.reduceAdd, Nat.reduceSub, Nat.reduceMul, nm_bo, nm_bi, nm_rc, nm_ic, nm_ri, nm_rl, nm_rq, nm_ql, nm_qi, nm_li, nm_us, nm_uu, nm_cp, nm_sa31, nm_sa7, nm_m127, nm_m2, nm_nz, nm_nzk, nm_eq32, nm_nzf, if_true, if_false, ↓reduceIte, if_pos, if_neg]
          · rw [if_neg (fun z => b1 z.2.2), ← s10]
            simp (disch := (first | assumption | decide | omega)) only [df_X9_readNumber, df_X9_readNumber_0, df_X9_readNumber_30, df_X9_readNumber_70, df_X9_readNumber_99, df_X9_readNumber_100, df_X9_readNumber_130, df_X9_readNumber_131, df_X9_readNumber_153, uC_i0, uC_i1, uC_i2, uC_i3, uC_i4, uC_r, uC_o, uC_w0, uC_w2, uC_w3, uC_w4, hO, o8, w, t1, t, l2, x1, b1, eq_self, Nat.reduceEqDiff, Nat.reduceLeDiff, nl_0, nl_1, nl_2, nl_3, nl_7, nl_8, nl_10, nl_16, nl_48, nl_98, nl_102, nl_120, nl_32768, no_1, no_1024, pk_mul, nI_add, nm_ck, nI_clamp, nI_ltI, nI_leI, nI_eq, nb_b2, nb_b1, ↓nb_let, nm_z0, nm_z1, nb_II, nb_IR, nb_RI, nb_RR, nm_IL, nm_IQ, nm_RL, nm_RQ, nm_LI, nm_LR, nm_LL, nm_LQ, nm_QI, nm_QR, nm_QL, nm_QQ, nm_rr, nm_ii, nm_eqm, not_false_eq_true, pk_sub, nm_div, nm_shl, nm_shr, nm_ush, nm_or8, nm_or64, nm_or256, nm_m1, nm_m3, nm_m7, nm_m15, nm_m31, nm_m63, nm_m255, nm_m511, nm_m1023, nm_m2047, nm_m65535, Nat.reduceMod, Nat.reducePow, Nat.reduceAdd, Nat.reduceSub, Nat.reduceMul, nm_bo, nm_bi, nm_rc, nm_ic, nm_ri, nm_rl, nm_rq, nm_ql, nm_qi, nm_li, nm_us, nm_uu, nm_cp, nm_sa31, nm_sa7, nm_m127, nm_m2, nm_nz, nm_nzk, nm_eq32, nm_nzf, if_true, if_false, ↓reduceIte, if_pos, if_neg]
      · rw [if_neg (fun z => z0 z.2.1), if_neg (fun z => z0 z.2.1), ← s10]
        simp (disch := (first | assumption | decide | omega)) only [df_X9_readNumber, df_X9_readNumber_0, df_X9_readNumber_30, df_X9_readNumber_70, df_X9_readNumber_99, df_X9_readNumber_100, df_X9_readNumber_130, df_X9_readNumber_131, df_X9_readNumber_153, uC_i0, uC_i1, uC_i2, uC_i3, uC_i4, uC_r, uC_o, uC_w0, uC_w2, uC_w3, uC_w4, hO, o8, w, t1, t, l2, z0, eq_self, Nat.reduceEqDiff, Nat.reduceLeDiff, nl_0, nl_1, nl_2, nl_3, nl_7, nl_8, nl_10, nl_16, nl_48, nl_98, nl_102, nl_120, nl_32768, no_1, no_1024, pk_mul, nI_add, nm_ck, nI_clamp, nI_ltI, nI_leI, nI_eq, nb_b2, nb_b1, ↓nb_let, nm_z0, nm_z1, nb_II, nb_IR, nb_RI, nb_RR, nm_IL, nm_IQ, nm_RL, nm_RQ, nm_LI, nm_LR, nm_LL, nm_LQ, nm_QI, nm_QR, nm_QL, nm_QQ, nm_rr, nm_ii, nm_eqm, not_false_eq_true, pk_sub, nm_div, nm_shl, nm_shr, nm_ush, nm_or8, nm_or64, nm_or256, nm_m1, nm_m3, nm_m7, nm_m15, nm_m31, nm_m63, nm_m255, nm_m511, nm_m1023, nm_m2047, nm_m65535, Nat.reduceMod, Nat.reducePow, Nat.reduceAdd, Nat.reduceSub, Nat.reduceMul, nm_bo, nm_bi, nm_rc, nm_ic, nm_ri, nm_rl, nm_rq, nm_ql, nm_qi, nm_li, nm_us, nm_uu, nm_cp, nm_sa31, nm_sa7, nm_m127, nm_m2, nm_nz, nm_nzk, nm_eq32, nm_nzf, if_true, if_false, ↓reduceIte, if_pos, if_neg]
theorem ar_177 (n : Nat) (BR : St) (q tk to : Nat) (nm : Int32) (hto : to < 2 ^ 30) (o : Option Nat) (ho : ∀ x : Nat, o = some x → x < 2 ^ 32) : ∃ x' : Int32, df_X13_digits_177 n (oL o) (uR BR q tk q to nm) = some (rW BR q to q x' (Option.map (fun x => ((2 : Nat), x)) o)) := by
  cases o with
  | none =>
    have bd := bad_13 n BR q 2 q to ((-1 : Int64).toInt32)
    refine ⟨(-1 : Int64).toInt32, ?_⟩
    unfold df_X13_digits_177 df_X13_digits_202
    rw [show (2 : Int32) = nI 2 from rfl, uR_w8, nb_let, uR_w11, nb_let, if_neg (show ¬ (0 : Int32) ≤ lg_cmp (oL none) 0 by decide), show (oL none).toInt32 = (-1 : Int64).toInt32 from rfl, bd, nb_b1]
    rfl
  | some x =>
    have hx := ho x rfl
    refine ⟨0, ?_⟩
    have cz : (0 : Int32) ≤ lg_cmp (oL (some x)) 0 := by
      show nI 0 ≤ lg_cmp (Int64.ofNat x) 0
      rw [lgB, Int64.toInt_ofNat_of_lt (by omega)]
      show (0 : Int) ≤ x
      omega
    unfold df_X13_digits_177 df_X13_digits_202
    rw [show (2 : Int32) = nI 2 from rfl, uR_w8, nb_let, uR_w11, nb_let, if_pos cz, show (oL (some x)).toInt32 = nI x from i64_32 x]
    rfl
theorem nuO_l (b : Nat) (c : Nat → Nat) : ∀ k i a x : Nat, a < 2 ^ 32 → nuO b c k i a = some x → x < 2 ^ 32
  | 0, _, a, x, h, e => by
    have := Option.some.inj e
    omega
  | k + 1, i, a, x, h, e => by
    have e : (if dgv (c i) < b ∧ a * b + dgv (c i) < 2 ^ 32 then nuO b c k (i + 1) (a * b + dgv (c i)) else none) = some x := e
    by_cases y : dgv (c i) < b ∧ a * b + dgv (c i) < 2 ^ 32
    · rw [if_pos y] at e
      exact nuO_l b c k (i + 1) _ x y.2 e
    · rw [if_neg y] at e
      exact nomatch e
theorem ar_D {n L e : Nat} {c : Nat → Nat} {BC BR : St} (hT : atx n L e c BC BR) (q y tk : Nat) (nm : Int32) (hy : y ≤ e) (hq : q < y) (hd : aD (c q) = true) : ∃ x' : Int32, df_X13_digits n (uR BR q tk q y nm) = some (rW BR q y q x' (nuT c q y)) := by
  obtain ⟨hn, hL, heL, h127, hend, hce, hO, h1, htC, h0, htR, hch⟩ := id hT
  have d9 := aD_v.mp hd
  have w : nI y - nI q = nI (y - q) := by rw [pk_sub (by omega)]
  have t := htR q (by omega)
  have q127 := h127 q
  have w2 : nI q + nI 2 = nI (q + 2) := nI_add q 2
  have nu10 := ar_1 hT 10 y q tk q y q nm hy (Or.inr (Or.inl rfl)) hq
  obtain ⟨x10, f10⟩ := ar_177 n BR q tk y nm (by omega) (nuO 10 c (y - q) q 0) (fun x h => nuO_l _ _ _ _ _ _ (by omega) h)
  unfold nuT
  by_cases l1 : y - q ≤ 1
  · rw [if_neg (by omega), if_neg (by omega), if_neg (by omega)]
    refine ⟨x10, ?_⟩
    have l2 : ¬ y - q = 2 := by omega
    rw [← f10]
    by_cases z0 : c q = 48
    · rw [z0] at t
      simp (disch := (first | assumption | decide | omega)) only [df_X13_digits, df_X13_digits_0, df_X13_digits_28, df_X13_digits_58, df_X13_digits_59, df_X13_digits_105, df_X13_digits_135, df_X13_digits_163, uR_i0, uR_i7, uR_i8, uR_i9, uR_i10, uR_i11, uR_r, uR_w7, uR_w8, uR_w9, uR_w10, uR_w11, w, t, nu10, eq_self, Nat.reduceEqDiff, Nat.reduceLeDiff, nl_0, nl_1, nl_2, nl_3, nl_8, nl_9, nl_10, nl_11, nl_16, nl_48, nl_98, nl_102, nl_120, nl_32772, no_1, no_1024, pk_mul, nI_add, nm_ck, nI_clamp, nI_ltI, nI_leI, nI_eq, nb_b2, nb_b1, ↓nb_let, nm_z0, nm_z1, nb_II, nb_IR, nb_RI, nb_RR, nm_IL, nm_IQ, nm_RL, nm_RQ, nm_LI, nm_LR, nm_LL, nm_LQ, nm_QI, nm_QR, nm_QL, nm_QQ, nm_rr, nm_ii, nm_eqm, not_false_eq_true, pk_sub, nm_div, nm_shl, nm_shr, nm_ush, nm_or8, nm_or64, nm_or256, nm_m1, nm_m3, nm_m7, nm_m15, nm_m31, nm_m63, nm_m255, nm_m511, nm_m1023, nm_m2047, nm_m65535, Nat.reduceMod, Nat.reducePow, Nat.reduceAdd, Nat.reduceSub, Nat.reduceMul, nm_bo, nm_bi, nm_rc, nm_ic, nm_ri, nm_rl, nm_rq, nm_ql, nm_qi, nm_li, nm_us, nm_uu, nm_cp, nm_sa31, nm_sa7, nm_m127, nm_m2, nm_nz, nm_nzk, nm_eq32, nm_nzf, if_true, if_false, ↓reduceIte, if_pos, if_neg]
    · simp (disch := (first | assumption | decide | omega)) only [df_X13_digits, df_X13_digits_0, df_X13_digits_28, df_X13_digits_58, df_X13_digits_59, df_X13_digits_105, df_X13_digits_135, df_X13_digits_163, uR_i0, uR_i7, uR_i8, uR_i9, uR_i10, uR_i11, uR_r, uR_w7, uR_w8, uR_w9, uR_w10, uR_w11, w, t, nu10, z0, eq_self, Nat.reduceEqDiff, Nat.reduceLeDiff, nl_0, nl_1, nl_2, nl_3, nl_8, nl_9, nl_10, nl_11, nl_16, nl_48, nl_98, nl_102, nl_120, nl_32772, no_1, no_1024, pk_mul, nI_add, nm_ck, nI_clamp, nI_ltI, nI_leI, nI_eq, nb_b2, nb_b1, ↓nb_let, nm_z0, nm_z1, nb_II, nb_IR, nb_RI, nb_RR, nm_IL, nm_IQ, nm_RL, nm_RQ, nm_LI, nm_LR, nm_LL, nm_LQ, nm_QI, nm_QR, nm_QL, nm_QQ, nm_rr, nm_ii, nm_eqm, not_false_eq_true, pk_sub, nm_div, nm_shl, nm_shr, nm_ush, nm_or8, nm_or64, nm_or256, nm_m1, nm_m3, nm_m7, nm_m15, nm_m31, nm_m63, nm_m255, nm_m511, nm_m1023, nm_m2047, nm_m65535, Nat.reduceMod, Nat.reducePow, Nat.reduceAdd, Nat.reduceSub, Nat.reduceMul, nm_bo, nm_bi, nm_rc, nm_ic, nm_ri, nm_rl, nm_rq, nm_ql, nm_qi, nm_li, nm_us, nm_uu, nm_cp, nm_sa31, nm_sa7, nm_m127, nm_m2, nm_nz, nm_nzk, nm_eq32, nm_nzf, if_true, if_false, ↓reduceIte, if_pos, if_neg]
  · have t1 := htR (q + 1) (by omega)
    have r127 := h127 (q + 1)
    by_cases l2 : y - q = 2
    · by_cases nr : c (q + 1) = 102 ∨ c (q + 1) = 98
      · rw [if_pos ⟨l2, nr⟩]
        refine ⟨0, ?_⟩
        have sb : nI (c q) - nI 48 = nI (c q - 48) := pk_sub (by omega)
        rcases nr with nr | nr
        · rw [nr] at t1
          simp (disch := (first | assumption | decide | omega)) only [df_X13_digits, df_X13_digits_0, df_X13_digits_28, df_X13_digits_54, df_X13_digits_59, uR_i0, uR_i7, uR_i8, uR_i9, uR_i10, uR_i11, uR_r, uR_w7, uR_w8, uR_w9, uR_w10, uR_w11, w, t1, t, sb, l2, eq_self, Nat.reduceEqDiff, Nat.reduceLeDiff, nl_0, nl_1, nl_2, nl_3, nl_8, nl_9, nl_10, nl_11, nl_48, nl_98, nl_102, nl_32772, no_1, no_1024, pk_mul, nI_add, nm_ck, nI_clamp, nI_ltI, nI_leI, nI_eq, nb_b2, nb_b1, ↓nb_let, nm_z0, nm_z1, nb_II, nb_IR, nb_RI, nb_RR, nm_IL, nm_IQ, nm_RL, nm_RQ, nm_LI, nm_LR, nm_LL, nm_LQ, nm_QI, nm_QR, nm_QL, nm_QQ, nm_rr, nm_ii, nm_eqm, not_false_eq_true, pk_sub, nm_div, nm_shl, nm_shr, nm_ush, nm_or8, nm_or64, nm_or256, nm_m1, nm_m3, nm_m7, nm_m15, nm_m31, nm_m63, nm_m255, nm_m511, nm_m1023, nm_m2047, nm_m65535, Nat.reduceMod, Nat.reducePow, Nat.reduceAdd, Nat.reduceSub, Nat.reduceMul, nm_bo, nm_bi, nm_rc, nm_ic, nm_ri, nm_rl, nm_rq, nm_ql, nm_qi, nm_li, nm_us, nm_uu, nm_cp, nm_sa31, nm_sa7, nm_m127, nm_m2, nm_nz, nm_nzk, nm_eq32, nm_nzf, if_true, if_false, ↓reduceIte, if_pos, if_neg]
          rfl
        · rw [nr] at t1
          simp (disch := (first | assumption | decide | omega)) only [df_X13_digits, df_X13_digits_0, df_X13_digits_28, df_X13_digits_54, df_X13_digits_59, uR_i0, uR_i7, uR_i8, uR_i9, uR_i10, uR_i11, uR_r, uR_w7, uR_w8, uR_w9, uR_w10, uR_w11, w, t1, t, sb, l2, eq_self, Nat.reduceEqDiff, Nat.reduceLeDiff, nl_0, nl_1, nl_2, nl_3, nl_8, nl_9, nl_10, nl_11, nl_48, nl_98, nl_102, nl_32772, no_1, no_1024, pk_mul, nI_add, nm_ck, nI_clamp, nI_ltI, nI_leI, nI_eq, nb_b2, nb_b1, ↓nb_let, nm_z0, nm_z1, nb_II, nb_IR, nb_RI, nb_RR, nm_IL, nm_IQ, nm_RL, nm_RQ, nm_LI, nm_LR, nm_LL, nm_LQ, nm_QI, nm_QR, nm_QL, nm_QQ, nm_rr, nm_ii, nm_eqm, not_false_eq_true, pk_sub, nm_div, nm_shl, nm_shr, nm_ush, nm_or8, nm_or64, nm_or256, nm_m1, nm_m3, nm_m7, nm_m15, nm_m31, nm_m63, nm_m255, nm_m511, nm_m1023, nm_m2047, nm_m65535, Nat.reduceMod, Nat.reducePow, Nat.reduceAdd, Nat.reduceSub, Nat.reduceMul, nm_bo, nm_bi, nm_rc, nm_ic, nm_ri, nm_rl, nm_rq, nm_ql, nm_qi, nm_li, nm_us, nm_uu, nm_cp, nm_sa31, nm_sa7, nm_m127, nm_m2, nm_nz, nm_nzk, nm_eq32, nm_nzf, if_true, if_false, ↓reduceIte, if_pos, if_neg]
          rfl
      · rw [if_neg (fun z => nr z.2), if_neg (by omega), if_neg (by omega)]
        have n1 : ¬ c (q + 1) = 102 := fun z => nr (Or.inl z)
        have n2 : ¬ c (q + 1) = 98 := fun z => nr (Or.inr z)
        by_cases z0 : c q = 48
        · rw [z0] at t
          by_cases x1 : c (q + 1) = 120
          · -- 0x alone
            rw [x1] at t1
            have e2 : q + 2 = y := by omega
            have m0 := ar_0 hT 16 y q tk q y nm hy
            obtain ⟨x0, f0⟩ := ar_177 n BR q tk y nm (by omega) none (fun x h => nomatch h)
            have f0 : df_X13_digits_177 n (-1) (uR BR q tk q y nm) = some (uR BR q 5 q q x0) := f0
            have v0 : nuO 10 c (y - q) q 0 = none := by
              rw [l2]
              show (if dgv (c q) < 10 ∧ 0 * 10 + dgv (c q) < 2 ^ 32 then (if dgv (c (q + 1)) < 10 ∧ (0 * 10 + dgv (c q)) * 10 + dgv (c (q + 1)) < 2 ^ 32 then nuO 10 c 0 (q + 1 + 1) ((0 * 10 + dgv (c q)) * 10 + dgv (c (q + 1))) else none) else none) = none
              have g : dgv (c (q + 1)) = 99 := by rw [x1]; rfl
              rw [if_neg (show ¬ (dgv (c (q + 1)) < 10 ∧ (0 * 10 + dgv (c q)) * 10 + dgv (c (q + 1)) < 2 ^ 32) by rw [g]; omega)]
              split <;> rfl
            refine ⟨x0, ?_⟩
            rw [v0]
            show df_X13_digits n (uR BR q tk q y nm) = some (uR BR q 5 q q x0)
            rw [← f0]
            simp (disch := (first | assumption | decide | omega)) only [df_X13_digits, df_X13_digits_0, df_X13_digits_28, df_X13_digits_58, df_X13_digits_59, df_X13_digits_105, uR_i0, uR_i7, uR_i8, uR_i9, uR_i10, uR_i11, uR_r, uR_w7, uR_w8, uR_w9, uR_w10, uR_w11, w, t1, t, l2, w2, e2, m0, eq_self, Nat.reduceEqDiff, Nat.reduceLeDiff, nl_0, nl_1, nl_2, nl_3, nl_8, nl_9, nl_10, nl_11, nl_16, nl_48, nl_98, nl_102, nl_120, nl_32772, no_1, no_1024, pk_mul, nI_add, nm_ck, nI_clamp, nI_ltI, nI_leI, nI_eq, nb_b2, nb_b1, ↓nb_let, nm_z0, nm_z1, nb_II, nb_IR, nb_RI, nb_RR, nm_IL, nm_IQ, nm_RL, nm_RQ, nm_LI, nm_LR, nm_LL, nm_LQ, nm_QI, nm_QR, nm_QL, nm_QQ, nm_rr, nm_ii, nm_eqm, not_false_eq_true, pk_sub, nm_div, nm_shl, nm_shr, nm_ush, nm_or8, nm_or64, nm_or256, nm_m1, nm_m3, nm_m7, nm_m15, nm_m31, nm_m63, nm_m255, nm_m511, nm_m1023, nm_m2047, nm_m65535, Nat.reduceMod, Nat.reducePow, Nat.reduceAdd, Nat.reduceSub, Nat.reduceMul, nm_bo, nm_bi, nm_rc, nm_ic, nm_ri, nm_rl, nm_rq, nm_ql, nm_qi, nm_li, nm_us, nm_uu, nm_cp, nm_sa31, nm_sa7, nm_m127, nm_m2, nm_nz, nm_nzk, nm_eq32, nm_nzf, if_true, if_false, ↓reduceIte, if_pos, if_neg]
          · refine ⟨x10, ?_⟩
            rw [← f10]
            simp (disch := (first | assumption | decide | omega)) only [df_X13_digits, df_X13_digits_0, df_X13_digits_28, df_X13_digits_58, df_X13_digits_59, df_X13_digits_105, df_X13_digits_135, df_X13_digits_163, uR_i0, uR_i7, uR_i8, uR_i9, uR_i10, uR_i11, uR_r, uR_w7, uR_w8, uR_w9, uR_w10, uR_w11, w, t1, t, nu10, l2, n1, n2, x1, eq_self, Nat.reduceEqDiff, Nat.reduceLeDiff, nl_0, nl_1, nl_2, nl_3, nl_8, nl_9, nl_10, nl_11, nl_16, nl_48, nl_98, nl_102, nl_120, nl_32772, no_1, no_1024, pk_mul, nI_add, nm_ck, nI_clamp, nI_ltI, nI_leI, nI_eq, nb_b2, nb_b1, ↓nb_let, nm_z0, nm_z1, nb_II, nb_IR, nb_RI, nb_RR, nm_IL, nm_IQ, nm_RL, nm_RQ, nm_LI, nm_LR, nm_LL, nm_LQ, nm_QI, nm_QR, nm_QL, nm_QQ, nm_rr, nm_ii, nm_eqm, not_false_eq_true, pk_sub, nm_div, nm_shl, nm_shr, nm_ush, nm_or8, nm_or64, nm_or256, nm_m1, nm_m3, nm_m7, nm_m15, nm_m31, nm_m63, nm_m255, nm_m511, nm_m1023, nm_m2047, nm_m65535, Nat.reduceMod, Nat.reducePow, Nat.reduceAdd, Nat.reduceSub, Nat.reduceMul, nm_bo, nm_bi, nm_rc, nm_ic, nm_ri, nm_rl, nm_rq, nm_ql, nm_qi, nm_li, nm_us, nm_uu, nm_cp, nm_sa31, nm_sa7, nm_m127, nm_m2, nm_nz, nm_nzk, nm_eq32, nm_nzf, if_true, if_false, ↓reduceIte, if_pos, if_neg]
        · refine ⟨x10, ?_⟩
          rw [← f10]
          simp (disch := (first | assumption | decide | omega)) only [df_X13_digits, df_X13_digits_0, df_X13_digits_28, df_X13_digits_58, df_X13_digits_59, df_X13_digits_105, df_X13_digits_135, df_X13_digits_163, uR_i0, uR_i7, uR_i8, uR_i9, uR_i10, uR_i11, uR_r, uR_w7, uR_w8, uR_w9, uR_w10, uR_w11, w, t1, t, nu10, l2, n1, n2, z0, eq_self, Nat.reduceEqDiff, Nat.reduceLeDiff, nl_0, nl_1, nl_2, nl_3, nl_8, nl_9, nl_10, nl_11, nl_16, nl_48, nl_98, nl_102, nl_120, nl_32772, no_1, no_1024, pk_mul, nI_add, nm_ck, nI_clamp, nI_ltI, nI_leI, nI_eq, nb_b2, nb_b1, ↓nb_let, nm_z0, nm_z1, nb_II, nb_IR, nb_RI, nb_RR, nm_IL, nm_IQ, nm_RL, nm_RQ, nm_LI, nm_LR, nm_LL, nm_LQ, nm_QI, nm_QR, nm_QL, nm_QQ, nm_rr, nm_ii, nm_eqm, not_false_eq_true, pk_sub, nm_div, nm_shl, nm_shr, nm_ush, nm_or8, nm_or64, nm_or256, nm_m1, nm_m3, nm_m7, nm_m15, nm_m31, nm_m63, nm_m255, nm_m511, nm_m1023, nm_m2047, nm_m65535, Nat.reduceMod, Nat.reducePow, Nat.reduceAdd, Nat.reduceSub, Nat.reduceMul, nm_bo, nm_bi, nm_rc, nm_ic, nm_ri, nm_rl, nm_rq, nm_ql, nm_qi, nm_li, nm_us, nm_uu, nm_cp, nm_sa31, nm_sa7, nm_m127, nm_m2, nm_nz, nm_nzk, nm_eq32, nm_nzf, if_true, if_false, ↓reduceIte, if_pos, if_neg]
    · rw [if_neg (fun z => l2 z.1)]
      by_cases z0 : c q = 48
      · rw [z0] at t
        by_cases x1 : c (q + 1) = 120
        · rw [if_pos ⟨by omega, z0, x1⟩]
          have nu := ar_1 hT 16 y q tk q y (q + 2) nm hy (Or.inr (Or.inr rfl)) (by omega)
          obtain ⟨x16, f16⟩ := ar_177 n BR q tk y nm (by omega) (nuO 16 c (y - (q + 2)) (q + 2) 0) (fun x h => nuO_l _ _ _ _ _ _ (by omega) h)
          refine ⟨x16, ?_⟩
          rw [← f16]
          rw [x1] at t1
          simp (disch := (first | assumption | decide | omega)) only [df_X13_digits, df_X13_digits_0, df_X13_digits_28, df_X13_digits_58, df_X13_digits_59, df_X13_digits_105, uR_i0, uR_i7, uR_i8, uR_i9, uR_i10, uR_i11, uR_r, uR_w7, uR_w8, uR_w9, uR_w10, uR_w11, w, t1, t, l2, w2, nu, eq_self, Nat.reduceEqDiff, Nat.reduceLeDiff, nl_0, nl_1, nl_2, nl_3, nl_8, nl_9, nl_10, nl_11, nl_16, nl_48, nl_98, nl_102, nl_120, nl_32772, no_1, no_1024, pk_mul, nI_add, nm_ck, nI_clamp, nI_ltI, nI_leI, nI_eq, nb_b2, nb_b1, ↓nb_let, nm_z0, nm_z1, nb_II, nb_IR, nb_RI, nb_RR, nm_IL, nm_IQ, nm_RL, nm_RQ, nm_LI, nm_LR, nm_LL, nm_LQ, nm_QI, nm_QR, nm_QL, nm_QQ, nm_rr, nm_ii, nm_eqm, not_false_eq_true, pk_sub, nm_div, nm_shl, nm_shr, nm_ush, nm_or8, nm_or64, nm_or256, nm_m1, nm_m3, nm_m7, nm_m15, nm_m31, nm_m63, nm_m255, nm_m511, nm_m1023, nm_m2047, nm_m65535, Nat.reduceMod, Nat.reducePow, Nat.reduceAdd, Nat.reduceSub, Nat.reduceMul, nm_bo, nm_bi, nm_rc, nm_ic, nm_ri, nm_rl, nm_rq, nm_ql, nm_qi, nm_li, nm_us, nm_uu, nm_cp, nm_sa31, nm_sa7, nm_m127, nm_m2, nm_nz, nm_nzk, nm_eq32, nm_nzf, if_true, if_false, ↓reduceIte, if_pos, if_neg]
        · rw [if_neg (fun z => x1 z.2.2)]
          by_cases b1 : c (q + 1) = 98
          · rw [if_pos ⟨by omega, z0, b1⟩]
            have nu := ar_1 hT 2 y q tk q y (q + 2) nm hy (Or.inl rfl) (by omega)
            obtain ⟨x2, f2⟩ := ar_177 n BR q tk y nm (by omega) (nuO 2 c (y - (q + 2)) (q + 2) 0) (fun x h => nuO_l _ _ _ _ _ _ (by omega) h)
            refine ⟨x2, ?_⟩
            rw [← f2]
            rw [b1] at t1
            simp (disch := (first | assumption | decide | omega)) only [df_X13_digits, df_X13_digits_0, df_X13_digits_28, df_X13_digits_58, df_X13_digits_59, df_X13_digits_105, df_X13_digits_135, uR_i0, uR_i7, uR_i8, uR_i9, uR_i10, uR_i11, uR_r, uR_w7, uR_w8, uR_w9, uR_w10, uR_w11, w, t1, t, l2, w2, nu, eq_self, Nat.reduceEqDiff, Nat.reduceLeDiff, nl_0, nl_1, nl_2, nl_3, nl_8, nl_9, nl_10, nl_11, nl_16, nl_48, nl_98, nl_102, nl_120, nl_32772, no_1, no_1024, pk_mul, nI_add, nm_ck, nI_clamp, nI_ltI, nI_leI, nI_eq, nb_b2, nb_b1, ↓nb_let, nm_z0, nm_z1, nb_II, nb_IR, nb_RI, nb_RR, nm_IL, nm_IQ, nm_RL, nm_RQ, nm_LI, nm_LR, nm_LL, nm_LQ, nm_QI, nm_QR, nm_QL, nm_QQ, nm_rr, nm_ii, nm_eqm, not_false_eq_true, pk_sub, nm_div, nm_shl, nm_shr, nm_ush, nm_or8, nm_or64, nm_or256, nm_m1, nm_m3, nm_m7, nm_m15, nm_m31, nm_m63, nm_m255, nm_m511, nm_m1023, nm_m2047, nm_m65535, Nat.reduceMod, Nat.reducePow, Nat.reduceAdd, Nat.reduceSub, Nat.reduceMul, nm_bo, nm_bi, nm_rc, nm_ic, nm_ri, nm_rl, nm_rq, nm_ql, nm_qi, nm_li, nm_us, nm_uu, nm_cp, nm_sa31, nm_sa7, nm_m127, nm_m2, nm_nz, nm_nzk, nm_eq32, nm_nzf, if_true, if_false, ↓reduceIte, if_pos, if_neg]
          · rw [if_neg (fun z => b1 z.2.2)]
            refine ⟨x10, ?_⟩
            rw [← f10]
            simp (disch := (first | assumption | decide | omega)) only [df_X13_digits, df_X13_digits_0, df_X13_digits_28, df_X13_digits_58, df_X13_digits_59, df_X13_digits_105, df_X13_digits_135, df_X13_digits_163, uR_i0, uR_i7, uR_i8, uR_i9, uR_i10, uR_i11, uR_r, uR_w7, uR_w8, uR_w9, uR_w10, uR_w11, w, t1, t, nu10, l2, x1, b1, eq_self, Nat.reduceEqDiff, Nat.reduceLeDiff, nl_0, nl_1, nl_2, nl_3, nl_8, nl_9, nl_10, nl_11, nl_16, nl_48, nl_98, nl_102, nl_120, nl_32772, no_1, no_1024, pk_mul, nI_add, nm_ck, nI_clamp, nI_ltI, nI_leI, nI_eq, nb_b2, nb_b1, ↓nb_let, nm_z0, nm_z1, nb_II, nb_IR, nb_RI, nb_RR, nm_IL, nm_IQ, nm_RL, nm_RQ, nm_LI, nm_LR, nm_LL, nm_LQ, nm_QI, nm_QR, nm_QL, nm_QQ, nm_rr, nm_ii, nm_eqm, not_false_eq_true, pk_sub, nm_div, nm_shl, nm_shr, nm_ush, nm_or8, nm_or64, nm_or256, nm_m1, nm_m3, nm_m7, nm_m15, nm_m31, nm_m63, nm_m255, nm_m511, nm_m1023, nm_m2047, nm_m65535, Nat.reduceMod, Nat.reducePow, Nat.reduceAdd, Nat.reduceSub, Nat.reduceMul, nm_bo, nm_bi, nm_rc, nm_ic, nm_ri, nm_rl, nm_rq, nm_ql, nm_qi, nm_li, nm_us, nm_uu, nm_cp, nm_sa31, nm_sa7, nm_m127, nm_m2, nm_nz, nm_nzk, nm_eq32, nm_nzf, if_true, if_false, ↓reduceIte, if_pos, if_neg]
      · rw [if_neg (fun z => z0 z.2.1), if_neg (fun z => z0 z.2.1)]
        refine ⟨x10, ?_⟩
        rw [← f10]
        simp (disch := (first | assumption | decide | omega)) only [df_X13_digits, df_X13_digits_0, df_X13_digits_28, df_X13_digits_58, df_X13_digits_59, df_X13_digits_105, df_X13_digits_135, df_X13_digits_163, uR_i0, uR_i7, uR_i8, uR_i9, uR_i10, uR_i11, uR_r, uR_w7, uR_w8, uR_w9, uR_w10, uR_w11, w, t1, t, nu10, l2, z0, eq_self, Nat.reduceEqDiff, Nat.reduceLeDiff, nl_0, nl_1, nl_2, nl_3, nl_8, nl_9, nl_10, nl_11, nl_16, nl_48, nl_98, nl_102, nl_120, nl_32772, no_1, no_1024, pk_mul, nI_add, nm_ck, nI_clamp, nI_ltI, nI_leI, nI_eq, nb_b2, nb_b1, ↓nb_let, nm_z0, nm_z1, nb_II, nb_IR, nb_RI, nb_RR, nm_IL, nm_IQ, nm_RL, nm_RQ, nm_LI, nm_LR, nm_LL, nm_LQ, nm_QI, nm_QR, nm_QL, nm_QQ, nm_rr, nm_ii, nm_eqm, not_false_eq_true, pk_sub, nm_div, nm_shl, nm_shr, nm_ush, nm_or8, nm_or64, nm_or256, nm_m1, nm_m3, nm_m7, nm_m15, nm_m31, nm_m63, nm_m255, nm_m511, nm_m1023, nm_m2047, nm_m65535, Nat.reduceMod, Nat.reducePow, Nat.reduceAdd, Nat.reduceSub, Nat.reduceMul, nm_bo, nm_bi, nm_rc, nm_ic, nm_ri, nm_rl, nm_rq, nm_ql, nm_qi, nm_li, nm_us, nm_uu, nm_cp, nm_sa31, nm_sa7, nm_m127, nm_m2, nm_nz, nm_nzk, nm_eq32, nm_nzf, if_true, if_false, ↓reduceIte, if_pos, if_neg]
theorem as_D {n L e : Nat} {c : Nat → Nat} {BC BR : St} (hT : atx n L e c BC BR) {G : St → Option St} (q tk fr to : Nat) (nm : Int32) (hq : q < e) (hd : aD (c q) = true) : ∃ x' : Int32, dF_X13_scan_0 n G (uR BR q tk fr to nm) = some (rW BR (eT c e q) (eT c e q) q x' (nuT c q (eT c e q))) := by
  have h127 := hT.2.2.2.1 q
  have hL := hT.2.1
  have heL := hT.2.2.1
  have d9 := aD_v.mp hd
  rw [as_0 hT q tk fr to nm (Nat.le_of_lt hq) (by omega), if_neg (show ¬ (c q = 10 ∨ c q = 35) by omega), if_pos hd]
  have pl := pl_13 hT q q tk q (q + 1) nm (Nat.le_of_lt hq)
  have e0 := eT_p c hq (aD_P hd)
  have e2 := (eT_1 c (Nat.le_of_lt hq)).2.1
  generalize eT c e q = y at e0 e2 pl
  obtain ⟨x', dg⟩ := ar_D hT q y tk nm e2 e0 hd
  refine ⟨x', ?_⟩
  cases hv : nuT c q y with
  | none =>
    rw [hv] at dg
    have dg : df_X13_digits n (uR BR q tk q y nm) = some (uR BR q 5 q q x') := dg
    simp (disch := (first | assumption | decide | omega)) only [df_X13_scan_348, uR_i0, uR_i7, uR_i8, uR_i9, uR_i10, uR_i11, uR_r, uR_w7, uR_w8, uR_w9, uR_w10, uR_w11, pl, dg, eq_self, Nat.reduceEqDiff, Nat.reduceLeDiff, nl_7, nl_10, no_1, no_1024, pk_mul, nI_add, nm_ck, nI_clamp, nI_ltI, nI_leI, nI_eq, nb_b2, nb_b1, ↓nb_let, nm_z0, nm_z1, nb_II, nb_IR, nb_RI, nb_RR, nm_IL, nm_IQ, nm_RL, nm_RQ, nm_LI, nm_LR, nm_LL, nm_LQ, nm_QI, nm_QR, nm_QL, nm_QQ, nm_rr, nm_ii, nm_eqm, not_false_eq_true, pk_sub, nm_div, nm_shl, nm_shr, nm_ush, nm_or8, nm_or64, nm_or256, nm_m1, nm_m3, nm_m7, nm_m15, nm_m31, nm_m63, nm_m255, nm_m511, nm_m1023, nm_m2047, nm_m65535, Nat.reduceMod, Nat.reducePow, Nat.reduceAdd, Nat.reduceSub, Nat.reduceMul, nm_bo, nm_bi, nm_rc, nm_ic, nm_ri, nm_rl, nm_rq, nm_ql, nm_qi, nm_li, nm_us, nm_uu, nm_cp, nm_sa31, nm_sa7, nm_m127, nm_m2, nm_nz, nm_nzk, nm_eq32, nm_nzf, if_true, if_false, ↓reduceIte, if_pos, if_neg]
    rfl
  | some v =>
    rw [hv] at dg
    have dg : df_X13_digits n (uR BR q tk q y nm) = some (uR BR q v.1 q y (nI v.2)) := dg
    simp (disch := (first | assumption | decide | omega)) only [df_X13_scan_348, uR_i0, uR_i7, uR_i8, uR_i9, uR_i10, uR_i11, uR_r, uR_w7, uR_w8, uR_w9, uR_w10, uR_w11, pl, dg, eq_self, Nat.reduceEqDiff, Nat.reduceLeDiff, nl_7, nl_10, no_1, no_1024, pk_mul, nI_add, nm_ck, nI_clamp, nI_ltI, nI_leI, nI_eq, nb_b2, nb_b1, ↓nb_let, nm_z0, nm_z1, nb_II, nb_IR, nb_RI, nb_RR, nm_IL, nm_IQ, nm_RL, nm_RQ, nm_LI, nm_LR, nm_LL, nm_LQ, nm_QI, nm_QR, nm_QL, nm_QQ, nm_rr, nm_ii, nm_eqm, not_false_eq_true, pk_sub, nm_div, nm_shl, nm_shr, nm_ush, nm_or8, nm_or64, nm_or256, nm_m1, nm_m3, nm_m7, nm_m15, nm_m31, nm_m63, nm_m255, nm_m511, nm_m1023, nm_m2047, nm_m65535, Nat.reduceMod, Nat.reducePow, Nat.reduceAdd, Nat.reduceSub, Nat.reduceMul, nm_bo, nm_bi, nm_rc, nm_ic, nm_ri, nm_rl, nm_rq, nm_ql, nm_qi, nm_li, nm_us, nm_uu, nm_cp, nm_sa31, nm_sa7, nm_m127, nm_m2, nm_nz, nm_nzk, nm_eq32, nm_nzf, if_true, if_false, ↓reduceIte, if_pos, if_neg]
    rfl

/-- signs, in both -/
def sgA (c : Nat) : Bool := decide (c = 58 ∨ c = 44 ∨ c = 40 ∨ c = 41 ∨ c = 43 ∨ c = 45 ∨ c = 42 ∨ c = 47 ∨ c = 37 ∨ c = 38 ∨ c = 124 ∨ c = 94 ∨ c = 126)
theorem sg_a : ∀ (k : Fin 13) (c : Fin 128), ks_b 17 k.1 = nI c.1 → sgA c.1 = true := by decide +kernel
theorem sg_b : ∀ c : Fin 128, sgA c.1 = true → ∃ k : Fin 13, ks_b 17 k.1 = nI c.1 := by decide +kernel
theorem ch_16 : ∀ c : Fin 128, (nI c.1).toUInt32.toUInt16.toUInt32.toInt32 = nI c.1 := by decide +kernel
theorem ch_8 : ∀ c : Fin 128, (nI c.1).toInt8.toInt32 = nI c.1 := by decide +kernel
theorem ix_17 (n ch : Nat) (hn : 20 < n) (hc : ch < 128) : ∃ r : Int32, df_J0_indexOf_0f7a4 n 17 (nI ch) () = some (r, ()) ∧ (0 ≤ r ↔ sgA ch = true) := by
  have c8 : (nI ch).toInt8.toInt32 = nI ch := ch_8 ⟨ch, hc⟩
  obtain ⟨m, e⟩ := nm_ls (fun g k => df_J1_indexOfChar_4cfef_7 n g 17 (nI 13) (nI ch) (nI k) ()) (fun k => decide (ks_b 17 k = nI ch)) 0 13 n (by omega) (fun k m _ hk hP => by
    have hP := of_decide_eq_false hP
    show dF_J1_indexOfChar_4cfef_7 n (df_J1_indexOfChar_4cfef_7 n m) 17 (nI 13) (nI ch) (nI k) () = df_J1_indexOfChar_4cfef_7 n m 17 (nI 13) (nI ch) (nI (k + 1)) ()
    unfold dF_J1_indexOfChar_4cfef_7
    rw [if_neg (show ¬ nI 13 ≤ nI k from fun z => by rw [nI_leI (by omega) (by omega)] at z; omega), nb_lt (by omega), nm_ck (show k < ks_n 17 from Nat.lt_of_lt_of_le hk (by decide)) (by omega), nI_clamp (by omega), if_neg hP, nb_let, show nI k + Int32.ofInt 1 = nI (k + 1) by rw [show Int32.ofInt 1 = nI 1 from rfl, nI_add]])
  obtain ⟨_, x2, x3, x4⟩ := fN_le (fun k => decide (ks_b 17 k = nI ch)) 13 0
  generalize fN (fun k => decide (ks_b 17 k = nI ch)) 0 13 = E at e x2 x3 x4
  have e : df_J1_indexOfChar_4cfef_7 n n 17 (nI 13) (nI ch) (nI 0) () = dF_J1_indexOfChar_4cfef_7 n (df_J1_indexOfChar_4cfef_7 n m) 17 (nI 13) (nI ch) (nI E) () := e
  have top : ∀ r : Int32, dF_J1_indexOfChar_4cfef_7 n (df_J1_indexOfChar_4cfef_7 n m) 17 (nI 13) (nI ch) (nI E) () = some (r, ()) → df_J0_indexOf_0f7a4 n 17 (nI ch) () = some (r, ()) := fun r h => by
    rw [h] at e
    have ce : df_J1_canEncode_9a6ad n (nI ch) () = some (1, ()) := by
      unfold df_J1_canEncode_9a6ad df_J1_canEncode_9a6ad_0 df_J1_canEncode_9a6ad_16
      rw [if_neg (show ¬ nI ch < 0 from fun z => by have z : nI ch < nI 0 := z; rw [nI_ltI (by omega) (by omega)] at z; omega), if_neg (show ¬ 255 < nI ch from fun z => by have z : nI 255 < nI ch := z; rw [nI_ltI (by omega) (by omega)] at z; omega)]
      rfl
    have l1 : df_J0_isLatin1_aae02 n 17 () = some (1, ()) := rfl
    have l2 : df_J0_length_8abf5 n 17 () = some (nI 13, ()) := rfl
    unfold df_J0_indexOf_0f7a4 df_J0_indexOf_0f7a4_0 df_J0_indexOf_7cf53 df_J0_indexOf_7cf53_0 df_J0_indexOf_7cf53_36 df_J1_indexOf_4cfef df_J1_indexOf_4cfef_0 df_J1_indexOfChar_4cfef df_J1_indexOfChar_4cfef_0
    rw [nb_lt (by omega), nb_lt (by omega), l1, nb_b2, if_neg (by decide), nb_lt (by omega), nb_lt (by omega), l2, nb_b2, ce, nb_b2, if_neg (by decide), nb_let, nb_lt (by omega), nb_let, if_pos (show (if (0 : Int32) < 0 then 0 else 0) < (if (Int32.ofNat (ks_n 17) : Int32) < nI 13 then Int32.ofNat (ks_n 17) else nI 13) by decide), nb_let, c8]
    rw [show (if (Int32.ofNat (ks_n 17) : Int32) < nI 13 then Int32.ofNat (ks_n 17) else nI 13) = nI 13 by decide, show (if (0 : Int32) < 0 then (0 : Int32) else 0) = nI 0 by decide, e, nb_b2, nb_b2, nb_b2]
  by_cases c : E < 13
  · have x3 := of_decide_eq_true (x3 (by omega))
    refine ⟨nI E, top _ ?_, fun _ => sg_a ⟨E, c⟩ ⟨ch, hc⟩ x3, fun _ => by show nI 0 ≤ nI E; rw [nI_leI (by omega) (by omega)]; omega⟩
    unfold dF_J1_indexOfChar_4cfef_7
    rw [if_neg (show ¬ nI 13 ≤ nI E from fun z => by rw [nI_leI (by omega) (by omega)] at z; omega), nb_lt (by omega), nm_ck (show E < ks_n 17 from Nat.lt_of_lt_of_le c (by decide)) (by omega), nI_clamp (by omega), if_pos x3]
  · refine ⟨-1, top _ ?_, fun z => absurd z (by decide), fun z => ?_⟩
    · unfold dF_J1_indexOfChar_4cfef_7
      rw [if_pos (show nI 13 ≤ nI E by rw [nI_leI (by omega) (by omega)]; omega)]
    · obtain ⟨k, hk⟩ := sg_b ⟨ch, hc⟩ z
      exact absurd hk (of_decide_eq_false (x4 k.1 (by omega) (by omega)))
/-- the class's sign -/
theorem ak_S0 {n L e : Nat} {c : Nat → Nat} {BC BR : St} (hT : atx n L e c BC BR) (q kd fr : Nat) (nm : Int32) (hq : q < e) (hp : aP (c q) = false) (h35 : ¬ c q = 35) : df_X9_next_52 n (uC BC q kd fr nm) = if c q = 34 then df_X9_readText n (uC BC q kd q nm) else if c q = 39 then df_X9_readCharacter n (uC BC q kd q nm) else df_X9_readSign n (nI (c q)) (uC BC q kd q nm) := by
  have h127 := hT.2.2.2.1 q
  have hL := hT.2.1
  have heL := hT.2.2.1
  rw [ak_1 hT q kd fr nm hq h35, eT_n c (Nat.le_of_lt hq) hp]
  have hd : ¬ (48 ≤ c q ∧ c q ≤ 57) := fun z => by
    rw [aD_P (aD_v.mpr z)] at hp
    exact absurd hp (by decide)
  have s1 : df_X9_next_140 n (nI (c q)) (uC BC q kd q nm) = df_X9_next_159 n (nI (c q)) (uC BC q kd q nm) := by
    by_cases a : c q < 48
    · simp (disch := (first | assumption | decide | omega)) only [df_X9_next_140, eq_self, Nat.reduceEqDiff, Nat.reduceLeDiff, nl_48, nl_57, no_1, no_1024, pk_mul, nI_add, nm_ck, nI_clamp, nI_ltI, nI_leI, nI_eq, nb_b2, nb_b1, ↓nb_let, nm_z0, nm_z1, nb_II, nb_IR, nb_RI, nb_RR, nm_IL, nm_IQ, nm_RL, nm_RQ, nm_LI, nm_LR, nm_LL, nm_LQ, nm_QI, nm_QR, nm_QL, nm_QQ, nm_rr, nm_ii, nm_eqm, not_false_eq_true, pk_sub, nm_div, nm_shl, nm_shr, nm_ush, nm_or8, nm_or64, nm_or256, nm_m1, nm_m3, nm_m7, nm_m15, nm_m31, nm_m63, nm_m255, nm_m511, nm_m1023, nm_m2047, nm_m65535, Nat.reduceMod, Nat.reducePow, Nat.reduceAdd, Nat.reduceSub, Nat.reduceMul, nm_bo, nm_bi, nm_rc, nm_ic, nm_ri, nm_rl, nm_rq, nm_ql, nm_qi, nm_li, nm_us, nm_uu, nm_cp, nm_sa31, nm_sa7, nm_m127, nm_m2, nm_nz, nm_nzk, nm_eq32, nm_nzf, if_true, if_false, ↓reduceIte, if_pos, if_neg]
    · have b : 57 < c q := by omega
      simp (disch := (first | assumption | decide | omega)) only [df_X9_next_140, eq_self, Nat.reduceEqDiff, Nat.reduceLeDiff, nl_48, nl_57, no_1, no_1024, pk_mul, nI_add, nm_ck, nI_clamp, nI_ltI, nI_leI, nI_eq, nb_b2, nb_b1, ↓nb_let, nm_z0, nm_z1, nb_II, nb_IR, nb_RI, nb_RR, nm_IL, nm_IQ, nm_RL, nm_RQ, nm_LI, nm_LR, nm_LL, nm_LQ, nm_QI, nm_QR, nm_QL, nm_QQ, nm_rr, nm_ii, nm_eqm, not_false_eq_true, pk_sub, nm_div, nm_shl, nm_shr, nm_ush, nm_or8, nm_or64, nm_or256, nm_m1, nm_m3, nm_m7, nm_m15, nm_m31, nm_m63, nm_m255, nm_m511, nm_m1023, nm_m2047, nm_m65535, Nat.reduceMod, Nat.reducePow, Nat.reduceAdd, Nat.reduceSub, Nat.reduceMul, nm_bo, nm_bi, nm_rc, nm_ic, nm_ri, nm_rl, nm_rq, nm_ql, nm_qi, nm_li, nm_us, nm_uu, nm_cp, nm_sa31, nm_sa7, nm_m127, nm_m2, nm_nz, nm_nzk, nm_eq32, nm_nzf, if_true, if_false, ↓reduceIte, if_pos, if_neg]
  rw [s1]
  unfold df_X9_next_159 df_X9_next_228
  rw [uC_i0, uC_i3, if_pos (show nI q ≤ nI q by rw [nI_leI (by omega) (by omega)]; omega)]
  have x1 : ∀ o : Option St, nd_b1 o (fun s => some s) = o := fun o => by cases o <;> rfl
  rw [x1, x1, x1]
  by_cases a : c q = 34
  · rw [if_pos a, if_pos (show nI (c q) = 34 by rw [a]; rfl)]
  · rw [if_neg a, if_neg (show ¬ nI (c q) = 34 from fun z => a (by have z : nI (c q) = nI 34 := z; rw [nI_eq (by omega) (by omega)] at z; exact z))]
    by_cases b : c q = 39
    · rw [if_pos b, if_pos (show nI (c q) = 39 by rw [b]; rfl)]
    · rw [if_neg b, if_neg (show ¬ nI (c q) = 39 from fun z => b (by have z : nI (c q) = nI 39 := z; rw [nI_eq (by omega) (by omega)] at z; exact z))]
theorem mn_1 {y e : Nat} (h : y ≤ e) (he : e < 2 ^ 30) : (if nI e < nI y then nI e else nI y) = nI y := if_neg (fun z => by rw [nI_ltI (by omega) (by omega)] at z; omega)
theorem mn_2 {y e : Nat} (h : y = e + 1) (he : e < 2 ^ 30) : (if nI e < nI y then nI e else nI y) = nI e := if_pos (by rw [nI_ltI (by omega) (by omega)]; omega)
theorem ak_S {n L e : Nat} {c : Nat → Nat} {BC BR : St} (hT : atx n L e c BC BR) (q kd : Nat) (nm : Int32) (hq : q < e) (h60 : ¬ c q = 60) (h62 : ¬ c q = 62) : df_X9_readSign n (nI (c q)) (uC BC q kd q nm) = some (uC BC (q + 1) (if sgA (c q) = true then 5 else 6) q (nI (c q))) := by
  obtain ⟨hn, hL, heL, h127, hend, hce, hO, h1, htC, h0, htR, hch⟩ := id hT
  have q127 := h127 q
  obtain ⟨r, ix, hr⟩ := ix_17 n (c q) (by omega) (by omega)
  have c16 : (nI (c q)).toUInt32.toUInt16.toUInt32.toInt32 = nI (c q) := ch_16 ⟨c q, by omega⟩
  by_cases y : sgA (c q) = true
  · have hr := hr.mpr y
    have hr : nI 0 ≤ r := hr
    rw [if_pos y]
    simp (disch := (first | assumption | decide | omega)) only [df_X9_readSign, df_X9_readSign_0, df_X9_readSign_121, uC_i0, uC_i1, uC_i2, uC_i3, uC_i4, uC_r, uC_o, uC_w0, uC_w2, uC_w3, uC_w4, c16, ix, hr, h60, h62, eq_self, Nat.reduceEqDiff, Nat.reduceLeDiff, nl_0, nl_1, nl_2, nl_4, nl_5, nl_6, nl_17, nl_60, nl_62, no_1, no_1024, pk_mul, nI_add, nm_ck, nI_clamp, nI_ltI, nI_leI, nI_eq, nb_b2, nb_b1, ↓nb_let, nm_z0, nm_z1, nb_II, nb_IR, nb_RI, nb_RR, nm_IL, nm_IQ, nm_RL, nm_RQ, nm_LI, nm_LR, nm_LL, nm_LQ, nm_QI, nm_QR, nm_QL, nm_QQ, nm_rr, nm_ii, nm_eqm, not_false_eq_true, pk_sub, nm_div, nm_shl, nm_shr, nm_ush, nm_or8, nm_or64, nm_or256, nm_m1, nm_m3, nm_m7, nm_m15, nm_m31, nm_m63, nm_m255, nm_m511, nm_m1023, nm_m2047, nm_m65535, Nat.reduceMod, Nat.reducePow, Nat.reduceAdd, Nat.reduceSub, Nat.reduceMul, nm_bo, nm_bi, nm_rc, nm_ic, nm_ri, nm_rl, nm_rq, nm_ql, nm_qi, nm_li, nm_us, nm_uu, nm_cp, nm_sa31, nm_sa7, nm_m127, nm_m2, nm_nz, nm_nzk, nm_eq32, nm_nzf, if_true, if_false, ↓reduceIte, if_pos, if_neg]
  · have hr : ¬ nI 0 ≤ r := fun z => y (hr.mp z)
    rw [if_neg y]
    simp (disch := (first | assumption | decide | omega)) only [df_X9_readSign, df_X9_readSign_0, df_X9_readSign_121, uC_i0, uC_i1, uC_i2, uC_i3, uC_i4, uC_r, uC_o, uC_w0, uC_w2, uC_w3, uC_w4, c16, ix, hr, h60, h62, eq_self, Nat.reduceEqDiff, Nat.reduceLeDiff, nl_0, nl_1, nl_2, nl_4, nl_5, nl_6, nl_17, nl_60, nl_62, no_1, no_1024, pk_mul, nI_add, nm_ck, nI_clamp, nI_ltI, nI_leI, nI_eq, nb_b2, nb_b1, ↓nb_let, nm_z0, nm_z1, nb_II, nb_IR, nb_RI, nb_RR, nm_IL, nm_IQ, nm_RL, nm_RQ, nm_LI, nm_LR, nm_LL, nm_LQ, nm_QI, nm_QR, nm_QL, nm_QQ, nm_rr, nm_ii, nm_eqm, not_false_eq_true, pk_sub, nm_div, nm_shl, nm_shr, nm_ush, nm_or8, nm_or64, nm_or256, nm_m1, nm_m3, nm_m7, nm_m15, nm_m31, nm_m63, nm_m255, nm_m511, nm_m1023, nm_m2047, nm_m65535, Nat.reduceMod, Nat.reducePow, Nat.reduceAdd, Nat.reduceSub, Nat.reduceMul, nm_bo, nm_bi, nm_rc, nm_ic, nm_ri, nm_rl, nm_rq, nm_ql, nm_qi, nm_li, nm_us, nm_uu, nm_cp, nm_sa31, nm_sa7, nm_m127, nm_m2, nm_nz, nm_nzk, nm_eq32, nm_nzf, if_true, if_false, ↓reduceIte, if_pos, if_neg]
theorem ak_L {n L e : Nat} {c : Nat → Nat} {BC BR : St} (hT : atx n L e c BC BR) (q kd : Nat) (nm : Int32) (hq : q < e) (h : c q = 60 ∨ c q = 62) : df_X9_readSign n (nI (c q)) (uC BC q kd q nm) = some (uC BC (if q + 1 < e then q + 2 else e) (if c (q + 1) = c q then 5 else 6) q (nI (if c q = 60 then 256 else 257))) := by
  obtain ⟨hn, hL, heL, h127, hend, hce, hO, h1, htC, h0, htR, hch⟩ := id hT
  by_cases y : q + 1 < e
  · rw [if_pos y]
    have t1 := htC (q + 1) (by omega)
    have r127 := h127 (q + 1)
    have mn := mn_1 (y := q + 1 + 1) (e := e) (by omega) (by omega)
    have le : ¬ e ≤ q + 1 := by omega
    by_cases s : c (q + 1) = c q
    · rw [if_pos s]
      rw [s] at t1
      rcases h with h | h
      · rw [h] at t1 ⊢
        rw [if_pos rfl]
        simp (disch := (first | assumption | decide | omega)) only [df_X9_readSign, df_X9_readSign_0, df_X9_readSign_32, df_X9_readSign_61, df_X9_readSign_63, df_X9_readSign_82, df_X9_readSign_121, uC_i0, uC_i1, uC_i2, uC_i3, uC_i4, uC_r, uC_o, uC_w0, uC_w2, uC_w3, uC_w4, hO, o8, h1, t1, mn, eq_self, Nat.reduceEqDiff, Nat.reduceLeDiff, nl_0, nl_1, nl_2, nl_4, nl_5, nl_6, nl_7, nl_8, nl_17, nl_60, nl_62, nl_256, nl_257, nl_32768, no_1, no_1024, pk_mul, nI_add, nm_ck, nI_clamp, nI_ltI, nI_leI, nI_eq, nb_b2, nb_b1, ↓nb_let, nm_z0, nm_z1, nb_II, nb_IR, nb_RI, nb_RR, nm_IL, nm_IQ, nm_RL, nm_RQ, nm_LI, nm_LR, nm_LL, nm_LQ, nm_QI, nm_QR, nm_QL, nm_QQ, nm_rr, nm_ii, nm_eqm, not_false_eq_true, pk_sub, nm_div, nm_shl, nm_shr, nm_ush, nm_or8, nm_or64, nm_or256, nm_m1, nm_m3, nm_m7, nm_m15, nm_m31, nm_m63, nm_m255, nm_m511, nm_m1023, nm_m2047, nm_m65535, Nat.reduceMod, Nat.reducePow, Nat.reduceAdd, Nat.reduceSub, Nat.reduceMul, nm_bo, nm_bi, nm_rc, nm_ic, nm_ri, nm_rl, nm_rq, nm_ql, nm_qi, nm_li, nm_us, nm_uu, nm_cp, nm_sa31, nm_sa7, nm_m127, nm_m2, nm_nz, nm_nzk, nm_eq32, nm_nzf, if_true, if_false, ↓reduceIte, if_pos, if_neg]
      · rw [h] at t1 ⊢
        rw [if_neg (by decide)]
        simp (disch := (first | assumption | decide | omega)) only [df_X9_readSign, df_X9_readSign_0, df_X9_readSign_32, df_X9_readSign_61, df_X9_readSign_63, df_X9_readSign_82, df_X9_readSign_121, uC_i0, uC_i1, uC_i2, uC_i3, uC_i4, uC_r, uC_o, uC_w0, uC_w2, uC_w3, uC_w4, hO, o8, h1, t1, mn, eq_self, Nat.reduceEqDiff, Nat.reduceLeDiff, nl_0, nl_1, nl_2, nl_4, nl_5, nl_6, nl_7, nl_8, nl_17, nl_60, nl_62, nl_256, nl_257, nl_32768, no_1, no_1024, pk_mul, nI_add, nm_ck, nI_clamp, nI_ltI, nI_leI, nI_eq, nb_b2, nb_b1, ↓nb_let, nm_z0, nm_z1, nb_II, nb_IR, nb_RI, nb_RR, nm_IL, nm_IQ, nm_RL, nm_RQ, nm_LI, nm_LR, nm_LL, nm_LQ, nm_QI, nm_QR, nm_QL, nm_QQ, nm_rr, nm_ii, nm_eqm, not_false_eq_true, pk_sub, nm_div, nm_shl, nm_shr, nm_ush, nm_or8, nm_or64, nm_or256, nm_m1, nm_m3, nm_m7, nm_m15, nm_m31, nm_m63, nm_m255, nm_m511, nm_m1023, nm_m2047, nm_m65535, Nat.reduceMod, Nat.reducePow, Nat.reduceAdd, Nat.reduceSub, Nat.reduceMul, nm_bo, nm_bi, nm_rc, nm_ic, nm_ri, nm_rl, nm_rq, nm_ql, nm_qi, nm_li, nm_us, nm_uu, nm_cp, nm_sa31, nm_sa7, nm_m127, nm_m2, nm_nz, nm_nzk, nm_eq32, nm_nzf, if_true, if_false, ↓reduceIte, if_pos, if_neg]
    · rw [if_neg s]
      rcases h with h | h
      · rw [h] at s ⊢
        rw [if_pos rfl]
        simp (disch := (first | assumption | decide | omega)) only [df_X9_readSign, df_X9_readSign_0, df_X9_readSign_32, df_X9_readSign_61, df_X9_readSign_63, df_X9_readSign_82, df_X9_readSign_121, uC_i0, uC_i1, uC_i2, uC_i3, uC_i4, uC_r, uC_o, uC_w0, uC_w2, uC_w3, uC_w4, hO, o8, h1, t1, mn, s, eq_self, Nat.reduceEqDiff, Nat.reduceLeDiff, nl_0, nl_1, nl_2, nl_4, nl_5, nl_6, nl_7, nl_8, nl_17, nl_60, nl_62, nl_256, nl_257, nl_32768, no_1, no_1024, pk_mul, nI_add, nm_ck, nI_clamp, nI_ltI, nI_leI, nI_eq, nb_b2, nb_b1, ↓nb_let, nm_z0, nm_z1, nb_II, nb_IR, nb_RI, nb_RR, nm_IL, nm_IQ, nm_RL, nm_RQ, nm_LI, nm_LR, nm_LL, nm_LQ, nm_QI, nm_QR, nm_QL, nm_QQ, nm_rr, nm_ii, nm_eqm, not_false_eq_true, pk_sub, nm_div, nm_shl, nm_shr, nm_ush, nm_or8, nm_or64, nm_or256, nm_m1, nm_m3, nm_m7, nm_m15, nm_m31, nm_m63, nm_m255, nm_m511, nm_m1023, nm_m2047, nm_m65535, Nat.reduceMod, Nat.reducePow, Nat.reduceAdd, Nat.reduceSub, Nat.reduceMul, nm_bo, nm_bi, nm_rc, nm_ic, nm_ri, nm_rl, nm_rq, nm_ql, nm_qi, nm_li, nm_us, nm_uu, nm_cp, nm_sa31, nm_sa7, nm_m127, nm_m2, nm_nz, nm_nzk, nm_eq32, nm_nzf, if_true, if_false, ↓reduceIte, if_pos, if_neg]
      · rw [h] at s ⊢
        rw [if_neg (by decide)]
        simp (disch := (first | assumption | decide | omega)) only [df_X9_readSign, df_X9_readSign_0, df_X9_readSign_32, df_X9_readSign_61, df_X9_readSign_63, df_X9_readSign_82, df_X9_readSign_121, uC_i0, uC_i1, uC_i2, uC_i3, uC_i4, uC_r, uC_o, uC_w0, uC_w2, uC_w3, uC_w4, hO, o8, h1, t1, mn, s, eq_self, Nat.reduceEqDiff, Nat.reduceLeDiff, nl_0, nl_1, nl_2, nl_4, nl_5, nl_6, nl_7, nl_8, nl_17, nl_60, nl_62, nl_256, nl_257, nl_32768, no_1, no_1024, pk_mul, nI_add, nm_ck, nI_clamp, nI_ltI, nI_leI, nI_eq, nb_b2, nb_b1, ↓nb_let, nm_z0, nm_z1, nb_II, nb_IR, nb_RI, nb_RR, nm_IL, nm_IQ, nm_RL, nm_RQ, nm_LI, nm_LR, nm_LL, nm_LQ, nm_QI, nm_QR, nm_QL, nm_QQ, nm_rr, nm_ii, nm_eqm, not_false_eq_true, pk_sub, nm_div, nm_shl, nm_shr, nm_ush, nm_or8, nm_or64, nm_or256, nm_m1, nm_m3, nm_m7, nm_m15, nm_m31, nm_m63, nm_m255, nm_m511, nm_m1023, nm_m2047, nm_m65535, Nat.reduceMod, Nat.reducePow, Nat.reduceAdd, Nat.reduceSub, Nat.reduceMul, nm_bo, nm_bi, nm_rc, nm_ic, nm_ri, nm_rl, nm_rq, nm_ql, nm_qi, nm_li, nm_us, nm_uu, nm_cp, nm_sa31, nm_sa7, nm_m127, nm_m2, nm_nz, nm_nzk, nm_eq32, nm_nzf, if_true, if_false, ↓reduceIte, if_pos, if_neg]
  · have y1 : q + 1 = e := by omega
    have s : ¬ c (q + 1) = c q := by rw [y1, hce]; omega
    rw [if_neg y]
    have mn := mn_2 (y := q + 1 + 1) (e := e) (by omega) (by omega)
    have le : e ≤ q + 1 := by omega
    rw [if_neg s]
    rcases h with h | h
    · rw [h, if_pos rfl]
      simp (disch := (first | assumption | decide | omega)) only [df_X9_readSign, df_X9_readSign_0, df_X9_readSign_32, df_X9_readSign_61, df_X9_readSign_63, df_X9_readSign_82, df_X9_readSign_121, uC_i0, uC_i1, uC_i2, uC_i3, uC_i4, uC_r, uC_o, uC_w0, uC_w2, uC_w3, uC_w4, hO, o8, h1, mn, eq_self, Nat.reduceEqDiff, Nat.reduceLeDiff, nl_0, nl_1, nl_2, nl_4, nl_5, nl_6, nl_7, nl_8, nl_17, nl_60, nl_62, nl_256, nl_257, nl_32768, no_1, no_1024, pk_mul, nI_add, nm_ck, nI_clamp, nI_ltI, nI_leI, nI_eq, nb_b2, nb_b1, ↓nb_let, nm_z0, nm_z1, nb_II, nb_IR, nb_RI, nb_RR, nm_IL, nm_IQ, nm_RL, nm_RQ, nm_LI, nm_LR, nm_LL, nm_LQ, nm_QI, nm_QR, nm_QL, nm_QQ, nm_rr, nm_ii, nm_eqm, not_false_eq_true, pk_sub, nm_div, nm_shl, nm_shr, nm_ush, nm_or8, nm_or64, nm_or256, nm_m1, nm_m3, nm_m7, nm_m15, nm_m31, nm_m63, nm_m255, nm_m511, nm_m1023, nm_m2047, nm_m65535, Nat.reduceMod, Nat.reducePow, Nat.reduceAdd, Nat.reduceSub, Nat.reduceMul, nm_bo, nm_bi, nm_rc, nm_ic, nm_ri, nm_rl, nm_rq, nm_ql, nm_qi, nm_li, nm_us, nm_uu, nm_cp, nm_sa31, nm_sa7, nm_m127, nm_m2, nm_nz, nm_nzk, nm_eq32, nm_nzf, if_true, if_false, ↓reduceIte, if_pos, if_neg]
    · rw [h, if_neg (by decide)]
      simp (disch := (first | assumption | decide | omega)) only [df_X9_readSign, df_X9_readSign_0, df_X9_readSign_32, df_X9_readSign_61, df_X9_readSign_63, df_X9_readSign_82, df_X9_readSign_121, uC_i0, uC_i1, uC_i2, uC_i3, uC_i4, uC_r, uC_o, uC_w0, uC_w2, uC_w3, uC_w4, hO, o8, h1, mn, eq_self, Nat.reduceEqDiff, Nat.reduceLeDiff, nl_0, nl_1, nl_2, nl_4, nl_5, nl_6, nl_7, nl_8, nl_17, nl_60, nl_62, nl_256, nl_257, nl_32768, no_1, no_1024, pk_mul, nI_add, nm_ck, nI_clamp, nI_ltI, nI_leI, nI_eq, nb_b2, nb_b1, ↓nb_let, nm_z0, nm_z1, nb_II, nb_IR, nb_RI, nb_RR, nm_IL, nm_IQ, nm_RL, nm_RQ, nm_LI, nm_LR, nm_LL, nm_LQ, nm_QI, nm_QR, nm_QL, nm_QQ, nm_rr, nm_ii, nm_eqm, not_false_eq_true, pk_sub, nm_div, nm_shl, nm_shr, nm_ush, nm_or8, nm_or64, nm_or256, nm_m1, nm_m3, nm_m7, nm_m15, nm_m31, nm_m63, nm_m255, nm_m511, nm_m1023, nm_m2047, nm_m65535, Nat.reduceMod, Nat.reducePow, Nat.reduceAdd, Nat.reduceSub, Nat.reduceMul, nm_bo, nm_bi, nm_rc, nm_ic, nm_ri, nm_rl, nm_rq, nm_ql, nm_qi, nm_li, nm_us, nm_uu, nm_cp, nm_sa31, nm_sa7, nm_m127, nm_m2, nm_nz, nm_nzk, nm_eq32, nm_nzf, if_true, if_false, ↓reduceIte, if_pos, if_neg]
/-- the reference: what is no name and no number -/
theorem as_S0 {n L e : Nat} {c : Nat → Nat} {BC BR : St} (hT : atx n L e c BC BR) {G : St → Option St} (q tk fr to : Nat) (nm : Int32) (hq : q < e) (hp : aP (c q) = false) (hb : ¬ (c q = 32 ∨ c q = 9)) (h35 : ¬ c q = 35) (h10 : ¬ c q = 10) : dF_X13_scan_0 n G (uR BR q tk fr to nm) = if c q = 39 then nd_b1 (df_X13_character n (uR BR q tk q (q + 1) nm)) (fun s => df_X13_scan_348 n s) else if c q = 34 then nd_b1 (df_X13_quote n (uR BR q tk q (q + 1) nm)) (fun s => df_X13_scan_348 n s) else if c q = 60 ∨ c q = 62 then some (if c (q + 1) = c q then uR BR (q + 2) (if c q = 60 then 6 else 7) q (q + 2) nm else uR BR q 5 q q nm) else some (if sgA (c q) = true then uR BR (q + 1) (c q) q (q + 1) nm else uR BR q 5 q q nm) := by
  have h127 := hT.2.2.2.1 q
  have r127 := hT.2.2.2.1 (q + 1)
  have hL := hT.2.1
  have heL := hT.2.2.1
  have hd : ¬ aD (c q) = true := fun hh => by
    rw [aD_P hh] at hp
    exact absurd hp (by decide)
  rw [as_0 hT q tk fr to nm (Nat.le_of_lt hq) hb, if_neg (show ¬ (c q = 10 ∨ c q = 35) by omega), if_neg hd, if_neg (show ¬ aP (c q) = true by rw [hp]; decide)]
  by_cases k39 : c q = 39
  · rw [if_pos k39]
    rw [k39]
    simp (disch := (first | assumption | decide | omega)) only [sgB, uR_i0, uR_i7, uR_i8, uR_i9, uR_i10, uR_i11, uR_r, uR_w7, uR_w8, uR_w9, uR_w10, uR_w11, eq_self, Nat.reduceEqDiff, Nat.reduceLeDiff, nl_0, nl_1, nl_34, nl_37, nl_38, nl_39, nl_40, nl_41, nl_42, nl_43, nl_44, nl_45, nl_47, nl_58, nl_60, nl_62, nl_94, nl_124, nl_126, no_1, no_1024, pk_mul, nI_add, nm_ck, nI_clamp, nI_ltI, nI_leI, nI_eq, nb_b2, nb_b1, ↓nb_let, nm_z0, nm_z1, nb_II, nb_IR, nb_RI, nb_RR, nm_IL, nm_IQ, nm_RL, nm_RQ, nm_LI, nm_LR, nm_LL, nm_LQ, nm_QI, nm_QR, nm_QL, nm_QQ, nm_rr, nm_ii, nm_eqm, not_false_eq_true, pk_sub, nm_div, nm_shl, nm_shr, nm_ush, nm_or8, nm_or64, nm_or256, nm_m1, nm_m3, nm_m7, nm_m15, nm_m31, nm_m63, nm_m255, nm_m511, nm_m1023, nm_m2047, nm_m65535, Nat.reduceMod, Nat.reducePow, Nat.reduceAdd, Nat.reduceSub, Nat.reduceMul, nm_bo, nm_bi, nm_rc, nm_ic, nm_ri, nm_rl, nm_rq, nm_ql, nm_qi, nm_li, nm_us, nm_uu, nm_cp, nm_sa31, nm_sa7, nm_m127, nm_m2, nm_nz, nm_nzk, nm_eq32, nm_nzf, if_true, if_false, ↓reduceIte, if_pos, if_neg]
  rw [if_neg k39]
  by_cases k34 : c q = 34
  · rw [if_pos k34]
    rw [k34]
    simp (disch := (first | assumption | decide | omega)) only [sgB, uR_i0, uR_i7, uR_i8, uR_i9, uR_i10, uR_i11, uR_r, uR_w7, uR_w8, uR_w9, uR_w10, uR_w11, eq_self, Nat.reduceEqDiff, Nat.reduceLeDiff, nl_0, nl_1, nl_34, nl_37, nl_38, nl_39, nl_40, nl_41, nl_42, nl_43, nl_44, nl_45, nl_47, nl_58, nl_60, nl_62, nl_94, nl_124, nl_126, no_1, no_1024, pk_mul, nI_add, nm_ck, nI_clamp, nI_ltI, nI_leI, nI_eq, nb_b2, nb_b1, ↓nb_let, nm_z0, nm_z1, nb_II, nb_IR, nb_RI, nb_RR, nm_IL, nm_IQ, nm_RL, nm_RQ, nm_LI, nm_LR, nm_LL, nm_LQ, nm_QI, nm_QR, nm_QL, nm_QQ, nm_rr, nm_ii, nm_eqm, not_false_eq_true, pk_sub, nm_div, nm_shl, nm_shr, nm_ush, nm_or8, nm_or64, nm_or256, nm_m1, nm_m3, nm_m7, nm_m15, nm_m31, nm_m63, nm_m255, nm_m511, nm_m1023, nm_m2047, nm_m65535, Nat.reduceMod, Nat.reducePow, Nat.reduceAdd, Nat.reduceSub, Nat.reduceMul, nm_bo, nm_bi, nm_rc, nm_ic, nm_ri, nm_rl, nm_rq, nm_ql, nm_qi, nm_li, nm_us, nm_uu, nm_cp, nm_sa31, nm_sa7, nm_m127, nm_m2, nm_nz, nm_nzk, nm_eq32, nm_nzf, if_true, if_false, ↓reduceIte, if_pos, if_neg]
  rw [if_neg k34]
  by_cases k6 : c q = 60 ∨ c q = 62
  · rw [if_pos k6]
    have ca3 := fun t => ca_13 hT (q + 1) q t q (q + 2) nm (by omega)
    rcases k6 with k | k
    · rw [k]
      rw [if_pos rfl]
      have b6 := bad_13 n BR q 6 q (q + 2) nm
      have ca3 := ca3 6
      by_cases s : c (q + 1) = 60
      · rw [if_pos s]
        rw [s] at ca3
        simp (disch := (first | assumption | decide | omega)) only [df_X13_scan_203, df_X13_scan_217, df_X13_scan_348, sgB, uR_i0, uR_i7, uR_i8, uR_i9, uR_i10, uR_i11, uR_r, uR_w7, uR_w8, uR_w9, uR_w10, uR_w11, ca3, eq_self, Nat.reduceEqDiff, Nat.reduceLeDiff, nl_0, nl_1, nl_2, nl_6, nl_7, nl_8, nl_10, nl_34, nl_37, nl_38, nl_39, nl_40, nl_41, nl_42, nl_43, nl_44, nl_45, nl_47, nl_58, nl_60, nl_62, nl_94, nl_124, nl_126, no_1, no_1024, pk_mul, nI_add, nm_ck, nI_clamp, nI_ltI, nI_leI, nI_eq, nb_b2, nb_b1, ↓nb_let, nm_z0, nm_z1, nb_II, nb_IR, nb_RI, nb_RR, nm_IL, nm_IQ, nm_RL, nm_RQ, nm_LI, nm_LR, nm_LL, nm_LQ, nm_QI, nm_QR, nm_QL, nm_QQ, nm_rr, nm_ii, nm_eqm, not_false_eq_true, pk_sub, nm_div, nm_shl, nm_shr, nm_ush, nm_or8, nm_or64, nm_or256, nm_m1, nm_m3, nm_m7, nm_m15, nm_m31, nm_m63, nm_m255, nm_m511, nm_m1023, nm_m2047, nm_m65535, Nat.reduceMod, Nat.reducePow, Nat.reduceAdd, Nat.reduceSub, Nat.reduceMul, nm_bo, nm_bi, nm_rc, nm_ic, nm_ri, nm_rl, nm_rq, nm_ql, nm_qi, nm_li, nm_us, nm_uu, nm_cp, nm_sa31, nm_sa7, nm_m127, nm_m2, nm_nz, nm_nzk, nm_eq32, nm_nzf, if_true, if_false, ↓reduceIte, if_pos, if_neg]
      · rw [if_neg s]
        simp (disch := (first | assumption | decide | omega)) only [df_X13_scan_203, df_X13_scan_217, df_X13_scan_348, sgB, uR_i0, uR_i7, uR_i8, uR_i9, uR_i10, uR_i11, uR_r, uR_w7, uR_w8, uR_w9, uR_w10, uR_w11, ca3, b6, s, eq_self, Nat.reduceEqDiff, Nat.reduceLeDiff, nl_0, nl_1, nl_2, nl_6, nl_7, nl_8, nl_10, nl_34, nl_37, nl_38, nl_39, nl_40, nl_41, nl_42, nl_43, nl_44, nl_45, nl_47, nl_58, nl_60, nl_62, nl_94, nl_124, nl_126, no_1, no_1024, pk_mul, nI_add, nm_ck, nI_clamp, nI_ltI, nI_leI, nI_eq, nb_b2, nb_b1, ↓nb_let, nm_z0, nm_z1, nb_II, nb_IR, nb_RI, nb_RR, nm_IL, nm_IQ, nm_RL, nm_RQ, nm_LI, nm_LR, nm_LL, nm_LQ, nm_QI, nm_QR, nm_QL, nm_QQ, nm_rr, nm_ii, nm_eqm, not_false_eq_true, pk_sub, nm_div, nm_shl, nm_shr, nm_ush, nm_or8, nm_or64, nm_or256, nm_m1, nm_m3, nm_m7, nm_m15, nm_m31, nm_m63, nm_m255, nm_m511, nm_m1023, nm_m2047, nm_m65535, Nat.reduceMod, Nat.reducePow, Nat.reduceAdd, Nat.reduceSub, Nat.reduceMul, nm_bo, nm_bi, nm_rc, nm_ic, nm_ri, nm_rl, nm_rq, nm_ql, nm_qi, nm_li, nm_us, nm_uu, nm_cp, nm_sa31, nm_sa7, nm_m127, nm_m2, nm_nz, nm_nzk, nm_eq32, nm_nzf, if_true, if_false, ↓reduceIte, if_pos, if_neg]
    · rw [k]
      rw [if_neg (show ¬ 62 = 60 by decide)]
      have b6 := bad_13 n BR q 7 q (q + 2) nm
      have ca3 := ca3 7
      by_cases s : c (q + 1) = 62
      · rw [if_pos s]
        rw [s] at ca3
        simp (disch := (first | assumption | decide | omega)) only [df_X13_scan_203, df_X13_scan_217, df_X13_scan_348, sgB, uR_i0, uR_i7, uR_i8, uR_i9, uR_i10, uR_i11, uR_r, uR_w7, uR_w8, uR_w9, uR_w10, uR_w11, ca3, eq_self, Nat.reduceEqDiff, Nat.reduceLeDiff, nl_0, nl_1, nl_2, nl_6, nl_7, nl_8, nl_10, nl_34, nl_37, nl_38, nl_39, nl_40, nl_41, nl_42, nl_43, nl_44, nl_45, nl_47, nl_58, nl_60, nl_62, nl_94, nl_124, nl_126, no_1, no_1024, pk_mul, nI_add, nm_ck, nI_clamp, nI_ltI, nI_leI, nI_eq, nb_b2, nb_b1, ↓nb_let, nm_z0, nm_z1, nb_II, nb_IR, nb_RI, nb_RR, nm_IL, nm_IQ, nm_RL, nm_RQ, nm_LI, nm_LR, nm_LL, nm_LQ, nm_QI, nm_QR, nm_QL, nm_QQ, nm_rr, nm_ii, nm_eqm, not_false_eq_true, pk_sub, nm_div, nm_shl, nm_shr, nm_ush, nm_or8, nm_or64, nm_or256, nm_m1, nm_m3, nm_m7, nm_m15, nm_m31, nm_m63, nm_m255, nm_m511, nm_m1023, nm_m2047, nm_m65535, Nat.reduceMod, Nat.reducePow, Nat.reduceAdd, Nat.reduceSub, Nat.reduceMul, nm_bo, nm_bi, nm_rc, nm_ic, nm_ri, nm_rl, nm_rq, nm_ql, nm_qi, nm_li, nm_us, nm_uu, nm_cp, nm_sa31, nm_sa7, nm_m127, nm_m2, nm_nz, nm_nzk, nm_eq32, nm_nzf, if_true, if_false, ↓reduceIte, if_pos, if_neg]
      · rw [if_neg s]
        simp (disch := (first | assumption | decide | omega)) only [df_X13_scan_203, df_X13_scan_217, df_X13_scan_348, sgB, uR_i0, uR_i7, uR_i8, uR_i9, uR_i10, uR_i11, uR_r, uR_w7, uR_w8, uR_w9, uR_w10, uR_w11, ca3, b6, s, eq_self, Nat.reduceEqDiff, Nat.reduceLeDiff, nl_0, nl_1, nl_2, nl_6, nl_7, nl_8, nl_10, nl_34, nl_37, nl_38, nl_39, nl_40, nl_41, nl_42, nl_43, nl_44, nl_45, nl_47, nl_58, nl_60, nl_62, nl_94, nl_124, nl_126, no_1, no_1024, pk_mul, nI_add, nm_ck, nI_clamp, nI_ltI, nI_leI, nI_eq, nb_b2, nb_b1, ↓nb_let, nm_z0, nm_z1, nb_II, nb_IR, nb_RI, nb_RR, nm_IL, nm_IQ, nm_RL, nm_RQ, nm_LI, nm_LR, nm_LL, nm_LQ, nm_QI, nm_QR, nm_QL, nm_QQ, nm_rr, nm_ii, nm_eqm, not_false_eq_true, pk_sub, nm_div, nm_shl, nm_shr, nm_ush, nm_or8, nm_or64, nm_or256, nm_m1, nm_m3, nm_m7, nm_m15, nm_m31, nm_m63, nm_m255, nm_m511, nm_m1023, nm_m2047, nm_m65535, Nat.reduceMod, Nat.reducePow, Nat.reduceAdd, Nat.reduceSub, Nat.reduceMul, nm_bo, nm_bi, nm_rc, nm_ic, nm_ri, nm_rl, nm_rq, nm_ql, nm_qi, nm_li, nm_us, nm_uu, nm_cp, nm_sa31, nm_sa7, nm_m127, nm_m2, nm_nz, nm_nzk, nm_eq32, nm_nzf, if_true, if_false, ↓reduceIte, if_pos, if_neg]
  rw [if_neg k6]
  have k60 : ¬ c q = 60 := fun z => k6 (Or.inl z)
  have k62 : ¬ c q = 62 := fun z => k6 (Or.inr z)
  by_cases s : sgA (c q) = true
  · rw [if_pos s]
    have s := of_decide_eq_true s
    rcases s with s | s | s | s | s | s | s | s | s | s | s | s | s
    all_goals
      rw [s]
      simp (disch := (first | assumption | decide | omega)) only [df_X13_scan_329, df_X13_scan_334, df_X13_scan_348, sgB, uR_i0, uR_i7, uR_i8, uR_i9, uR_i10, uR_i11, uR_r, uR_w7, uR_w8, uR_w9, uR_w10, uR_w11, eq_self, Nat.reduceEqDiff, Nat.reduceLeDiff, nl_0, nl_1, nl_7, nl_8, nl_10, nl_34, nl_37, nl_38, nl_39, nl_40, nl_41, nl_42, nl_43, nl_44, nl_45, nl_47, nl_58, nl_60, nl_62, nl_94, nl_124, nl_126, no_1, no_1024, pk_mul, nI_add, nm_ck, nI_clamp, nI_ltI, nI_leI, nI_eq, nb_b2, nb_b1, ↓nb_let, nm_z0, nm_z1, nb_II, nb_IR, nb_RI, nb_RR, nm_IL, nm_IQ, nm_RL, nm_RQ, nm_LI, nm_LR, nm_LL, nm_LQ, nm_QI, nm_QR, nm_QL, nm_QQ, nm_rr, nm_ii, nm_eqm, not_false_eq_true, pk_sub, nm_div, nm_shl, nm_shr, nm_ush, nm_or8, nm_or64, nm_or256, nm_m1, nm_m3, nm_m7, nm_m15, nm_m31, nm_m63, nm_m255, nm_m511, nm_m1023, nm_m2047, nm_m65535, Nat.reduceMod, Nat.reducePow, Nat.reduceAdd, Nat.reduceSub, Nat.reduceMul, nm_bo, nm_bi, nm_rc, nm_ic, nm_ri, nm_rl, nm_rq, nm_ql, nm_qi, nm_li, nm_us, nm_uu, nm_cp, nm_sa31, nm_sa7, nm_m127, nm_m2, nm_nz, nm_nzk, nm_eq32, nm_nzf, if_true, if_false, ↓reduceIte, if_pos, if_neg]
  · rw [if_neg s]
    have s : ¬ (c q = 58 ∨ c q = 44 ∨ c q = 40 ∨ c q = 41 ∨ c q = 43 ∨ c q = 45 ∨ c q = 42 ∨ c q = 47 ∨ c q = 37 ∨ c q = 38 ∨ c q = 124 ∨ c q = 94 ∨ c q = 126) := fun z => s (decide_eq_true z)
    have b6 := bad_13 n BR q (c q) q (q + 1) nm
    have s1 : ¬ c q = 58 := fun z => s (by omega)
    have s2 : ¬ c q = 44 := fun z => s (by omega)
    have s3 : ¬ c q = 40 := fun z => s (by omega)
    have s4 : ¬ c q = 41 := fun z => s (by omega)
    have s5 : ¬ c q = 43 := fun z => s (by omega)
    have s6 : ¬ c q = 45 := fun z => s (by omega)
    have s7 : ¬ c q = 42 := fun z => s (by omega)
    have s8 : ¬ c q = 47 := fun z => s (by omega)
    have s9 : ¬ c q = 37 := fun z => s (by omega)
    have s10 : ¬ c q = 38 := fun z => s (by omega)
    have s11 : ¬ c q = 124 := fun z => s (by omega)
    have s12 : ¬ c q = 94 := fun z => s (by omega)
    have s13 : ¬ c q = 126 := fun z => s (by omega)
    clear s
    simp (disch := (first | assumption | decide | omega)) only [df_X13_scan_329, df_X13_scan_334, df_X13_scan_348, sgB, uR_i0, uR_i7, uR_i8, uR_i9, uR_i10, uR_i11, uR_r, uR_w7, uR_w8, uR_w9, uR_w10, uR_w11, b6, k39, k34, k60, k62, s1, s2, s3, s4, s5, s6, s7, s8, s9, s10, s11, s12, s13, eq_self, Nat.reduceEqDiff, Nat.reduceLeDiff, nl_0, nl_1, nl_7, nl_8, nl_10, nl_34, nl_37, nl_38, nl_39, nl_40, nl_41, nl_42, nl_43, nl_44, nl_45, nl_47, nl_58, nl_60, nl_62, nl_94, nl_124, nl_126, no_1, no_1024, pk_mul, nI_add, nm_ck, nI_clamp, nI_ltI, nI_leI, nI_eq, nb_b2, nb_b1, ↓nb_let, nm_z0, nm_z1, nb_II, nb_IR, nb_RI, nb_RR, nm_IL, nm_IQ, nm_RL, nm_RQ, nm_LI, nm_LR, nm_LL, nm_LQ, nm_QI, nm_QR, nm_QL, nm_QQ, nm_rr, nm_ii, nm_eqm, not_false_eq_true, pk_sub, nm_div, nm_shl, nm_shr, nm_ush, nm_or8, nm_or64, nm_or256, nm_m1, nm_m3, nm_m7, nm_m15, nm_m31, nm_m63, nm_m255, nm_m511, nm_m1023, nm_m2047, nm_m65535, Nat.reduceMod, Nat.reducePow, Nat.reduceAdd, Nat.reduceSub, Nat.reduceMul, nm_bo, nm_bi, nm_rc, nm_ic, nm_ri, nm_rl, nm_rq, nm_ql, nm_qi, nm_li, nm_us, nm_uu, nm_cp, nm_sa31, nm_sa7, nm_m127, nm_m2, nm_nz, nm_nzk, nm_eq32, nm_nzf, if_true, if_false, ↓reduceIte, if_pos, if_neg]
/-- what stands in quotes, in both -/
def esv (x : Nat) : Option Nat := if x = 110 then some 10 else if x = 116 then some 9 else if x = 48 then some 0 else if x = 92 ∨ x = 39 ∨ x = 34 then some x else none
def shO (c : Nat → Nat) (e i qt : Nat) : Option Nat := if e ≤ i then none else if c i = 92 then esv (c (i + 1)) else if c i = qt then none else some (c i)
def wdO (c : Nat → Nat) (e i : Nat) : Nat := if i < e ∧ c i = 92 then 2 else 1
def oI (o : Option Nat) : Int32 := match o with | some x => nI x | none => -1
theorem ch_60 (n x : Nat) (S : St) (hx : x < 127) : df_X9_character_60 n (nI x) S = some (oI (esv x), S) := by
  unfold esv
  by_cases a : x = 34
  · subst a; simp (disch := (first | assumption | decide | omega)) only [df_X9_character_60, df_X9_character_132, eq_self, Nat.reduceEqDiff, Nat.reduceLeDiff, nl_0, nl_1, nl_9, nl_10, nl_34, nl_39, nl_48, nl_92, nl_110, nl_116, no_1, no_1024, pk_mul, nI_add, nm_ck, nI_clamp, nI_ltI, nI_leI, nI_eq, nb_b2, nb_b1, ↓nb_let, nm_z0, nm_z1, nb_II, nb_IR, nb_RI, nb_RR, nm_IL, nm_IQ, nm_RL, nm_RQ, nm_LI, nm_LR, nm_LL, nm_LQ, nm_QI, nm_QR, nm_QL, nm_QQ, nm_rr, nm_ii, nm_eqm, not_false_eq_true, pk_sub, nm_div, nm_shl, nm_shr, nm_ush, nm_or8, nm_or64, nm_or256, nm_m1, nm_m3, nm_m7, nm_m15, nm_m31, nm_m63, nm_m255, nm_m511, nm_m1023, nm_m2047, nm_m65535, Nat.reduceMod, Nat.reducePow, Nat.reduceAdd, Nat.reduceSub, Nat.reduceMul, nm_bo, nm_bi, nm_rc, nm_ic, nm_ri, nm_rl, nm_rq, nm_ql, nm_qi, nm_li, nm_us, nm_uu, nm_cp, nm_sa31, nm_sa7, nm_m127, nm_m2, nm_nz, nm_nzk, nm_eq32, nm_nzf, if_true, if_false, ↓reduceIte, if_pos, if_neg]; rfl
  by_cases b : x = 39
  · subst b; simp (disch := (first | assumption | decide | omega)) only [df_X9_character_60, df_X9_character_132, eq_self, Nat.reduceEqDiff, Nat.reduceLeDiff, nl_0, nl_1, nl_9, nl_10, nl_34, nl_39, nl_48, nl_92, nl_110, nl_116, no_1, no_1024, pk_mul, nI_add, nm_ck, nI_clamp, nI_ltI, nI_leI, nI_eq, nb_b2, nb_b1, ↓nb_let, nm_z0, nm_z1, nb_II, nb_IR, nb_RI, nb_RR, nm_IL, nm_IQ, nm_RL, nm_RQ, nm_LI, nm_LR, nm_LL, nm_LQ, nm_QI, nm_QR, nm_QL, nm_QQ, nm_rr, nm_ii, nm_eqm, not_false_eq_true, pk_sub, nm_div, nm_shl, nm_shr, nm_ush, nm_or8, nm_or64, nm_or256, nm_m1, nm_m3, nm_m7, nm_m15, nm_m31, nm_m63, nm_m255, nm_m511, nm_m1023, nm_m2047, nm_m65535, Nat.reduceMod, Nat.reducePow, Nat.reduceAdd, Nat.reduceSub, Nat.reduceMul, nm_bo, nm_bi, nm_rc, nm_ic, nm_ri, nm_rl, nm_rq, nm_ql, nm_qi, nm_li, nm_us, nm_uu, nm_cp, nm_sa31, nm_sa7, nm_m127, nm_m2, nm_nz, nm_nzk, nm_eq32, nm_nzf, if_true, if_false, ↓reduceIte, if_pos, if_neg]; rfl
  by_cases d : x = 48
  · subst d; simp (disch := (first | assumption | decide | omega)) only [df_X9_character_60, df_X9_character_132, eq_self, Nat.reduceEqDiff, Nat.reduceLeDiff, nl_0, nl_1, nl_9, nl_10, nl_34, nl_39, nl_48, nl_92, nl_110, nl_116, no_1, no_1024, pk_mul, nI_add, nm_ck, nI_clamp, nI_ltI, nI_leI, nI_eq, nb_b2, nb_b1, ↓nb_let, nm_z0, nm_z1, nb_II, nb_IR, nb_RI, nb_RR, nm_IL, nm_IQ, nm_RL, nm_RQ, nm_LI, nm_LR, nm_LL, nm_LQ, nm_QI, nm_QR, nm_QL, nm_QQ, nm_rr, nm_ii, nm_eqm, not_false_eq_true, pk_sub, nm_div, nm_shl, nm_shr, nm_ush, nm_or8, nm_or64, nm_or256, nm_m1, nm_m3, nm_m7, nm_m15, nm_m31, nm_m63, nm_m255, nm_m511, nm_m1023, nm_m2047, nm_m65535, Nat.reduceMod, Nat.reducePow, Nat.reduceAdd, Nat.reduceSub, Nat.reduceMul, nm_bo, nm_bi, nm_rc, nm_ic, nm_ri, nm_rl, nm_rq, nm_ql, nm_qi, nm_li, nm_us, nm_uu, nm_cp, nm_sa31, nm_sa7, nm_m127, nm_m2, nm_nz, nm_nzk, nm_eq32, nm_nzf, if_true, if_false, ↓reduceIte, if_pos, if_neg]; rfl
  by_cases f : x = 92
  · subst f; simp (disch := (first | assumption | decide | omega)) only [df_X9_character_60, df_X9_character_132, eq_self, Nat.reduceEqDiff, Nat.reduceLeDiff, nl_0, nl_1, nl_9, nl_10, nl_34, nl_39, nl_48, nl_92, nl_110, nl_116, no_1, no_1024, pk_mul, nI_add, nm_ck, nI_clamp, nI_ltI, nI_leI, nI_eq, nb_b2, nb_b1, ↓nb_let, nm_z0, nm_z1, nb_II, nb_IR, nb_RI, nb_RR, nm_IL, nm_IQ, nm_RL, nm_RQ, nm_LI, nm_LR, nm_LL, nm_LQ, nm_QI, nm_QR, nm_QL, nm_QQ, nm_rr, nm_ii, nm_eqm, not_false_eq_true, pk_sub, nm_div, nm_shl, nm_shr, nm_ush, nm_or8, nm_or64, nm_or256, nm_m1, nm_m3, nm_m7, nm_m15, nm_m31, nm_m63, nm_m255, nm_m511, nm_m1023, nm_m2047, nm_m65535, Nat.reduceMod, Nat.reducePow, Nat.reduceAdd, Nat.reduceSub, Nat.reduceMul, nm_bo, nm_bi, nm_rc, nm_ic, nm_ri, nm_rl, nm_rq, nm_ql, nm_qi, nm_li, nm_us, nm_uu, nm_cp, nm_sa31, nm_sa7, nm_m127, nm_m2, nm_nz, nm_nzk, nm_eq32, nm_nzf, if_true, if_false, ↓reduceIte, if_pos, if_neg]; rfl
  by_cases g : x = 110
  · subst g; simp (disch := (first | assumption | decide | omega)) only [df_X9_character_60, df_X9_character_132, eq_self, Nat.reduceEqDiff, Nat.reduceLeDiff, nl_0, nl_1, nl_9, nl_10, nl_34, nl_39, nl_48, nl_92, nl_110, nl_116, no_1, no_1024, pk_mul, nI_add, nm_ck, nI_clamp, nI_ltI, nI_leI, nI_eq, nb_b2, nb_b1, ↓nb_let, nm_z0, nm_z1, nb_II, nb_IR, nb_RI, nb_RR, nm_IL, nm_IQ, nm_RL, nm_RQ, nm_LI, nm_LR, nm_LL, nm_LQ, nm_QI, nm_QR, nm_QL, nm_QQ, nm_rr, nm_ii, nm_eqm, not_false_eq_true, pk_sub, nm_div, nm_shl, nm_shr, nm_ush, nm_or8, nm_or64, nm_or256, nm_m1, nm_m3, nm_m7, nm_m15, nm_m31, nm_m63, nm_m255, nm_m511, nm_m1023, nm_m2047, nm_m65535, Nat.reduceMod, Nat.reducePow, Nat.reduceAdd, Nat.reduceSub, Nat.reduceMul, nm_bo, nm_bi, nm_rc, nm_ic, nm_ri, nm_rl, nm_rq, nm_ql, nm_qi, nm_li, nm_us, nm_uu, nm_cp, nm_sa31, nm_sa7, nm_m127, nm_m2, nm_nz, nm_nzk, nm_eq32, nm_nzf, if_true, if_false, ↓reduceIte, if_pos, if_neg]; rfl
  by_cases h : x = 116
  · subst h; simp (disch := (first | assumption | decide | omega)) only [df_X9_character_60, df_X9_character_132, eq_self, Nat.reduceEqDiff, Nat.reduceLeDiff, nl_0, nl_1, nl_9, nl_10, nl_34, nl_39, nl_48, nl_92, nl_110, nl_116, no_1, no_1024, pk_mul, nI_add, nm_ck, nI_clamp, nI_ltI, nI_leI, nI_eq, nb_b2, nb_b1, ↓nb_let, nm_z0, nm_z1, nb_II, nb_IR, nb_RI, nb_RR, nm_IL, nm_IQ, nm_RL, nm_RQ, nm_LI, nm_LR, nm_LL, nm_LQ, nm_QI, nm_QR, nm_QL, nm_QQ, nm_rr, nm_ii, nm_eqm, not_false_eq_true, pk_sub, nm_div, nm_shl, nm_shr, nm_ush, nm_or8, nm_or64, nm_or256, nm_m1, nm_m3, nm_m7, nm_m15, nm_m31, nm_m63, nm_m255, nm_m511, nm_m1023, nm_m2047, nm_m65535, Nat.reduceMod, Nat.reducePow, Nat.reduceAdd, Nat.reduceSub, Nat.reduceMul, nm_bo, nm_bi, nm_rc, nm_ic, nm_ri, nm_rl, nm_rq, nm_ql, nm_qi, nm_li, nm_us, nm_uu, nm_cp, nm_sa31, nm_sa7, nm_m127, nm_m2, nm_nz, nm_nzk, nm_eq32, nm_nzf, if_true, if_false, ↓reduceIte, if_pos, if_neg]; rfl
  rw [if_neg g, if_neg h, if_neg d, if_neg (by omega)]
  simp (disch := (first | assumption | decide | omega)) only [df_X9_character_60, df_X9_character_132, a, b, d, f, g, h, eq_self, Nat.reduceEqDiff, Nat.reduceLeDiff, nl_0, nl_1, nl_9, nl_10, nl_34, nl_39, nl_48, nl_92, nl_110, nl_116, no_1, no_1024, pk_mul, nI_add, nm_ck, nI_clamp, nI_ltI, nI_leI, nI_eq, nb_b2, nb_b1, ↓nb_let, nm_z0, nm_z1, nb_II, nb_IR, nb_RI, nb_RR, nm_IL, nm_IQ, nm_RL, nm_RQ, nm_LI, nm_LR, nm_LL, nm_LQ, nm_QI, nm_QR, nm_QL, nm_QQ, nm_rr, nm_ii, nm_eqm, not_false_eq_true, pk_sub, nm_div, nm_shl, nm_shr, nm_ush, nm_or8, nm_or64, nm_or256, nm_m1, nm_m3, nm_m7, nm_m15, nm_m31, nm_m63, nm_m255, nm_m511, nm_m1023, nm_m2047, nm_m65535, Nat.reduceMod, Nat.reducePow, Nat.reduceAdd, Nat.reduceSub, Nat.reduceMul, nm_bo, nm_bi, nm_rc, nm_ic, nm_ri, nm_rl, nm_rq, nm_ql, nm_qi, nm_li, nm_us, nm_uu, nm_cp, nm_sa31, nm_sa7, nm_m127, nm_m2, nm_nz, nm_nzk, nm_eq32, nm_nzf, if_true, if_false, ↓reduceIte, if_pos, if_neg]
  rfl
theorem ak_ch {n L e : Nat} {c : Nat → Nat} {BC BR : St} (hT : atx n L e c BC BR) (i qt ap kd fr : Nat) (nm : Int32) (hi : i < 2 ^ 20) (hq : qt < 100) : df_X9_character n (nI i) (nI qt) (uC BC ap kd fr nm) = some (oI (shO c e i qt), uC BC ap kd fr nm) := by
  obtain ⟨hn, hL, heL, h127, hend, hce, hO, h1, htC, h0, htR, hch⟩ := id hT
  unfold shO
  by_cases y : e ≤ i
  · rw [if_pos y]
    have ny : ¬ i < e := by omega
    simp (disch := (first | assumption | decide | omega)) only [df_X9_character, df_X9_character_0, df_X9_character_12, uC_i0, uC_i1, uC_i2, uC_i3, uC_i4, uC_r, uC_o, uC_w0, uC_w2, uC_w3, uC_w4, h1, eq_self, Nat.reduceEqDiff, Nat.reduceLeDiff, nl_0, nl_1, nl_7, nl_8, nl_92, nl_32768, no_1, no_1024, pk_mul, nI_add, nm_ck, nI_clamp, nI_ltI, nI_leI, nI_eq, nb_b2, nb_b1, ↓nb_let, nm_z0, nm_z1, nb_II, nb_IR, nb_RI, nb_RR, nm_IL, nm_IQ, nm_RL, nm_RQ, nm_LI, nm_LR, nm_LL, nm_LQ, nm_QI, nm_QR, nm_QL, nm_QQ, nm_rr, nm_ii, nm_eqm, not_false_eq_true, pk_sub, nm_div, nm_shl, nm_shr, nm_ush, nm_or8, nm_or64, nm_or256, nm_m1, nm_m3, nm_m7, nm_m15, nm_m31, nm_m63, nm_m255, nm_m511, nm_m1023, nm_m2047, nm_m65535, Nat.reduceMod, Nat.reducePow, Nat.reduceAdd, Nat.reduceSub, Nat.reduceMul, nm_bo, nm_bi, nm_rc, nm_ic, nm_ri, nm_rl, nm_rq, nm_ql, nm_qi, nm_li, nm_us, nm_uu, nm_cp, nm_sa31, nm_sa7, nm_m127, nm_m2, nm_nz, nm_nzk, nm_eq32, nm_nzf, if_true, if_false, ↓reduceIte, if_pos, if_neg]
    rfl
  · rw [if_neg y]
    have ny : i < e := by omega
    have t := htC i (by omega)
    have i127 := h127 i
    by_cases k : c i = 92
    · rw [if_pos k]
      rw [k] at t
      by_cases f : i + 1 < e
      · have t1 := htC (i + 1) (by omega)
        have nf : ¬ e ≤ i + 1 := by omega
        have c6 := ch_60 n (c (i + 1)) (uC BC ap kd fr nm) (h127 (i + 1))
        simp (disch := (first | assumption | decide | omega)) only [df_X9_character, df_X9_character_0, uC_i0, uC_i1, uC_i2, uC_i3, uC_i4, uC_r, uC_o, uC_w0, uC_w2, uC_w3, uC_w4, hO, o8, h1, t, t1, c6, eq_self, Nat.reduceEqDiff, Nat.reduceLeDiff, nl_0, nl_1, nl_7, nl_8, nl_92, nl_32768, no_1, no_1024, pk_mul, nI_add, nm_ck, nI_clamp, nI_ltI, nI_leI, nI_eq, nb_b2, nb_b1, ↓nb_let, nm_z0, nm_z1, nb_II, nb_IR, nb_RI, nb_RR, nm_IL, nm_IQ, nm_RL, nm_RQ, nm_LI, nm_LR, nm_LL, nm_LQ, nm_QI, nm_QR, nm_QL, nm_QQ, nm_rr, nm_ii, nm_eqm, not_false_eq_true, pk_sub, nm_div, nm_shl, nm_shr, nm_ush, nm_or8, nm_or64, nm_or256, nm_m1, nm_m3, nm_m7, nm_m15, nm_m31, nm_m63, nm_m255, nm_m511, nm_m1023, nm_m2047, nm_m65535, Nat.reduceMod, Nat.reducePow, Nat.reduceAdd, Nat.reduceSub, Nat.reduceMul, nm_bo, nm_bi, nm_rc, nm_ic, nm_ri, nm_rl, nm_rq, nm_ql, nm_qi, nm_li, nm_us, nm_uu, nm_cp, nm_sa31, nm_sa7, nm_m127, nm_m2, nm_nz, nm_nzk, nm_eq32, nm_nzf, if_true, if_false, ↓reduceIte, if_pos, if_neg]
      · have f : e ≤ i + 1 := by omega
        have c6 := ch_60 n 0 (uC BC ap kd fr nm) (by omega)
        rw [show i + 1 = e by omega, hce, show esv 10 = esv 0 from rfl]
        simp (disch := (first | assumption | decide | omega)) only [df_X9_character, df_X9_character_0, uC_i0, uC_i1, uC_i2, uC_i3, uC_i4, uC_r, uC_o, uC_w0, uC_w2, uC_w3, uC_w4, hO, o8, h1, t, c6, eq_self, Nat.reduceEqDiff, Nat.reduceLeDiff, nl_0, nl_1, nl_7, nl_8, nl_92, nl_32768, no_1, no_1024, pk_mul, nI_add, nm_ck, nI_clamp, nI_ltI, nI_leI, nI_eq, nb_b2, nb_b1, ↓nb_let, nm_z0, nm_z1, nb_II, nb_IR, nb_RI, nb_RR, nm_IL, nm_IQ, nm_RL, nm_RQ, nm_LI, nm_LR, nm_LL, nm_LQ, nm_QI, nm_QR, nm_QL, nm_QQ, nm_rr, nm_ii, nm_eqm, not_false_eq_true, pk_sub, nm_div, nm_shl, nm_shr, nm_ush, nm_or8, nm_or64, nm_or256, nm_m1, nm_m3, nm_m7, nm_m15, nm_m31, nm_m63, nm_m255, nm_m511, nm_m1023, nm_m2047, nm_m65535, Nat.reduceMod, Nat.reducePow, Nat.reduceAdd, Nat.reduceSub, Nat.reduceMul, nm_bo, nm_bi, nm_rc, nm_ic, nm_ri, nm_rl, nm_rq, nm_ql, nm_qi, nm_li, nm_us, nm_uu, nm_cp, nm_sa31, nm_sa7, nm_m127, nm_m2, nm_nz, nm_nzk, nm_eq32, nm_nzf, if_true, if_false, ↓reduceIte, if_pos, if_neg]
    · rw [if_neg k]
      by_cases f : c i = qt
      · rw [if_pos f]
        rw [f] at t k
        simp (disch := (first | assumption | decide | omega)) only [df_X9_character, df_X9_character_0, df_X9_character_37, uC_i0, uC_i1, uC_i2, uC_i3, uC_i4, uC_r, uC_o, uC_w0, uC_w2, uC_w3, uC_w4, hO, o8, h1, t, k, eq_self, Nat.reduceEqDiff, Nat.reduceLeDiff, nl_0, nl_1, nl_7, nl_8, nl_92, nl_32768, no_1, no_1024, pk_mul, nI_add, nm_ck, nI_clamp, nI_ltI, nI_leI, nI_eq, nb_b2, nb_b1, ↓nb_let, nm_z0, nm_z1, nb_II, nb_IR, nb_RI, nb_RR, nm_IL, nm_IQ, nm_RL, nm_RQ, nm_LI, nm_LR, nm_LL, nm_LQ, nm_QI, nm_QR, nm_QL, nm_QQ, nm_rr, nm_ii, nm_eqm, not_false_eq_true, pk_sub, nm_div, nm_shl, nm_shr, nm_ush, nm_or8, nm_or64, nm_or256, nm_m1, nm_m3, nm_m7, nm_m15, nm_m31, nm_m63, nm_m255, nm_m511, nm_m1023, nm_m2047, nm_m65535, Nat.reduceMod, Nat.reducePow, Nat.reduceAdd, Nat.reduceSub, Nat.reduceMul, nm_bo, nm_bi, nm_rc, nm_ic, nm_ri, nm_rl, nm_rq, nm_ql, nm_qi, nm_li, nm_us, nm_uu, nm_cp, nm_sa31, nm_sa7, nm_m127, nm_m2, nm_nz, nm_nzk, nm_eq32, nm_nzf, if_true, if_false, ↓reduceIte, if_pos, if_neg]
        rfl
      · rw [if_neg f]
        simp (disch := (first | assumption | decide | omega)) only [df_X9_character, df_X9_character_0, df_X9_character_37, uC_i0, uC_i1, uC_i2, uC_i3, uC_i4, uC_r, uC_o, uC_w0, uC_w2, uC_w3, uC_w4, hO, o8, h1, t, k, f, eq_self, Nat.reduceEqDiff, Nat.reduceLeDiff, nl_0, nl_1, nl_7, nl_8, nl_92, nl_32768, no_1, no_1024, pk_mul, nI_add, nm_ck, nI_clamp, nI_ltI, nI_leI, nI_eq, nb_b2, nb_b1, ↓nb_let, nm_z0, nm_z1, nb_II, nb_IR, nb_RI, nb_RR, nm_IL, nm_IQ, nm_RL, nm_RQ, nm_LI, nm_LR, nm_LL, nm_LQ, nm_QI, nm_QR, nm_QL, nm_QQ, nm_rr, nm_ii, nm_eqm, not_false_eq_true, pk_sub, nm_div, nm_shl, nm_shr, nm_ush, nm_or8, nm_or64, nm_or256, nm_m1, nm_m3, nm_m7, nm_m15, nm_m31, nm_m63, nm_m255, nm_m511, nm_m1023, nm_m2047, nm_m65535, Nat.reduceMod, Nat.reducePow, Nat.reduceAdd, Nat.reduceSub, Nat.reduceMul, nm_bo, nm_bi, nm_rc, nm_ic, nm_ri, nm_rl, nm_rq, nm_ql, nm_qi, nm_li, nm_us, nm_uu, nm_cp, nm_sa31, nm_sa7, nm_m127, nm_m2, nm_nz, nm_nzk, nm_eq32, nm_nzf, if_true, if_false, ↓reduceIte, if_pos, if_neg]
        rfl
theorem ak_wd {n L e : Nat} {c : Nat → Nat} {BC BR : St} (hT : atx n L e c BC BR) (i ap kd fr : Nat) (nm : Int32) (hi : i < 2 ^ 20) : df_X9_width n (nI i) (uC BC ap kd fr nm) = some (nI (wdO c e i), uC BC ap kd fr nm) := by
  obtain ⟨hn, hL, heL, h127, hend, hce, hO, h1, htC, h0, htR, hch⟩ := id hT
  unfold wdO
  by_cases y : e ≤ i
  · rw [if_neg (by omega)]
    simp (disch := (first | assumption | decide | omega)) only [df_X9_width_28, df_X9_width_27, df_X9_width_0, df_X9_width, uC_i0, uC_i1, uC_i2, uC_i3, uC_i4, uC_r, uC_o, uC_w0, uC_w2, uC_w3, uC_w4, h1, eq_self, Nat.reduceEqDiff, Nat.reduceLeDiff, nl_0, nl_1, nl_2, nl_7, nl_8, nl_92, nl_32768, no_1, no_1024, pk_mul, nI_add, nm_ck, nI_clamp, nI_ltI, nI_leI, nI_eq, nb_b2, nb_b1, ↓nb_let, nm_z0, nm_z1, nb_II, nb_IR, nb_RI, nb_RR, nm_IL, nm_IQ, nm_RL, nm_RQ, nm_LI, nm_LR, nm_LL, nm_LQ, nm_QI, nm_QR, nm_QL, nm_QQ, nm_rr, nm_ii, nm_eqm, not_false_eq_true, pk_sub, nm_div, nm_shl, nm_shr, nm_ush, nm_or8, nm_or64, nm_or256, nm_m1, nm_m3, nm_m7, nm_m15, nm_m31, nm_m63, nm_m255, nm_m511, nm_m1023, nm_m2047, nm_m65535, Nat.reduceMod, Nat.reducePow, Nat.reduceAdd, Nat.reduceSub, Nat.reduceMul, nm_bo, nm_bi, nm_rc, nm_ic, nm_ri, nm_rl, nm_rq, nm_ql, nm_qi, nm_li, nm_us, nm_uu, nm_cp, nm_sa31, nm_sa7, nm_m127, nm_m2, nm_nz, nm_nzk, nm_eq32, nm_nzf, if_true, if_false, ↓reduceIte, if_pos, if_neg]
  · have ny : i < e := by omega
    have t := htC i (by omega)
    have i127 := h127 i
    by_cases k : c i = 92
    · rw [if_pos ⟨ny, k⟩]
      rw [k] at t
      simp (disch := (first | assumption | decide | omega)) only [df_X9_width_28, df_X9_width_27, df_X9_width_0, df_X9_width, uC_i0, uC_i1, uC_i2, uC_i3, uC_i4, uC_r, uC_o, uC_w0, uC_w2, uC_w3, uC_w4, hO, o8, h1, t, eq_self, Nat.reduceEqDiff, Nat.reduceLeDiff, nl_0, nl_1, nl_2, nl_7, nl_8, nl_92, nl_32768, no_1, no_1024, pk_mul, nI_add, nm_ck, nI_clamp, nI_ltI, nI_leI, nI_eq, nb_b2, nb_b1, ↓nb_let, nm_z0, nm_z1, nb_II, nb_IR, nb_RI, nb_RR, nm_IL, nm_IQ, nm_RL, nm_RQ, nm_LI, nm_LR, nm_LL, nm_LQ, nm_QI, nm_QR, nm_QL, nm_QQ, nm_rr, nm_ii, nm_eqm, not_false_eq_true, pk_sub, nm_div, nm_shl, nm_shr, nm_ush, nm_or8, nm_or64, nm_or256, nm_m1, nm_m3, nm_m7, nm_m15, nm_m31, nm_m63, nm_m255, nm_m511, nm_m1023, nm_m2047, nm_m65535, Nat.reduceMod, Nat.reducePow, Nat.reduceAdd, Nat.reduceSub, Nat.reduceMul, nm_bo, nm_bi, nm_rc, nm_ic, nm_ri, nm_rl, nm_rq, nm_ql, nm_qi, nm_li, nm_us, nm_uu, nm_cp, nm_sa31, nm_sa7, nm_m127, nm_m2, nm_nz, nm_nzk, nm_eq32, nm_nzf, if_true, if_false, ↓reduceIte, if_pos, if_neg]
    · rw [if_neg (fun z => k z.2)]
      simp (disch := (first | assumption | decide | omega)) only [df_X9_width_28, df_X9_width_27, df_X9_width_0, df_X9_width, uC_i0, uC_i1, uC_i2, uC_i3, uC_i4, uC_r, uC_o, uC_w0, uC_w2, uC_w3, uC_w4, hO, o8, h1, t, k, eq_self, Nat.reduceEqDiff, Nat.reduceLeDiff, nl_0, nl_1, nl_2, nl_7, nl_8, nl_92, nl_32768, no_1, no_1024, pk_mul, nI_add, nm_ck, nI_clamp, nI_ltI, nI_leI, nI_eq, nb_b2, nb_b1, ↓nb_let, nm_z0, nm_z1, nb_II, nb_IR, nb_RI, nb_RR, nm_IL, nm_IQ, nm_RL, nm_RQ, nm_LI, nm_LR, nm_LL, nm_LQ, nm_QI, nm_QR, nm_QL, nm_QQ, nm_rr, nm_ii, nm_eqm, not_false_eq_true, pk_sub, nm_div, nm_shl, nm_shr, nm_ush, nm_or8, nm_or64, nm_or256, nm_m1, nm_m3, nm_m7, nm_m15, nm_m31, nm_m63, nm_m255, nm_m511, nm_m1023, nm_m2047, nm_m65535, Nat.reduceMod, Nat.reducePow, Nat.reduceAdd, Nat.reduceSub, Nat.reduceMul, nm_bo, nm_bi, nm_rc, nm_ic, nm_ri, nm_rl, nm_rq, nm_ql, nm_qi, nm_li, nm_us, nm_uu, nm_cp, nm_sa31, nm_sa7, nm_m127, nm_m2, nm_nz, nm_nzk, nm_eq32, nm_nzf, if_true, if_false, ↓reduceIte, if_pos, if_neg]
theorem es_13 (n x : Nat) (S : St) (hx : x < 127) : (if nI x = 110 then df_X13_shown_124 n 10 S else if nI x = 116 then df_X13_shown_124 n 9 S else if nI x = 48 then df_X13_shown_124 n 0 S else if nI x = 92 then df_X13_shown_118 n (nI x) S else if nI x = 39 then df_X13_shown_118 n (nI x) S else if nI x = 34 then df_X13_shown_118 n (nI x) S else df_X13_shown_124 n (-1) S) = some (oI (esv x), S) := by
  by_cases g : x = 110
  · subst g; rfl
  by_cases h : x = 116
  · subst h; rfl
  by_cases d : x = 48
  · subst d; rfl
  by_cases f : x = 92
  · subst f; rfl
  by_cases b : x = 39
  · subst b; rfl
  by_cases a : x = 34
  · subst a; rfl
  unfold esv
  rw [if_neg g, if_neg h, if_neg d, if_neg (show ¬ (x = 92 ∨ x = 39 ∨ x = 34) by omega)]
  rw [if_neg (show ¬ nI x = 110 from ne_I (b := 110) (by omega) (by omega) g), if_neg (show ¬ nI x = 116 from ne_I (b := 116) (by omega) (by omega) h), if_neg (show ¬ nI x = 48 from ne_I (b := 48) (by omega) (by omega) d), if_neg (show ¬ nI x = 92 from ne_I (b := 92) (by omega) (by omega) f), if_neg (show ¬ nI x = 39 from ne_I (b := 39) (by omega) (by omega) b), if_neg (show ¬ nI x = 34 from ne_I (b := 34) (by omega) (by omega) a)]
  rfl
theorem ar_sh {n L e : Nat} {c : Nat → Nat} {BC BR : St} (hT : atx n L e c BC BR) (i qt ap tk fr to : Nat) (nm : Int32) (hi : i ≤ e) (hq : qt = 34 ∨ qt = 39) (hl : i < e → ¬ c i = 10) : df_X13_shown n (nI i) (nI qt) (uR BR ap tk fr to nm) = some (oI (shO c e i qt), uR BR ap tk fr (if i < e then i + wdO c e i else i + 1) nm) := by
  obtain ⟨hn, hL, heL, h127, hend, hce, hO, h1, htC, h0, htR, hch⟩ := id hT
  have ca := ca_13 hT i ap tk fr to nm (by omega)
  have ca1 := ca_13 hT (i + 1) ap tk fr (i + 1) nm (by omega)
  have i127 := h127 i
  have r127 := h127 (i + 1)
  have w1 : nI i + 1 = nI (i + 1) := nI_add i 1
  have w2 : nI i + 2 = nI (i + 2) := nI_add i 2
  have hd : df_X13_shown n (nI i) (nI qt) (uR BR ap tk fr to nm) = if c i = qt then some (-1, uR BR ap tk fr (i + 1) nm) else if c i = 9 ∨ 32 ≤ c i then df_X13_shown_38 n (nI i) (nI (c i)) (uR BR ap tk fr (i + 1) nm) else some (-1, uR BR ap tk fr (i + 1) nm) := by
    unfold df_X13_shown df_X13_shown_0 df_X13_shown_36
    rw [ca, nb_b2, w1, uR_w10, nb_let]
    by_cases f : c i = qt
    · rw [if_pos (show nI (c i) = nI qt by rw [f]), if_pos f]
    · rw [if_neg (show ¬ nI (c i) = nI qt from ne_I (by omega) (by omega) f), if_neg f]
      by_cases g : c i = 9
      · rw [if_pos (show nI (c i) = 9 by rw [g]; rfl), if_pos (Or.inl g)]
      · rw [if_neg (show ¬ nI (c i) = 9 from ne_I (b := 9) (by omega) (by omega) g)]
        by_cases k : c i < 32
        · rw [if_pos (show nI (c i) < 32 by show nI (c i) < nI 32; rw [nI_ltI (by omega) (by omega)]; exact k), if_neg (show ¬ (c i = 9 ∨ 32 ≤ c i) by omega)]
        · rw [if_neg (show ¬ nI (c i) < 32 from fun z => k (by have z : nI (c i) < nI 32 := z; rw [nI_ltI (by omega) (by omega)] at z; exact z)), if_pos (show nI (c i) ≤ 126 by show nI (c i) ≤ nI 126; rw [nI_leI (by omega) (by omega)]; omega), if_pos (show c i = 9 ∨ 32 ≤ c i by omega)]
  rw [hd]
  unfold shO wdO
  by_cases y : i < e
  · have i10 := hl y
    have c0 := hch i
    rw [if_neg (show ¬ e ≤ i by omega), if_pos y]
    by_cases k : c i = 92
    · rw [if_pos k, if_pos (show i < e ∧ c i = 92 from ⟨y, k⟩), if_neg (show ¬ c i = qt by omega), if_pos (show c i = 9 ∨ 32 ≤ c i by omega), k]
      unfold df_X13_shown_38
      rw [if_pos (show nI 92 = 92 from rfl), w1, ca1, nb_b2, w2, uR_w10, nb_let]
      exact es_13 n (c (i + 1)) _ r127
    · rw [if_neg k, if_neg (show ¬ (i < e ∧ c i = 92) from fun z => k z.2)]
      by_cases f : c i = qt
      · rw [if_pos f, if_pos f]
        rfl
      · rw [if_neg f, if_neg f, if_pos (show c i = 9 ∨ 32 ≤ c i by omega)]
        unfold df_X13_shown_38
        rw [if_neg (show ¬ nI (c i) = 92 from ne_I (b := 92) (by omega) (by omega) k)]
        rfl
  · have y1 : i = e := by omega
    rw [if_pos (show e ≤ i by omega), if_neg y, if_neg (show ¬ c i = qt by rw [y1, hce]; omega), if_neg (show ¬ (c i = 9 ∨ 32 ≤ c i) by rw [y1, hce]; omega)]
    rfl

/-- texts in quotes, in both -/
def qE (c : Nat → Nat) (e : Nat) : Nat → Nat → Nat
  | 0, i => i
  | k + 1, i => match shO c e i 34 with
    | none => i
    | some _ => qE c e k (i + wdO c e i)
theorem shO_w {c : Nat → Nat} {e i qt v : Nat} (hce : c e = 10) (h : shO c e i qt = some v) : i < e ∧ i + wdO c e i ≤ e ∧ 1 ≤ wdO c e i := by
  unfold shO at h
  by_cases y : e ≤ i
  · rw [if_pos y] at h; exact nomatch h
  · rw [if_neg y] at h
    unfold wdO
    by_cases k : c i = 92
    · rw [if_pos k] at h
      rw [if_pos ⟨by omega, k⟩]
      have : ¬ i + 1 = e := fun z => by rw [z, hce] at h; exact nomatch (show (none : Option Nat) = some v from h)
      omega
    · rw [if_neg (fun z => k z.2)]
      omega
theorem shO_v {c : Nat → Nat} {e i qt v : Nat} (hc : ∀ i : Nat, c i < 127) (h : shO c e i qt = some v) : v < 127 := by
  unfold shO at h
  by_cases y : e ≤ i
  · rw [if_pos y] at h; exact nomatch h
  · rw [if_neg y] at h
    by_cases k : c i = 92
    · rw [if_pos k] at h
      unfold esv at h
      have := hc (i + 1)
      by_cases a1 : c (i + 1) = 110
      · rw [if_pos a1] at h; have := Option.some.inj h; omega
      rw [if_neg a1] at h
      by_cases a2 : c (i + 1) = 116
      · rw [if_pos a2] at h; have := Option.some.inj h; omega
      rw [if_neg a2] at h
      by_cases a3 : c (i + 1) = 48
      · rw [if_pos a3] at h; have := Option.some.inj h; omega
      rw [if_neg a3] at h
      by_cases a4 : c (i + 1) = 92 ∨ c (i + 1) = 39 ∨ c (i + 1) = 34
      · rw [if_pos a4] at h; have := Option.some.inj h; omega
      · rw [if_neg a4] at h; exact nomatch h
    · rw [if_neg k] at h
      by_cases f : c i = qt
      · rw [if_pos f] at h; exact nomatch h
      · rw [if_neg f] at h
        have := Option.some.inj h
        have := hc i
        omega
theorem qE_1 {c : Nat → Nat} {e : Nat} (hce : c e = 10) : ∀ k i : Nat, i ≤ e → e - i ≤ k → i ≤ qE c e k i ∧ qE c e k i ≤ e ∧ shO c e (qE c e k i) 34 = none := fun k => by
  induction k with
  | zero =>
    intro i h1 h2
    refine ⟨Nat.le_refl _, h1, ?_⟩
    show shO c e i 34 = none
    unfold shO
    rw [if_pos (by omega)]
  | succ k ih =>
    intro i h1 h2
    show i ≤ (match shO c e i 34 with | none => i | some _ => qE c e k (i + wdO c e i)) ∧ (match shO c e i 34 with | none => i | some _ => qE c e k (i + wdO c e i)) ≤ e ∧ shO c e (match shO c e i 34 with | none => i | some _ => qE c e k (i + wdO c e i)) 34 = none
    cases hs : shO c e i 34 with
    | none => exact ⟨Nat.le_refl _, h1, hs⟩
    | some v =>
      obtain ⟨a, b, d⟩ := shO_w hce hs
      obtain ⟨f, g, h⟩ := ih (i + wdO c e i) b (by omega)
      exact ⟨Nat.le_trans (Nat.le_add_right _ _) f, g, h⟩
theorem ak_T7 {n L e : Nat} {c : Nat → Nat} {BC BR : St} (hT : atx n L e c BC BR) (ap kd fr : Nat) (nm : Int32) : ∀ k i g : Nat, i ≤ e → e - i ≤ k → k < g → df_X9_readText_7 n g (nI i) (uC BC ap kd fr nm) = df_X9_readText_36 n (nI (qE c e k i)) (uC BC ap kd fr nm) := fun k => by
  obtain ⟨hn, hL, heL, h127, hend, hce, hO, h1, htC, h0, htR, hch⟩ := id hT
  induction k with
  | zero =>
    intro i g a b d
    obtain ⟨m, rfl⟩ : ∃ m : Nat, g = m + 1 := ⟨g - 1, by omega⟩
    show dF_X9_readText_7 n (df_X9_readText_7 n m) (nI i) (uC BC ap kd fr nm) = df_X9_readText_36 n (nI i) (uC BC ap kd fr nm)
    unfold dF_X9_readText_7
    rw [uC_i1, h1, if_pos (show nI e ≤ nI i by rw [nI_leI (by omega) (by omega)]; omega)]
  | succ k ih =>
    intro i g a b d
    obtain ⟨m, rfl⟩ : ∃ m : Nat, g = m + 1 := ⟨g - 1, by omega⟩
    have cc := ak_ch hT i 34 ap kd fr nm (by omega) (by omega)
    have cw := ak_wd hT i ap kd fr nm (by omega)
    show dF_X9_readText_7 n (df_X9_readText_7 n m) (nI i) (uC BC ap kd fr nm) = df_X9_readText_36 n (nI (match shO c e i 34 with | none => i | some _ => qE c e k (i + wdO c e i))) (uC BC ap kd fr nm)
    unfold dF_X9_readText_7
    by_cases y : e ≤ i
    · have hs : shO c e i 34 = none := if_pos y
      rw [hs, uC_i1, h1, if_pos (show nI e ≤ nI i by rw [nI_leI (by omega) (by omega)]; omega)]
    · rw [uC_i1, h1, if_neg (show ¬ nI e ≤ nI i from fun z => by rw [nI_leI (by omega) (by omega)] at z; omega), show (34 : Int32) = nI 34 from rfl, cc, nb_b2]
      cases hs : shO c e i 34 with
      | none => rw [if_pos (show oI none < 0 by decide)]
      | some v =>
        have vl := shO_v h127 hs
        obtain ⟨w1, w2, w3⟩ := shO_w hce hs
        rw [if_neg (show ¬ oI (some v) < 0 from fun z => by have z : nI v < nI 0 := z; rw [nI_ltI (by omega) (by omega)] at z; omega), cw, nb_b2, nb_let, nI_add]
        exact ih (i + wdO c e i) m w2 (by omega) (by omega)
theorem ak_T {n L e : Nat} {c : Nat → Nat} {BC BR : St} (hT : atx n L e c BC BR) (q kd : Nat) (nm : Int32) (hq : q < e) : df_X9_readText n (uC BC q kd q nm) = some (uC BC (if qE c e (e - (q + 1)) (q + 1) < e then qE c e (e - (q + 1)) (q + 1) + 1 else e) (if c (qE c e (e - (q + 1)) (q + 1)) = 34 then 4 else 6) q nm) := by
  obtain ⟨hn, hL, heL, h127, hend, hce, hO, h1, htC, h0, htR, hch⟩ := id hT
  obtain ⟨r1, r2, r3⟩ := qE_1 hce (e - (q + 1)) (q + 1) (by omega) (Nat.le_refl _)
  have s := ak_T7 hT q kd q nm (e - (q + 1)) (q + 1) n (by omega) (Nat.le_refl _) (by omega)
  have s : df_X9_readText n (uC BC q kd q nm) = df_X9_readText_36 n (nI (qE c e (e - (q + 1)) (q + 1))) (uC BC q kd q nm) := by
    rw [← s]
    unfold df_X9_readText df_X9_readText_0
    rw [nb_let, uC_i3, show nI q + 1 = nI (q + 1) by rw [show (1 : Int32) = nI 1 from rfl, nI_add]]
  rw [s]
  generalize qE c e (e - (q + 1)) (q + 1) = r at r1 r2 r3
  by_cases y : r < e
  · have t := htC r (by omega)
    have r127 := h127 r
    have ny : ¬ e ≤ r := by omega
    have mn := mn_1 (y := r + 1) (e := e) (by omega) (by omega)
    rw [if_pos y]
    by_cases k : c r = 34
    · rw [if_pos k]
      rw [k] at t
      simp (disch := (first | assumption | decide | omega)) only [df_X9_readText_36, df_X9_readText_60, df_X9_readText_62, uC_i0, uC_i1, uC_i2, uC_i3, uC_i4, uC_r, uC_o, uC_w0, uC_w2, uC_w3, uC_w4, hO, o8, h1, t, mn, eq_self, Nat.reduceEqDiff, Nat.reduceLeDiff, nl_0, nl_1, nl_2, nl_4, nl_6, nl_7, nl_8, nl_34, nl_32768, no_1, no_1024, pk_mul, nI_add, nm_ck, nI_clamp, nI_ltI, nI_leI, nI_eq, nb_b2, nb_b1, ↓nb_let, nm_z0, nm_z1, nb_II, nb_IR, nb_RI, nb_RR, nm_IL, nm_IQ, nm_RL, nm_RQ, nm_LI, nm_LR, nm_LL, nm_LQ, nm_QI, nm_QR, nm_QL, nm_QQ, nm_rr, nm_ii, nm_eqm, not_false_eq_true, pk_sub, nm_div, nm_shl, nm_shr, nm_ush, nm_or8, nm_or64, nm_or256, nm_m1, nm_m3, nm_m7, nm_m15, nm_m31, nm_m63, nm_m255, nm_m511, nm_m1023, nm_m2047, nm_m65535, Nat.reduceMod, Nat.reducePow, Nat.reduceAdd, Nat.reduceSub, Nat.reduceMul, nm_bo, nm_bi, nm_rc, nm_ic, nm_ri, nm_rl, nm_rq, nm_ql, nm_qi, nm_li, nm_us, nm_uu, nm_cp, nm_sa31, nm_sa7, nm_m127, nm_m2, nm_nz, nm_nzk, nm_eq32, nm_nzf, if_true, if_false, ↓reduceIte, if_pos, if_neg]
    · rw [if_neg k]
      simp (disch := (first | assumption | decide | omega)) only [df_X9_readText_36, df_X9_readText_60, df_X9_readText_62, uC_i0, uC_i1, uC_i2, uC_i3, uC_i4, uC_r, uC_o, uC_w0, uC_w2, uC_w3, uC_w4, hO, o8, h1, t, mn, k, eq_self, Nat.reduceEqDiff, Nat.reduceLeDiff, nl_0, nl_1, nl_2, nl_4, nl_6, nl_7, nl_8, nl_34, nl_32768, no_1, no_1024, pk_mul, nI_add, nm_ck, nI_clamp, nI_ltI, nI_leI, nI_eq, nb_b2, nb_b1, ↓nb_let, nm_z0, nm_z1, nb_II, nb_IR, nb_RI, nb_RR, nm_IL, nm_IQ, nm_RL, nm_RQ, nm_LI, nm_LR, nm_LL, nm_LQ, nm_QI, nm_QR, nm_QL, nm_QQ, nm_rr, nm_ii, nm_eqm, not_false_eq_true, pk_sub, nm_div, nm_shl, nm_shr, nm_ush, nm_or8, nm_or64, nm_or256, nm_m1, nm_m3, nm_m7, nm_m15, nm_m31, nm_m63, nm_m255, nm_m511, nm_m1023, nm_m2047, nm_m65535, Nat.reduceMod, Nat.reducePow, Nat.reduceAdd, Nat.reduceSub, Nat.reduceMul, nm_bo, nm_bi, nm_rc, nm_ic, nm_ri, nm_rl, nm_rq, nm_ql, nm_qi, nm_li, nm_us, nm_uu, nm_cp, nm_sa31, nm_sa7, nm_m127, nm_m2, nm_nz, nm_nzk, nm_eq32, nm_nzf, if_true, if_false, ↓reduceIte, if_pos, if_neg]
  · rw [if_neg y]
    have y : r = e := by omega
    have k : ¬ c r = 34 := by rw [y, hce]; omega
    have mn := mn_2 (y := r + 1) (e := e) (by omega) (by omega)
    rw [if_neg k]
    have ny : e ≤ r := by omega
    simp (disch := (first | assumption | decide | omega)) only [df_X9_readText_36, df_X9_readText_60, df_X9_readText_62, uC_i0, uC_i1, uC_i2, uC_i3, uC_i4, uC_r, uC_o, uC_w0, uC_w2, uC_w3, uC_w4, hO, o8, h1, mn, eq_self, Nat.reduceEqDiff, Nat.reduceLeDiff, nl_0, nl_1, nl_2, nl_4, nl_6, nl_7, nl_8, nl_34, nl_32768, no_1, no_1024, pk_mul, nI_add, nm_ck, nI_clamp, nI_ltI, nI_leI, nI_eq, nb_b2, nb_b1, ↓nb_let, nm_z0, nm_z1, nb_II, nb_IR, nb_RI, nb_RR, nm_IL, nm_IQ, nm_RL, nm_RQ, nm_LI, nm_LR, nm_LL, nm_LQ, nm_QI, nm_QR, nm_QL, nm_QQ, nm_rr, nm_ii, nm_eqm, not_false_eq_true, pk_sub, nm_div, nm_shl, nm_shr, nm_ush, nm_or8, nm_or64, nm_or256, nm_m1, nm_m3, nm_m7, nm_m15, nm_m31, nm_m63, nm_m255, nm_m511, nm_m1023, nm_m2047, nm_m65535, Nat.reduceMod, Nat.reducePow, Nat.reduceAdd, Nat.reduceSub, Nat.reduceMul, nm_bo, nm_bi, nm_rc, nm_ic, nm_ri, nm_rl, nm_rq, nm_ql, nm_qi, nm_li, nm_us, nm_uu, nm_cp, nm_sa31, nm_sa7, nm_m127, nm_m2, nm_nz, nm_nzk, nm_eq32, nm_nzf, if_true, if_false, ↓reduceIte, if_pos, if_neg]
theorem ar_T14 {n L e : Nat} {c : Nat → Nat} {BC BR : St} (hT : atx n L e c BC BR) (lo ap fr : Nat) (nm : Int32) (hl : ∀ i : Nat, lo ≤ i → i < e → ¬ c i = 10) : ∀ k i g v to : Nat, lo ≤ i → i ≤ e → e - i ≤ k → k + 1 < g → v < 127 → df_X13_quote_14 n g (nI i) (nI v) (uR BR ap 4 fr to nm) = some (if c (qE c e k i) = 34 then uR BR ap 4 fr (qE c e k i + 1) nm else uR BR ap 5 fr fr nm) := fun k => by
  obtain ⟨hn, hL, heL, h127, hend, hce, hO, h1, htC, h0, htR, hch⟩ := id hT
  have b44 : ∀ (x to : Nat), x < 2 ^ 20 → df_X13_quote_44 n (nI x) (-1) (uR BR ap 4 fr to nm) = some (uR BR ap 5 fr fr nm) := fun x to hx => by
    have bd := bad_13 n BR ap 4 fr (x + 1) nm
    unfold df_X13_quote_44 df_X13_quote_59
    rw [show nI x + 1 = nI (x + 1) by rw [show (1 : Int32) = nI 1 from rfl, nI_add], uR_w10, nb_let, if_neg (show ¬ (0 : Int32) ≤ -1 by decide), bd, nb_b1]
  have mis : ∀ (i g v to : Nat), lo ≤ i → i ≤ e → 1 < g → v < 127 → ¬ c i = 34 → shO c e i 34 = none → df_X13_quote_14 n g (nI i) (nI v) (uR BR ap 4 fr to nm) = some (uR BR ap 5 fr fr nm) := fun i g v to a b d f k34 hs => by
    obtain ⟨m, rfl⟩ : ∃ m : Nat, g = m + 1 + 1 := ⟨g - 2, by omega⟩
    have ca := ca_13 hT i ap 4 fr to nm (by omega)
    have sh := ar_sh hT i 34 ap 4 fr to nm b (Or.inl rfl) (fun z => hl i a z)
    have i127 := h127 i
    have w3 : wdO c e i ≤ 2 := by unfold wdO; split <;> omega
    show dF_X13_quote_14 n (df_X13_quote_14 n (m + 1)) (nI i) (nI v) (uR BR ap 4 fr to nm) = _
    unfold dF_X13_quote_14
    rw [if_neg (show ¬ nI v < 0 from fun z => by have z : nI v < nI 0 := z; rw [nI_ltI (by omega) (by omega)] at z; omega), ca, nb_b2, if_neg (show ¬ nI (c i) = 34 from fun z => k34 (by have z : nI (c i) = nI 34 := z; rw [nI_eq (by omega) (by omega)] at z; exact z)), show (34 : Int32) = nI 34 from rfl, sh, nb_b2, nb_let, uR_i10, hs]
    generalize hw : (if i < e then i + wdO c e i else i + 1) = x
    have hx : x < 2 ^ 20 := by rw [← hw]; split <;> omega
    show dF_X13_quote_14 n (df_X13_quote_14 n m) (nI x) (-1) (uR BR ap 4 fr x nm) = _
    unfold dF_X13_quote_14
    rw [if_pos (show (-1 : Int32) < 0 by decide)]
    exact b44 x x hx
  have hit : ∀ (i g v to : Nat), i ≤ e → 0 < g → v < 127 → c i = 34 → df_X13_quote_14 n g (nI i) (nI v) (uR BR ap 4 fr to nm) = some (uR BR ap 4 fr (i + 1) nm) := fun i g v to b d f k34 => by
    obtain ⟨m, rfl⟩ : ∃ m : Nat, g = m + 1 := ⟨g - 1, by omega⟩
    have ca := ca_13 hT i ap 4 fr to nm (by omega)
    rw [k34] at ca
    have v0 : (0 : Int32) ≤ nI v := by show nI 0 ≤ nI v; rw [nI_leI (by omega) (by omega)]; omega
    show dF_X13_quote_14 n (df_X13_quote_14 n m) (nI i) (nI v) (uR BR ap 4 fr to nm) = _
    unfold dF_X13_quote_14 df_X13_quote_44 df_X13_quote_59
    rw [if_neg (show ¬ nI v < 0 from fun z => by have z : nI v < nI 0 := z; rw [nI_ltI (by omega) (by omega)] at z; omega), ca, nb_b2, if_pos (show nI 34 = (34 : Int32) from rfl), show nI i + 1 = nI (i + 1) by rw [show (1 : Int32) = nI 1 from rfl, nI_add], uR_w10, nb_let, if_pos v0]
  induction k with
  | zero =>
    intro i g v to a b d f h
    have y : i = e := by omega
    have k34 : ¬ c i = 34 := by rw [y, hce]; omega
    show _ = some (if c i = 34 then _ else _)
    rw [if_neg k34]
    exact mis i g v to a b (by omega) h k34 (by unfold shO; rw [if_pos (by omega)])
  | succ k ih =>
    intro i g v to a b d f h
    show _ = some (if c (match shO c e i 34 with | none => i | some _ => qE c e k (i + wdO c e i)) = 34 then uR BR ap 4 fr ((match shO c e i 34 with | none => i | some _ => qE c e k (i + wdO c e i)) + 1) nm else uR BR ap 5 fr fr nm)
    cases hs : shO c e i 34 with
    | none =>
      by_cases k34 : c i = 34
      · rw [if_pos k34]
        exact hit i g v to b (by omega) h k34
      · rw [if_neg k34]
        exact mis i g v to a b (by omega) h k34 hs
    | some x =>
      obtain ⟨m, rfl⟩ : ∃ m : Nat, g = m + 1 := ⟨g - 1, by omega⟩
      obtain ⟨w1, w2, w3⟩ := shO_w hce hs
      have xl := shO_v h127 hs
      have k34 : ¬ c i = 34 := fun z => by
        unfold shO at hs
        rw [if_neg (by omega), if_neg (show ¬ c i = 92 by omega), if_pos z] at hs
        exact nomatch hs
      have i127 := h127 i
      have ca := ca_13 hT i ap 4 fr to nm (by omega)
      have sh := ar_sh hT i 34 ap 4 fr to nm b (Or.inl rfl) (fun z => hl i a z)
      show dF_X13_quote_14 n (df_X13_quote_14 n m) (nI i) (nI v) (uR BR ap 4 fr to nm) = some (if c (qE c e k (i + wdO c e i)) = 34 then uR BR ap 4 fr (qE c e k (i + wdO c e i) + 1) nm else uR BR ap 5 fr fr nm)
      unfold dF_X13_quote_14
      rw [if_neg (show ¬ nI v < 0 from fun z => by have z : nI v < nI 0 := z; rw [nI_ltI (by omega) (by omega)] at z; omega), ca, nb_b2, if_neg (show ¬ nI (c i) = 34 from fun z => k34 (by have z : nI (c i) = nI 34 := z; rw [nI_eq (by omega) (by omega)] at z; exact z)), show (34 : Int32) = nI 34 from rfl, sh, nb_b2, nb_let, uR_i10, hs, if_pos w1]
      exact ih (i + wdO c e i) m x (i + wdO c e i) (by omega) w2 (by omega) (by omega) xl
theorem ar_T {n L e : Nat} {c : Nat → Nat} {BC BR : St} (hT : atx n L e c BC BR) (q tk : Nat) (nm : Int32) (hq : q < e) (hl : ∀ i : Nat, q ≤ i → i < e → ¬ c i = 10) : nd_b1 (df_X13_quote n (uR BR q tk q (q + 1) nm)) (fun s => df_X13_scan_348 n s) = some (if c (qE c e (e - (q + 1)) (q + 1)) = 34 then uR BR (qE c e (e - (q + 1)) (q + 1) + 1) 4 q (qE c e (e - (q + 1)) (q + 1) + 1) nm else uR BR q 5 q q nm) := by
  have hn := hT.1
  have hL := hT.2.1
  have heL := hT.2.2.1
  have s := ar_T14 hT q q q nm hl (e - (q + 1)) (q + 1) n 0 (q + 1) (by omega) (by omega) (Nat.le_refl _) (by omega) (by omega)
  unfold df_X13_quote df_X13_quote_0
  rw [show (4 : Int32) = nI 4 from rfl, uR_w8, nb_let, nb_let, uR_i7, show nI q + 1 = nI (q + 1) by rw [show (1 : Int32) = nI 1 from rfl, nI_add], show (0 : Int32) = nI 0 from rfl, s, nb_b1]
  by_cases y : c (qE c e (e - (q + 1)) (q + 1)) = 34
  · rw [if_pos y, if_pos y]
    simp (disch := (first | assumption | decide | omega)) only [df_X13_scan_348, uR_i0, uR_i7, uR_i8, uR_i9, uR_i10, uR_i11, uR_r, uR_w7, uR_w8, uR_w9, uR_w10, uR_w11, eq_self, Nat.reduceEqDiff, Nat.reduceLeDiff, nl_7, nl_10, no_1, no_1024, pk_mul, nI_add, nm_ck, nI_clamp, nI_ltI, nI_leI, nI_eq, nb_b2, nb_b1, ↓nb_let, nm_z0, nm_z1, nb_II, nb_IR, nb_RI, nb_RR, nm_IL, nm_IQ, nm_RL, nm_RQ, nm_LI, nm_LR, nm_LL, nm_LQ, nm_QI, nm_QR, nm_QL, nm_QQ, nm_rr, nm_ii, nm_eqm, not_false_eq_true, pk_sub, nm_div, nm_shl, nm_shr, nm_ush, nm_or8, nm_or64, nm_or256, nm_m1, nm_m3, nm_m7, nm_m15, nm_m31, nm_m63, nm_m255, nm_m511, nm_m1023, nm_m2047, nm_m65535, Nat.reduceMod, Nat.reducePow, Nat.reduceAdd, Nat.reduceSub, Nat.reduceMul, nm_bo, nm_bi, nm_rc, nm_ic, nm_ri, nm_rl, nm_rq, nm_ql, nm_qi, nm_li, nm_us, nm_uu, nm_cp, nm_sa31, nm_sa7, nm_m127, nm_m2, nm_nz, nm_nzk, nm_eq32, nm_nzf, if_true, if_false, ↓reduceIte, if_pos, if_neg]
  · rw [if_neg y, if_neg y]
    simp (disch := (first | assumption | decide | omega)) only [df_X13_scan_348, uR_i0, uR_i7, uR_i8, uR_i9, uR_i10, uR_i11, uR_r, uR_w7, uR_w8, uR_w9, uR_w10, uR_w11, eq_self, Nat.reduceEqDiff, Nat.reduceLeDiff, nl_7, nl_10, no_1, no_1024, pk_mul, nI_add, nm_ck, nI_clamp, nI_ltI, nI_leI, nI_eq, nb_b2, nb_b1, ↓nb_let, nm_z0, nm_z1, nb_II, nb_IR, nb_RI, nb_RR, nm_IL, nm_IQ, nm_RL, nm_RQ, nm_LI, nm_LR, nm_LL, nm_LQ, nm_QI, nm_QR, nm_QL, nm_QQ, nm_rr, nm_ii, nm_eqm, not_false_eq_true, pk_sub, nm_div, nm_shl, nm_shr, nm_ush, nm_or8, nm_or64, nm_or256, nm_m1, nm_m3, nm_m7, nm_m15, nm_m31, nm_m63, nm_m255, nm_m511, nm_m1023, nm_m2047, nm_m65535, Nat.reduceMod, Nat.reducePow, Nat.reduceAdd, Nat.reduceSub, Nat.reduceMul, nm_bo, nm_bi, nm_rc, nm_ic, nm_ri, nm_rl, nm_rq, nm_ql, nm_qi, nm_li, nm_us, nm_uu, nm_cp, nm_sa31, nm_sa7, nm_m127, nm_m2, nm_nz, nm_nzk, nm_eq32, nm_nzf, if_true, if_false, ↓reduceIte, if_pos, if_neg]
/-- a letter in quotes -/
def chG (c : Nat → Nat) (e q : Nat) : Prop := (∃ v : Nat, shO c e (q + 1) 39 = some v) ∧ c (q + 1 + wdO c e (q + 1)) = 39 ∧ aP (c (q + 1 + wdO c e (q + 1) + 1)) = false
theorem wd_le (c : Nat → Nat) (e i : Nat) : wdO c e i ≤ 2 ∧ 1 ≤ wdO c e i := by unfold wdO; split <;> omega
theorem ak_Q {n L e : Nat} {c : Nat → Nat} {BC BR : St} (hT : atx n L e c BC BR) (q kd : Nat) (nm : Int32) (hq : q < e) (v : Option Nat) (hv : shO c e (q + 1) 39 = v) (g : Bool) (hg : g = true ↔ chG c e q) : df_X9_readCharacter n (uC BC q kd q nm) = some (uC BC (if q + 1 + wdO c e (q + 1) < e then q + 1 + wdO c e (q + 1) + 1 else e) (if g = true then 2 else 6) q (oI v)) := by
  obtain ⟨hn, hL, heL, h127, hend, hce, hO, h1, htC, h0, htR, hch⟩ := id hT
  have cc := ak_ch hT (q + 1) 39 q kd q nm (by omega) (by omega)
  have cw := ak_wd hT (q + 1) q kd q nm (by omega)
  obtain ⟨wl, wg⟩ := wd_le c e (q + 1)
  rw [hv] at cc
  have hsw : ∀ x : Nat, v = some x → q + 1 + wdO c e (q + 1) ≤ e := fun x hx => (shO_w hce (hv.trans hx)).2.1
  have hsv : ∀ x : Nat, v = some x → x < 127 := fun x hx => shO_v h127 (hv.trans hx)
  obtain ⟨b, hb⟩ : ∃ b : Nat, b = q + 1 + wdO c e (q + 1) := ⟨_, rfl⟩
  unfold chG at hg
  rw [hv] at hg
  rw [← hb] at hg hsw ⊢
  have e0 : df_X9_readCharacter n (uC BC q kd q nm) = if e ≤ b then df_X9_readCharacter_54 n (oI v) (nI b) (uC BC q kd q nm) else if c b = 39 then df_X9_readCharacter_55 n (oI v) (nI b) (nI 1) (uC BC q kd q nm) else df_X9_readCharacter_54 n (oI v) (nI b) (uC BC q kd q nm) := by
    unfold df_X9_readCharacter df_X9_readCharacter_0
    rw [uC_i3, show nI q + 1 = nI (q + 1) by rw [show (1 : Int32) = nI 1 from rfl, nI_add], show (39 : Int32) = nI 39 from rfl, cc, nb_b2, uC_i3, show nI q + 1 = nI (q + 1) by rw [show (1 : Int32) = nI 1 from rfl, nI_add], cw, nb_b2, nb_let, nI_add, ← hb, uC_i1, h1]
    by_cases y : e ≤ b
    · rw [if_pos y, if_pos (show nI e ≤ nI b by rw [nI_leI (by omega) (by omega)]; exact y)]
    · have t := htC b (by omega)
      have b127 := h127 b
      rw [if_neg y, if_neg (show ¬ nI e ≤ nI b from fun z => y (by rw [nI_leI (by omega) (by omega)] at z; exact z)), uC_o, hO, o8, nm_ck (by omega) (by omega), uC_r, nI_clamp (by omega), t]
      by_cases k : c b = 39
      · rw [if_pos k, if_pos (show nI (c b) = nI 39 by rw [k])]
        rfl
      · rw [if_neg k, if_neg (show ¬ nI (c b) = nI 39 from fun z => k (by rw [nI_eq (by omega) (by omega)] at z; exact z))]
  have f107 : ∀ k : Nat, df_X9_readCharacter_107 n (oI v) (nI b) (nI k) (uC BC q kd q nm) = some (uC BC (if b < e then b + 1 else e) k q (oI v)) := fun k => by
    have w : nI b + 1 = nI (b + 1) := by rw [show (1 : Int32) = nI 1 from rfl, nI_add]
    by_cases y : b < e
    · rw [if_pos y]
      unfold df_X9_readCharacter_107
      rw [uC_w2, nb_let, uC_w4, nb_let, uC_i1, h1, w, mn_1 (by omega) (by omega), uC_w0, nb_let]
    · rw [if_neg y]
      unfold df_X9_readCharacter_107
      rw [uC_w2, nb_let, uC_w4, nb_let, uC_i1, h1, w, show (if nI e < nI (b + 1) then nI e else nI (b + 1)) = nI e from if_pos (by rw [nI_ltI (by omega) (by omega)]; omega), uC_w0, nb_let]
  obtain ⟨pp, hpp⟩ : ∃ pp : Nat, pp = (if b < e then b + 1 else e) := ⟨_, rfl⟩
  rw [← hpp] at f107 ⊢
  have p2f := f107 2
  have p6f := f107 6
  have f105 : df_X9_readCharacter_105 n (oI v) (nI b) (uC BC q kd q nm) = some (uC BC pp 6 q (oI v)) := p6f
  have f85 : ∀ (x3 y0 : Nat), x3 < 2 → y0 < 2 → df_X9_readCharacter_85 n (oI v) (nI b) (nI x3) (nI y0) (uC BC q kd q nm) = if v.isSome = true ∧ x3 = 1 ∧ y0 = 1 then some (uC BC pp 2 q (oI v)) else some (uC BC pp 6 q (oI v)) := fun x3 y0 a1 a2 => by
    unfold df_X9_readCharacter_85
    cases v with
    | none => rw [if_pos (show oI none < 0 by decide), if_neg (fun z => absurd z.1 (by decide)), f105]
    | some x =>
      have xl := hsv x rfl
      rw [if_neg (show ¬ oI (some x) < 0 from fun z => by have z : nI x < nI 0 := z; rw [nI_ltI (by omega) (by omega)] at z; omega)]
      by_cases c3 : x3 = 1
      · subst c3
        rw [if_neg (show ¬ nI 1 = (0 : Int32) by decide)]
        by_cases c0 : y0 = 1
        · subst c0
          rw [if_neg (show ¬ nI 1 = (0 : Int32) by decide), if_pos (show (some x).isSome = true ∧ 1 = 1 ∧ 1 = 1 from ⟨rfl, rfl, rfl⟩)]
          exact p2f
        · rw [show y0 = 0 by omega, if_pos (show nI 0 = (0 : Int32) from rfl), if_neg (fun z => by omega), f105]
      · rw [show x3 = 0 by omega, if_pos (show nI 0 = (0 : Int32) from rfl), if_neg (fun z => by omega), f105]
  have f55 : ∀ y0 : Nat, y0 < 2 → df_X9_readCharacter_55 n (oI v) (nI b) (nI y0) (uC BC q kd q nm) = df_X9_readCharacter_85 n (oI v) (nI b) (nI y0) (nI (if e ≤ b + 1 ∨ aP (c (b + 1)) = false then 1 else 0)) (uC BC q kd q nm) := fun y0 a => by
    have w : nI b + 1 = nI (b + 1) := by rw [show (1 : Int32) = nI 1 from rfl, nI_add]
    unfold df_X9_readCharacter_55 df_X9_readCharacter_80
    rw [w, uC_i1, h1]
    by_cases y : e ≤ b + 1
    · rw [if_pos (show nI e ≤ nI (b + 1) by rw [nI_leI (by omega) (by omega)]; exact y), if_pos (Or.inl y)]
      rfl
    · have t := htC (b + 1) (by omega)
      have ik := in_9 n (c := c (b + 1)) (by have := h127 (b + 1); omega)
      rw [if_neg (show ¬ nI e ≤ nI (b + 1) from fun z => y (by rw [nI_leI (by omega) (by omega)] at z; exact z)), uC_o, hO, o8, nm_ck (by omega) (by omega), uC_r, nI_clamp (by omega), t, ik, nb_b2]
      cases hp : aP (c (b + 1)) with
      | true =>
        rw [if_neg (show ¬ bI true = (0 : Int32) by decide), if_neg (fun z => z.elim y (fun z => absurd z (by decide)))]
        rfl
      | false =>
        rw [if_pos (show bI false = (0 : Int32) from rfl), if_pos (Or.inr rfl)]
        rfl
  have f54 : df_X9_readCharacter_54 n (oI v) (nI b) (uC BC q kd q nm) = some (uC BC pp 6 q (oI v)) := by
    show df_X9_readCharacter_55 n (oI v) (nI b) (nI 0) (uC BC q kd q nm) = _
    rw [f55 0 (by omega), f85 0 _ (by omega) (by split <;> omega), if_neg (fun z => by omega)]
  cases hgg : g with
  | true =>
    obtain ⟨⟨x, g1⟩, g2, g3⟩ := hg.mp hgg
    have be := hsw x g1
    have bne : ¬ b = e := fun z => by rw [z, hce] at g2; omega
    rw [e0, if_neg (by omega), if_pos g2, f55 1 (by omega), f85 1 _ (by omega) (by split <;> omega), if_pos (show e ≤ b + 1 ∨ aP (c (b + 1)) = false from Or.inr g3), if_pos (show v.isSome = true ∧ 1 = 1 ∧ 1 = 1 from ⟨by rw [g1]; rfl, rfl, rfl⟩), if_pos rfl]
  | false =>
    have ng : ¬ ((∃ x : Nat, v = some x) ∧ c b = 39 ∧ aP (c (b + 1)) = false) := fun z => by
      rw [hg.mpr z] at hgg
      exact absurd hgg (by decide)
    rw [if_neg (by decide), e0]
    by_cases y : e ≤ b
    · rw [if_pos y, f54]
    · rw [if_neg y]
      by_cases k : c b = 39
      · rw [if_pos k, f55 1 (by omega), f85 1 _ (by omega) (by split <;> omega), if_neg (fun z => ?_)]
        obtain ⟨z1, _, z3⟩ := z
        have z3 : e ≤ b + 1 ∨ aP (c (b + 1)) = false := Classical.byContradiction fun w => by
          rw [if_neg w] at z3
          omega
        refine ng ⟨Option.isSome_iff_exists.mp z1, k, ?_⟩
        rcases z3 with z3 | z3
        · rw [show b + 1 = e by omega, hce]; exact aP10
        · exact z3
      · rw [if_neg k, f54]
theorem ar_Q {n L e : Nat} {c : Nat → Nat} {BC BR : St} (hT : atx n L e c BC BR) (q tk : Nat) (nm : Int32) (hq : q < e) (hl : ∀ i : Nat, q ≤ i → i < e → ¬ c i = 10) (v : Option Nat) (hv : shO c e (q + 1) 39 = v) (g : Bool) (hg : g = true ↔ chG c e q) : ∃ x' : Int32, nd_b1 (df_X13_character n (uR BR q tk q (q + 1) nm)) (fun s => df_X13_scan_348 n s) = some (if g = true then uR BR (q + 1 + wdO c e (q + 1) + 1) 2 q (q + 1 + wdO c e (q + 1) + 1) (oI v) else uR BR q 5 q q x') := by
  obtain ⟨hn, hL, heL, h127, hend, hce, hO, h1, htC, h0, htR, hch⟩ := id hT
  have sh := ar_sh hT (q + 1) 39 q tk q (q + 1) nm (by omega) (Or.inr rfl) (fun z => hl (q + 1) (by omega) z)
  rw [hv] at sh
  obtain ⟨wl, wg⟩ := wd_le c e (q + 1)
  have hsw : ∀ x : Nat, v = some x → q + 1 < e ∧ q + 1 + wdO c e (q + 1) ≤ e := fun x hx => ⟨(shO_w hce (hv.trans hx)).1, (shO_w hce (hv.trans hx)).2.1⟩
  have hsv : ∀ x : Nat, v = some x → x < 127 := fun x hx => shO_v h127 (hv.trans hx)
  obtain ⟨t, ht⟩ : ∃ t : Nat, t = (if q + 1 < e then q + 1 + wdO c e (q + 1) else q + 1 + 1) := ⟨_, rfl⟩
  have tl : t < 2 ^ 20 := by rw [ht]; split <;> omega
  rw [← ht] at sh
  have e348 : ∀ (tk to : Nat) (x : Int32), df_X13_scan_348 n (uR BR q tk q to x) = some (uR BR to tk q to x) := fun tk to x => by
    simp (disch := (first | assumption | decide | omega)) only [df_X13_scan_348, uR_i0, uR_i7, uR_i8, uR_i9, uR_i10, uR_i11, uR_r, uR_w7, uR_w8, uR_w9, uR_w10, uR_w11, eq_self, Nat.reduceEqDiff, Nat.reduceLeDiff, nl_7, nl_10, no_1, no_1024, pk_mul, nI_add, nm_ck, nI_clamp, nI_ltI, nI_leI, nI_eq, nb_b2, nb_b1, ↓nb_let, nm_z0, nm_z1, nb_II, nb_IR, nb_RI, nb_RR, nm_IL, nm_IQ, nm_RL, nm_RQ, nm_LI, nm_LR, nm_LL, nm_LQ, nm_QI, nm_QR, nm_QL, nm_QQ, nm_rr, nm_ii, nm_eqm, not_false_eq_true, pk_sub, nm_div, nm_shl, nm_shr, nm_ush, nm_or8, nm_or64, nm_or256, nm_m1, nm_m3, nm_m7, nm_m15, nm_m31, nm_m63, nm_m255, nm_m511, nm_m1023, nm_m2047, nm_m65535, Nat.reduceMod, Nat.reducePow, Nat.reduceAdd, Nat.reduceSub, Nat.reduceMul, nm_bo, nm_bi, nm_rc, nm_ic, nm_ri, nm_rl, nm_rq, nm_ql, nm_qi, nm_li, nm_us, nm_uu, nm_cp, nm_sa31, nm_sa7, nm_m127, nm_m2, nm_nz, nm_nzk, nm_eq32, nm_nzf, if_true, if_false, ↓reduceIte, if_pos, if_neg]
  have b45 : ∀ (x : Int32), df_X13_character_45 n (uR BR q 2 q t x) = some (uR BR q 5 q q x) := fun x => by
    have bd := bad_13 n BR q 2 q (t + 1) x
    unfold df_X13_character_45 df_X13_character_46 df_X13_character_75 df_X13_character_79
    rw [uR_i10, show nI t + 1 = nI (t + 1) by rw [show (1 : Int32) = nI 1 from rfl, nI_add], uR_w10, nb_let, if_pos rfl, bd, nb_b1]
  have e1 : df_X13_character n (uR BR q tk q (q + 1) nm) = if oI v < 0 then df_X13_character_45 n (uR BR q 2 q t (oI v)) else if c t = 39 then df_X13_character_46 n 1 (uR BR q 2 q t (oI v)) else df_X13_character_45 n (uR BR q 2 q t (oI v)) := by
    have ca := ca_13 hT t q 2 q t (oI v) (by omega)
    have t127 := h127 t
    unfold df_X13_character df_X13_character_0
    rw [uR_i7, show nI q + 1 = nI (q + 1) by rw [show (1 : Int32) = nI 1 from rfl, nI_add], show (39 : Int32) = nI 39 from rfl, sh, nb_b2, uR_w11, nb_let, show (2 : Int32) = nI 2 from rfl, uR_w8, nb_let, uR_i11, uR_i10, ca]
    by_cases y : oI v < 0
    · rw [if_pos y, if_pos y]
    · rw [if_neg y, if_neg y, nb_b2]
      by_cases k : c t = 39
      · rw [if_pos k, if_pos (show nI (c t) = nI 39 by rw [k])]
      · rw [if_neg k, if_neg (show ¬ nI (c t) = nI 39 from fun z => k (by rw [nI_eq (by omega) (by omega)] at z; exact z))]
  have e46 : ∀ x : Int32, df_X13_character_46 n 1 (uR BR q 2 q t x) = some (if aP (c (t + 1)) = false then uR BR q 2 q (t + 1) x else uR BR q 5 q q x) := fun x => by
    have bd := bad_13 n BR q 2 q (t + 1) x
    have ca := ca_13 hT (t + 1) q 2 q (t + 1) x (by omega)
    have ik := ip_13 n (c := c (t + 1)) (by have := h127 (t + 1); omega)
    unfold df_X13_character_46 df_X13_character_75 df_X13_character_79
    rw [uR_i10, show nI t + 1 = nI (t + 1) by rw [show (1 : Int32) = nI 1 from rfl, nI_add], uR_w10, nb_let, if_neg (by decide), uR_i10, ca, nb_b2, ik, nb_b2]
    cases hp : aP (c (t + 1)) with
    | true => rw [if_neg (show ¬ bI true = (0 : Int32) by decide), if_neg (by decide), bd, nb_b1]
    | false => rw [if_pos (show bI false = (0 : Int32) from rfl), if_pos rfl]
  refine ⟨oI v, ?_⟩
  rw [e1]
  unfold chG at hg
  rw [hv] at hg
  cases v with
  | none =>
    have gf : ¬ g = true := fun z => by obtain ⟨⟨x, w⟩, _⟩ := hg.mp z; exact nomatch w
    rw [if_pos (show oI none < 0 by decide), b45, nb_b1, e348, if_neg gf]
  | some x =>
    have xl := hsv x rfl
    obtain ⟨a1, a2⟩ := hsw x rfl
    rw [if_pos a1] at ht
    rw [if_neg (show ¬ oI (some x) < 0 from fun z => by have z : nI x < nI 0 := z; rw [nI_ltI (by omega) (by omega)] at z; omega)]
    rw [← ht] at hg ⊢
    by_cases k : c t = 39
    · rw [if_pos k, e46, nb_b1]
      by_cases k2 : aP (c (t + 1)) = false
      · rw [if_pos k2, e348, if_pos (hg.mpr ⟨⟨x, rfl⟩, k, k2⟩)]
      · rw [if_neg k2, e348, if_neg (fun z => k2 (hg.mp z).2.2)]
    · rw [if_neg k, b45, nb_b1, e348, if_neg (fun z => k (hg.mp z).2.1)]
/-- a token, in both -/
def tkJ (n p q p' κ τ v : Nat) (BC BR : St) : Prop := (∀ (kd fr : Nat) (nm : Int32), ∃ x : Int32, df_X9_next n (uC BC p kd fr nm) = some (uC BC p' κ q x) ∧ (κ = 2 ∨ κ = 3 ∨ κ = 5 → x = nI v)) ∧ ∀ (tk fr to : Nat) (nm : Int32), ∃ (x : Int32) (p2 : Nat), df_X13_scan n (uR BR p tk fr to nm) = some (uR BR p2 τ q p2 x) ∧ (p2 = p' ∨ (τ = 5 ∧ p2 = q)) ∧ (τ = 2 ∨ τ = 3 → x = nI v)
def tkK (c : Nat → Nat) (e q p' κ τ v : Nat) : Prop := (κ = 0 ∧ τ = 0 ∧ p' = q ∧ (q = e ∨ c q = 35)) ∨ (κ = 1 ∧ τ = 1 ∧ q < e ∧ aP (c q) = true ∧ aD (c q) = false ∧ p' = eT c e q ∧ p' - q ≤ 31) ∨ (κ = 2 ∧ τ = 2 ∧ q < p' ∧ v < 2 ^ 32 ∧ (p' = q + 1 → aD (c q) = true ∧ v = c q - 48)) ∨ (κ = 3 ∧ τ = 3 ∧ p' = q + 2 ∧ aD (c q) = true ∧ v = c q - 48 ∧ (c (q + 1) = 102 ∨ c (q + 1) = 98)) ∨ (κ = 4 ∧ τ = 4 ∧ c q = 34 ∧ p' = qE c e (e - (q + 1)) (q + 1) + 1 ∧ c (qE c e (e - (q + 1)) (q + 1)) = 34) ∨ (κ = 5 ∧ q < p' ∧ ((v = 256 ∧ τ = 6) ∨ (v = 257 ∧ τ = 7) ∨ (sgA v = true ∧ τ = v ∧ v = c q ∧ p' = q + 1))) ∨ (κ = 6 ∧ τ = 5)
theorem tok_all {n L e : Nat} {c : Nat → Nat} {BC BR : St} (hT : atx n L e c BC BR) (p : Nat) (hp : p ≤ e) (hl : ∀ i : Nat, p ≤ i → i < e → ¬ c i = 10) : ∃ q p' κ τ v : Nat, p ≤ q ∧ q = qT c e p ∧ q ≤ p' ∧ p' ≤ e ∧ (¬ κ = 0 → q < e ∧ q < p') ∧ tkJ n p q p' κ τ v BC BR ∧ tkK c e q p' κ τ v := by
  obtain ⟨hn, hL, heL, h127, hend, hce, hO, h1, htC, h0, htR, hch⟩ := id hT
  obtain ⟨q1, q2, q3, q4⟩ := qT_1 c hp
  have cl : ∀ (S : St) (kd fr : Nat) (nm : Int32), df_X9_next_52 n (uC BC (qT c e p) kd fr nm) = some S → df_X9_next n (uC BC p kd fr nm) = some S := fun S kd fr nm h => (ak_sk hT p kd fr nm hp).trans h
  have rf : ∀ (S : St) (tk fr to : Nat) (nm : Int32), (∀ G : St → Option St, dF_X13_scan_0 n G (uR BR (qT c e p) tk fr to nm) = some S) → df_X13_scan n (uR BR p tk fr to nm) = some S := fun S tk fr to nm h => by
    obtain ⟨m, em⟩ := as_sk hT p tk fr to nm hp
    exact em.trans (h _)
  obtain ⟨q, hq⟩ : ∃ q : Nat, q = qT c e p := ⟨_, rfl⟩
  rw [← hq] at q1 q2 q3 cl rf
  by_cases hE : q = e ∨ c q = 35
  · refine ⟨q, q, 0, 0, 0, q1, hq, Nat.le_refl _, q2, fun z => absurd rfl z, ⟨fun kd fr nm => ⟨nm, cl _ kd fr nm (ak_E hT q kd fr nm q2 hE), fun z => by omega⟩, fun tk fr to nm => ⟨nm, q, rf _ tk fr to nm (fun G => as_E hT q tk fr to nm q2 (hE.elim (fun z => Or.inl (by rw [z]; exact hce)) Or.inr)), Or.inl rfl, fun z => by omega⟩⟩, Or.inl ⟨rfl, rfl, rfl, hE⟩⟩
  have hqe : q < e := by omega
  have h35 : ¬ c q = 35 := fun z => hE (Or.inr z)
  have hb := q3 hqe
  have h10 := hl q q1 hqe
  have q127 := h127 q
  obtain ⟨y1, y2, y3, y4⟩ := eT_1 c (Nat.le_of_lt hqe)
  cases hP : aP (c q) with
  | true =>
    have y0 := eT_p c hqe hP
    cases hD : aD (c q) with
    | true =>
      -- numbers
      have d9 := aD_v.mp hD
      cases hv : nuT c q (eT c e q) with
      | none =>
        refine ⟨q, eT c e q, 6, 5, 0, q1, hq, y1, y2, fun _ => ⟨hqe, y0⟩, ⟨fun kd fr nm => ⟨nm, cl _ kd fr nm ((ak_D hT q kd fr nm hqe hD).trans (by rw [hv]; rfl)), fun z => by omega⟩, fun tk fr to nm => ?_⟩, Or.inr (Or.inr (Or.inr (Or.inr (Or.inr (Or.inr ⟨rfl, rfl⟩)))))⟩
        obtain ⟨m, em⟩ := as_sk hT p tk fr to nm hp
        rw [← hq] at em
        obtain ⟨x', ex⟩ := as_D hT q tk fr to nm hqe hD (G := df_X13_scan_0 n m)
        rw [hv] at ex
        exact ⟨x', q, em.trans ex, Or.inr ⟨rfl, rfl⟩, fun z => by omega⟩
      | some w =>
        have rr : ∀ (tk fr to : Nat) (nm : Int32), df_X13_scan n (uR BR p tk fr to nm) = some (uR BR (eT c e q) w.1 q (eT c e q) (nI w.2)) := fun tk fr to nm => by
          obtain ⟨m, em⟩ := as_sk hT p tk fr to nm hp
          rw [← hq] at em
          obtain ⟨x', ex⟩ := as_D hT q tk fr to nm hqe hD (G := df_X13_scan_0 n m)
          rw [hv] at ex
          exact em.trans ex
        refine ⟨q, eT c e q, w.1, w.1, w.2, q1, hq, y1, y2, fun _ => ⟨hqe, y0⟩, ⟨fun kd fr nm => ⟨nI w.2, cl _ kd fr nm ((ak_D hT q kd fr nm hqe hD).trans (by rw [hv]; rfl)), fun _ => rfl⟩, fun tk fr to nm => ⟨nI w.2, eT c e q, rr tk fr to nm, Or.inl rfl, fun _ => rfl⟩⟩, ?_⟩
        unfold nuT at hv
        by_cases nr : eT c e q - q = 2 ∧ (c (q + 1) = 102 ∨ c (q + 1) = 98)
        · rw [if_pos nr] at hv
          have hv := Option.some.inj hv
          rw [← hv]
          exact Or.inr (Or.inr (Or.inr (Or.inl ⟨rfl, rfl, by omega, hD, rfl, nr.2⟩)))
        · rw [if_neg nr] at hv
          obtain ⟨x, hx, hx2⟩ := Option.map_eq_some_iff.mp hv
          rw [← hx2]
          refine Or.inr (Or.inr (Or.inl ⟨rfl, rfl, y0, ?_, fun z => ⟨hD, ?_⟩⟩))
          · show x < 2 ^ 32
            revert hx
            split
            · exact fun hx => nuO_l _ _ _ _ _ _ (by omega) hx
            · split
              · exact fun hx => nuO_l _ _ _ _ _ _ (by omega) hx
              · exact fun hx => nuO_l _ _ _ _ _ _ (by omega) hx
          · show x = c q - 48
            rw [if_neg (by omega), if_neg (by omega), show eT c e q - q = 1 by omega] at hx
            have hx : (if dgv (c q) < 10 ∧ 0 * 10 + dgv (c q) < 2 ^ 32 then some (0 * 10 + dgv (c q)) else none) = some x := hx
            rw [dgv_d d9.1 d9.2, if_pos (by omega)] at hx
            have := Option.some.inj hx
            omega
    | false =>
      -- names
      by_cases l : 31 < eT c e q - q
      · refine ⟨q, eT c e q, 6, 5, 0, q1, hq, y1, y2, fun _ => ⟨hqe, y0⟩, ⟨fun kd fr nm => ⟨nm, cl _ kd fr nm ((ak_N hT q kd fr nm hqe hP hD).trans (by rw [if_pos l])), fun z => by omega⟩, fun tk fr to nm => ⟨nm, q, rf _ tk fr to nm (fun G => (as_N hT q tk fr to nm hqe hP hD).trans (by rw [if_pos l])), Or.inr ⟨rfl, rfl⟩, fun z => by omega⟩⟩, Or.inr (Or.inr (Or.inr (Or.inr (Or.inr (Or.inr ⟨rfl, rfl⟩)))))⟩
      · exact ⟨q, eT c e q, 1, 1, 0, q1, hq, y1, y2, fun _ => ⟨hqe, y0⟩, ⟨fun kd fr nm => ⟨nm, cl _ kd fr nm ((ak_N hT q kd fr nm hqe hP hD).trans (by rw [if_neg l])), fun z => by omega⟩, fun tk fr to nm => ⟨nm, eT c e q, rf _ tk fr to nm (fun G => (as_N hT q tk fr to nm hqe hP hD).trans (by rw [if_neg l])), Or.inl rfl, fun z => by omega⟩⟩, Or.inr (Or.inl ⟨rfl, rfl, hqe, hP, hD, rfl, by omega⟩)⟩
  | false =>
    have cs := fun kd fr nm => ak_S0 hT q kd fr nm hqe hP h35
    have rs := fun (G : St → Option St) tk fr to nm => as_S0 hT (G := G) q tk fr to nm hqe hP hb h35 h10
    have bad : ∀ p' : Nat, q < p' → p' ≤ e → (∀ (kd : Nat) (nm : Int32), ∃ x : Int32, ∀ fr : Nat, df_X9_next_52 n (uC BC q kd fr nm) = some (uC BC p' 6 q x)) → (∀ (tk fr to : Nat) (nm : Int32), ∃ x : Int32, ∀ G : St → Option St, dF_X13_scan_0 n G (uR BR q tk fr to nm) = some (uR BR q 5 q q x)) → ∃ q p' κ τ v : Nat, p ≤ q ∧ q = qT c e p ∧ q ≤ p' ∧ p' ≤ e ∧ (¬ κ = 0 → q < e ∧ q < p') ∧ tkJ n p q p' κ τ v BC BR ∧ tkK c e q p' κ τ v := fun p' a1 a2 a3 a4 => ⟨q, p', 6, 5, 0, q1, hq, by omega, a2, fun _ => ⟨hqe, a1⟩, ⟨fun kd fr nm => by
      obtain ⟨x, hx⟩ := a3 kd nm
      exact ⟨x, cl _ kd fr nm (hx fr), fun z => by omega⟩, fun tk fr to nm => by
      obtain ⟨x, hx⟩ := a4 tk fr to nm
      exact ⟨x, q, rf _ tk fr to nm hx, Or.inr ⟨rfl, rfl⟩, fun z => by omega⟩⟩, Or.inr (Or.inr (Or.inr (Or.inr (Or.inr (Or.inr ⟨rfl, rfl⟩)))))⟩
    by_cases k34 : c q = 34
    · have rt := fun tk nm => ar_T hT q tk nm hqe (fun i a b => hl i (by omega) b)
      have ct := fun kd nm => ak_T hT q kd nm hqe
      have rr := (qE_1 hce (e - (q + 1)) (q + 1) (by omega) (Nat.le_refl _))
      by_cases t34 : c (qE c e (e - (q + 1)) (q + 1)) = 34
      · have rne : ¬ qE c e (e - (q + 1)) (q + 1) = e := fun z => by rw [z, hce] at t34; omega
        exact ⟨q, qE c e (e - (q + 1)) (q + 1) + 1, 4, 4, 0, q1, hq, by omega, by omega, fun _ => ⟨hqe, by omega⟩, ⟨fun kd fr nm => ⟨nm, cl _ kd fr nm ((cs kd fr nm).trans (by rw [if_pos k34, ct, if_pos t34, if_pos (show qE c e (e - (q + 1)) (q + 1) < e by omega)])), fun z => by omega⟩, fun tk fr to nm => ⟨nm, qE c e (e - (q + 1)) (q + 1) + 1, rf _ tk fr to nm (fun G => (rs G tk fr to nm).trans (by rw [if_neg (show ¬ c q = 39 by omega), if_pos k34, rt, if_pos t34])), Or.inl rfl, fun z => by omega⟩⟩, Or.inr (Or.inr (Or.inr (Or.inr (Or.inl ⟨rfl, rfl, k34, rfl, t34⟩))))⟩
      · exact bad (if qE c e (e - (q + 1)) (q + 1) < e then qE c e (e - (q + 1)) (q + 1) + 1 else e) (by split <;> omega) (by split <;> omega) (fun kd nm => ⟨nm, fun fr => (cs kd fr nm).trans (by rw [if_pos k34, ct, if_neg t34])⟩) (fun tk fr to nm => ⟨nm, fun G => (rs G tk fr to nm).trans (by rw [if_neg (show ¬ c q = 39 by omega), if_pos k34, rt, if_neg t34])⟩)
    by_cases k39 : c q = 39
    · have hg : ∃ g : Bool, g = true ↔ chG c e q := by
        by_cases y : chG c e q
        · exact ⟨true, fun _ => y, fun _ => rfl⟩
        · exact ⟨false, fun z => absurd z (by decide), fun z => absurd z y⟩
      obtain ⟨g, hg⟩ := hg
      have cq := fun kd nm => ak_Q hT q kd nm hqe _ rfl g hg
      have rq := fun tk nm => ar_Q hT q tk nm hqe (fun i a b => hl i (by omega) b) _ rfl g hg
      have wl := wd_le c e (q + 1)
      cases hgg : g with
      | true =>
        obtain ⟨⟨x, g1⟩, g2, g3⟩ := hg.mp hgg
        have w1 := shO_w hce g1
        have xl := shO_v h127 g1
        have bne : ¬ q + 1 + wdO c e (q + 1) = e := fun z => by rw [z, hce] at g2; omega
        refine ⟨q, q + 1 + wdO c e (q + 1) + 1, 2, 2, x, q1, hq, by omega, by omega, fun _ => ⟨hqe, by omega⟩, ⟨fun kd fr nm => ⟨nI x, cl _ kd fr nm ((cs kd fr nm).trans ?_), fun _ => rfl⟩, fun tk fr to nm => ⟨nI x, q + 1 + wdO c e (q + 1) + 1, rf _ tk fr to nm (fun G => (rs G tk fr to nm).trans ?_), Or.inl rfl, fun _ => rfl⟩⟩, Or.inr (Or.inr (Or.inl ⟨rfl, rfl, by omega, by omega, fun z => by omega⟩))⟩
        · rw [if_neg k34, if_pos k39, cq, if_pos (show q + 1 + wdO c e (q + 1) < e by omega), if_pos hgg, g1]
          rfl
        · obtain ⟨x', ex⟩ := rq tk nm
          rw [if_pos k39, ex, if_pos hgg, g1]
          rfl
      | false =>
        have gf : ¬ g = true := by rw [hgg]; decide
        refine bad (if q + 1 + wdO c e (q + 1) < e then q + 1 + wdO c e (q + 1) + 1 else e) (by split <;> omega) (by split <;> omega) (fun kd nm => ⟨_, fun fr => (cs kd fr nm).trans (by rw [if_neg k34, if_pos k39, cq, if_neg gf])⟩) (fun tk fr to nm => ?_)
        obtain ⟨x', ex⟩ := rq tk nm
        exact ⟨x', fun G => (rs G tk fr to nm).trans (by rw [if_pos k39, ex, if_neg gf])⟩
    by_cases k6 : c q = 60 ∨ c q = 62
    · have cL := fun kd nm => ak_L hT q kd nm hqe k6
      by_cases s : c (q + 1) = c q
      · have ne : q + 1 < e := Classical.byContradiction fun z => by
          rw [show q + 1 = e by omega, hce] at s
          omega
        refine ⟨q, q + 2, 5, if c q = 60 then 6 else 7, if c q = 60 then 256 else 257, q1, hq, by omega, by omega, fun _ => ⟨hqe, by omega⟩, ⟨fun kd fr nm => ⟨_, cl _ kd fr nm ((cs kd fr nm).trans (by rw [if_neg k34, if_neg k39, cL, if_pos s, if_pos ne])), fun _ => rfl⟩, fun tk fr to nm => ⟨nm, q + 2, rf _ tk fr to nm (fun G => (rs G tk fr to nm).trans (by rw [if_neg k39, if_neg k34, if_pos k6, if_pos s])), Or.inl rfl, fun z => by split at z <;> omega⟩⟩, Or.inr (Or.inr (Or.inr (Or.inr (Or.inr (Or.inl ⟨rfl, by omega, ?_⟩)))))⟩
        rcases k6 with k | k
        · rw [if_pos k, if_pos k]; exact Or.inl ⟨rfl, rfl⟩
        · rw [if_neg (by omega), if_neg (by omega)]; exact Or.inr (Or.inl ⟨rfl, rfl⟩)
      · exact bad (if q + 1 < e then q + 2 else e) (by split <;> omega) (by split <;> omega) (fun kd nm => ⟨_, fun fr => (cs kd fr nm).trans (by rw [if_neg k34, if_neg k39, cL, if_neg s])⟩) (fun tk fr to nm => ⟨nm, fun G => (rs G tk fr to nm).trans (by rw [if_neg k39, if_neg k34, if_pos k6, if_neg s])⟩)
    have k60 : ¬ c q = 60 := fun z => k6 (Or.inl z)
    have k62 : ¬ c q = 62 := fun z => k6 (Or.inr z)
    by_cases s : sgA (c q) = true
    · exact ⟨q, q + 1, 5, c q, c q, q1, hq, by omega, by omega, fun _ => ⟨hqe, by omega⟩, ⟨fun kd fr nm => ⟨nI (c q), cl _ kd fr nm ((cs kd fr nm).trans (by rw [if_neg k34, if_neg k39, ak_S hT q kd nm hqe k60 k62, if_pos s])), fun _ => rfl⟩, fun tk fr to nm => ⟨nm, q + 1, rf _ tk fr to nm (fun G => (rs G tk fr to nm).trans (by rw [if_neg k39, if_neg k34, if_neg k6, if_pos s])), Or.inl rfl, fun z => by have := of_decide_eq_true s; omega⟩⟩, Or.inr (Or.inr (Or.inr (Or.inr (Or.inr (Or.inl ⟨rfl, by omega, Or.inr (Or.inr ⟨s, rfl, rfl, rfl⟩)⟩)))))⟩
    · exact bad (q + 1) (by omega) (by omega) (fun kd nm => ⟨nI (c q), fun fr => (cs kd fr nm).trans (by rw [if_neg k34, if_neg k39, ak_S hT q kd nm hqe k60 k62, if_neg s])⟩) (fun tk fr to nm => ⟨nm, fun G => (rs G tk fr to nm).trans (by rw [if_neg k39, if_neg k34, if_neg k6, if_neg s])⟩)

