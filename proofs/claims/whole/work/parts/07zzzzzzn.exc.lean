/-- expressions: what the class writes, one sign after the other -/
abbrev Tp : Type := Nat × Nat × Nat
def nwT (P : Nat → Tp) (m : Nat) (o : Tp) : Nat → Tp := fun i => if i = m then o else P i
def apl : (Nat → Tp) → Nat → List Nat → (Nat → Tp)
  | P, _, [] => P
  | P, m, x :: xs => apl (nwT P m (x, 0, 0)) (m + 1) xs
def aG (NR : Nat → Int32) (c : Nat → Nat) (e ns : Nat) (bs ws : Nat → Nat) (o : Tp) (α : Int32) : Prop := (o.1 = 16 → α = nI o.2.2) ∧ (o.1 = 17 → ∃ id : Nat, α = nI id ∧ id < ns ∧ sW c (bs id) (ws id) o.2.1 (eT c e o.2.1 - o.2.1)) ∧ (o.1 = 19 → α = if NR (10 + o.2.2) - 1 < 0 then -1 - nI o.2.2 else NR (10 + o.2.2) - 1) ∧ (o.1 = 20 → α = NR (10 + o.2.2) - 1) ∧ (1 ≤ o.1 ∧ o.1 ≤ 20 ∧ ¬ o.1 = 15 ∧ (o.1 = 19 ∨ o.1 = 20 → o.2.2 ≤ 9))
def CR (NR : Nat → Int32) (c : Nat → Nat) (e : Nat) (C0 A0 : Nat → Int32) (s0 ns : Nat) (bs ws : Nat → Nat) (m : Nat) (P : Nat → Tp) (C A : Nat → Int32) : Prop := (∀ i : Nat, i < s0 → C i = C0 i ∧ A i = A0 i) ∧ ∀ i : Nat, i < m → C (s0 + i) = nI (P i).1 ∧ aG NR c e ns bs ws (P i) (A (s0 + i))
theorem aG_s {NR : Nat → Int32} {c : Nat → Nat} {e ns : Nat} {bs ws : Nat → Nat} {x : Nat} (h : 1 ≤ x ∧ x < 15) {q v : Nat} {α : Int32} : aG NR c e ns bs ws (x, q, v) α := ⟨fun z => absurd (show x = 16 from z) (by omega), fun z => absurd (show x = 17 from z) (by omega), fun z => absurd (show x = 19 from z) (by omega), fun z => absurd (show x = 20 from z) (by omega), show 1 ≤ x ∧ x ≤ 20 ∧ ¬ x = 15 ∧ (x = 19 ∨ x = 20 → v ≤ 9) by omega⟩
theorem aG_n {NR : Nat → Int32} {c : Nat → Nat} {e ns ns' : Nat} {bs ws bs' ws' : Nat → Nat} {o : Tp} {α : Int32} (hn : ns ≤ ns') (hb : ∀ i : Nat, i < ns → bs' i = bs i ∧ ws' i = ws i) (h : aG NR c e ns bs ws o α) : aG NR c e ns' bs' ws' o α := ⟨h.1, fun z => by
  obtain ⟨id, h1, h2, h3⟩ := h.2.1 z
  refine ⟨id, h1, by omega, ?_⟩
  rw [(hb id h2).1, (hb id h2).2]
  exact h3, h.2.2.1, h.2.2.2.1, h.2.2.2.2⟩
theorem CR_w {NR : Nat → Int32} {c : Nat → Nat} {e : Nat} {C0 A0 : Nat → Int32} {s0 ns : Nat} {bs ws : Nat → Nat} {m : Nat} {P : Nat → Tp} {C A : Nat → Int32} (h : CR NR c e C0 A0 s0 ns bs ws m P C A) (o : Tp) (α : Int32) (ho : aG NR c e ns bs ws o α) : CR NR c e C0 A0 s0 ns bs ws (m + 1) (nwT P m o) (upd C (s0 + m) (nI o.1)) (upd A (s0 + m) α) := by
  obtain ⟨h1, h2⟩ := h
  refine ⟨fun i hi => ?_, fun i hi => ?_⟩
  · rw [up_n (by omega), up_n (by omega)]
    exact h1 i hi
  · by_cases z : i = m
    · subst z
      rw [up_e, up_e, show nwT P i o i = o from if_pos rfl]
      exact ⟨rfl, ho⟩
    · rw [up_n (by omega), up_n (by omega), show nwT P m o i = P i from if_neg z]
      exact h2 i (by omega)
theorem CR_n {NR : Nat → Int32} {c : Nat → Nat} {e : Nat} {C0 A0 : Nat → Int32} {s0 ns ns' : Nat} {bs ws bs' ws' : Nat → Nat} {m : Nat} {P : Nat → Tp} {C A : Nat → Int32} (hn : ns ≤ ns') (hb : ∀ i : Nat, i < ns → bs' i = bs i ∧ ws' i = ws i) (h : CR NR c e C0 A0 s0 ns bs ws m P C A) : CR NR c e C0 A0 s0 ns' bs' ws' m P C A := ⟨h.1, fun i hi => ⟨(h.2 i hi).1, aG_n hn hb (h.2 i hi).2⟩⟩
def rkA (x : Nat) : Nat := ([0, 6, 6, 6, 5, 5, 4, 4, 3, 2, 1, 7, 7] : List Nat).getD x 0
theorem rk_t : ∀ x : Fin 13, tb_2 x.1 = nI (rkA x.1) ∧ rkA x.1 ≤ 7 := by decide +kernel
def stk (S : Nat → Int32) : List Nat → Prop
  | [] => True
  | x :: l => S l.length = nI x ∧ stk S l
theorem stk_u {S : Nat → Int32} {v : Int32} : ∀ (l : List Nat) (k : Nat), l.length ≤ k → stk S l → stk (upd S k v) l := fun l => by
  induction l with
  | nil => intro k _ _; exact trivial
  | cons x l ih =>
    intro k hk h
    have hk : l.length + 1 ≤ k := hk
    exact ⟨(up_n (by omega)).trans h.1, ih k (by omega) h.2⟩
theorem stk_p {S : Nat → Int32} {l : List Nat} (x : Nat) (h : stk S l) : stk (upd S l.length (nI x)) (x :: l) := ⟨up_e, stk_u l l.length (Nat.le_refl _) h⟩
def popA (r : Nat) : List Nat → List Nat
  | [] => []
  | x :: l => if x < 13 ∧ r ≤ rkA x then x :: popA r l else []
def popB (r : Nat) : List Nat → List Nat
  | [] => []
  | x :: l => if x < 13 ∧ r ≤ rkA x then popB r l else x :: l
theorem pop_l (r : Nat) : ∀ l : List Nat, (popA r l).length + (popB r l).length = l.length := fun l => by
  induction l with
  | nil => rfl
  | cons x l ih =>
    unfold popA popB
    by_cases y : x < 13 ∧ r ≤ rkA x
    · rw [if_pos y, if_pos y]
      show (popA r l).length + 1 + (popB r l).length = l.length + 1
      omega
    · rw [if_neg y, if_neg y]
      exact Nat.zero_add _
theorem pop_s {S : Nat → Int32} (r : Nat) : ∀ l : List Nat, stk S l → stk S (popB r l) := fun l => by
  induction l with
  | nil => intro h; exact h
  | cons x l ih =>
    intro h
    unfold popB
    by_cases y : x < 13 ∧ r ≤ rkA x
    · rw [if_pos y]; exact ih h.2
    · rw [if_neg y]; exact h
theorem xe_1 {n : Nat} {B : St} {cs tp st ns : Nat} {fx : Bool} {C A S NM BK : Nat → Int32} {ap kd fr : Nat} {nm : Int32} (κ α : Int32) (h : cs < 32832) : df_X9_emit n κ α (uC (xC B cs tp st ns fx C A S NM BK) ap kd fr nm) = some (uC (xC B (cs + 1) tp st ns fx (upd C cs κ) (upd A cs α) S NM BK) ap kd fr nm) := by
  simp (disch := (first | assumption | decide | omega)) only [df_X9_emit_42, df_X9_emit_0, df_X9_emit, uC_i0, uC_i1, uC_i2, uC_i3, uC_i4, uC_r, uC_o, uC_w0, uC_w2, uC_w3, uC_w4, xC_i5, xC_u5, xC_i6, xC_u6, xC_i7, xC_u7, xC_i8, xC_u8, xC_i10, xC_u10, xC_r0, xC_r1, xC_r2, xC_r3, xC_r4, xC_i1, xC_u1, xC_i9, xC_u9, xC_i11, xC_u11, xC_r5, xC_r6, xC_r7, xC_o0, xC_w5, xC_w6, xC_w7, xC_w8, xC_w10, xC_y0, xC_y1, xC_y2, xC_y3, xC_y4, eq_self, Nat.reduceEqDiff, Nat.reduceLeDiff, nl_0, nl_1, nl_5, nl_32832, no_1, no_1024, pk_mul, nI_add, nm_ck, nI_clamp, nI_ltI, nI_leI, nI_eq, nb_b2, nb_b1, ↓nb_let, nm_z0, nm_z1, nb_II, nb_IR, nb_RI, nb_RR, nm_IL, nm_IQ, nm_RL, nm_RQ, nm_LI, nm_LR, nm_LL, nm_LQ, nm_QI, nm_QR, nm_QL, nm_QQ, nm_rr, nm_ii, nm_eqm, not_false_eq_true, pk_sub, nm_div, nm_shl, nm_shr, nm_ush, nm_or8, nm_or64, nm_or256, nm_m1, nm_m3, nm_m7, nm_m15, nm_m31, nm_m63, nm_m255, nm_m511, nm_m1023, nm_m2047, nm_m65535, Nat.reduceMod, Nat.reducePow, Nat.reduceAdd, Nat.reduceSub, Nat.reduceMul, nm_bo, nm_bi, nm_rc, nm_ic, nm_ri, nm_rl, nm_rq, nm_ql, nm_qi, nm_li, nm_us, nm_uu, nm_cp, nm_sa31, nm_sa7, nm_m127, nm_m2, nm_nz, nm_nzk, nm_eq32, nm_nzf, if_true, if_false, ↓reduceIte, if_pos, if_neg]
theorem xp_1 {n : Nat} {B : St} {cs tp st ns : Nat} {fx : Bool} {C A S NM BK : Nat → Int32} {ap kd fr : Nat} {nm : Int32} (κ : Int32) (h : tp < 32832) : df_X9_push n κ (uC (xC B cs tp st ns fx C A S NM BK) ap kd fr nm) = some (uC (xC B cs (tp + 1) st ns fx C A (upd S tp κ) NM BK) ap kd fr nm) := by
  simp (disch := (first | assumption | decide | omega)) only [df_X9_push_32, df_X9_push_0, df_X9_push, uC_i0, uC_i1, uC_i2, uC_i3, uC_i4, uC_r, uC_o, uC_w0, uC_w2, uC_w3, uC_w4, xC_i5, xC_u5, xC_i6, xC_u6, xC_i7, xC_u7, xC_i8, xC_u8, xC_i10, xC_u10, xC_r0, xC_r1, xC_r2, xC_r3, xC_r4, xC_i1, xC_u1, xC_i9, xC_u9, xC_i11, xC_u11, xC_r5, xC_r6, xC_r7, xC_o0, xC_w5, xC_w6, xC_w7, xC_w8, xC_w10, xC_y0, xC_y1, xC_y2, xC_y3, xC_y4, eq_self, Nat.reduceEqDiff, Nat.reduceLeDiff, nl_1, nl_2, nl_6, nl_32832, no_1, no_1024, pk_mul, nI_add, nm_ck, nI_clamp, nI_ltI, nI_leI, nI_eq, nb_b2, nb_b1, ↓nb_let, nm_z0, nm_z1, nb_II, nb_IR, nb_RI, nb_RR, nm_IL, nm_IQ, nm_RL, nm_RQ, nm_LI, nm_LR, nm_LL, nm_LQ, nm_QI, nm_QR, nm_QL, nm_QQ, nm_rr, nm_ii, nm_eqm, not_false_eq_true, pk_sub, nm_div, nm_shl, nm_shr, nm_ush, nm_or8, nm_or64, nm_or256, nm_m1, nm_m3, nm_m7, nm_m15, nm_m31, nm_m63, nm_m255, nm_m511, nm_m1023, nm_m2047, nm_m65535, Nat.reduceMod, Nat.reducePow, Nat.reduceAdd, Nat.reduceSub, Nat.reduceMul, nm_bo, nm_bi, nm_rc, nm_ic, nm_ri, nm_rl, nm_rq, nm_ql, nm_qi, nm_li, nm_us, nm_uu, nm_cp, nm_sa31, nm_sa7, nm_m127, nm_m2, nm_nz, nm_nzk, nm_eq32, nm_nzf, if_true, if_false, ↓reduceIte, if_pos, if_neg]
theorem xs_1 {n : Nat} {B : St} {cs tp st ns : Nat} {fx : Bool} {C A S NM BK : Nat → Int32} {ap kd fr : Nat} {nm : Int32} (hk : kd ≤ 6) (x : Int32) : df_X9_isSign n x (uC (xC B cs tp st ns fx C A S NM BK) ap kd fr nm) = some (bI (decide (kd = 5 ∧ nm = x)), (uC (xC B cs tp st ns fx C A S NM BK) ap kd fr nm)) := by
  unfold df_X9_isSign df_X9_isSign_0 df_X9_isSign_20 df_X9_isSign_21
  rw [uC_i2, uC_i4]
  by_cases y : kd = 5
  · rw [if_pos (show nI kd = (5 : Int32) from congrArg nI y)]
    by_cases z : nm = x
    · rw [if_pos z, decide_eq_true ⟨y, z⟩]
      exact nar_z (by decide)
    · rw [if_neg z, decide_eq_false (fun w => z w.2)]
      exact nar_z (by decide)
  · rw [if_neg (show ¬ nI kd = (5 : Int32) from zne (b := 5) y (by omega) (by omega)), decide_eq_false (fun w => y w.1)]
    exact nar_z (by decide)
/-- what waits is taken off -/
theorem xo_1 {n : Nat} {B : St} {st ns : Nat} {fx : Bool} {S NM BK : Nat → Int32} {ap kd fr : Nat} {nm : Int32} {NR : Nat → Int32} {c : Nat → Nat} {e : Nat} {C0 A0 : Nat → Int32} {s0 : Nat} {bs ws : Nat → Nat} (r : Nat) (hr : r ≤ 7) : ∀ (l : List Nat) (g m : Nat) (P : Nat → Tp) (C A : Nat → Int32), stk S l → (∀ x : Nat, x ∈ l → 1 ≤ x ∧ x ≤ 15) → l.length < g → l.length ≤ 32768 → s0 + m + l.length ≤ 32832 → CR NR c e C0 A0 s0 ns bs ws m P C A → ∃ C' A' : Nat → Int32, df_X9_popTo_0 n g (nI r) (uC (xC B (s0 + m) l.length st ns fx C A S NM BK) ap kd fr nm) = some (uC (xC B (s0 + m + (popA r l).length) (popB r l).length st ns fx C' A' S NM BK) ap kd fr nm) ∧ CR NR c e C0 A0 s0 ns bs ws (m + (popA r l).length) (apl P m (popA r l)) C' A' := fun l => by
  induction l with
  | nil =>
    intro g m P C A h1 h2 h3 h4 h5 h6
    obtain ⟨g, rfl⟩ : ∃ m : Nat, g = m + 1 := ⟨g - 1, by have : ([] : List Nat).length = 0 := rfl; omega⟩
    refine ⟨C, A, ?_, h6⟩
    show dF_X9_popTo_0 n (df_X9_popTo_0 n g) (nI r) (uC (xC B (s0 + m) 0 st ns fx C A S NM BK) ap kd fr nm) = _
    unfold dF_X9_popTo_0
    rw [xC_u6, if_pos (show nI 0 ≤ (0 : Int32) by decide)]
    rfl
  | cons x l ih =>
    intro g m P C A h1 h2 h3 h4 h5 h6
    have hl : (x :: l).length = l.length + 1 := rfl
    obtain ⟨g, rfl⟩ : ∃ m : Nat, g = m + 1 := ⟨g - 1, by omega⟩
    have hx := h2 x (List.mem_cons_self ..)
    have sx : S l.length = nI x := h1.1
    have hd : df_X9_popTo_0 n (g + 1) (nI r) (uC (xC B (s0 + m) (x :: l).length st ns fx C A S NM BK) ap kd fr nm) = dF_X9_popTo_0 n (df_X9_popTo_0 n g) (nI r) (uC (xC B (s0 + m) (x :: l).length st ns fx C A S NM BK) ap kd fr nm) := rfl
    rw [hd]
    unfold dF_X9_popTo_0
    rw [hl, xC_u6, if_neg (show ¬ nI (l.length + 1) ≤ (0 : Int32) from znle (b := 0) (by omega) (by omega)), show nI (l.length + 1) - (1 : Int32) = nI l.length from pk_sub (b := 1) (by omega), nm_ck (by omega) (by omega), nI_clamp (by omega), uC_r, xC_r2, sx]
    by_cases y : x < 13
    · obtain ⟨rt, rb⟩ := rk_t ⟨x, y⟩
      have rt : tb_2 x = nI (rkA x) := rt
      have rb : rkA x ≤ 7 := rb
      rw [if_neg (show ¬ (13 : Int32) ≤ nI x from znle (a := 13) y (by omega)), nm_ck (by omega) (by omega), nm_ck y (by omega), nI_clamp (by omega), rt]
      by_cases z : r ≤ rkA x
      · rw [if_neg (show ¬ nI (rkA x) < nI r from znl z (by omega)), xC_w6, nb_let, xC_u6, nm_ck (by omega) (by omega), nI_clamp (by omega), uC_r, xC_r2, sx, xe_1 (nI x) 0 (by omega), nb_b1]
        obtain ⟨C', A', e1, e2⟩ := ih g (m + 1) (nwT P m (x, 0, 0)) (upd C (s0 + m) (nI x)) (upd A (s0 + m) 0) h1.2 (fun w hw => h2 w (List.mem_cons_of_mem _ hw)) (by omega) (by omega) (by omega) (CR_w h6 (x, 0, 0) 0 (aG_s (by omega)))
        have pa : popA r (x :: l) = x :: popA r l := if_pos ⟨y, z⟩
        have pb : popB r (x :: l) = popB r l := if_pos ⟨y, z⟩
        rw [pa, pb]
        refine ⟨C', A', ?_, ?_⟩
        · rw [show s0 + m + (x :: popA r l).length = s0 + (m + 1) + (popA r l).length by show s0 + m + ((popA r l).length + 1) = _; omega]
          exact e1
        · rw [show m + (x :: popA r l).length = m + 1 + (popA r l).length by show m + ((popA r l).length + 1) = _; omega]
          exact e2
      · have pa : popA r (x :: l) = [] := if_neg (fun w => z w.2)
        have pb : popB r (x :: l) = x :: l := if_neg (fun w => z w.2)
        rw [pa, pb, if_pos (show nI (rkA x) < nI r from zlt (by omega) (by omega))]
        exact ⟨C, A, rfl, h6⟩
    · have pa : popA r (x :: l) = [] := if_neg (fun w => y w.1)
      have pb : popB r (x :: l) = x :: l := if_neg (fun w => y w.1)
      rw [pa, pb, if_pos (show (13 : Int32) ≤ nI x from zle (a := 13) (by omega) (by omega))]
      exact ⟨C, A, rfl, h6⟩
/-- signs between two values -/
def bnO (v : Nat) : Nat := if v = 37 then 3 else if v = 38 then 8 else if v = 42 then 1 else if v = 43 then 4 else if v = 45 then 5 else if v = 47 then 2 else if v = 94 then 9 else if v = 124 then 10 else if v = 256 then 6 else if v = 257 then 7 else 0
theorem bn_0 : ∀ v : Fin 300, df_X9_binary 0 (nI v.1) () = some (nI (bnO v.1), ()) ∧ bnO v.1 ≤ 10 := by decide +kernel
theorem bn_1 (n : Nat) {v : Nat} (h : v < 300) : df_X9_binary n (nI v) () = some (nI (bnO v), ()) := (show df_X9_binary n (nI v) () = df_X9_binary 0 (nI v) () from rfl).trans (bn_0 ⟨v, h⟩).1
theorem pop_m (r : Nat) : ∀ (l : List Nat) (x : Nat), x ∈ popB r l → x ∈ l := fun l => by
  induction l with
  | nil => intro x h; exact h
  | cons y l ih =>
    intro x h
    unfold popB at h
    by_cases z : y < 13 ∧ r ≤ rkA y
    · rw [if_pos z] at h; exact List.mem_cons_of_mem _ (ih x h)
    · rw [if_neg z] at h; exact h
theorem apl_a : ∀ (xs ys : List Nat) (P : Nat → Tp) (m : Nat), apl P m (xs ++ ys) = apl (apl P m xs) (m + xs.length) ys := fun xs => by
  induction xs with
  | nil => intro ys P m; rfl
  | cons x xs ih =>
    intro ys P m
    show apl (nwT P m (x, 0, 0)) (m + 1) (xs ++ ys) = apl (apl (nwT P m (x, 0, 0)) (m + 1) xs) (m + (xs.length + 1)) ys
    rw [ih ys (nwT P m (x, 0, 0)) (m + 1), show m + 1 + xs.length = m + (xs.length + 1) by omega]
/-- an operator: a sign between two values -/
theorem xt_B {n : Nat} {B : St} {st ns : Nat} {fx : Bool} {S NM BK : Nat → Int32} {ap kd fr : Nat} {nm : Int32} {NR : Nat → Int32} {c : Nat → Nat} {e : Nat} {C0 A0 : Nat → Int32} {s0 : Nat} {bs ws : Nat → Nat} (hn : 70000 < n) (l : List Nat) (m : Nat) (P : Nat → Tp) (C A : Nat → Int32) (h1 : stk S l) (h2 : ∀ x : Nat, x ∈ l → 1 ≤ x ∧ x ≤ 15) (h4 : l.length ≤ 32768) (h5 : s0 + m + l.length < 32832) (h6 : CR NR c e C0 A0 s0 ns bs ws m P C A) (v : Nat) (hv : v < 300) (hb : 0 < bnO v) (hk : kd = 5) (hm : nm = nI v) : ∃ C' A' : Nat → Int32, df_X9_takeOperator n (uC (xC B (s0 + m) l.length st ns fx C A S NM BK) ap kd fr nm) = some (uC (xC B (s0 + m + (popA (rkA (bnO v)) l).length) ((popB (rkA (bnO v)) l).length + 1) 0 ns fx C' A' (upd S (popB (rkA (bnO v)) l).length (nI (bnO v))) NM BK) ap kd fr nm) ∧ CR NR c e C0 A0 s0 ns bs ws (m + (popA (rkA (bnO v)) l).length) (apl P m (popA (rkA (bnO v)) l)) C' A' ∧ stk (upd S (popB (rkA (bnO v)) l).length (nI (bnO v))) (bnO v :: popB (rkA (bnO v)) l) := by
  have b10 := (bn_0 ⟨v, hv⟩).2
  have b10 : bnO v ≤ 10 := b10
  obtain ⟨rt, rb⟩ := rk_t ⟨bnO v, by omega⟩
  have rt : tb_2 (bnO v) = nI (rkA (bnO v)) := rt
  have rb : rkA (bnO v) ≤ 7 := rb
  obtain ⟨C', A', e1, e2⟩ := xo_1 (n := n) (B := B) (st := st) (fx := fx) (NM := NM) (BK := BK) (ap := ap) (kd := kd) (fr := fr) (nm := nm) (rkA (bnO v)) rb l n m P C A h1 h2 (by omega) h4 (by omega) h6
  have pl := pop_l (rkA (bnO v)) l
  refine ⟨C', A', ?_, e2, stk_p _ (pop_s _ l h1)⟩
  have e1 : df_X9_popTo n (nI (rkA (bnO v))) (uC (xC B (s0 + m) l.length st ns fx C A S NM BK) ap kd fr nm) = _ := e1
  unfold df_X9_takeOperator df_X9_takeOperator_0 df_X9_takeOperator_19
  rw [uC_i2, uC_i4, hk, hm, if_pos (show nI 5 = (5 : Int32) from rfl), bn_1 n hv, nb_b2, if_neg (show ¬ nI (bnO v) = (0 : Int32) from zne (b := 0) (by omega) (by omega) (by omega)), nm_ck (by omega) (by omega), nI_clamp (by omega), rt, ← hk, ← hm, e1, nb_b1, xp_1 (nI (bnO v)) (by omega), nb_b1, show (0 : Int32) = nI 0 from rfl, xC_w7, nb_let]
/-- an operator: none, the end of the expression or of a bracket -/
theorem xt_E {n : Nat} {B : St} {st ns : Nat} {fx : Bool} {S NM BK : Nat → Int32} {ap kd fr : Nat} {nm : Int32} {NR : Nat → Int32} {c : Nat → Nat} {e : Nat} {C0 A0 : Nat → Int32} {s0 : Nat} {bs ws : Nat → Nat} (hn : 70000 < n) (l : List Nat) (m : Nat) (P : Nat → Tp) (C A : Nat → Int32) (h1 : stk S l) (h2 : ∀ x : Nat, x ∈ l → 1 ≤ x ∧ x ≤ 15) (h4 : l.length ≤ 32768) (h5 : s0 + m + l.length < 32832) (h6 : CR NR c e C0 A0 s0 ns bs ws m P C A) (h0 : kd = 5 → ∃ v : Nat, v < 300 ∧ nm = nI v ∧ bnO v = 0) (hk : kd ≤ 6) (hz : popB 0 l = []) : ∃ C' A' : Nat → Int32, df_X9_takeOperator n (uC (xC B (s0 + m) l.length st ns fx C A S NM BK) ap kd fr nm) = some (uC (xC B (s0 + m + (popA 0 l).length) 0 5 ns fx C' A' S NM BK) ap kd fr nm) ∧ CR NR c e C0 A0 s0 ns bs ws (m + (popA 0 l).length) (apl P m (popA 0 l)) C' A' := by
  obtain ⟨C', A', e1, e2⟩ := xo_1 (n := n) (B := B) (st := st) (fx := fx) (NM := NM) (BK := BK) (ap := ap) (kd := kd) (fr := fr) (nm := nm) 0 (by omega) l n m P C A h1 h2 (by omega) h4 (by omega) h6
  refine ⟨C', A', ?_, e2⟩
  have e1 : df_X9_popTo n (nI 0) (uC (xC B (s0 + m) l.length st ns fx C A S NM BK) ap kd fr nm) = _ := e1
  have s : df_X9_takeOperator n (uC (xC B (s0 + m) l.length st ns fx C A S NM BK) ap kd fr nm) = df_X9_takeOperator_19 n 0 (uC (xC B (s0 + m) l.length st ns fx C A S NM BK) ap kd fr nm) := by
    unfold df_X9_takeOperator df_X9_takeOperator_0
    rw [uC_i2, uC_i4]
    by_cases y : kd = 5
    · obtain ⟨v, v1, v2, v3⟩ := h0 y
      rw [if_pos (show nI kd = (5 : Int32) from congrArg nI y), v2, bn_1 n v1, nb_b2, v3]
      rfl
    · rw [if_neg (show ¬ nI kd = (5 : Int32) from zne (b := 5) y (by omega) (by omega))]
  rw [s]
  unfold df_X9_takeOperator_19
  rw [if_pos rfl, show df_X9_popTo n 0 (uC (xC B (s0 + m) l.length st ns fx C A S NM BK) ap kd fr nm) = _ from e1, nb_b1, hz, xC_u6, if_pos (show nI ([] : List Nat).length = (0 : Int32) from rfl), show (5 : Int32) = nI 5 from rfl, xC_w7, nb_let]
  rfl
theorem xt_W {n : Nat} {B : St} {st ns : Nat} {fx : Bool} {S NM BK : Nat → Int32} {ap kd fr : Nat} {nm : Int32} {NR : Nat → Int32} {c : Nat → Nat} {e : Nat} {C0 A0 : Nat → Int32} {s0 : Nat} {bs ws : Nat → Nat} (hn : 70000 < n) (l : List Nat) (m : Nat) (P : Nat → Tp) (C A : Nat → Int32) (h1 : stk S l) (h2 : ∀ x : Nat, x ∈ l → 1 ≤ x ∧ x ≤ 15) (h4 : l.length ≤ 32768) (h5 : s0 + m + l.length < 32832) (h6 : CR NR c e C0 A0 s0 ns bs ws m P C A) (h0 : kd = 5 → ∃ v : Nat, v < 300 ∧ nm = nI v ∧ bnO v = 0) (hk : kd ≤ 6) (x : Nat) (l2 : List Nat) (hz : popB 0 l = x :: l2) (h41 : ¬ (kd = 5 ∧ nm = 41)) : ∃ C' A' : Nat → Int32, df_X9_takeOperator n (uC (xC B (s0 + m) l.length st ns fx C A S NM BK) ap kd fr nm) = some (uC (xC B (s0 + m + (popA 0 l).length) (l2.length + 1) 6 ns fx C' A' S NM BK) ap kd fr nm) ∧ CR NR c e C0 A0 s0 ns bs ws (m + (popA 0 l).length) (apl P m (popA 0 l)) C' A' := by
  obtain ⟨C', A', e1, e2⟩ := xo_1 (n := n) (B := B) (st := st) (fx := fx) (NM := NM) (BK := BK) (ap := ap) (kd := kd) (fr := fr) (nm := nm) 0 (by omega) l n m P C A h1 h2 (by omega) h4 (by omega) h6
  have pl := pop_l 0 l
  refine ⟨C', A', ?_, e2⟩
  have e1 : df_X9_popTo n (nI 0) (uC (xC B (s0 + m) l.length st ns fx C A S NM BK) ap kd fr nm) = _ := e1
  have s : df_X9_takeOperator n (uC (xC B (s0 + m) l.length st ns fx C A S NM BK) ap kd fr nm) = df_X9_takeOperator_19 n 0 (uC (xC B (s0 + m) l.length st ns fx C A S NM BK) ap kd fr nm) := by
    unfold df_X9_takeOperator df_X9_takeOperator_0
    rw [uC_i2, uC_i4]
    by_cases y : kd = 5
    · obtain ⟨v, v1, v2, v3⟩ := h0 y
      rw [if_pos (show nI kd = (5 : Int32) from congrArg nI y), v2, bn_1 n v1, nb_b2, v3]
      rfl
    · rw [if_neg (show ¬ nI kd = (5 : Int32) from zne (b := 5) y (by omega) (by omega))]
  rw [s]
  have lx : (x :: l2).length = l2.length + 1 := rfl
  rw [hz, lx] at pl
  unfold df_X9_takeOperator_19
  rw [if_pos rfl, show df_X9_popTo n 0 (uC (xC B (s0 + m) l.length st ns fx C A S NM BK) ap kd fr nm) = _ from e1, nb_b1, hz, lx, xC_u6, if_neg (show ¬ nI (l2.length + 1) = (0 : Int32) from zne (b := 0) (by omega) (by omega) (by omega)), xs_1 hk, nb_b2, decide_eq_false h41, if_pos (show bI false = 0 from rfl), show (6 : Int32) = nI 6 from rfl, xC_w7, nb_let]
  rfl
theorem xt_C {n : Nat} {B : St} {st ns : Nat} {fx : Bool} {S NM BK : Nat → Int32} {ap kd fr : Nat} {nm : Int32} {NR : Nat → Int32} {c : Nat → Nat} {e : Nat} {C0 A0 : Nat → Int32} {s0 : Nat} {bs ws : Nat → Nat} (hn : 70000 < n) (l : List Nat) (m : Nat) (P : Nat → Tp) (C A : Nat → Int32) (h1 : stk S l) (h2 : ∀ x : Nat, x ∈ l → 1 ≤ x ∧ x ≤ 15) (h4 : l.length ≤ 32768) (h5 : s0 + m + l.length < 32832) (h6 : CR NR c e C0 A0 s0 ns bs ws m P C A) (hk : kd = 5) (hm : nm = 41) (x : Nat) (l2 : List Nat) (hz : popB 0 l = x :: l2) : ∃ C' A' : Nat → Int32, df_X9_takeOperator n (uC (xC B (s0 + m) l.length st ns fx C A S NM BK) ap kd fr nm) = some (uC (xC B (s0 + m + (popA 0 l ++ if x = 15 then [] else [x]).length) l2.length st ns fx C' A' S NM BK) ap kd fr nm) ∧ CR NR c e C0 A0 s0 ns bs ws (m + (popA 0 l ++ if x = 15 then [] else [x]).length) (apl P m (popA 0 l ++ if x = 15 then [] else [x])) C' A' := by
  obtain ⟨C', A', e1, e2⟩ := xo_1 (n := n) (B := B) (st := st) (fx := fx) (NM := NM) (BK := BK) (ap := ap) (kd := kd) (fr := fr) (nm := nm) 0 (by omega) l n m P C A h1 h2 (by omega) h4 (by omega) h6
  have pl := pop_l 0 l
  have e1 : df_X9_popTo n (nI 0) (uC (xC B (s0 + m) l.length st ns fx C A S NM BK) ap kd fr nm) = _ := e1
  have sx : stk S (x :: l2) := hz ▸ pop_s 0 l h1
  have mx : 1 ≤ x ∧ x ≤ 15 := h2 x (pop_m 0 l x (by rw [hz]; exact List.mem_cons_self ..))
  have lx : (x :: l2).length = l2.length + 1 := rfl
  rw [hz, lx] at pl
  have s : df_X9_takeOperator n (uC (xC B (s0 + m) l.length st ns fx C A S NM BK) ap kd fr nm) = df_X9_takeOperator_19 n 0 (uC (xC B (s0 + m) l.length st ns fx C A S NM BK) ap kd fr nm) := by
    unfold df_X9_takeOperator df_X9_takeOperator_0
    rw [uC_i2, uC_i4, hk, hm, if_pos (show nI 5 = (5 : Int32) from rfl), show (41 : Int32) = nI 41 from rfl, bn_1 n (show 41 < 300 by omega), nb_b2]
    rfl
  rw [s]
  unfold df_X9_takeOperator_19
  rw [if_pos rfl, show df_X9_popTo n 0 (uC (xC B (s0 + m) l.length st ns fx C A S NM BK) ap kd fr nm) = _ from e1, nb_b1, hz, lx, xC_u6, if_neg (show ¬ nI (l2.length + 1) = (0 : Int32) from zne (b := 0) (by omega) (by omega) (by omega)), xs_1 (by omega), nb_b2, decide_eq_true ⟨hk, hm⟩, if_neg (show ¬ bI true = 0 by decide), xC_u6, show nI (l2.length + 1) - (1 : Int32) = nI l2.length from pk_sub (b := 1) (by omega), xC_w6, nb_let, xC_u6, nm_ck (by omega) (by omega), nI_clamp (by omega), uC_r, xC_r2, show S l2.length = nI x from sx.1]
  by_cases y : x = 15
  · rw [if_pos (show nI x = (15 : Int32) from congrArg nI y), if_pos y, List.append_nil]
    exact ⟨C', A', rfl, e2⟩
  · rw [if_neg (show ¬ nI x = (15 : Int32) from zne (b := 15) y (by omega) (by omega)), if_neg y, nm_ck (by omega) (by omega), xe_1 (nI x) 0 (by omega), nb_b1, List.length_append, apl_a]
    exact ⟨_, _, rfl, by
      have w := CR_w e2 (x, 0, 0) 0 (aG_s (by omega))
      rw [← Nat.add_assoc s0 m] at w
      exact w⟩
