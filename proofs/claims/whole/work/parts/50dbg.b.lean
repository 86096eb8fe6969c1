/-- what the class's functions leave alone -/
def FrC (U0 U : St) : Prop := sR U 7 = sR U0 7 ∧ b01 (sI U 10)
theorem fc_I {U0 S : St} {k : Nat} {v : Int32} (hk : ¬ k = 10) (h : FrC U0 S) : FrC U0 (pI S k v) := by
  obtain ⟨a1, a2⟩ := h
  refine ⟨a1, ?_⟩
  rw [sI_ne (by omega)]; exact a2
theorem fc_B {U0 S : St} {v : Int32} (hv : b01 v) (h : FrC U0 S) : FrC U0 (pI S 10 v) := by
  refine ⟨h.1, ?_⟩
  show b01 v
  exact hv
theorem fc_R {U0 S : St} {k : Nat} {f : Nat → Int32} (hk : ¬ k = 7) (h : FrC U0 S) : FrC U0 (pR S k f) := by
  refine ⟨?_, h.2⟩
  rw [sR_ne (by omega)]; exact h.1
theorem fc_7 {U0 S X : St} (hx : sR X 0 = sR U0 7) (h : FrC U0 S) : FrC U0 (pR S 7 (sR X 0)) := by
  refine ⟨?_, h.2⟩
  show sR X 0 = sR U0 7
  exact hx
theorem fc_O {U0 S : St} {k : Nat} {v : Option Nat} (h : FrC U0 S) : FrC U0 (pO S k v) := h
theorem fc_x {U0 S : St} (h : FrC U0 S) : sR (pR nd_st0 0 (sR S 7)) 0 = sR U0 7 := h.1
theorem ok_lcS {β : Type} {R : β → Prop} {S0 x : St} {k : St → Option β} (h : FrC S0 x) (h' : ∀ s : St, FrC S0 s → Ok R (k s)) : Ok R (nd_let x k) := h' x h
theorem ok_lcP {β : Type} {R : β → Prop} {S0 : St} {x : St × St} {k : St × St → Option β} (h : FrC S0 x.2) (h' : ∀ s : St × St, FrC S0 s.2 → Ok R (k s)) : Ok R (nd_let x k) := h' x h
theorem ok_lcQ {β : Type} {R : β → Prop} {S0 : St} {x : St × (St × St) × St} {k : St × (St × St) × St → Option β} (h : FrC S0 x.2.1.2) (h' : ∀ s : St × (St × St) × St, FrC S0 s.2.1.2 → Ok R (k s)) : Ok R (nd_let x k) := h' x h
theorem ok_lxS {β : Type} {R : β → Prop} {R0 : Nat → Int32} {x : St} {k : St → Option β} (h : sR x 0 = R0) (h' : ∀ s : St, sR s 0 = R0 → Ok R (k s)) : Ok R (nd_let x k) := h' x h
theorem ok_b1cS {β : Type} {R : β → Prop} {S0 : St} {x : Option St} {k : St → Option β} (h : Ok (fun r => FrC S0 r) x) (h' : ∀ s : St, FrC S0 s → Ok R (k s)) : Ok R (nd_b1 x k) := ok_g1 h h'
theorem ok_b2cS {α β : Type} {R : β → Prop} {S0 : St} {x : Option (α × St)} {k : α → St → Option β} (h : Ok (fun r => FrC S0 r.2) x) (h' : ∀ (q : α) (s : St), FrC S0 s → Ok R (k q s)) : Ok R (nd_b2 x k) := ok_g2 h h'
theorem ok_b1cP {β : Type} {R : β → Prop} {S0 : St} {x : Option (St × St)} {k : St × St → Option β} (h : Ok (fun r => FrC S0 r.2) x) (h' : ∀ s : St × St, FrC S0 s.2 → Ok R (k s)) : Ok R (nd_b1 x k) := ok_g1 (P := fun r => FrC S0 r.2) h h'
theorem ok_b2cP {α β : Type} {R : β → Prop} {S0 : St} {x : Option (α × (St × St))} {k : α → St × St → Option β} (h : Ok (fun r => FrC S0 r.2.2) x) (h' : ∀ (q : α) (s : St × St), FrC S0 s.2 → Ok R (k q s)) : Ok R (nd_b2 x k) := ok_g2 (P := fun r => FrC S0 r.2) h h'
theorem ok_b1cQ {β : Type} {R : β → Prop} {S0 : St} {x : Option (St × (St × St) × St)} {k : St × (St × St) × St → Option β} (h : Ok (fun r => FrC S0 r.2.1.2) x) (h' : ∀ s : St × (St × St) × St, FrC S0 s.2.1.2 → Ok R (k s)) : Ok R (nd_b1 x k) := ok_g1 (P := fun r => FrC S0 r.2.1.2) h h'
theorem ok_b2cQ {α β : Type} {R : β → Prop} {S0 : St} {x : Option (α × (St × (St × St) × St))} {k : α → St × (St × St) × St → Option β} (h : Ok (fun r => FrC S0 r.2.2.1.2) x) (h' : ∀ (q : α) (s : St × (St × St) × St), FrC S0 s.2.1.2 → Ok R (k q s)) : Ok R (nd_b2 x k) := ok_g2 (P := fun r => FrC S0 r.2.1.2) h h'
theorem ok_b1xS {β : Type} {R : β → Prop} {R0 : Nat → Int32} {x : Option St} {k : St → Option β} (h : Ok (fun r => sR r 0 = R0) x) (h' : ∀ s : St, sR s 0 = R0 → Ok R (k s)) : Ok R (nd_b1 x k) := ok_g1 h h'
theorem ok_b2xS {α β : Type} {R : β → Prop} {R0 : Nat → Int32} {x : Option (α × St)} {k : α → St → Option β} (h : Ok (fun r => sR r.2 0 = R0) x) (h' : ∀ (q : α) (s : St), sR s 0 = R0 → Ok R (k q s)) : Ok R (nd_b2 x k) := ok_g2 (P := fun r => sR r 0 = R0) h h'
theorem ok_df_X7_stands_20 {R0 : Nat → Int32} (n : Nat)  (s0 : St) (h0 : sR s0 0 = R0) : Ok (fun r => sR r.2 0 = R0) (df_X7_stands_20 n  s0) := by
  unfold df_X7_stands_20
  exact ok_some (h0)
theorem ok_dF_X7_stands_25 {R0 : Nat → Int32} (n : Nat) (g25 : Nat → Int32 → Int32 → Int32 → (St) → Option (Int32 × (St))) (x0 : Nat) (x2 : Int32) (x3 : Int32) (x4 : Int32) (hg25 : ∀ (y0 : Nat) (y1 : Int32) (y2 : Int32) (y3 : Int32) (s : (St)), sR s 0 = R0 → Ok (fun r => sR r.2 0 = R0) (g25 y0 y1 y2 y3 s)) (s0 : St) (h0 : sR s0 0 = R0) : Ok (fun r => sR r.2 0 = R0) (dF_X7_stands_25 n g25 x0 x2 x3 x4 s0) := by
  unfold dF_X7_stands_25
  exact ok_ite (fun hc => ok_some (h0)) (fun _ => ok_lt (ok_n2 (fun q9 s10 => ok_ck (ok_ite (fun hc => ok_lv (fun z15 => hg25 (x0) (x2) (x3) (z15) s0 h0)) (fun _ => ok_some (h0))))))
theorem ok_df_X7_stands_25 {R0 : Nat → Int32} (n : Nat)  : ∀ (kk : Nat) (y0 : Nat) (y1 : Int32) (y2 : Int32) (y3 : Int32) (s : (St)), sR s 0 = R0 → Ok (fun r => sR r.2 0 = R0) (df_X7_stands_25 n  kk y0 y1 y2 y3 s) := fun kk => by
  induction kk with
  | zero => intros; exact ok_none
  | succ kk ih =>
    intro y0 y1 y2 y3 s hs
    exact ok_dF_X7_stands_25 n  (df_X7_stands_25 n  kk) y0 y1 y2 y3  ih s hs
theorem ok_df_X7_stands_0 {R0 : Nat → Int32} (n : Nat) (v0 : Nat) (v2 : Int32) (v3 : Int32) (s0 : St) (h0 : sR s0 0 = R0) : Ok (fun r => sR r.2 0 = R0) (df_X7_stands_0 n v0 v2 v3 s0) := by
  unfold df_X7_stands_0
  exact ok_lt (ok_n2 (fun q1 s2 => ok_ite (fun hc => ok_ite (fun hc => ok_df_X7_stands_20 n  s0 h0) (fun _ => ok_ite (fun hc => ok_df_X7_stands_25 n  n (v0) (v2) (v3) (0) s0 h0) (fun _ => ok_df_X7_stands_20 n  s0 h0))) (fun _ => ok_df_X7_stands_20 n  s0 h0)))
theorem ok_df_X7_stands {R0 : Nat → Int32} (n : Nat) (v0 : Nat) (v2 : Int32) (v3 : Int32) (s0 : St) (h0 : sR s0 0 = R0) : Ok (fun r => sR r.2 0 = R0) (df_X7_stands n v0 v2 v3 s0) := by
  unfold df_X7_stands
  exact ok_df_X7_stands_0 n v0 v2 v3 s0 h0
theorem ok_dF_X7_named_2 {R0 : Nat → Int32} (n : Nat) (g2 : Int32 → Int32 → Int32 → (St) → Option (Option Nat × (St))) (x1 : Int32) (x2 : Int32) (x3 : Int32) (hg2 : ∀ (y0 : Int32) (y1 : Int32) (y2 : Int32) (s : (St)), sR s 0 = R0 → Ok (fun r => sR r.2 0 = R0) (g2 y0 y1 y2 s)) (s0 : St) (h0 : sR s0 0 = R0) : Ok (fun r => sR r.2 0 = R0) (dF_X7_named_2 n g2 x1 x2 x3 s0) := by
  unfold dF_X7_named_2
  exact ok_ite (fun hc => ok_some (h0)) (fun _ => ok_ck (ok_lt (ok_b2xS (ok_df_X7_stands n ((ko_w (Int32.toNatClampNeg x3))) (x1) (x2) s0 h0) (fun q6 s7 h1 => ok_ite (fun hc => ok_lv (fun z10 => hg2 (x1) (x2) (z10) s7 h1)) (fun _ => ok_ck (ok_some (h1)))))))
theorem ok_df_X7_named_2 {R0 : Nat → Int32} (n : Nat)  : ∀ (kk : Nat) (y0 : Int32) (y1 : Int32) (y2 : Int32) (s : (St)), sR s 0 = R0 → Ok (fun r => sR r.2 0 = R0) (df_X7_named_2 n  kk y0 y1 y2 s) := fun kk => by
  induction kk with
  | zero => intros; exact ok_none
  | succ kk ih =>
    intro y0 y1 y2 s hs
    exact ok_dF_X7_named_2 n  (df_X7_named_2 n  kk) y0 y1 y2  ih s hs
theorem ok_df_X7_named_0 {R0 : Nat → Int32} (n : Nat) (v1 : Int32) (v2 : Int32) (s0 : St) (h0 : sR s0 0 = R0) : Ok (fun r => sR r.2 0 = R0) (df_X7_named_0 n v1 v2 s0) := by
  unfold df_X7_named_0
  exact ok_df_X7_named_2 n  n (v1) (v2) (0) s0 h0
theorem ok_df_X7_named {R0 : Nat → Int32} (n : Nat) (v1 : Int32) (v2 : Int32) (s0 : St) (h0 : sR s0 0 = R0) : Ok (fun r => sR r.2 0 = R0) (df_X7_named n v1 v2 s0) := by
  unfold df_X7_named
  exact ok_df_X7_named_0 n v1 v2 s0 h0
theorem ok_df_X7_order_78 {R0 : Nat → Int32} (n : Nat) (y0 : Int32) (s0 : St) (h0 : sR s0 0 = R0) : Ok (fun r => sR r.2 0 = R0) (df_X7_order_78 n y0 s0) := by
  unfold df_X7_order_78
  exact ok_some (h0)
theorem ok_df_X7_order_77 {R0 : Nat → Int32} (n : Nat)  (s0 : St) (h0 : sR s0 0 = R0) : Ok (fun r => sR r.2 0 = R0) (df_X7_order_77 n  s0) := by
  unfold df_X7_order_77
  exact ok_df_X7_order_78 n (0) s0 h0
theorem ok_df_X7_order_50 {R0 : Nat → Int32} (n : Nat) (x1 : Int32) (x2 : Int32) (s0 : St) (h0 : sR s0 0 = R0) : Ok (fun r => sR r.2 0 = R0) (df_X7_order_50 n x1 x2 s0) := by
  unfold df_X7_order_50
  exact ok_ite (fun hc => ok_df_X7_order_77 n  s0 h0) (fun _ => ok_b2xS (ok_df_X7_stands n (5) (((x1 + x2) - 3)) (3) s0 h0) (fun q5 s6 h1 => ok_ite (fun hc => ok_df_X7_order_77 n  s6 h1) (fun _ => ok_df_X7_order_78 n (33554432) s6 h1)))
theorem ok_df_X7_order_25 {R0 : Nat → Int32} (n : Nat) (x1 : Int32) (x2 : Int32) (s0 : St) (h0 : sR s0 0 = R0) : Ok (fun r => sR r.2 0 = R0) (df_X7_order_25 n x1 x2 s0) := by
  unfold df_X7_order_25
  exact ok_ite (fun hc => ok_df_X7_order_50 n (x1) (x2) s0 h0) (fun _ => ok_b2xS (ok_df_X7_stands n (4) (((x1 + x2) - 3)) (3) s0 h0) (fun q10 s11 h1 => ok_ite (fun hc => ok_df_X7_order_50 n (x1) (x2) s11 h1) (fun _ => ok_some (h1))))
theorem ok_df_X7_order_0 {R0 : Nat → Int32} (n : Nat) (v1 : Int32) (v2 : Int32) (s0 : St) (h0 : sR s0 0 = R0) : Ok (fun r => sR r.2 0 = R0) (df_X7_order_0 n v1 v2 s0) := by
  unfold df_X7_order_0
  exact ok_ite (fun hc => ok_df_X7_order_25 n (v1) (v2) s0 h0) (fun _ => ok_b2xS (ok_df_X7_stands n (6) (((v1 + v2) - 5)) (5) s0 h0) (fun q15 s16 h1 => ok_ite (fun hc => ok_df_X7_order_25 n (v1) (v2) s16 h1) (fun _ => ok_some (h1))))
theorem ok_df_X7_order {R0 : Nat → Int32} (n : Nat) (v1 : Int32) (v2 : Int32) (s0 : St) (h0 : sR s0 0 = R0) : Ok (fun r => sR r.2 0 = R0) (df_X7_order n v1 v2 s0) := by
  unfold df_X7_order
  exact ok_df_X7_order_0 n v1 v2 s0 h0
theorem ok_df_X7_isNamed_44 {R0 : Nat → Int32} (n : Nat) (g3 : Int32 → Int32 → Int32 → Int32 → (St) → Option (Int32 × (St))) (x0 : Int32) (x2 : Int32) (x3 : Int32) (x4 : Int32) (y0 : Int32) (y1 : Int32) (hg3 : ∀ (y0 : Int32) (y1 : Int32) (y2 : Int32) (y3 : Int32) (s : (St)), sR s 0 = R0 → Ok (fun r => sR r.2 0 = R0) (g3 y0 y1 y2 y3 s)) (s0 : St) (h0 : sR s0 0 = R0) : Ok (fun r => sR r.2 0 = R0) (df_X7_isNamed_44 n g3 x0 x2 x3 x4 y0 y1 s0) := by
  unfold df_X7_isNamed_44
  exact ok_ite (fun hc => ok_lv (fun z8 => hg3 (x0) (x2) (x3) (z8) s0 h0)) (fun _ => ok_some (h0))
theorem ok_dF_X7_isNamed_3 {R0 : Nat → Int32} (n : Nat) (g3 : Int32 → Int32 → Int32 → Int32 → (St) → Option (Int32 × (St))) (x0 : Int32) (x2 : Int32) (x3 : Int32) (x4 : Int32) (hg3 : ∀ (y0 : Int32) (y1 : Int32) (y2 : Int32) (y3 : Int32) (s : (St)), sR s 0 = R0 → Ok (fun r => sR r.2 0 = R0) (g3 y0 y1 y2 y3 s)) (s0 : St) (h0 : sR s0 0 = R0) : Ok (fun r => sR r.2 0 = R0) (dF_X7_isNamed_3 n g3 x0 x2 x3 x4 s0) := by
  unfold dF_X7_isNamed_3
  exact ok_ite (fun hc => ok_some (h0)) (fun _ => ok_n2 (fun q3 s4 => ok_ite (fun hc => ok_df_X7_isNamed_44 n g3 (x0) (x2) (x3) (x4) (q3) (32) hg3 s0 h0) (fun _ => ok_ck (ok_df_X7_isNamed_44 n g3 (x0) (x2) (x3) (x4) (q3) ((sR s0 0 (Int32.toNatClampNeg (x2 + x4)))) hg3 s0 h0))))
theorem ok_df_X7_isNamed_3 {R0 : Nat → Int32} (n : Nat)  : ∀ (kk : Nat) (y0 : Int32) (y1 : Int32) (y2 : Int32) (y3 : Int32) (s : (St)), sR s 0 = R0 → Ok (fun r => sR r.2 0 = R0) (df_X7_isNamed_3 n  kk y0 y1 y2 y3 s) := fun kk => by
  induction kk with
  | zero => intros; exact ok_none
  | succ kk ih =>
    intro y0 y1 y2 y3 s hs
    exact ok_dF_X7_isNamed_3 n  (df_X7_isNamed_3 n  kk) y0 y1 y2 y3  ih s hs
theorem ok_df_X7_isNamed_0 {R0 : Nat → Int32} (n : Nat) (v0 : Int32) (v2 : Int32) (v3 : Int32) (s0 : St) (h0 : sR s0 0 = R0) : Ok (fun r => sR r.2 0 = R0) (df_X7_isNamed_0 n v0 v2 v3 s0) := by
  unfold df_X7_isNamed_0
  exact ok_df_X7_isNamed_3 n  n (v0) (v2) (v3) (0) s0 h0
theorem ok_df_X7_isNamed {R0 : Nat → Int32} (n : Nat) (v0 : Int32) (v2 : Int32) (v3 : Int32) (s0 : St) (h0 : sR s0 0 = R0) : Ok (fun r => sR r.2 0 = R0) (df_X7_isNamed n v0 v2 v3 s0) := by
  unfold df_X7_isNamed
  exact ok_df_X7_isNamed_0 n v0 v2 v3 s0 h0
theorem ok_df_X7_numbered_72 {R0 : Nat → Int32} (n : Nat) (y0 : Int32) (s0 : St) (h0 : sR s0 0 = R0) : Ok (fun r => sR r.2 0 = R0) (df_X7_numbered_72 n y0 s0) := by
  unfold df_X7_numbered_72
  exact ok_some (h0)
theorem ok_df_X7_numbered_67 {R0 : Nat → Int32} (n : Nat)  (s0 : St) (h0 : sR s0 0 = R0) : Ok (fun r => sR r.2 0 = R0) (df_X7_numbered_67 n  s0) := by
  unfold df_X7_numbered_67
  exact ok_df_X7_numbered_72 n ((-1)) s0 h0
theorem ok_df_X7_numbered_71 {R0 : Nat → Int32} (n : Nat) (x3 : Int32) (s0 : St) (h0 : sR s0 0 = R0) : Ok (fun r => sR r.2 0 = R0) (df_X7_numbered_71 n x3 s0) := by
  unfold df_X7_numbered_71
  exact ok_df_X7_numbered_72 n (x3) s0 h0
theorem ok_df_X7_numbered_34 {R0 : Nat → Int32} (n : Nat)  (s0 : St) (h0 : sR s0 0 = R0) : Ok (fun r => sR r.2 0 = R0) (df_X7_numbered_34 n  s0) := by
  unfold df_X7_numbered_34
  exact ok_some (h0)
theorem ok_dF_X7_numbered_5 {R0 : Nat → Int32} (n : Nat) (g5 : Int32 → Int32 → Int32 → Int32 → (St) → Option (Int32 × (St))) (x1 : Int32) (x2 : Int32) (x3 : Int32) (x4 : Int32) (hg5 : ∀ (y0 : Int32) (y1 : Int32) (y2 : Int32) (y3 : Int32) (s : (St)), sR s 0 = R0 → Ok (fun r => sR r.2 0 = R0) (g5 y0 y1 y2 y3 s)) (s0 : St) (h0 : sR s0 0 = R0) : Ok (fun r => sR r.2 0 = R0) (dF_X7_numbered_5 n g5 x1 x2 x3 x4 s0) := by
  unfold dF_X7_numbered_5
  exact ok_ite (fun hc => ok_ite (fun hc => ok_df_X7_numbered_67 n  s0 h0) (fun _ => ok_ite (fun hc => ok_ite (fun hc => ok_df_X7_numbered_71 n (x3) s0 h0) (fun _ => ok_df_X7_numbered_67 n  s0 h0)) (fun _ => ok_df_X7_numbered_71 n (x3) s0 h0))) (fun _ => ok_ck (ok_lv (fun z6 => ok_ite (fun hc => ok_df_X7_numbered_34 n  s0 h0) (fun _ => ok_ite (fun hc => ok_lv (fun z9 => ok_lv (fun z10 => hg5 (x1) (x2) (z9) (z10) s0 h0))) (fun _ => ok_df_X7_numbered_34 n  s0 h0)))))
theorem ok_df_X7_numbered_5 {R0 : Nat → Int32} (n : Nat)  : ∀ (kk : Nat) (y0 : Int32) (y1 : Int32) (y2 : Int32) (y3 : Int32) (s : (St)), sR s 0 = R0 → Ok (fun r => sR r.2 0 = R0) (df_X7_numbered_5 n  kk y0 y1 y2 y3 s) := fun kk => by
  induction kk with
  | zero => intros; exact ok_none
  | succ kk ih =>
    intro y0 y1 y2 y3 s hs
    exact ok_dF_X7_numbered_5 n  (df_X7_numbered_5 n  kk) y0 y1 y2 y3  ih s hs
theorem ok_df_X7_numbered_0 {R0 : Nat → Int32} (n : Nat) (v1 : Int32) (v2 : Int32) (s0 : St) (h0 : sR s0 0 = R0) : Ok (fun r => sR r.2 0 = R0) (df_X7_numbered_0 n v1 v2 s0) := by
  unfold df_X7_numbered_0
  exact ok_df_X7_numbered_5 n  n (v1) (v2) (0) (0) s0 h0
theorem ok_df_X7_numbered {R0 : Nat → Int32} (n : Nat) (v1 : Int32) (v2 : Int32) (s0 : St) (h0 : sR s0 0 = R0) : Ok (fun r => sR r.2 0 = R0) (df_X7_numbered n v1 v2 s0) := by
  unfold df_X7_numbered
  exact ok_df_X7_numbered_0 n v1 v2 s0 h0
theorem ok_df_X7_registerAt_51 {R0 : Nat → Int32} (n : Nat)  (s0 : St) (h0 : sR s0 0 = R0) : Ok (fun r => sR r.2 0 = R0) (df_X7_registerAt_51 n  s0) := by
  unfold df_X7_registerAt_51
  exact ok_some (h0)
theorem ok_dF_X7_registerAt_74 {R0 : Nat → Int32} (n : Nat) (g74 : Int32 → Int32 → Int32 → (St) → Option (Int32 × (St))) (x1 : Int32) (x2 : Int32) (x3 : Int32) (hg74 : ∀ (y0 : Int32) (y1 : Int32) (y2 : Int32) (s : (St)), sR s 0 = R0 → Ok (fun r => sR r.2 0 = R0) (g74 y0 y1 y2 s)) (s0 : St) (h0 : sR s0 0 = R0) : Ok (fun r => sR r.2 0 = R0) (dF_X7_registerAt_74 n g74 x1 x2 x3 s0) := by
  unfold dF_X7_registerAt_74
  exact ok_ite (fun hc => ok_some (h0)) (fun _ => ok_b2xS (ok_df_X7_isNamed n (x3) (x1) (x2) s0 h0) (fun q18 s19 h1 => ok_ite (fun hc => ok_lv (fun z22 => hg74 (x1) (x2) (z22) s19 h1)) (fun _ => ok_some (h1))))
theorem ok_df_X7_registerAt_74 {R0 : Nat → Int32} (n : Nat)  : ∀ (kk : Nat) (y0 : Int32) (y1 : Int32) (y2 : Int32) (s : (St)), sR s 0 = R0 → Ok (fun r => sR r.2 0 = R0) (df_X7_registerAt_74 n  kk y0 y1 y2 s) := fun kk => by
  induction kk with
  | zero => intros; exact ok_none
  | succ kk ih =>
    intro y0 y1 y2 s hs
    exact ok_dF_X7_registerAt_74 n  (df_X7_registerAt_74 n  kk) y0 y1 y2  ih s hs
theorem ok_df_X7_registerAt_0 {R0 : Nat → Int32} (n : Nat) (v1 : Int32) (v2 : Int32) (s0 : St) (h0 : sR s0 0 = R0) : Ok (fun r => sR r.2 0 = R0) (df_X7_registerAt_0 n v1 v2 s0) := by
  unfold df_X7_registerAt_0
  exact ok_b2xS (ok_df_X7_stands n (10) (v1) (v2) s0 h0) (fun q2 s3 h1 => ok_ite (fun hc => ok_b2xS (ok_df_X7_stands n (18) (v1) (v2) s3 h1) (fun q7 s8 h2 => ok_ite (fun hc => ok_ite (fun hc => ok_df_X7_registerAt_51 n  s8 h2) (fun _ => ok_ite (fun hc => ok_df_X7_registerAt_51 n  s8 h2) (fun _ => ok_ite (fun hc => ok_df_X7_registerAt_51 n  s8 h2) (fun _ => ok_ite (fun hc => ok_ck (ok_ite (fun hc => ok_b2xS (ok_df_X7_numbered n ((v1 + 1)) ((v2 - 1)) s8 h2) (fun q23 s24 h3 => ok_some (h3))) (fun _ => ok_df_X7_registerAt_74 n  n (v1) (v2) (1) s8 h2))) (fun _ => ok_df_X7_registerAt_51 n  s8 h2))))) (fun _ => ok_some (h2)))) (fun _ => ok_some (h1)))
theorem ok_df_X7_registerAt {R0 : Nat → Int32} (n : Nat) (v1 : Int32) (v2 : Int32) (s0 : St) (h0 : sR s0 0 = R0) : Ok (fun r => sR r.2 0 = R0) (df_X7_registerAt n v1 v2 s0) := by
  unfold df_X7_registerAt
  exact ok_df_X7_registerAt_0 n v1 v2 s0 h0
theorem ok_df_X9_open_0 {U0 : St} (n : Nat)  (s0 : St) (h0 : FrC U0 s0) : Ok (fun r => FrC U0 r) (df_X9_open_0 n  s0) := by
  unfold df_X9_open_0
  exact ok_lcS ((fc_O h0)) (fun s1 h1 => ok_lcS ((fc_I (by decide) h1)) (fun s2 h2 => ok_lcS ((fc_I (by decide) h2)) (fun s3 h3 => ok_lcS ((fc_I (by decide) h3)) (fun s4 h4 => ok_lcS ((fc_R (by decide) h4)) (fun s5 h5 => ok_lcS ((fc_R (by decide) h5)) (fun s6 h6 => ok_some (h6)))))))
theorem ok_df_X9_open {U0 : St} (n : Nat)  (s0 : St) (h0 : FrC U0 s0) : Ok (fun r => FrC U0 r) (df_X9_open n  s0) := by
  unfold df_X9_open
  exact ok_df_X9_open_0 n  s0 h0
theorem ok_df_X1_blame_12 {U0 : St} (n : Nat)  (s0 : St × (St)) (h0 : FrC U0 s0.2) : Ok (fun r => FrC U0 r.2) (df_X1_blame_12 n  s0) := by
  unfold df_X1_blame_12
  exact ok_some (h0)
theorem ok_df_X1_blame_0 {U0 : St} (n : Nat) (v0 : Int32) (s0 : St × (St)) (h0 : FrC U0 s0.2) : Ok (fun r => FrC U0 r.2) (df_X1_blame_0 n v0 s0) := by
  unfold df_X1_blame_0
  exact ok_ite (fun hc => ok_lcP (h0) (fun s2 h1 => ok_df_X1_blame_12 n  s2 h1)) (fun _ => ok_df_X1_blame_12 n  s0 h0)
theorem ok_df_X1_blame {U0 : St} (n : Nat) (v0 : Int32) (s0 : St × (St)) (h0 : FrC U0 s0.2) : Ok (fun r => FrC U0 r.2) (df_X1_blame n v0 s0) := by
  unfold df_X1_blame
  exact ok_df_X1_blame_0 n v0 s0 h0
theorem ok_df_X1_start_112 {U0 : St} (n : Nat)  (s0 : St × (St)) (h0 : FrC U0 s0.2) : Ok (fun r => FrC U0 r.2) (df_X1_start_112 n  s0) := by
  unfold df_X1_start_112
  exact ok_some (h0)
theorem ok_df_X1_start_106 {U0 : St} (n : Nat) (g43 : Int32 → Int32 → Int32 → (St × (St)) → Option (St × (St))) (x2 : Int32) (x3 : Int32) (x4 : Int32) (hg43 : ∀ (y0 : Int32) (y1 : Int32) (y2 : Int32) (s : (St × (St))), FrC U0 s.2 → Ok (fun r => FrC U0 r.2) (g43 y0 y1 y2 s)) (s0 : St × (St)) (h0 : FrC U0 s0.2) : Ok (fun r => FrC U0 r.2) (df_X1_start_106 n g43 x2 x3 x4 s0) := by
  unfold df_X1_start_106
  exact ok_lv (fun z17 => hg43 (x2) (x3) (z17) s0 h0)
theorem ok_df_X1_start_96 {U0 : St} (n : Nat) (g43 : Int32 → Int32 → Int32 → (St × (St)) → Option (St × (St))) (x2 : Int32) (x3 : Int32) (x4 : Int32) (hg43 : ∀ (y0 : Int32) (y1 : Int32) (y2 : Int32) (s : (St × (St))), FrC U0 s.2 → Ok (fun r => FrC U0 r.2) (g43 y0 y1 y2 s)) (s0 : St × (St)) (h0 : FrC U0 s0.2) : Ok (fun r => FrC U0 r.2) (df_X1_start_96 n g43 x2 x3 x4 s0) := by
  unfold df_X1_start_96
  exact ok_b1cP (ok_df_X1_blame n (1) s0 h0) (fun s20 h1 => ok_lcP (h1) (fun s22 h2 => ok_df_X1_start_106 n g43 (x2) (x3) (x4) hg43 s22 h2))
theorem ok_dF_X1_start_43 {U0 : St} (n : Nat) (g43 : Int32 → Int32 → Int32 → (St × (St)) → Option (St × (St))) (x2 : Int32) (x3 : Int32) (x4 : Int32) (hg43 : ∀ (y0 : Int32) (y1 : Int32) (y2 : Int32) (s : (St × (St))), FrC U0 s.2 → Ok (fun r => FrC U0 r.2) (g43 y0 y1 y2 s)) (s0 : St × (St)) (h0 : FrC U0 s0.2) : Ok (fun r => FrC U0 r.2) (dF_X1_start_43 n g43 x2 x3 x4 s0) := by
  unfold dF_X1_start_43
  exact ok_ite (fun hc => ok_df_X1_start_112 n  s0 h0) (fun _ => ok_ite (fun hc => ok_ck (ok_lv (fun z14 => ok_ite (fun hc => ok_lv (fun z24 => ok_df_X1_start_106 n g43 (x2) (z24) (x4) hg43 s0 h0)) (fun _ => ok_ite (fun hc => ok_df_X1_start_106 n g43 (x2) (x3) (x4) hg43 s0 h0) (fun _ => ok_ite (fun hc => ok_df_X1_start_96 n g43 (x2) (x3) (x4) hg43 s0 h0) (fun _ => ok_ite (fun hc => ok_df_X1_start_106 n g43 (x2) (x3) (x4) hg43 s0 h0) (fun _ => ok_df_X1_start_96 n g43 (x2) (x3) (x4) hg43 s0 h0))))))) (fun _ => ok_df_X1_start_112 n  s0 h0))
theorem ok_df_X1_start_43 {U0 : St} (n : Nat)  : ∀ (kk : Nat) (y0 : Int32) (y1 : Int32) (y2 : Int32) (s : (St × (St))), FrC U0 s.2 → Ok (fun r => FrC U0 r.2) (df_X1_start_43 n  kk y0 y1 y2 s) := fun kk => by
  induction kk with
  | zero => intros; exact ok_none
  | succ kk ih =>
    intro y0 y1 y2 s hs
    exact ok_dF_X1_start_43 n  (df_X1_start_43 n  kk) y0 y1 y2  ih s hs
theorem ok_df_X1_start_0 {U0 : St} (n : Nat) (v1 : Int32) (s0 : St × (St)) (h0 : FrC U0 s0.2) : Ok (fun r => FrC U0 r.2) (df_X1_start_0 n v1 s0) := by
  unfold df_X1_start_0
  exact ok_b1cS (ok_df_X9_open n  s0.2 h0) (fun s2 h1 => ok_lcP (h1) (fun s4 h2 => ok_lcP (h2) (fun s5 h3 => ok_lcP (h3) (fun s6 h4 => ok_lcP (h4) (fun s7 h5 => ok_lcP (h5) (fun s8 h6 => ok_lcP (h6) (fun s9 h7 => ok_lcP (h7) (fun s10 h8 => ok_df_X1_start_43 n  n (v1) (1) (0) s10 h8))))))))
theorem ok_df_X1_start {U0 : St} (n : Nat) (v1 : Int32) (s0 : St × (St)) (h0 : FrC U0 s0.2) : Ok (fun r => FrC U0 r.2) (df_X1_start n v1 s0) := by
  unfold df_X1_start
  exact ok_df_X1_start_0 n v1 s0 h0
theorem ok_df_X1_describe_119 {U0 : St} (n : Nat) (g76 : Int32 → (St × (St × (St)) × (St)) → Option (St × (St × (St)) × (St))) (x2 : Int32) (hg76 : ∀ (y0 : Int32) (s : (St × (St × (St)) × (St))), FrC U0 s.2.1.2 → Ok (fun r => FrC U0 r.2.1.2) (g76 y0 s)) (s0 : St × (St × (St)) × (St)) (h0 : FrC U0 s0.2.1.2) : Ok (fun r => FrC U0 r.2.1.2) (df_X1_describe_119 n g76 x2 s0) := by
  unfold df_X1_describe_119
  exact ok_lv (fun z10 => hg76 (z10) s0 h0)
theorem ok_dF_X1_describe_76 {U0 : St} (n : Nat) (g76 : Int32 → (St × (St × (St)) × (St)) → Option (St × (St × (St)) × (St))) (x2 : Int32) (hg76 : ∀ (y0 : Int32) (s : (St × (St × (St)) × (St))), FrC U0 s.2.1.2 → Ok (fun r => FrC U0 r.2.1.2) (g76 y0 s)) (s0 : St × (St × (St)) × (St)) (h0 : FrC U0 s0.2.1.2) : Ok (fun r => FrC U0 r.2.1.2) (dF_X1_describe_76 n g76 x2 s0) := by
  unfold dF_X1_describe_76
  exact ok_ite (fun hc => ok_some (h0)) (fun _ => ok_ck (ok_ite (fun hc => ok_ck (ok_n1 (fun s13 => ok_lcQ (h0) (fun s15 h1 => ok_df_X1_describe_119 n g76 (x2) hg76 s15 h1)))) (fun _ => ok_df_X1_describe_119 n g76 (x2) hg76 s0 h0)))
theorem ok_df_X1_describe_76 {U0 : St} (n : Nat)  : ∀ (kk : Nat) (y0 : Int32) (s : (St × (St × (St)) × (St))), FrC U0 s.2.1.2 → Ok (fun r => FrC U0 r.2.1.2) (df_X1_describe_76 n  kk y0 s) := fun kk => by
  induction kk with
  | zero => intros; exact ok_none
  | succ kk ih =>
    intro y0 s hs
    exact ok_dF_X1_describe_76 n  (df_X1_describe_76 n  kk) y0  ih s hs
theorem ok_df_X1_describe_68 {U0 : St} (n : Nat) (g26 : Int32 → (St × (St × (St)) × (St)) → Option (St × (St × (St)) × (St))) (x2 : Int32) (hg26 : ∀ (y0 : Int32) (s : (St × (St × (St)) × (St))), FrC U0 s.2.1.2 → Ok (fun r => FrC U0 r.2.1.2) (g26 y0 s)) (s0 : St × (St × (St)) × (St)) (h0 : FrC U0 s0.2.1.2) : Ok (fun r => FrC U0 r.2.1.2) (df_X1_describe_68 n g26 x2 s0) := by
  unfold df_X1_describe_68
  exact ok_lv (fun z18 => hg26 (z18) s0 h0)
theorem ok_dF_X1_describe_26 {U0 : St} (n : Nat) (g26 : Int32 → (St × (St × (St)) × (St)) → Option (St × (St × (St)) × (St))) (x2 : Int32) (hg26 : ∀ (y0 : Int32) (s : (St × (St × (St)) × (St))), FrC U0 s.2.1.2 → Ok (fun r => FrC U0 r.2.1.2) (g26 y0 s)) (s0 : St × (St × (St)) × (St)) (h0 : FrC U0 s0.2.1.2) : Ok (fun r => FrC U0 r.2.1.2) (dF_X1_describe_26 n g26 x2 s0) := by
  unfold dF_X1_describe_26
  exact ok_ite (fun hc => ok_df_X1_describe_76 n  n (0) s0 h0) (fun _ => ok_ck (ok_ite (fun hc => ok_df_X1_describe_68 n g26 (x2) hg26 s0 h0) (fun _ => ok_ck (ok_ck (ok_n1 (fun s22 => ok_lcQ (h0) (fun s24 h1 => ok_df_X1_describe_68 n g26 (x2) hg26 s24 h1)))))))
theorem ok_df_X1_describe_26 {U0 : St} (n : Nat)  : ∀ (kk : Nat) (y0 : Int32) (s : (St × (St × (St)) × (St))), FrC U0 s.2.1.2 → Ok (fun r => FrC U0 r.2.1.2) (df_X1_describe_26 n  kk y0 s) := fun kk => by
  induction kk with
  | zero => intros; exact ok_none
  | succ kk ih =>
    intro y0 s hs
    exact ok_dF_X1_describe_26 n  (df_X1_describe_26 n  kk) y0  ih s hs
theorem ok_df_X1_describe_0 {U0 : St} (n : Nat)  (s0 : St × (St × (St)) × (St)) (h0 : FrC U0 s0.2.1.2) : Ok (fun r => FrC U0 r.2.1.2) (df_X1_describe_0 n  s0) := by
  unfold df_X1_describe_0
  exact ok_n1 (fun s2 => ok_lcQ (h0) (fun s4 h1 => ok_lcQ (h1) (fun s5 h2 => ok_df_X1_describe_26 n  n (0) s5 h2)))
theorem ok_df_X1_describe {U0 : St} (n : Nat)  (s0 : St × (St × (St)) × (St)) (h0 : FrC U0 s0.2.1.2) : Ok (fun r => FrC U0 r.2.1.2) (df_X1_describe n  s0) := by
  unfold df_X1_describe
  exact ok_df_X1_describe_0 n  s0 h0
theorem ok_df_X1_moveData_99 {U0 : St} (n : Nat) (g51 : Int32 → (St × (St)) → Option (St × (St))) (x1 : Int32) (hg51 : ∀ (y0 : Int32) (s : (St × (St))), FrC U0 s.2 → Ok (fun r => FrC U0 r.2) (g51 y0 s)) (s0 : St × (St)) (h0 : FrC U0 s0.2) : Ok (fun r => FrC U0 r.2) (df_X1_moveData_99 n g51 x1 s0) := by
  unfold df_X1_moveData_99
  exact ok_lv (fun z5 => hg51 (z5) s0 h0)
theorem ok_dF_X1_moveData_51 {U0 : St} (n : Nat) (g51 : Int32 → (St × (St)) → Option (St × (St))) (x1 : Int32) (hg51 : ∀ (y0 : Int32) (s : (St × (St))), FrC U0 s.2 → Ok (fun r => FrC U0 r.2) (g51 y0 s)) (s0 : St × (St)) (h0 : FrC U0 s0.2) : Ok (fun r => FrC U0 r.2) (dF_X1_moveData_51 n g51 x1 s0) := by
  unfold dF_X1_moveData_51
  exact ok_ite (fun hc => ok_some (h0)) (fun _ => ok_ck (ok_ite (fun hc => ok_ck (ok_ck (ok_lcP ((fc_R (by decide) h0)) (fun s8 h1 => ok_df_X1_moveData_99 n g51 (x1) hg51 s8 h1)))) (fun _ => ok_df_X1_moveData_99 n g51 (x1) hg51 s0 h0)))
theorem ok_df_X1_moveData_51 {U0 : St} (n : Nat)  : ∀ (kk : Nat) (y0 : Int32) (s : (St × (St))), FrC U0 s.2 → Ok (fun r => FrC U0 r.2) (df_X1_moveData_51 n  kk y0 s) := fun kk => by
  induction kk with
  | zero => intros; exact ok_none
  | succ kk ih =>
    intro y0 s hs
    exact ok_dF_X1_moveData_51 n  (df_X1_moveData_51 n  kk) y0  ih s hs
theorem ok_df_X1_moveData_43 {U0 : St} (n : Nat) (g2 : Int32 → (St × (St)) → Option (St × (St))) (x1 : Int32) (hg2 : ∀ (y0 : Int32) (s : (St × (St))), FrC U0 s.2 → Ok (fun r => FrC U0 r.2) (g2 y0 s)) (s0 : St × (St)) (h0 : FrC U0 s0.2) : Ok (fun r => FrC U0 r.2) (df_X1_moveData_43 n g2 x1 s0) := by
  unfold df_X1_moveData_43
  exact ok_lv (fun z11 => hg2 (z11) s0 h0)
theorem ok_dF_X1_moveData_2 {U0 : St} (n : Nat) (g2 : Int32 → (St × (St)) → Option (St × (St))) (x1 : Int32) (hg2 : ∀ (y0 : Int32) (s : (St × (St))), FrC U0 s.2 → Ok (fun r => FrC U0 r.2) (g2 y0 s)) (s0 : St × (St)) (h0 : FrC U0 s0.2) : Ok (fun r => FrC U0 r.2) (dF_X1_moveData_2 n g2 x1 s0) := by
  unfold dF_X1_moveData_2
  exact ok_ite (fun hc => ok_df_X1_moveData_51 n  n (0) s0 h0) (fun _ => ok_ck (ok_ite (fun hc => ok_ck (ok_ck (ok_lcP (h0) (fun s14 h1 => ok_df_X1_moveData_43 n g2 (x1) hg2 s14 h1)))) (fun _ => ok_df_X1_moveData_43 n g2 (x1) hg2 s0 h0)))
theorem ok_df_X1_moveData_2 {U0 : St} (n : Nat)  : ∀ (kk : Nat) (y0 : Int32) (s : (St × (St))), FrC U0 s.2 → Ok (fun r => FrC U0 r.2) (df_X1_moveData_2 n  kk y0 s) := fun kk => by
  induction kk with
  | zero => intros; exact ok_none
  | succ kk ih =>
    intro y0 s hs
    exact ok_dF_X1_moveData_2 n  (df_X1_moveData_2 n  kk) y0  ih s hs
theorem ok_df_X1_moveData_0 {U0 : St} (n : Nat)  (s0 : St × (St)) (h0 : FrC U0 s0.2) : Ok (fun r => FrC U0 r.2) (df_X1_moveData_0 n  s0) := by
  unfold df_X1_moveData_0
  exact ok_df_X1_moveData_2 n  n (0) s0 h0
theorem ok_df_X1_moveData {U0 : St} (n : Nat)  (s0 : St × (St)) (h0 : FrC U0 s0.2) : Ok (fun r => FrC U0 r.2) (df_X1_moveData n  s0) := by
  unfold df_X1_moveData
  exact ok_df_X1_moveData_0 n  s0 h0
theorem ok_df_X9_standsBefore_19 {U0 : St} (n : Nat) (y0 : Int32) (s0 : St) (h0 : FrC U0 s0) : Ok (fun r => FrC U0 r.2) (df_X9_standsBefore_19 n y0 s0) := by
  unfold df_X9_standsBefore_19
  exact ok_z (ok_some (h0))
theorem ok_df_X9_standsBefore_0 {U0 : St} (n : Nat) (v0 : Int32) (v1 : Int32) (s0 : St) (h0 : FrC U0 s0) : Ok (fun r => FrC U0 r.2) (df_X9_standsBefore_0 n v0 v1 s0) := by
  unfold df_X9_standsBefore_0
  exact ok_ck (ok_ite (fun hc => ok_df_X9_standsBefore_19 n (1) s0 h0) (fun _ => ok_df_X9_standsBefore_19 n (0) s0 h0))
theorem ok_df_X9_standsBefore {U0 : St} (n : Nat) (v0 : Int32) (v1 : Int32) (s0 : St) (h0 : FrC U0 s0) : Ok (fun r => FrC U0 r.2) (df_X9_standsBefore n v0 v1 s0) := by
  unfold df_X9_standsBefore
  exact ok_df_X9_standsBefore_0 n v0 v1 s0 h0
theorem ok_df_X9_place_27 {U0 : St} (n : Nat) (y1 : Int32) (y2 : Int32) (s0 : St) (h0 : FrC U0 s0) : Ok (fun r => FrC U0 r) (df_X9_place_27 n y1 y2 s0) := by
  unfold df_X9_place_27
  exact ok_ck (ok_lcS ((fc_R (by decide) h0)) (fun s4 h1 => ok_some (h1)))
theorem ok_df_X9_place_0 {U0 : St} (n : Nat) (v0 : Int32) (v1 : Int32) (v2 : Int32) (s0 : St) (h0 : FrC U0 s0) : Ok (fun r => FrC U0 r) (df_X9_place_0 n v0 v1 v2 s0) := by
  unfold df_X9_place_0
  exact ok_ck (ok_ite (fun hc => ok_df_X9_place_27 n (((v0 * 5) + 2)) (v1) s0 h0) (fun _ => ok_df_X9_place_27 n (((v0 * 5) + 2)) (v2) s0 h0))
theorem ok_df_X9_place {U0 : St} (n : Nat) (v0 : Int32) (v1 : Int32) (v2 : Int32) (s0 : St) (h0 : FrC U0 s0) : Ok (fun r => FrC U0 r) (df_X9_place n v0 v1 v2 s0) := by
  unfold df_X9_place
  exact ok_df_X9_place_0 n v0 v1 v2 s0 h0
theorem ok_df_X1_findAddresses_226 {U0 : St} (n : Nat) (y1 : Int32) (s0 : St × (St)) (h0 : FrC U0 s0.2) : Ok (fun r => FrC U0 r.2) (df_X1_findAddresses_226 n y1 s0) := by
  unfold df_X1_findAddresses_226
  exact ok_lcP (h0) (fun s5 h1 => ok_b1cP (ok_df_X1_moveData n  s5 h1) (fun s7 h2 => ok_some (h2)))
theorem ok_df_X1_findAddresses_181 {U0 : St} (n : Nat) (g9 : Int32 → Int32 → Int32 → Int32 → (St × (St)) → Option (St × (St))) (x1 : Int32) (x2 : Int32) (x3 : Int32) (x4 : Int32) (hg9 : ∀ (y0 : Int32) (y1 : Int32) (y2 : Int32) (y3 : Int32) (s : (St × (St))), FrC U0 s.2 → Ok (fun r => FrC U0 r.2) (g9 y0 y1 y2 y3 s)) (s0 : St × (St)) (h0 : FrC U0 s0.2) : Ok (fun r => FrC U0 r.2) (df_X1_findAddresses_181 n g9 x1 x2 x3 x4 s0) := by
  unfold df_X1_findAddresses_181
  exact ok_lv (fun z11 => hg9 (x1) (x2) (x3) (z11) s0 h0)
theorem ok_df_X1_findAddresses_142 {U0 : St} (n : Nat) (g9 : Int32 → Int32 → Int32 → Int32 → (St × (St)) → Option (St × (St))) (x1 : Int32) (x2 : Int32) (x3 : Int32) (x4 : Int32) (x5 : Int32) (hg9 : ∀ (y0 : Int32) (y1 : Int32) (y2 : Int32) (y3 : Int32) (s : (St × (St))), FrC U0 s.2 → Ok (fun r => FrC U0 r.2) (g9 y0 y1 y2 y3 s)) (s0 : St × (St)) (h0 : FrC U0 s0.2) : Ok (fun r => FrC U0 r.2) (df_X1_findAddresses_142 n g9 x1 x2 x3 x4 x5 s0) := by
  unfold df_X1_findAddresses_142
  exact ok_ck (ok_ite (fun hc => ok_ck (ok_lv (fun z24 => ok_df_X1_findAddresses_181 n g9 (z24) (x2) (x3) (x4) hg9 s0 h0))) (fun _ => ok_ck (ok_lv (fun z22 => ok_df_X1_findAddresses_181 n g9 (x1) (z22) (x3) (x4) hg9 s0 h0))))
theorem ok_df_X1_findAddresses_91 {U0 : St} (n : Nat) (g9 : Int32 → Int32 → Int32 → Int32 → (St × (St)) → Option (St × (St))) (x1 : Int32) (x2 : Int32) (x3 : Int32) (x4 : Int32) (x5 : Int32) (y0 : Int32) (hg9 : ∀ (y0 : Int32) (y1 : Int32) (y2 : Int32) (y3 : Int32) (s : (St × (St))), FrC U0 s.2 → Ok (fun r => FrC U0 r.2) (g9 y0 y1 y2 y3 s)) (s0 : St × (St)) (h0 : FrC U0 s0.2) : Ok (fun r => FrC U0 r.2) (df_X1_findAddresses_91 n g9 x1 x2 x3 x4 x5 y0 s0) := by
  unfold df_X1_findAddresses_91
  exact ok_ck (ok_lcP (h0) (fun s16 h1 => ok_ck (ok_ite (fun hc => ok_ck (ok_ck (ok_lcP (h1) (fun s27 h2 => ok_df_X1_findAddresses_142 n g9 (x1) (x2) (x3) (x4) (x5) hg9 s27 h2)))) (fun _ => ok_df_X1_findAddresses_142 n g9 (x1) (x2) (x3) (x4) (x5) hg9 s16 h1))))
theorem ok_df_X1_findAddresses_58 {U0 : St} (n : Nat) (g9 : Int32 → Int32 → Int32 → Int32 → (St × (St)) → Option (St × (St))) (x1 : Int32) (x2 : Int32) (x3 : Int32) (x4 : Int32) (hg9 : ∀ (y0 : Int32) (y1 : Int32) (y2 : Int32) (y3 : Int32) (s : (St × (St))), FrC U0 s.2 → Ok (fun r => FrC U0 r.2) (g9 y0 y1 y2 y3 s)) (s0 : St × (St)) (h0 : FrC U0 s0.2) : Ok (fun r => FrC U0 r.2) (df_X1_findAddresses_58 n g9 x1 x2 x3 x4 s0) := by
  unfold df_X1_findAddresses_58
  exact ok_ite (fun hc => ok_df_X1_findAddresses_181 n g9 (x1) (x2) (x3) (x4) hg9 s0 h0) (fun _ => ok_lv (fun z12 => ok_ck (ok_ite (fun hc => ok_df_X1_findAddresses_91 n g9 (x1) (x2) (x3) (x4) (z12) (x1) hg9 s0 h0) (fun _ => ok_df_X1_findAddresses_91 n g9 (x1) (x2) (x3) (x4) (z12) (x2) hg9 s0 h0))))
theorem ok_dF_X1_findAddresses_18 {U0 : St} (n : Nat) (g9 : Int32 → Int32 → Int32 → Int32 → (St × (St)) → Option (St × (St))) (g18 : Int32 → Int32 → Int32 → Int32 → (St × (St)) → Option (St × (St))) (x1 : Int32) (x2 : Int32) (x3 : Int32) (x4 : Int32) (hg9 : ∀ (y0 : Int32) (y1 : Int32) (y2 : Int32) (y3 : Int32) (s : (St × (St))), FrC U0 s.2 → Ok (fun r => FrC U0 r.2) (g9 y0 y1 y2 y3 s)) (hg18 : ∀ (y0 : Int32) (y1 : Int32) (y2 : Int32) (y3 : Int32) (s : (St × (St))), FrC U0 s.2 → Ok (fun r => FrC U0 r.2) (g18 y0 y1 y2 y3 s)) (s0 : St × (St)) (h0 : FrC U0 s0.2) : Ok (fun r => FrC U0 r.2) (dF_X1_findAddresses_18 n g9 g18 x1 x2 x3 x4 s0) := by
  unfold dF_X1_findAddresses_18
  exact ok_ite (fun hc => ok_df_X1_findAddresses_58 n g9 (x1) (x2) (x3) (x4) hg9 s0 h0) (fun _ => ok_b2cS (ok_df_X9_standsBefore n (x3) (x4) s0.2 h0) (fun q28 s29 h1 => ok_lcP (h1) (fun s31 h2 => ok_ite (fun hc => ok_df_X1_findAddresses_58 n g9 (x1) (x2) (x3) (x4) hg9 s31 h2) (fun _ => ok_b1cS (ok_df_X9_place n (x3) (x1) (x2) s31.2 h2) (fun s34 h3 => ok_lcP (h3) (fun s36 h4 => ok_lv (fun z37 => hg18 (x1) (x2) (z37) (x4) s36 h4)))))))
theorem ok_df_X1_findAddresses_18 {U0 : St} (n : Nat) (g9 : Int32 → Int32 → Int32 → Int32 → (St × (St)) → Option (St × (St))) (hg9 : ∀ (y0 : Int32) (y1 : Int32) (y2 : Int32) (y3 : Int32) (s : (St × (St))), FrC U0 s.2 → Ok (fun r => FrC U0 r.2) (g9 y0 y1 y2 y3 s)) : ∀ (kk : Nat) (y0 : Int32) (y1 : Int32) (y2 : Int32) (y3 : Int32) (s : (St × (St))), FrC U0 s.2 → Ok (fun r => FrC U0 r.2) (df_X1_findAddresses_18 n g9 kk y0 y1 y2 y3 s) := fun kk => by
  induction kk with
  | zero => intros; exact ok_none
  | succ kk ih =>
    intro y0 y1 y2 y3 s hs
    exact ok_dF_X1_findAddresses_18 n g9 (df_X1_findAddresses_18 n g9 kk) y0 y1 y2 y3 hg9 ih s hs
theorem ok_dF_X1_findAddresses_9 {U0 : St} (n : Nat) (g9 : Int32 → Int32 → Int32 → Int32 → (St × (St)) → Option (St × (St))) (x1 : Int32) (x2 : Int32) (x3 : Int32) (x4 : Int32) (hg9 : ∀ (y0 : Int32) (y1 : Int32) (y2 : Int32) (y3 : Int32) (s : (St × (St))), FrC U0 s.2 → Ok (fun r => FrC U0 r.2) (g9 y0 y1 y2 y3 s)) (s0 : St × (St)) (h0 : FrC U0 s0.2) : Ok (fun r => FrC U0 r.2) (dF_X1_findAddresses_9 n g9 x1 x2 x3 x4 s0) := by
  unfold dF_X1_findAddresses_9
  exact ok_ite (fun hc => ok_lcP (h0) (fun s2 h1 => ok_lcP (h1) (fun s3 h2 => ok_ite (fun hc => ok_df_X1_findAddresses_226 n (x1) s3 h2) (fun _ => ok_df_X1_findAddresses_226 n (((sI s3.1 8) + x2)) s3 h2)))) (fun _ => ok_df_X1_findAddresses_18 n g9 hg9 n (x1) (x2) (x3) (x4) s0 h0)
theorem ok_df_X1_findAddresses_9 {U0 : St} (n : Nat)  : ∀ (kk : Nat) (y0 : Int32) (y1 : Int32) (y2 : Int32) (y3 : Int32) (s : (St × (St))), FrC U0 s.2 → Ok (fun r => FrC U0 r.2) (df_X1_findAddresses_9 n  kk y0 y1 y2 y3 s) := fun kk => by
  induction kk with
  | zero => intros; exact ok_none
  | succ kk ih =>
    intro y0 y1 y2 y3 s hs
    exact ok_dF_X1_findAddresses_9 n  (df_X1_findAddresses_9 n  kk) y0 y1 y2 y3  ih s hs
theorem ok_df_X1_findAddresses_0 {U0 : St} (n : Nat)  (s0 : St × (St)) (h0 : FrC U0 s0.2) : Ok (fun r => FrC U0 r.2) (df_X1_findAddresses_0 n  s0) := by
  unfold df_X1_findAddresses_0
  exact ok_df_X1_findAddresses_9 n  n (0) (0) (0) (0) s0 h0
theorem ok_df_X1_findAddresses {U0 : St} (n : Nat)  (s0 : St × (St)) (h0 : FrC U0 s0.2) : Ok (fun r => FrC U0 r.2) (df_X1_findAddresses n  s0) := by
  unfold df_X1_findAddresses
  exact ok_df_X1_findAddresses_0 n  s0 h0
theorem ok_df_X9_joined_102 {U0 : St} (n : Nat) (y0 : Int32) (s0 : St) (h0 : FrC U0 s0) : Ok (fun r => FrC U0 r.2) (df_X9_joined_102 n y0 s0) := by
  unfold df_X9_joined_102
  exact ok_some (h0)
theorem ok_df_X9_joined_80 {U0 : St} (n : Nat) (x1 : Int32) (x2 : Int32) (x3 : Int32) (s0 : St) (h0 : FrC U0 s0) : Ok (fun r => FrC U0 r.2) (df_X9_joined_80 n x1 x2 x3 s0) := by
  unfold df_X9_joined_80
  exact ok_ite (fun hc => ok_df_X9_joined_102 n (0) s0 h0) (fun _ => ok_ite (fun hc => ok_nz (ok_df_X9_joined_102 n (((x2 : Int32) / x3)) s0 h0)) (fun _ => ok_nz (ok_df_X9_joined_102 n (((x2 : Int32) - x2 / x3 * x3)) s0 h0)))
theorem ok_df_X9_joined_77 {U0 : St} (n : Nat) (x1 : Int32) (x2 : Int32) (x3 : Int32) (y1 : Int32) (s0 : St) (h0 : FrC U0 s0) : Ok (fun r => FrC U0 r.2) (df_X9_joined_77 n x1 x2 x3 y1 s0) := by
  unfold df_X9_joined_77
  exact ok_lcS ((fc_I (by decide) h0)) (fun s9 h1 => ok_df_X9_joined_80 n (x1) (x2) (x3) s9 h1)
theorem ok_df_X9_joined_56 {U0 : St} (n : Nat) (x1 : Int32) (x2 : Int32) (x3 : Int32) (s0 : St) (h0 : FrC U0 s0) : Ok (fun r => FrC U0 r.2) (df_X9_joined_56 n x1 x2 x3 s0) := by
  unfold df_X9_joined_56
  exact ok_ite (fun hc => ok_ite (fun hc => ok_df_X9_joined_77 n (x1) (x2) (x3) (9) s0 h0) (fun _ => ok_df_X9_joined_77 n (x1) (x2) (x3) ((sI s0 11)) s0 h0)) (fun _ => ok_df_X9_joined_80 n (x1) (x2) (x3) s0 h0)
theorem ok_df_X9_joined_0 {U0 : St} (n : Nat) (v0 : Int32) (v1 : Int32) (v2 : Int32) (s0 : St) (h0 : FrC U0 s0) : Ok (fun r => FrC U0 r.2) (df_X9_joined_0 n v0 v1 v2 s0) := by
  unfold df_X9_joined_0
  exact ok_ite (fun hc => ok_some (h0)) (fun _ => ok_ite (fun hc => ok_df_X9_joined_56 n (v0) (v1) (v2) s0 h0) (fun _ => ok_ite (fun hc => ok_df_X9_joined_56 n (v0) (v1) (v2) s0 h0) (fun _ => ok_ite (fun hc => ok_some (h0)) (fun _ => ok_ite (fun hc => ok_some (h0)) (fun _ => ok_ite (fun hc => ok_some (h0)) (fun _ => ok_ite (fun hc => ok_some (h0)) (fun _ => ok_ite (fun hc => ok_some (h0)) (fun _ => ok_ite (fun hc => ok_some (h0)) (fun _ => ok_some (h0))))))))))
theorem ok_df_X9_joined {U0 : St} (n : Nat) (v0 : Int32) (v1 : Int32) (v2 : Int32) (s0 : St) (h0 : FrC U0 s0) : Ok (fun r => FrC U0 r.2) (df_X9_joined n v0 v1 v2 s0) := by
  unfold df_X9_joined
  exact ok_df_X9_joined_0 n v0 v1 v2 s0 h0
theorem ok_df_X9_operand_117 {U0 : St} (n : Nat) (x4 : Int32) (s0 : St) (h0 : FrC U0 s0) : Ok (fun r => FrC U0 r.2) (df_X9_operand_117 n x4 s0) := by
  unfold df_X9_operand_117
  exact ok_ite (fun hc => ok_ck (ok_some (h0))) (fun _ => ok_lcS ((fc_I (by decide) h0)) (fun s10 h1 => ok_some (h1)))
theorem ok_df_X9_operand_113 {U0 : St} (n : Nat) (y0 : Int32) (s0 : St) (h0 : FrC U0 s0) : Ok (fun r => FrC U0 r.2) (df_X9_operand_113 n y0 s0) := by
  unfold df_X9_operand_113
  exact ok_lv (fun z7 => ok_df_X9_operand_117 n (z7) s0 h0)
theorem ok_df_X9_operand_71 {U0 : St} (n : Nat) (y0 : Int32) (s0 : St) (h0 : FrC U0 s0) : Ok (fun r => FrC U0 r.2) (df_X9_operand_71 n y0 s0) := by
  unfold df_X9_operand_71
  exact ok_df_X9_operand_117 n (y0) s0 h0
theorem ok_df_X9_operand_0 {U0 : St} (n : Nat) (v0 : Int32) (v1 : Int32) (v2 : Int32) (s0 : St) (h0 : FrC U0 s0) : Ok (fun r => FrC U0 r.2) (df_X9_operand_0 n v0 v1 v2 s0) := by
  unfold df_X9_operand_0
  exact ok_ite (fun hc => ok_some (h0)) (fun _ => ok_ite (fun hc => ok_some (h0)) (fun _ => ok_ite (fun hc => ok_ck (ok_lv (fun z13 => ok_ite (fun hc => ok_ck (ok_some (h0))) (fun _ => ok_ite (fun hc => ok_ck (ok_df_X9_operand_71 n ((sR s0 3 (Int32.toNatClampNeg ((v1 * 5) + 3)))) s0 h0)) (fun _ => ok_df_X9_operand_71 n ((-1)) s0 h0))))) (fun _ => ok_ite (fun hc => ok_df_X9_operand_117 n (v1) s0 h0) (fun _ => ok_ite (fun hc => ok_ck (ok_df_X9_operand_113 n ((sR s0 6 (Int32.toNatClampNeg ((v1 * 5) + 3)))) s0 h0)) (fun _ => ok_ck (ok_df_X9_operand_113 n ((sR s0 5 (Int32.toNatClampNeg ((-1) - v1)))) s0 h0))))))
theorem ok_df_X9_operand {U0 : St} (n : Nat) (v0 : Int32) (v1 : Int32) (v2 : Int32) (s0 : St) (h0 : FrC U0 s0) : Ok (fun r => FrC U0 r.2) (df_X9_operand n v0 v1 v2 s0) := by
  unfold df_X9_operand
  exact ok_df_X9_operand_0 n v0 v1 v2 s0 h0
theorem ok_df_X9_push_32 {U0 : St} (n : Nat)  (s0 : St) (h0 : FrC U0 s0) : Ok (fun r => FrC U0 r) (df_X9_push_32 n  s0) := by
  unfold df_X9_push_32
  exact ok_some (h0)
theorem ok_df_X9_push_0 {U0 : St} (n : Nat) (v0 : Int32) (s0 : St) (h0 : FrC U0 s0) : Ok (fun r => FrC U0 r) (df_X9_push_0 n v0 s0) := by
  unfold df_X9_push_0
  exact ok_ite (fun hc => ok_df_X9_push_32 n  s0 h0) (fun _ => ok_ck (ok_lcS ((fc_R (by decide) h0)) (fun s3 h1 => ok_lcS ((fc_I (by decide) h1)) (fun s4 h2 => ok_df_X9_push_32 n  s4 h2))))
theorem ok_df_X9_push {U0 : St} (n : Nat) (v0 : Int32) (s0 : St) (h0 : FrC U0 s0) : Ok (fun r => FrC U0 r) (df_X9_push n v0 s0) := by
  unfold df_X9_push
  exact ok_df_X9_push_0 n v0 s0 h0
theorem ok_df_X9_evaluate_204 {U0 : St} (n : Nat) (y0 : Int32) (s0 : St) (h0 : FrC U0 s0) : Ok (fun r => FrC U0 r.2) (df_X9_evaluate_204 n y0 s0) := by
  unfold df_X9_evaluate_204
  exact ok_some (h0)
theorem ok_df_X9_evaluate_187 {U0 : St} (n : Nat)  (s0 : St) (h0 : FrC U0 s0) : Ok (fun r => FrC U0 r.2) (df_X9_evaluate_187 n  s0) := by
  unfold df_X9_evaluate_187
  exact ok_ite (fun hc => ok_df_X9_evaluate_204 n (0) s0 h0) (fun _ => ok_df_X9_evaluate_204 n ((sR s0 2 (Int32.toNatClampNeg 0))) s0 h0)
theorem ok_df_X9_evaluate_181 {U0 : St} (n : Nat) (g16 : Int32 → Int32 → (St) → Option (Int32 × (St))) (x2 : Int32) (x3 : Int32) (hg16 : ∀ (y0 : Int32) (y1 : Int32) (s : (St)), FrC U0 s → Ok (fun r => FrC U0 r.2) (g16 y0 y1 s)) (s0 : St) (h0 : FrC U0 s0) : Ok (fun r => FrC U0 r.2) (df_X9_evaluate_181 n g16 x2 x3 s0) := by
  unfold df_X9_evaluate_181
  exact ok_lv (fun z13 => hg16 (x2) (z13) s0 h0)
theorem ok_df_X9_evaluate_122 {U0 : St} (n : Nat) (g16 : Int32 → Int32 → (St) → Option (Int32 × (St))) (x2 : Int32) (x3 : Int32) (hg16 : ∀ (y0 : Int32) (y1 : Int32) (s : (St)), FrC U0 s → Ok (fun r => FrC U0 r.2) (g16 y0 y1 s)) (s0 : St) (h0 : FrC U0 s0) : Ok (fun r => FrC U0 r.2) (df_X9_evaluate_122 n g16 x2 x3 s0) := by
  unfold df_X9_evaluate_122
  exact ok_ite (fun hc => ok_df_X9_evaluate_181 n g16 (x2) (x3) hg16 s0 h0) (fun _ => ok_lcS ((fc_I (by decide) h0)) (fun s14 h1 => ok_ck (ok_ck (ok_ck (ok_b2cS (ok_df_X9_joined n ((sR s14 0 (Int32.toNatClampNeg x3))) ((sR s14 2 (Int32.toNatClampNeg ((sI s14 6) - 1)))) ((sR s14 2 (Int32.toNatClampNeg (sI s14 6)))) s14 h1) (fun q18 s19 h2 => ok_ck (ok_lcS ((fc_R (by decide) h2)) (fun s22 h3 => ok_df_X9_evaluate_181 n g16 (x2) (x3) hg16 s22 h3))))))))
theorem ok_dF_X9_evaluate_16 {U0 : St} (n : Nat) (g16 : Int32 → Int32 → (St) → Option (Int32 × (St))) (x2 : Int32) (x3 : Int32) (hg16 : ∀ (y0 : Int32) (y1 : Int32) (s : (St)), FrC U0 s → Ok (fun r => FrC U0 r.2) (g16 y0 y1 s)) (s0 : St) (h0 : FrC U0 s0) : Ok (fun r => FrC U0 r.2) (dF_X9_evaluate_16 n g16 x2 x3 s0) := by
  unfold dF_X9_evaluate_16
  exact ok_ite (fun hc => ok_df_X9_evaluate_187 n  s0 h0) (fun _ => ok_ck (ok_ite (fun hc => ok_df_X9_evaluate_187 n  s0 h0) (fun _ => ok_ck (ok_ite (fun hc => ok_ck (ok_ite (fun hc => ok_df_X9_evaluate_122 n g16 (x2) (x3) hg16 s0 h0) (fun _ => ok_ite (fun hc => ok_df_X9_evaluate_122 n g16 (x2) (x3) hg16 s0 h0) (fun _ => ok_ck (ok_ck (ok_n2 (fun q26 s27 => ok_ck (ok_lcS ((fc_R (by decide) h0)) (fun s30 h1 => ok_df_X9_evaluate_181 n g16 (x2) (x3) hg16 s30 h1))))))))) (fun _ => ok_ck (ok_ck (ok_b2cS (ok_df_X9_operand n ((sR s0 0 (Int32.toNatClampNeg x3))) ((sR s0 1 (Int32.toNatClampNeg x3))) (x2) s0 h0) (fun q33 s34 h2 => ok_b1cS (ok_df_X9_push n (q33) s34 h2) (fun s37 h3 => ok_df_X9_evaluate_181 n g16 (x2) (x3) hg16 s37 h3)))))))))
theorem ok_df_X9_evaluate_16 {U0 : St} (n : Nat)  : ∀ (kk : Nat) (y0 : Int32) (y1 : Int32) (s : (St)), FrC U0 s → Ok (fun r => FrC U0 r.2) (df_X9_evaluate_16 n  kk y0 y1 s) := fun kk => by
  induction kk with
  | zero => intros; exact ok_none
  | succ kk ih =>
    intro y0 y1 s hs
    exact ok_dF_X9_evaluate_16 n  (df_X9_evaluate_16 n  kk) y0 y1  ih s hs
theorem ok_df_X9_evaluate_0 {U0 : St} (n : Nat) (v0 : Int32) (v1 : Int32) (s0 : St) (h0 : FrC U0 s0) : Ok (fun r => FrC U0 r.2) (df_X9_evaluate_0 n v0 v1 s0) := by
  unfold df_X9_evaluate_0
  exact ok_lcS ((fc_I (by decide) h0)) (fun s1 h1 => ok_lcS ((fc_I (by decide) h1)) (fun s2 h2 => ok_lv (fun z3 => ok_df_X9_evaluate_16 n  n (v1) (z3) s2 h2)))
theorem ok_df_X9_evaluate {U0 : St} (n : Nat) (v0 : Int32) (v1 : Int32) (s0 : St) (h0 : FrC U0 s0) : Ok (fun r => FrC U0 r.2) (df_X9_evaluate n v0 v1 s0) := by
  unfold df_X9_evaluate
  exact ok_df_X9_evaluate_0 n v0 v1 s0 h0
theorem ok_df_X1_grow_136 {U0 : St} (n : Nat) (g4 : Int32 → Int32 → (St × (St)) → Option (Int32 × (St × (St)))) (x1 : Int32) (x2 : Int32) (hg4 : ∀ (y0 : Int32) (y1 : Int32) (s : (St × (St))), FrC U0 s.2 → Ok (fun r => FrC U0 r.2.2) (g4 y0 y1 s)) (s0 : St × (St)) (h0 : FrC U0 s0.2) : Ok (fun r => FrC U0 r.2.2) (df_X1_grow_136 n g4 x1 x2 s0) := by
  unfold df_X1_grow_136
  exact ok_lv (fun z10 => hg4 (x1) (z10) s0 h0)
theorem ok_df_X1_grow_62 {U0 : St} (n : Nat) (g4 : Int32 → Int32 → (St × (St)) → Option (Int32 × (St × (St)))) (x1 : Int32) (x2 : Int32) (x3 : Int32) (x4 : Int32) (x5 : Int32) (hg4 : ∀ (y0 : Int32) (y1 : Int32) (s : (St × (St))), FrC U0 s.2 → Ok (fun r => FrC U0 r.2.2) (g4 y0 y1 s)) (s0 : St × (St)) (h0 : FrC U0 s0.2) : Ok (fun r => FrC U0 r.2.2) (df_X1_grow_62 n g4 x1 x2 x3 x4 x5 s0) := by
  unfold df_X1_grow_62
  exact ok_ck (ok_ck (ok_b2cS (ok_df_X9_evaluate n ((sR s0.1 0 (Int32.toNatClampNeg (x3 + 6)))) ((sR s0.1 0 (Int32.toNatClampNeg (x3 + 2)))) s0.2 h0) (fun q14 s15 h1 => ok_lcP (h1) (fun s17 h2 => ok_ck (ok_lv (fun z19 => ok_ite (fun hc => ok_n2 (fun q21 s22 => ok_n2 (fun q24 s25 => ok_ite (fun hc => ok_ck (ok_lcP (h2) (fun s29 h3 => ok_df_X1_grow_136 n g4 (1) (x2) hg4 s29 h3))) (fun _ => ok_df_X1_grow_136 n g4 (x1) (x2) hg4 s17 h2)))) (fun _ => ok_df_X1_grow_136 n g4 (x1) (x2) hg4 s17 h2)))))))
theorem ok_df_X1_grow_49 {U0 : St} (n : Nat) (g4 : Int32 → Int32 → (St × (St)) → Option (Int32 × (St × (St)))) (x1 : Int32) (x2 : Int32) (x3 : Int32) (x4 : Int32) (x5 : Int32) (hg4 : ∀ (y0 : Int32) (y1 : Int32) (s : (St × (St))), FrC U0 s.2 → Ok (fun r => FrC U0 r.2.2) (g4 y0 y1 s)) (s0 : St × (St)) (h0 : FrC U0 s0.2) : Ok (fun r => FrC U0 r.2.2) (df_X1_grow_49 n g4 x1 x2 x3 x4 x5 s0) := by
  unfold df_X1_grow_49
  exact ok_ite (fun hc => ok_ite (fun hc => ok_df_X1_grow_136 n g4 (x1) (x2) hg4 s0 h0) (fun _ => ok_df_X1_grow_62 n g4 (x1) (x2) (x3) (x4) (x5) hg4 s0 h0)) (fun _ => ok_df_X1_grow_136 n g4 (x1) (x2) hg4 s0 h0)
theorem ok_dF_X1_grow_4 {U0 : St} (n : Nat) (g4 : Int32 → Int32 → (St × (St)) → Option (Int32 × (St × (St)))) (x1 : Int32) (x2 : Int32) (hg4 : ∀ (y0 : Int32) (y1 : Int32) (s : (St × (St))), FrC U0 s.2 → Ok (fun r => FrC U0 r.2.2) (g4 y0 y1 s)) (s0 : St × (St)) (h0 : FrC U0 s0.2) : Ok (fun r => FrC U0 r.2.2) (dF_X1_grow_4 n g4 x1 x2 s0) := by
  unfold dF_X1_grow_4
  exact ok_ite (fun hc => ok_z (ok_some (h0))) (fun _ => ok_lv (fun z3 => ok_ck (ok_lv (fun z5 => ok_ck (ok_lv (fun z7 => ok_ite (fun hc => ok_ite (fun hc => ok_df_X1_grow_62 n g4 (x1) (x2) (z3) (z5) (z7) hg4 s0 h0) (fun _ => ok_df_X1_grow_49 n g4 (x1) (x2) (z3) (z5) (z7) hg4 s0 h0)) (fun _ => ok_df_X1_grow_49 n g4 (x1) (x2) (z3) (z5) (z7) hg4 s0 h0)))))))
theorem ok_df_X1_grow_4 {U0 : St} (n : Nat)  : ∀ (kk : Nat) (y0 : Int32) (y1 : Int32) (s : (St × (St))), FrC U0 s.2 → Ok (fun r => FrC U0 r.2.2) (df_X1_grow_4 n  kk y0 y1 s) := fun kk => by
  induction kk with
  | zero => intros; exact ok_none
  | succ kk ih =>
    intro y0 y1 s hs
    exact ok_dF_X1_grow_4 n  (df_X1_grow_4 n  kk) y0 y1  ih s hs
theorem ok_df_X1_grow_0 {U0 : St} (n : Nat)  (s0 : St × (St)) (h0 : FrC U0 s0.2) : Ok (fun r => FrC U0 r.2.2) (df_X1_grow_0 n  s0) := by
  unfold df_X1_grow_0
  exact ok_df_X1_grow_4 n  n (0) (0) s0 h0
theorem ok_df_X1_grow {U0 : St} (n : Nat)  (s0 : St × (St)) (h0 : FrC U0 s0.2) : Ok (fun r => FrC U0 r.2.2) (df_X1_grow n  s0) := by
  unfold df_X1_grow
  exact ok_df_X1_grow_0 n  s0 h0
theorem ok_df_X1_layOut_32 {U0 : St} (n : Nat)  (s0 : St × (St)) (h0 : FrC U0 s0.2) : Ok (fun r => FrC U0 r.2) (df_X1_layOut_32 n  s0) := by
  unfold df_X1_layOut_32
  exact ok_some (h0)
theorem ok_dF_X1_layOut_9 {U0 : St} (n : Nat) (g9 : Int32 → Int32 → (St × (St)) → Option (St × (St))) (x1 : Int32) (x2 : Int32) (hg9 : ∀ (y0 : Int32) (y1 : Int32) (s : (St × (St))), FrC U0 s.2 → Ok (fun r => FrC U0 r.2) (g9 y0 y1 s)) (s0 : St × (St)) (h0 : FrC U0 s0.2) : Ok (fun r => FrC U0 r.2) (dF_X1_layOut_9 n g9 x1 x2 s0) := by
  unfold dF_X1_layOut_9
  exact ok_ite (fun hc => ok_df_X1_layOut_32 n  s0 h0) (fun _ => ok_ite (fun hc => ok_df_X1_layOut_32 n  s0 h0) (fun _ => ok_b1cP (ok_df_X1_findAddresses n  s0 h0) (fun s5 h1 => ok_b2cP (ok_df_X1_grow n  s5 h1) (fun q7 s8 h2 => ok_lv (fun z10 => hg9 (q7) (z10) s8 h2)))))
theorem ok_df_X1_layOut_9 {U0 : St} (n : Nat)  : ∀ (kk : Nat) (y0 : Int32) (y1 : Int32) (s : (St × (St))), FrC U0 s.2 → Ok (fun r => FrC U0 r.2) (df_X1_layOut_9 n  kk y0 y1 s) := fun kk => by
  induction kk with
  | zero => intros; exact ok_none
  | succ kk ih =>
    intro y0 y1 s hs
    exact ok_dF_X1_layOut_9 n  (df_X1_layOut_9 n  kk) y0 y1  ih s hs
theorem ok_df_X1_layOut_0 {U0 : St} (n : Nat)  (s0 : St × (St)) (h0 : FrC U0 s0.2) : Ok (fun r => FrC U0 r.2) (df_X1_layOut_0 n  s0) := by
  unfold df_X1_layOut_0
  exact ok_lv (fun z1 => ok_df_X1_layOut_9 n  n (1) (z1) s0 h0)
theorem ok_df_X1_layOut {U0 : St} (n : Nat)  (s0 : St × (St)) (h0 : FrC U0 s0.2) : Ok (fun r => FrC U0 r.2) (df_X1_layOut n  s0) := by
  unfold df_X1_layOut
  exact ok_df_X1_layOut_0 n  s0 h0
theorem ok_df_X1_put_46 {U0 : St} (n : Nat) (g3 : Int32 → Int32 → Int32 → Int32 → (St × (St × (St)) × (St)) → Option (St × (St × (St)) × (St))) (x2 : Int32) (x3 : Int32) (x4 : Int32) (x5 : Int32) (hg3 : ∀ (y0 : Int32) (y1 : Int32) (y2 : Int32) (y3 : Int32) (s : (St × (St × (St)) × (St))), FrC U0 s.2.1.2 → Ok (fun r => FrC U0 r.2.1.2) (g3 y0 y1 y2 y3 s)) (s0 : St × (St × (St)) × (St)) (h0 : FrC U0 s0.2.1.2) : Ok (fun r => FrC U0 r.2.1.2) (df_X1_put_46 n g3 x2 x3 x4 x5 s0) := by
  unfold df_X1_put_46
  exact ok_lv (fun z3 => hg3 (x2) (x3) (x4) (z3) s0 h0)
theorem ok_dF_X1_put_3 {U0 : St} (n : Nat) (g3 : Int32 → Int32 → Int32 → Int32 → (St × (St × (St)) × (St)) → Option (St × (St × (St)) × (St))) (x2 : Int32) (x3 : Int32) (x4 : Int32) (x5 : Int32) (hg3 : ∀ (y0 : Int32) (y1 : Int32) (y2 : Int32) (y3 : Int32) (s : (St × (St × (St)) × (St))), FrC U0 s.2.1.2 → Ok (fun r => FrC U0 r.2.1.2) (g3 y0 y1 y2 y3 s)) (s0 : St × (St × (St)) × (St)) (h0 : FrC U0 s0.2.1.2) : Ok (fun r => FrC U0 r.2.1.2) (dF_X1_put_3 n g3 x2 x3 x4 x5 s0) := by
  unfold dF_X1_put_3
  exact ok_ite (fun hc => ok_some (h0)) (fun _ => ok_ite (fun hc => ok_df_X1_put_46 n g3 (x2) (x3) (x4) (x5) hg3 s0 h0) (fun _ => ok_ite (fun hc => ok_df_X1_put_46 n g3 (x2) (x3) (x4) (x5) hg3 s0 h0) (fun _ => ok_ck (ok_lcQ (h0) (fun s6 h1 => ok_df_X1_put_46 n g3 (x2) (x3) (x4) (x5) hg3 s6 h1)))))
theorem ok_df_X1_put_3 {U0 : St} (n : Nat)  : ∀ (kk : Nat) (y0 : Int32) (y1 : Int32) (y2 : Int32) (y3 : Int32) (s : (St × (St × (St)) × (St))), FrC U0 s.2.1.2 → Ok (fun r => FrC U0 r.2.1.2) (df_X1_put_3 n  kk y0 y1 y2 y3 s) := fun kk => by
  induction kk with
  | zero => intros; exact ok_none
  | succ kk ih =>
    intro y0 y1 y2 y3 s hs
    exact ok_dF_X1_put_3 n  (df_X1_put_3 n  kk) y0 y1 y2 y3  ih s hs
theorem ok_df_X1_put_0 {U0 : St} (n : Nat) (v1 : Int32) (v2 : Int32) (v3 : Int32) (s0 : St × (St × (St)) × (St)) (h0 : FrC U0 s0.2.1.2) : Ok (fun r => FrC U0 r.2.1.2) (df_X1_put_0 n v1 v2 v3 s0) := by
  unfold df_X1_put_0
  exact ok_df_X1_put_3 n  n (v1) (v2) (v3) (0) s0 h0
theorem ok_df_X1_put {U0 : St} (n : Nat) (v1 : Int32) (v2 : Int32) (v3 : Int32) (s0 : St × (St × (St)) × (St)) (h0 : FrC U0 s0.2.1.2) : Ok (fun r => FrC U0 r.2.1.2) (df_X1_put n v1 v2 v3 s0) := by
  unfold df_X1_put
  exact ok_df_X1_put_0 n v1 v2 v3 s0 h0
theorem ok_df_X1_worked_31 {U0 : St} (n : Nat) (x3 : Int32) (s0 : St × (St)) (h0 : FrC U0 s0.2) : Ok (fun r => FrC U0 r.2.2) (df_X1_worked_31 n x3 s0) := by
  unfold df_X1_worked_31
  exact ok_some (h0)
theorem ok_df_X1_worked_0 {U0 : St} (n : Nat) (v0 : Int32) (v1 : Int32) (s0 : St × (St)) (h0 : FrC U0 s0.2) : Ok (fun r => FrC U0 r.2.2) (df_X1_worked_0 n v0 v1 s0) := by
  unfold df_X1_worked_0
  exact ok_b2cS (ok_df_X9_evaluate n (v0) (v1) s0.2 h0) (fun q1 s2 h1 => ok_lcP (h1) (fun s4 h2 => ok_ite (fun hc => ok_df_X1_worked_31 n (q1) s4 h2) (fun _ => ok_b1cP (ok_df_X1_blame n ((sI s4.2 11)) s4 h2) (fun s7 h3 => ok_df_X1_worked_31 n (q1) s7 h3))))
theorem ok_df_X1_worked {U0 : St} (n : Nat) (v0 : Int32) (v1 : Int32) (s0 : St × (St)) (h0 : FrC U0 s0.2) : Ok (fun r => FrC U0 r.2.2) (df_X1_worked n v0 v1 s0) := by
  unfold df_X1_worked
  exact ok_df_X1_worked_0 n v0 v1 s0 h0
theorem ok_df_X1_checked_14 {U0 : St} (n : Nat) (x1 : Int32) (x2 : Int32) (s0 : St × (St)) (h0 : FrC U0 s0.2) : Ok (fun r => FrC U0 r.2.2) (df_X1_checked_14 n x1 x2 s0) := by
  unfold df_X1_checked_14
  exact ok_n2 (fun q5 s6 => ok_some (h0))
theorem ok_df_X1_checked_0 {U0 : St} (n : Nat) (v0 : Int32) (v1 : Int32) (s0 : St × (St)) (h0 : FrC U0 s0.2) : Ok (fun r => FrC U0 r.2.2) (df_X1_checked_0 n v0 v1 s0) := by
  unfold df_X1_checked_0
  exact ok_n2 (fun q1 s2 => ok_ite (fun hc => ok_b1cP (ok_df_X1_blame n (10) s0 h0) (fun s9 h1 => ok_df_X1_checked_14 n (v0) (v1) s9 h1)) (fun _ => ok_df_X1_checked_14 n (v0) (v1) s0 h0))
theorem ok_df_X1_checked {U0 : St} (n : Nat) (v0 : Int32) (v1 : Int32) (s0 : St × (St)) (h0 : FrC U0 s0.2) : Ok (fun r => FrC U0 r.2.2) (df_X1_checked n v0 v1 s0) := by
  unfold df_X1_checked
  exact ok_df_X1_checked_0 n v0 v1 s0 h0
theorem ok_df_X1_putPlain_80 {U0 : St} (n : Nat) (x2 : Int32) (x3 : Int32) (x4 : Int32) (s0 : St × (St × (St)) × (St)) (h0 : FrC U0 s0.2.1.2) : Ok (fun r => FrC U0 r.2.1.2) (df_X1_putPlain_80 n x2 x3 x4 s0) := by
  unfold df_X1_putPlain_80
  exact ok_ck (ok_b1cQ (ok_df_X1_put n (x4) ((sR s0.2.1.1 0 (Int32.toNatClampNeg (x2 + 3)))) (x3) s0 h0) (fun s10 h1 => ok_some (h1)))
theorem ok_df_X1_putPlain_75 {U0 : St} (n : Nat) (x2 : Int32) (x4 : Int32) (y0 : Int32) (y2 : Int32) (y3 : Int32) (s0 : St × (St × (St)) × (St)) (h0 : FrC U0 s0.2.1.2) : Ok (fun r => FrC U0 r.2.1.2) (df_X1_putPlain_75 n x2 x4 y0 y2 y3 s0) := by
  unfold df_X1_putPlain_75
  exact ok_b2cP (ok_df_X1_checked n (y2) (y3) s0.2.1 h0) (fun q21 s22 h1 => ok_lcQ (h1) (fun s24 h2 => ok_lv (fun z25 => ok_df_X1_putPlain_80 n (x2) (z25) (x4) s24 h2)))
theorem ok_df_X1_putPlain_0 {U0 : St} (n : Nat) (v1 : Int32) (s0 : St × (St × (St)) × (St)) (h0 : FrC U0 s0.2.1.2) : Ok (fun r => FrC U0 r.2.1.2) (df_X1_putPlain_0 n v1 s0) := by
  unfold df_X1_putPlain_0
  exact ok_ck (ok_lv (fun z2 => ok_ck (ok_lv (fun z4 => ok_ck (ok_lv (fun z6 => ok_ite (fun hc => ok_df_X1_putPlain_80 n (v1) (z2) (z4) s0 h0) (fun _ => ok_ck (ok_b2cP (ok_df_X1_worked n ((sR s0.2.1.1 0 (Int32.toNatClampNeg (v1 + 6)))) (z4) s0.2.1 h0) (fun q13 s14 h1 => ok_lcQ (h1) (fun s16 h2 => ok_n2 (fun q17 s18 => ok_ite (fun hc => ok_df_X1_putPlain_75 n (v1) (z4) (z2) (z6) (q13) s16 h2) (fun _ => ok_df_X1_putPlain_75 n (v1) (z4) (z2) (z6) ((q13 - z4)) s16 h2))))))))))))
theorem ok_df_X1_putPlain {U0 : St} (n : Nat) (v1 : Int32) (s0 : St × (St × (St)) × (St)) (h0 : FrC U0 s0.2.1.2) : Ok (fun r => FrC U0 r.2.1.2) (df_X1_putPlain n v1 s0) := by
  unfold df_X1_putPlain
  exact ok_df_X1_putPlain_0 n v1 s0 h0
theorem ok_df_X1_putGrown_171 {U0 : St} (n : Nat) (x3 : Int32) (x4 : Int32) (x5 : Int32) (x6 : Int32) (x7 : Int32) (s0 : St × (St × (St)) × (St)) (h0 : FrC U0 s0.2.1.2) : Ok (fun r => FrC U0 r.2.1.2) (df_X1_putGrown_171 n x3 x4 x5 x6 x7 s0) := by
  unfold df_X1_putGrown_171
  exact ok_n2 (fun q17 s18 => ok_b2cP (ok_df_X1_checked n (q17) (x7) s0.2.1 h0) (fun q20 s21 h1 => ok_lcQ (h1) (fun s23 h2 => ok_b1cQ (ok_df_X1_put n (x4) (x5) ((x3 ||| q20)) s23 h2) (fun s25 h3 => ok_some (h3)))))
theorem ok_df_X1_putGrown_142 {U0 : St} (n : Nat) (x4 : Int32) (x5 : Int32) (x6 : Int32) (x7 : Int32) (y0 : Int32) (s0 : St × (St × (St)) × (St)) (h0 : FrC U0 s0.2.1.2) : Ok (fun r => FrC U0 r.2.1.2) (df_X1_putGrown_142 n x4 x5 x6 x7 y0 s0) := by
  unfold df_X1_putGrown_142
  exact ok_df_X1_putGrown_171 n (y0) (x4) (x5) (x6) (x7) s0 h0
theorem ok_df_X1_putGrown_0 {U0 : St} (n : Nat) (v1 : Int32) (s0 : St × (St × (St)) × (St)) (h0 : FrC U0 s0.2.1.2) : Ok (fun r => FrC U0 r.2.1.2) (df_X1_putGrown_0 n v1 s0) := by
  unfold df_X1_putGrown_0
  exact ok_ck (ok_lv (fun z2 => ok_ck (ok_lv (fun z4 => ok_ck (ok_lv (fun z6 => ok_ck (ok_lv (fun z8 => ok_ck (ok_b2cP (ok_df_X1_worked n ((sR s0.2.1.1 0 (Int32.toNatClampNeg (v1 + 6)))) (z4) s0.2.1 h0) (fun q10 s11 h1 => ok_lcQ (h1) (fun s13 h2 => ok_lv (fun z14 => ok_ite (fun hc => ok_n2 (fun q33 s34 => ok_b1cQ (ok_df_X1_put n (z4) (4) (((z2 ^^^ 4096) ||| q33)) s13 h2) (fun s37 h3 => ok_b2cP (ok_df_X1_checked n (74) ((z14 - 4)) s37.2.1 h3) (fun q39 s40 h4 => ok_lcQ (h4) (fun s42 h5 => ok_b1cQ (ok_df_X1_put n ((z4 + 4)) (4) ((111 ||| q39)) s42 h5) (fun s44 h6 => ok_some (h6))))))) (fun _ => ok_ite (fun hc => ok_ite (fun hc => ok_ite (fun hc => ok_df_X1_putGrown_142 n (z4) (z6) (z8) (z14) (40961) s13 h2) (fun _ => ok_df_X1_putGrown_142 n (z4) (z6) (z8) (z14) (8193) s13 h2)) (fun _ => ok_n2 (fun q28 s29 => ok_lv (fun z31 => ok_df_X1_putGrown_171 n (z31) (z4) (z6) (z8) (z14) s13 h2)))) (fun _ => ok_df_X1_putGrown_171 n (z2) (z4) (z6) (z8) (z14) s13 h2))))))))))))))
theorem ok_df_X1_putGrown {U0 : St} (n : Nat) (v1 : Int32) (s0 : St × (St × (St)) × (St)) (h0 : FrC U0 s0.2.1.2) : Ok (fun r => FrC U0 r.2.1.2) (df_X1_putGrown n v1 s0) := by
  unfold df_X1_putGrown
  exact ok_df_X1_putGrown_0 n v1 s0 h0
theorem ok_df_X1_putAddress_0 {U0 : St} (n : Nat) (v1 : Int32) (s0 : St × (St × (St)) × (St)) (h0 : FrC U0 s0.2.1.2) : Ok (fun r => FrC U0 r.2.1.2) (df_X1_putAddress_0 n v1 s0) := by
  unfold df_X1_putAddress_0
  exact ok_ck (ok_lv (fun z2 => ok_ck (ok_lv (fun z4 => ok_ck (ok_b2cP (ok_df_X1_worked n ((sR s0.2.1.1 0 (Int32.toNatClampNeg (v1 + 6)))) (z2) s0.2.1 h0) (fun q6 s7 h1 => ok_lcQ (h1) (fun s9 h2 => ok_lv (fun z10 => ok_ck (ok_n2 (fun q12 s13 => ok_n2 (fun q15 s16 => ok_b1cQ (ok_df_X1_put n (z2) (4) (((sR s9.2.1.1 0 (Int32.toNatClampNeg (v1 + 5))) ||| q15)) s9 h2) (fun s19 h3 => ok_n2 (fun q21 s22 => ok_n2 (fun q24 s25 => ok_b1cQ (ok_df_X1_put n ((z2 + 4)) (4) ((((19 ||| ((z4 : Int32) <<< ((7 : Int32) &&& 31))) ||| ((z4 : Int32) <<< ((15 : Int32) &&& 31))) ||| q24)) s19 h3) (fun s28 h4 => ok_some (h4))))))))))))))))
theorem ok_df_X1_putAddress {U0 : St} (n : Nat) (v1 : Int32) (s0 : St × (St × (St)) × (St)) (h0 : FrC U0 s0.2.1.2) : Ok (fun r => FrC U0 r.2.1.2) (df_X1_putAddress n v1 s0) := by
  unfold df_X1_putAddress
  exact ok_df_X1_putAddress_0 n v1 s0 h0
theorem ok_df_X1_putNumber_176 {U0 : St} (n : Nat)  (s0 : St × (St × (St)) × (St)) (h0 : FrC U0 s0.2.1.2) : Ok (fun r => FrC U0 r.2.1.2) (df_X1_putNumber_176 n  s0) := by
  unfold df_X1_putNumber_176
  exact ok_some (h0)
theorem ok_df_X1_putNumber_0 {U0 : St} (n : Nat) (v1 : Int32) (s0 : St × (St × (St)) × (St)) (h0 : FrC U0 s0.2.1.2) : Ok (fun r => FrC U0 r.2.1.2) (df_X1_putNumber_0 n v1 s0) := by
  unfold df_X1_putNumber_0
  exact ok_ck (ok_lv (fun z2 => ok_ck (ok_lv (fun z4 => ok_ck (ok_lv (fun z6 => ok_ck (ok_lv (fun z8 => ok_ite (fun hc => ok_n2 (fun q39 s40 => ok_b1cQ (ok_df_X1_put n (z2) (2) (((16385 ||| ((z6 : Int32) <<< ((7 : Int32) &&& 31))) ||| q39)) s0 h0) (fun s43 h1 => ok_df_X1_putNumber_176 n  s43 h1))) (fun _ => ok_n2 (fun q10 s11 => ok_ite (fun hc => ok_n2 (fun q14 s15 => ok_n2 (fun q17 s18 => ok_b1cQ (ok_df_X1_put n (z2) (4) (((55 ||| ((z6 : Int32) <<< ((7 : Int32) &&& 31))) ||| q17)) s0 h0) (fun s21 h2 => ok_ite (fun hc => ok_n2 (fun q24 s25 => ok_n2 (fun q27 s28 => ok_b1cQ (ok_df_X1_put n ((z2 + 4)) (4) ((((19 ||| ((z6 : Int32) <<< ((7 : Int32) &&& 31))) ||| ((z6 : Int32) <<< ((15 : Int32) &&& 31))) ||| q27)) s21 h2) (fun s31 h3 => ok_df_X1_putNumber_176 n  s31 h3)))) (fun _ => ok_df_X1_putNumber_176 n  s21 h2))))) (fun _ => ok_n2 (fun q33 s34 => ok_b1cQ (ok_df_X1_put n (z2) (4) (((19 ||| ((z6 : Int32) <<< ((7 : Int32) &&& 31))) ||| q33)) s0 h0) (fun s37 h4 => ok_df_X1_putNumber_176 n  s37 h4)))))))))))))
theorem ok_df_X1_putNumber {U0 : St} (n : Nat) (v1 : Int32) (s0 : St × (St × (St)) × (St)) (h0 : FrC U0 s0.2.1.2) : Ok (fun r => FrC U0 r.2.1.2) (df_X1_putNumber n v1 s0) := by
  unfold df_X1_putNumber
  exact ok_df_X1_putNumber_0 n v1 s0 h0
theorem ok_df_X9_behind_31 {U0 : St} (n : Nat) (x2 : Int32) (s0 : St) (h0 : FrC U0 s0) : Ok (fun r => FrC U0 r.2) (df_X9_behind_31 n x2 s0) := by
  unfold df_X9_behind_31
  exact ok_some (h0)
theorem ok_dF_X9_behind_6 {U0 : St} (n : Nat) (g6 : Int32 → (St) → Option (Int32 × (St))) (x2 : Int32) (hg6 : ∀ (y0 : Int32) (s : (St)), FrC U0 s → Ok (fun r => FrC U0 r.2) (g6 y0 s)) (s0 : St) (h0 : FrC U0 s0) : Ok (fun r => FrC U0 r.2) (dF_X9_behind_6 n g6 x2 s0) := by
  unfold dF_X9_behind_6
  exact ok_ite (fun hc => ok_df_X9_behind_31 n (x2) s0 h0) (fun _ => ok_ck (ok_ite (fun hc => ok_df_X9_behind_31 n (x2) s0 h0) (fun _ => ok_lv (fun z5 => hg6 (z5) s0 h0))))
theorem ok_df_X9_behind_6 {U0 : St} (n : Nat)  : ∀ (kk : Nat) (y0 : Int32) (s : (St)), FrC U0 s → Ok (fun r => FrC U0 r.2) (df_X9_behind_6 n  kk y0 s) := fun kk => by
  induction kk with
  | zero => intros; exact ok_none
  | succ kk ih =>
    intro y0 s hs
    exact ok_dF_X9_behind_6 n  (df_X9_behind_6 n  kk) y0  ih s hs
theorem ok_df_X9_behind_0 {U0 : St} (n : Nat) (v0 : Int32) (s0 : St) (h0 : FrC U0 s0) : Ok (fun r => FrC U0 r.2) (df_X9_behind_0 n v0 s0) := by
  unfold df_X9_behind_0
  exact ok_lv (fun z1 => ok_df_X9_behind_6 n  n (z1) s0 h0)
theorem ok_df_X9_behind {U0 : St} (n : Nat) (v0 : Int32) (s0 : St) (h0 : FrC U0 s0) : Ok (fun r => FrC U0 r.2) (df_X9_behind n v0 s0) := by
  unfold df_X9_behind
  exact ok_df_X9_behind_0 n v0 s0 h0
theorem ok_df_X1_putList_96 {U0 : St} (n : Nat)  (s0 : St × (St × (St)) × (St)) (h0 : FrC U0 s0.2.1.2) : Ok (fun r => FrC U0 r.2.1.2) (df_X1_putList_96 n  s0) := by
  unfold df_X1_putList_96
  exact ok_some (h0)
theorem ok_dF_X1_putList_33 {U0 : St} (n : Nat) (g33 : Int32 → Int32 → Int32 → Int32 → Int32 → (St × (St × (St)) × (St)) → Option (St × (St × (St)) × (St))) (x2 : Int32) (x3 : Int32) (x4 : Int32) (x5 : Int32) (x6 : Int32) (hg33 : ∀ (y0 : Int32) (y1 : Int32) (y2 : Int32) (y3 : Int32) (y4 : Int32) (s : (St × (St × (St)) × (St))), FrC U0 s.2.1.2 → Ok (fun r => FrC U0 r.2.1.2) (g33 y0 y1 y2 y3 y4 s)) (s0 : St × (St × (St)) × (St)) (h0 : FrC U0 s0.2.1.2) : Ok (fun r => FrC U0 r.2.1.2) (dF_X1_putList_33 n g33 x2 x3 x4 x5 x6 s0) := by
  unfold dF_X1_putList_33
  exact ok_ck (ok_ite (fun hc => ok_df_X1_putList_96 n  s0 h0) (fun _ => ok_ite (fun hc => ok_b2cP (ok_df_X1_worked n (x4) (x5) s0.2.1 h0) (fun q10 s11 h1 => ok_lcQ (h1) (fun s13 h2 => ok_b1cQ (ok_df_X1_put n ((x5 + x6)) (x3) (q10) s13 h2) (fun s15 h3 => ok_b2cS (ok_df_X9_behind n (x4) s15.2.1.2 h3) (fun q17 s18 h4 => ok_lcQ (h4) (fun s20 h5 => ok_lv (fun z21 => hg33 (x2) (x3) (q17) (x5) (z21) s20 h5))))))) (fun _ => ok_df_X1_putList_96 n  s0 h0)))
theorem ok_df_X1_putList_33 {U0 : St} (n : Nat)  : ∀ (kk : Nat) (y0 : Int32) (y1 : Int32) (y2 : Int32) (y3 : Int32) (y4 : Int32) (s : (St × (St × (St)) × (St))), FrC U0 s.2.1.2 → Ok (fun r => FrC U0 r.2.1.2) (df_X1_putList_33 n  kk y0 y1 y2 y3 y4 s) := fun kk => by
  induction kk with
  | zero => intros; exact ok_none
  | succ kk ih =>
    intro y0 y1 y2 y3 y4 s hs
    exact ok_dF_X1_putList_33 n  (df_X1_putList_33 n  kk) y0 y1 y2 y3 y4  ih s hs
theorem ok_df_X1_putList_0 {U0 : St} (n : Nat) (v1 : Int32) (s0 : St × (St × (St)) × (St)) (h0 : FrC U0 s0.2.1.2) : Ok (fun r => FrC U0 r.2.1.2) (df_X1_putList_0 n v1 s0) := by
  unfold df_X1_putList_0
  exact ok_ck (ok_lv (fun z2 => ok_ck (ok_lv (fun z4 => ok_ck (ok_lv (fun z6 => ok_df_X1_putList_33 n  n (v1) (z2) (z4) (z6) (0) s0 h0))))))
theorem ok_df_X1_putList {U0 : St} (n : Nat) (v1 : Int32) (s0 : St × (St × (St)) × (St)) (h0 : FrC U0 s0.2.1.2) : Ok (fun r => FrC U0 r.2.1.2) (df_X1_putList n v1 s0) := by
  unfold df_X1_putList
  exact ok_df_X1_putList_0 n v1 s0 h0
theorem ok_df_X1_putTexts_65 {U0 : St} (n : Nat) (g2 : Int32 → Int32 → (St × (St × (St)) × (St)) → Option (St × (St × (St)) × (St))) (x2 : Int32) (x3 : Int32) (hg2 : ∀ (y0 : Int32) (y1 : Int32) (s : (St × (St × (St)) × (St))), FrC U0 s.2.1.2 → Ok (fun r => FrC U0 r.2.1.2) (g2 y0 y1 s)) (s0 : St × (St × (St)) × (St)) (h0 : FrC U0 s0.2.1.2) : Ok (fun r => FrC U0 r.2.1.2) (df_X1_putTexts_65 n g2 x2 x3 s0) := by
  unfold df_X1_putTexts_65
  exact ok_lv (fun z6 => hg2 (x2) (z6) s0 h0)
theorem ok_dF_X1_putTexts_2 {U0 : St} (n : Nat) (g2 : Int32 → Int32 → (St × (St × (St)) × (St)) → Option (St × (St × (St)) × (St))) (x2 : Int32) (x3 : Int32) (hg2 : ∀ (y0 : Int32) (y1 : Int32) (s : (St × (St × (St)) × (St))), FrC U0 s.2.1.2 → Ok (fun r => FrC U0 r.2.1.2) (g2 y0 y1 s)) (s0 : St × (St × (St)) × (St)) (h0 : FrC U0 s0.2.1.2) : Ok (fun r => FrC U0 r.2.1.2) (dF_X1_putTexts_2 n g2 x2 x3 s0) := by
  unfold dF_X1_putTexts_2
  exact ok_ck (ok_ite (fun hc => ok_some (h0)) (fun _ => ok_ck (ok_lv (fun z4 => ok_ite (fun hc => ok_df_X1_putTexts_65 n g2 (x2) (x3) hg2 s0 h0) (fun _ => ok_ite (fun hc => ok_df_X1_putTexts_65 n g2 (x2) (x3) hg2 s0 h0) (fun _ => ok_ck (ok_ck (ok_b1cQ (ok_df_X1_put n (((sR s0.2.1.1 0 (Int32.toNatClampNeg (x2 + 2))) + x3)) (1) ((sR s0.2.1.1 1 (Int32.toNatClampNeg z4))) s0 h0) (fun s11 h1 => ok_df_X1_putTexts_65 n g2 (x2) (x3) hg2 s11 h1)))))))))
theorem ok_df_X1_putTexts_2 {U0 : St} (n : Nat)  : ∀ (kk : Nat) (y0 : Int32) (y1 : Int32) (s : (St × (St × (St)) × (St))), FrC U0 s.2.1.2 → Ok (fun r => FrC U0 r.2.1.2) (df_X1_putTexts_2 n  kk y0 y1 s) := fun kk => by
  induction kk with
  | zero => intros; exact ok_none
  | succ kk ih =>
    intro y0 y1 s hs
    exact ok_dF_X1_putTexts_2 n  (df_X1_putTexts_2 n  kk) y0 y1  ih s hs
theorem ok_df_X1_putTexts_0 {U0 : St} (n : Nat) (v1 : Int32) (s0 : St × (St × (St)) × (St)) (h0 : FrC U0 s0.2.1.2) : Ok (fun r => FrC U0 r.2.1.2) (df_X1_putTexts_0 n v1 s0) := by
  unfold df_X1_putTexts_0
  exact ok_df_X1_putTexts_2 n  n (v1) (0) s0 h0
theorem ok_df_X1_putTexts {U0 : St} (n : Nat) (v1 : Int32) (s0 : St × (St × (St)) × (St)) (h0 : FrC U0 s0.2.1.2) : Ok (fun r => FrC U0 r.2.1.2) (df_X1_putTexts n v1 s0) := by
  unfold df_X1_putTexts
  exact ok_df_X1_putTexts_0 n v1 s0 h0
theorem ok_df_X1_putAll_152 {U0 : St} (n : Nat)  (s0 : St × (St × (St)) × (St)) (h0 : FrC U0 s0.2.1.2) : Ok (fun r => FrC U0 r.2.1.2) (df_X1_putAll_152 n  s0) := by
  unfold df_X1_putAll_152
  exact ok_some (h0)
theorem ok_df_X1_putAll_146 {U0 : St} (n : Nat) (g10 : Int32 → (St × (St × (St)) × (St)) → Option (St × (St × (St)) × (St))) (x2 : Int32) (hg10 : ∀ (y0 : Int32) (s : (St × (St × (St)) × (St))), FrC U0 s.2.1.2 → Ok (fun r => FrC U0 r.2.1.2) (g10 y0 s)) (s0 : St × (St × (St)) × (St)) (h0 : FrC U0 s0.2.1.2) : Ok (fun r => FrC U0 r.2.1.2) (df_X1_putAll_146 n g10 x2 s0) := by
  unfold df_X1_putAll_146
  exact ok_lv (fun z12 => hg10 (z12) s0 h0)
theorem ok_df_X1_putAll_101 {U0 : St} (n : Nat) (g10 : Int32 → (St × (St × (St)) × (St)) → Option (St × (St × (St)) × (St))) (x2 : Int32) (x3 : Int32) (hg10 : ∀ (y0 : Int32) (s : (St × (St × (St)) × (St))), FrC U0 s.2.1.2 → Ok (fun r => FrC U0 r.2.1.2) (g10 y0 s)) (s0 : St × (St × (St)) × (St)) (h0 : FrC U0 s0.2.1.2) : Ok (fun r => FrC U0 r.2.1.2) (df_X1_putAll_101 n g10 x2 x3 s0) := by
  unfold df_X1_putAll_101
  exact ok_b1cQ (ok_df_X1_putGrown n (x3) s0 h0) (fun s15 h1 => ok_df_X1_putAll_146 n g10 (x2) hg10 s15 h1)
theorem ok_dF_X1_putAll_10 {U0 : St} (n : Nat) (g10 : Int32 → (St × (St × (St)) × (St)) → Option (St × (St × (St)) × (St))) (x2 : Int32) (hg10 : ∀ (y0 : Int32) (s : (St × (St × (St)) × (St))), FrC U0 s.2.1.2 → Ok (fun r => FrC U0 r.2.1.2) (g10 y0 s)) (s0 : St × (St × (St)) × (St)) (h0 : FrC U0 s0.2.1.2) : Ok (fun r => FrC U0 r.2.1.2) (dF_X1_putAll_10 n g10 x2 s0) := by
  unfold dF_X1_putAll_10
  exact ok_ite (fun hc => ok_df_X1_putAll_152 n  s0 h0) (fun _ => ok_ite (fun hc => ok_lv (fun z4 => ok_ck (ok_lcQ (h0) (fun s6 h1 => ok_ck (ok_ite (fun hc => ok_b1cQ (ok_df_X1_putPlain n (z4) s6 h1) (fun s10 h2 => ok_df_X1_putAll_146 n g10 (x2) hg10 s10 h2)) (fun _ => ok_ite (fun hc => ok_df_X1_putAll_101 n g10 (x2) (z4) hg10 s6 h1) (fun _ => ok_ite (fun hc => ok_df_X1_putAll_101 n g10 (x2) (z4) hg10 s6 h1) (fun _ => ok_ite (fun hc => ok_b1cQ (ok_df_X1_putAddress n (z4) s6 h1) (fun s20 h3 => ok_df_X1_putAll_146 n g10 (x2) hg10 s20 h3)) (fun _ => ok_ite (fun hc => ok_b1cQ (ok_df_X1_putNumber n (z4) s6 h1) (fun s24 h4 => ok_df_X1_putAll_146 n g10 (x2) hg10 s24 h4)) (fun _ => ok_ite (fun hc => ok_b1cQ (ok_df_X1_putList n (z4) s6 h1) (fun s28 h5 => ok_df_X1_putAll_146 n g10 (x2) hg10 s28 h5)) (fun _ => ok_ite (fun hc => ok_b1cQ (ok_df_X1_putTexts n (z4) s6 h1) (fun s32 h6 => ok_df_X1_putAll_146 n g10 (x2) hg10 s32 h6)) (fun _ => ok_df_X1_putAll_146 n g10 (x2) hg10 s6 h1)))))))))))) (fun _ => ok_df_X1_putAll_152 n  s0 h0))
theorem ok_df_X1_putAll_10 {U0 : St} (n : Nat)  : ∀ (kk : Nat) (y0 : Int32) (s : (St × (St × (St)) × (St))), FrC U0 s.2.1.2 → Ok (fun r => FrC U0 r.2.1.2) (df_X1_putAll_10 n  kk y0 s) := fun kk => by
  induction kk with
  | zero => intros; exact ok_none
  | succ kk ih =>
    intro y0 s hs
    exact ok_dF_X1_putAll_10 n  (df_X1_putAll_10 n  kk) y0  ih s hs
theorem ok_df_X1_putAll_0 {U0 : St} (n : Nat)  (s0 : St × (St × (St)) × (St)) (h0 : FrC U0 s0.2.1.2) : Ok (fun r => FrC U0 r.2.1.2) (df_X1_putAll_0 n  s0) := by
  unfold df_X1_putAll_0
  exact ok_lcQ (h0) (fun s1 h1 => ok_df_X1_putAll_10 n  n (0) s1 h1)
theorem ok_df_X1_putAll {U0 : St} (n : Nat)  (s0 : St × (St × (St)) × (St)) (h0 : FrC U0 s0.2.1.2) : Ok (fun r => FrC U0 r.2.1.2) (df_X1_putAll n  s0) := by
  unfold df_X1_putAll
  exact ok_df_X1_putAll_0 n  s0 h0
theorem ok_df_X9_readSign_121 {U0 : St} (n : Nat)  (s0 : St) (h0 : FrC U0 s0) : Ok (fun r => FrC U0 r) (df_X9_readSign_121 n  s0) := by
  unfold df_X9_readSign_121
  exact ok_some (h0)
theorem ok_df_X9_readSign_82 {U0 : St} (n : Nat) (y1 : Int32) (s0 : St) (h0 : FrC U0 s0) : Ok (fun r => FrC U0 r) (df_X9_readSign_82 n y1 s0) := by
  unfold df_X9_readSign_82
  exact ok_lcS ((fc_I (by decide) h0)) (fun s8 h1 => ok_lcS ((fc_I (by decide) h1)) (fun s9 h2 => ok_df_X9_readSign_121 n  s9 h2))
theorem ok_df_X9_readSign_63 {U0 : St} (n : Nat) (x1 : Int32) (y1 : Int32) (s0 : St) (h0 : FrC U0 s0) : Ok (fun r => FrC U0 r) (df_X9_readSign_63 n x1 y1 s0) := by
  unfold df_X9_readSign_63
  exact ok_lcS ((fc_I (by decide) h0)) (fun s6 h1 => ok_ite (fun hc => ok_df_X9_readSign_82 n (256) s6 h1) (fun _ => ok_df_X9_readSign_82 n (257) s6 h1))
theorem ok_df_X9_readSign_61 {U0 : St} (n : Nat) (x1 : Int32) (s0 : St) (h0 : FrC U0 s0) : Ok (fun r => FrC U0 r) (df_X9_readSign_61 n x1 s0) := by
  unfold df_X9_readSign_61
  exact ok_df_X9_readSign_63 n (x1) (6) s0 h0
theorem ok_df_X9_readSign_32 {U0 : St} (n : Nat) (x1 : Int32) (s0 : St) (h0 : FrC U0 s0) : Ok (fun r => FrC U0 r) (df_X9_readSign_32 n x1 s0) := by
  unfold df_X9_readSign_32
  exact ok_ite (fun hc => ok_df_X9_readSign_61 n (x1) s0 h0) (fun _ => ok_o (ok_ck (ok_ite (fun hc => ok_df_X9_readSign_63 n (x1) (5) s0 h0) (fun _ => ok_df_X9_readSign_61 n (x1) s0 h0))))
theorem ok_df_X9_readSign_0 {U0 : St} (n : Nat) (v0 : Int32) (s0 : St) (h0 : FrC U0 s0) : Ok (fun r => FrC U0 r) (df_X9_readSign_0 n v0 s0) := by
  unfold df_X9_readSign_0
  exact ok_lcS ((fc_I (by decide) h0)) (fun s1 h1 => ok_lcS ((fc_I (by decide) h1)) (fun s2 h2 => ok_lcS ((fc_I (by decide) h2)) (fun s3 h3 => ok_ite (fun hc => ok_df_X9_readSign_32 n (v0) s3 h3) (fun _ => ok_ite (fun hc => ok_df_X9_readSign_32 n (v0) s3 h3) (fun _ => ok_n2 (fun q15 s16 => ok_ite (fun hc => ok_df_X9_readSign_121 n  s3 h3) (fun _ => ok_lcS ((fc_I (by decide) h3)) (fun s19 h4 => ok_df_X9_readSign_121 n  s19 h4))))))))
theorem ok_df_X9_readSign {U0 : St} (n : Nat) (v0 : Int32) (s0 : St) (h0 : FrC U0 s0) : Ok (fun r => FrC U0 r) (df_X9_readSign n v0 s0) := by
  unfold df_X9_readSign
  exact ok_df_X9_readSign_0 n v0 s0 h0
theorem ok_df_X9_character_12 {U0 : St} (n : Nat)  (s0 : St) (h0 : FrC U0 s0) : Ok (fun r => FrC U0 r.2) (df_X9_character_12 n  s0) := by
  unfold df_X9_character_12
  exact ok_some (h0)
theorem ok_df_X9_character_132 {U0 : St} (n : Nat) (x4 : Int32) (s0 : St) (h0 : FrC U0 s0) : Ok (fun r => FrC U0 r.2) (df_X9_character_132 n x4 s0) := by
  unfold df_X9_character_132
  exact ok_some (h0)
theorem ok_df_X9_character_60 {U0 : St} (n : Nat) (y0 : Int32) (s0 : St) (h0 : FrC U0 s0) : Ok (fun r => FrC U0 r.2) (df_X9_character_60 n y0 s0) := by
  unfold df_X9_character_60
  exact ok_ite (fun hc => ok_df_X9_character_132 n (y0) s0 h0) (fun _ => ok_ite (fun hc => ok_df_X9_character_132 n (y0) s0 h0) (fun _ => ok_ite (fun hc => ok_some (h0)) (fun _ => ok_ite (fun hc => ok_df_X9_character_132 n (y0) s0 h0) (fun _ => ok_ite (fun hc => ok_some (h0)) (fun _ => ok_ite (fun hc => ok_some (h0)) (fun _ => ok_some (h0)))))))
theorem ok_df_X9_character_37 {U0 : St} (n : Nat) (y0 : Int32) (s0 : St) (h0 : FrC U0 s0) : Ok (fun r => FrC U0 r.2) (df_X9_character_37 n y0 s0) := by
  unfold df_X9_character_37
  exact ok_some (h0)
theorem ok_df_X9_character_0 {U0 : St} (n : Nat) (v0 : Int32) (v1 : Int32) (s0 : St) (h0 : FrC U0 s0) : Ok (fun r => FrC U0 r.2) (df_X9_character_0 n v0 v1 s0) := by
  unfold df_X9_character_0
  exact ok_ite (fun hc => ok_df_X9_character_12 n  s0 h0) (fun _ => ok_ite (fun hc => ok_o (ok_ck (ok_lv (fun z5 => ok_ite (fun hc => ok_ite (fun hc => ok_df_X9_character_60 n (0) s0 h0) (fun _ => ok_o (ok_ck (ok_df_X9_character_60 n ((sR s0 7 (Int32.toNatClampNeg (v0 + 1)))) s0 h0)))) (fun _ => ok_ite (fun hc => ok_df_X9_character_37 n ((-1)) s0 h0) (fun _ => ok_df_X9_character_37 n (z5) s0 h0)))))) (fun _ => ok_df_X9_character_12 n  s0 h0))
theorem ok_df_X9_character {U0 : St} (n : Nat) (v0 : Int32) (v1 : Int32) (s0 : St) (h0 : FrC U0 s0) : Ok (fun r => FrC U0 r.2) (df_X9_character n v0 v1 s0) := by
  unfold df_X9_character
  exact ok_df_X9_character_0 n v0 v1 s0 h0
theorem ok_df_X9_width_28 {U0 : St} (n : Nat) (y0 : Int32) (s0 : St) (h0 : FrC U0 s0) : Ok (fun r => FrC U0 r.2) (df_X9_width_28 n y0 s0) := by
  unfold df_X9_width_28
  exact ok_some (h0)
theorem ok_df_X9_width_27 {U0 : St} (n : Nat)  (s0 : St) (h0 : FrC U0 s0) : Ok (fun r => FrC U0 r.2) (df_X9_width_27 n  s0) := by
  unfold df_X9_width_27
  exact ok_df_X9_width_28 n (1) s0 h0
theorem ok_df_X9_width_0 {U0 : St} (n : Nat) (v0 : Int32) (s0 : St) (h0 : FrC U0 s0) : Ok (fun r => FrC U0 r.2) (df_X9_width_0 n v0 s0) := by
  unfold df_X9_width_0
  exact ok_ite (fun hc => ok_df_X9_width_27 n  s0 h0) (fun _ => ok_ite (fun hc => ok_df_X9_width_27 n  s0 h0) (fun _ => ok_o (ok_ck (ok_ite (fun hc => ok_df_X9_width_28 n (2) s0 h0) (fun _ => ok_df_X9_width_27 n  s0 h0)))))
theorem ok_df_X9_width {U0 : St} (n : Nat) (v0 : Int32) (s0 : St) (h0 : FrC U0 s0) : Ok (fun r => FrC U0 r.2) (df_X9_width n v0 s0) := by
  unfold df_X9_width
  exact ok_df_X9_width_0 n v0 s0 h0
theorem ok_df_X9_readCharacter_107 {U0 : St} (n : Nat) (x1 : Int32) (x2 : Int32) (y1 : Int32) (s0 : St) (h0 : FrC U0 s0) : Ok (fun r => FrC U0 r) (df_X9_readCharacter_107 n x1 x2 y1 s0) := by
  unfold df_X9_readCharacter_107
  exact ok_lcS ((fc_I (by decide) h0)) (fun s11 h1 => ok_lcS ((fc_I (by decide) h1)) (fun s12 h2 => ok_lcS ((fc_I (by decide) h2)) (fun s13 h3 => ok_some (h3))))
theorem ok_df_X9_readCharacter_105 {U0 : St} (n : Nat) (x1 : Int32) (x2 : Int32) (s0 : St) (h0 : FrC U0 s0) : Ok (fun r => FrC U0 r) (df_X9_readCharacter_105 n x1 x2 s0) := by
  unfold df_X9_readCharacter_105
  exact ok_df_X9_readCharacter_107 n (x1) (x2) (6) s0 h0
theorem ok_df_X9_readCharacter_85 {U0 : St} (n : Nat) (x1 : Int32) (x2 : Int32) (x3 : Int32) (y0 : Int32) (s0 : St) (h0 : FrC U0 s0) : Ok (fun r => FrC U0 r) (df_X9_readCharacter_85 n x1 x2 x3 y0 s0) := by
  unfold df_X9_readCharacter_85
  exact ok_ite (fun hc => ok_df_X9_readCharacter_105 n (x1) (x2) s0 h0) (fun _ => ok_ite (fun hc => ok_df_X9_readCharacter_105 n (x1) (x2) s0 h0) (fun _ => ok_ite (fun hc => ok_df_X9_readCharacter_105 n (x1) (x2) s0 h0) (fun _ => ok_df_X9_readCharacter_107 n (x1) (x2) (2) s0 h0)))
theorem ok_df_X9_readCharacter_80 {U0 : St} (n : Nat) (x1 : Int32) (x2 : Int32) (x3 : Int32) (s0 : St) (h0 : FrC U0 s0) : Ok (fun r => FrC U0 r) (df_X9_readCharacter_80 n x1 x2 x3 s0) := by
  unfold df_X9_readCharacter_80
  exact ok_df_X9_readCharacter_85 n (x1) (x2) (x3) (1) s0 h0
theorem ok_df_X9_readCharacter_55 {U0 : St} (n : Nat) (x1 : Int32) (x2 : Int32) (y0 : Int32) (s0 : St) (h0 : FrC U0 s0) : Ok (fun r => FrC U0 r) (df_X9_readCharacter_55 n x1 x2 y0 s0) := by
  unfold df_X9_readCharacter_55
  exact ok_ite (fun hc => ok_df_X9_readCharacter_80 n (x1) (x2) (y0) s0 h0) (fun _ => ok_o (ok_ck (ok_n2 (fun q18 s19 => ok_ite (fun hc => ok_df_X9_readCharacter_80 n (x1) (x2) (y0) s0 h0) (fun _ => ok_df_X9_readCharacter_85 n (x1) (x2) (y0) (0) s0 h0)))))
theorem ok_df_X9_readCharacter_54 {U0 : St} (n : Nat) (x1 : Int32) (x2 : Int32) (s0 : St) (h0 : FrC U0 s0) : Ok (fun r => FrC U0 r) (df_X9_readCharacter_54 n x1 x2 s0) := by
  unfold df_X9_readCharacter_54
  exact ok_df_X9_readCharacter_55 n (x1) (x2) (0) s0 h0
theorem ok_df_X9_readCharacter_0 {U0 : St} (n : Nat)  (s0 : St) (h0 : FrC U0 s0) : Ok (fun r => FrC U0 r) (df_X9_readCharacter_0 n  s0) := by
  unfold df_X9_readCharacter_0
  exact ok_b2cS (ok_df_X9_character n (((sI s0 3) + 1)) (39) s0 h0) (fun q1 s2 h1 => ok_b2cS (ok_df_X9_width n (((sI s2 3) + 1)) s2 h1) (fun q4 s5 h2 => ok_lv (fun z7 => ok_ite (fun hc => ok_df_X9_readCharacter_54 n (q1) (z7) s5 h2) (fun _ => ok_o (ok_ck (ok_ite (fun hc => ok_df_X9_readCharacter_55 n (q1) (z7) (1) s5 h2) (fun _ => ok_df_X9_readCharacter_54 n (q1) (z7) s5 h2)))))))
theorem ok_df_X9_readCharacter {U0 : St} (n : Nat)  (s0 : St) (h0 : FrC U0 s0) : Ok (fun r => FrC U0 r) (df_X9_readCharacter n  s0) := by
  unfold df_X9_readCharacter
  exact ok_df_X9_readCharacter_0 n  s0 h0
theorem ok_df_X9_readText_62 {U0 : St} (n : Nat) (x1 : Int32) (y1 : Int32) (s0 : St) (h0 : FrC U0 s0) : Ok (fun r => FrC U0 r) (df_X9_readText_62 n x1 y1 s0) := by
  unfold df_X9_readText_62
  exact ok_lcS ((fc_I (by decide) h0)) (fun s4 h1 => ok_lcS ((fc_I (by decide) h1)) (fun s5 h2 => ok_some (h2)))
theorem ok_df_X9_readText_60 {U0 : St} (n : Nat) (x1 : Int32) (s0 : St) (h0 : FrC U0 s0) : Ok (fun r => FrC U0 r) (df_X9_readText_60 n x1 s0) := by
  unfold df_X9_readText_60
  exact ok_df_X9_readText_62 n (x1) (6) s0 h0
theorem ok_df_X9_readText_36 {U0 : St} (n : Nat) (x1 : Int32) (s0 : St) (h0 : FrC U0 s0) : Ok (fun r => FrC U0 r) (df_X9_readText_36 n x1 s0) := by
  unfold df_X9_readText_36
  exact ok_ite (fun hc => ok_df_X9_readText_60 n (x1) s0 h0) (fun _ => ok_o (ok_ck (ok_ite (fun hc => ok_df_X9_readText_62 n (x1) (4) s0 h0) (fun _ => ok_df_X9_readText_60 n (x1) s0 h0))))
theorem ok_dF_X9_readText_7 {U0 : St} (n : Nat) (g7 : Int32 → (St) → Option (St)) (x1 : Int32) (hg7 : ∀ (y0 : Int32) (s : (St)), FrC U0 s → Ok (fun r => FrC U0 r) (g7 y0 s)) (s0 : St) (h0 : FrC U0 s0) : Ok (fun r => FrC U0 r) (dF_X9_readText_7 n g7 x1 s0) := by
  unfold dF_X9_readText_7
  exact ok_ite (fun hc => ok_df_X9_readText_36 n (x1) s0 h0) (fun _ => ok_b2cS (ok_df_X9_character n (x1) (34) s0 h0) (fun q9 s10 h1 => ok_ite (fun hc => ok_df_X9_readText_36 n (x1) s10 h1) (fun _ => ok_b2cS (ok_df_X9_width n (x1) s10 h1) (fun q13 s14 h2 => ok_lv (fun z16 => hg7 (z16) s14 h2)))))
theorem ok_df_X9_readText_7 {U0 : St} (n : Nat)  : ∀ (kk : Nat) (y0 : Int32) (s : (St)), FrC U0 s → Ok (fun r => FrC U0 r) (df_X9_readText_7 n  kk y0 s) := fun kk => by
  induction kk with
  | zero => intros; exact ok_none
  | succ kk ih =>
    intro y0 s hs
    exact ok_dF_X9_readText_7 n  (df_X9_readText_7 n  kk) y0  ih s hs
theorem ok_df_X9_readText_0 {U0 : St} (n : Nat)  (s0 : St) (h0 : FrC U0 s0) : Ok (fun r => FrC U0 r) (df_X9_readText_0 n  s0) := by
  unfold df_X9_readText_0
  exact ok_lv (fun z1 => ok_df_X9_readText_7 n  n (z1) s0 h0)
theorem ok_df_X9_readText {U0 : St} (n : Nat)  (s0 : St) (h0 : FrC U0 s0) : Ok (fun r => FrC U0 r) (df_X9_readText n  s0) := by
  unfold df_X9_readText
  exact ok_df_X9_readText_0 n  s0 h0
theorem ok_df_X9_readNumber_288 {U0 : St} (n : Nat)  (s0 : St) (h0 : FrC U0 s0) : Ok (fun r => FrC U0 r) (df_X9_readNumber_288 n  s0) := by
  unfold df_X9_readNumber_288
  exact ok_lcS ((fc_I (by decide) h0)) (fun s19 h1 => ok_some (h1))
theorem ok_df_X9_readNumber_255 {U0 : St} (n : Nat) (g187 : Int32 → Int64 → Int32 → (St) → Option (St)) (x5 : Int32) (x6 : Int64) (x8 : Int32) (x10 : Int32) (hg187 : ∀ (y0 : Int32) (y1 : Int64) (y2 : Int32) (s : (St)), FrC U0 s → Ok (fun r => FrC U0 r) (g187 y0 y1 y2 s)) (s0 : St) (h0 : FrC U0 s0) : Ok (fun r => FrC U0 r) (df_X9_readNumber_255 n g187 x5 x6 x8 x10 s0) := by
  unfold df_X9_readNumber_255
  exact ok_lv (fun z17 => ok_ite (fun hc => ok_df_X9_readNumber_288 n  s0 h0) (fun _ => ok_ite (fun hc => ok_df_X9_readNumber_288 n  s0 h0) (fun _ => ok_ite (fun hc => ok_lv (fun z22 => hg187 (x5) (z17) (z22) s0 h0)) (fun _ => ok_df_X9_readNumber_288 n  s0 h0))))
theorem ok_df_X9_readNumber_253 {U0 : St} (n : Nat) (g187 : Int32 → Int64 → Int32 → (St) → Option (St)) (x5 : Int32) (x6 : Int64) (x8 : Int32) (y0 : Int32) (hg187 : ∀ (y0 : Int32) (y1 : Int64) (y2 : Int32) (s : (St)), FrC U0 s → Ok (fun r => FrC U0 r) (g187 y0 y1 y2 s)) (s0 : St) (h0 : FrC U0 s0) : Ok (fun r => FrC U0 r) (df_X9_readNumber_253 n g187 x5 x6 x8 y0 s0) := by
  unfold df_X9_readNumber_253
  exact ok_df_X9_readNumber_255 n g187 (x5) (x6) (x8) (y0) hg187 s0 h0
theorem ok_df_X9_readNumber_251 {U0 : St} (n : Nat) (g187 : Int32 → Int64 → Int32 → (St) → Option (St)) (x5 : Int32) (x6 : Int64) (x8 : Int32) (hg187 : ∀ (y0 : Int32) (y1 : Int64) (y2 : Int32) (s : (St)), FrC U0 s → Ok (fun r => FrC U0 r) (g187 y0 y1 y2 s)) (s0 : St) (h0 : FrC U0 s0) : Ok (fun r => FrC U0 r) (df_X9_readNumber_251 n g187 x5 x6 x8 s0) := by
  unfold df_X9_readNumber_251
  exact ok_df_X9_readNumber_253 n g187 (x5) (x6) (x8) (x5) hg187 s0 h0
theorem ok_dF_X9_readNumber_187 {U0 : St} (n : Nat) (g187 : Int32 → Int64 → Int32 → (St) → Option (St)) (x5 : Int32) (x6 : Int64) (x8 : Int32) (hg187 : ∀ (y0 : Int32) (y1 : Int64) (y2 : Int32) (s : (St)), FrC U0 s → Ok (fun r => FrC U0 r) (g187 y0 y1 y2 s)) (s0 : St) (h0 : FrC U0 s0) : Ok (fun r => FrC U0 r) (dF_X9_readNumber_187 n g187 x5 x6 x8 s0) := by
  unfold dF_X9_readNumber_187
  exact ok_ite (fun hc => ok_lcS ((fc_I (by decide) h0)) (fun s11 h1 => ok_some (h1))) (fun _ => ok_o (ok_ck (ok_lv (fun z14 => ok_lv (fun z15 => ok_ite (fun hc => ok_df_X9_readNumber_255 n g187 (x5) (x6) (x8) (z15) hg187 s0 h0) (fun _ => ok_lv (fun z23 => ok_ite (fun hc => ok_df_X9_readNumber_251 n g187 (x5) (x6) (x8) hg187 s0 h0) (fun _ => ok_ite (fun hc => ok_df_X9_readNumber_251 n g187 (x5) (x6) (x8) hg187 s0 h0) (fun _ => ok_df_X9_readNumber_253 n g187 (x5) (x6) (x8) (((z23 - 97) + 10)) hg187 s0 h0)))))))))
theorem ok_df_X9_readNumber_187 {U0 : St} (n : Nat)  : ∀ (kk : Nat) (y0 : Int32) (y1 : Int64) (y2 : Int32) (s : (St)), FrC U0 s → Ok (fun r => FrC U0 r) (df_X9_readNumber_187 n  kk y0 y1 y2 s) := fun kk => by
  induction kk with
  | zero => intros; exact ok_none
  | succ kk ih =>
    intro y0 y1 y2 s hs
    exact ok_dF_X9_readNumber_187 n  (df_X9_readNumber_187 n  kk) y0 y1 y2  ih s hs
theorem ok_df_X9_readNumber_185 {U0 : St} (n : Nat) (x5 : Int32) (x6 : Int64) (y0 : Int32) (s0 : St) (h0 : FrC U0 s0) : Ok (fun r => FrC U0 r) (df_X9_readNumber_185 n x5 x6 y0 s0) := by
  unfold df_X9_readNumber_185
  exact ok_df_X9_readNumber_187 n  n (x5) (x6) (y0) s0 h0
theorem ok_df_X9_readNumber_172 {U0 : St} (n : Nat) (x5 : Int32) (x6 : Int64) (s0 : St) (h0 : FrC U0 s0) : Ok (fun r => FrC U0 r) (df_X9_readNumber_172 n x5 x6 s0) := by
  unfold df_X9_readNumber_172
  exact ok_df_X9_readNumber_185 n (x5) (x6) (((sI s0 3) + 2)) s0 h0
theorem ok_df_X9_readNumber_153 {U0 : St} (n : Nat) (x3 : Int32) (x4 : Int32) (y0 : Int32) (s0 : St) (h0 : FrC U0 s0) : Ok (fun r => FrC U0 r) (df_X9_readNumber_153 n x3 x4 y0 s0) := by
  unfold df_X9_readNumber_153
  exact ok_lcS ((fc_I (by decide) h0)) (fun s8 h1 => ok_ite (fun hc => ok_ite (fun hc => ok_df_X9_readNumber_185 n (y0) (0) ((sI s8 3)) s8 h1) (fun _ => ok_df_X9_readNumber_172 n (y0) (0) s8 h1)) (fun _ => ok_df_X9_readNumber_172 n (y0) (0) s8 h1))
theorem ok_df_X9_readNumber_131 {U0 : St} (n : Nat) (x3 : Int32) (y0 : Int32) (s0 : St) (h0 : FrC U0 s0) : Ok (fun r => FrC U0 r) (df_X9_readNumber_131 n x3 y0 s0) := by
  unfold df_X9_readNumber_131
  exact ok_ite (fun hc => ok_ite (fun hc => ok_df_X9_readNumber_153 n (x3) (y0) (10) s0 h0) (fun _ => ok_df_X9_readNumber_153 n (x3) (y0) (2) s0 h0)) (fun _ => ok_df_X9_readNumber_153 n (x3) (y0) (16) s0 h0)
theorem ok_df_X9_readNumber_130 {U0 : St} (n : Nat) (x3 : Int32) (s0 : St) (h0 : FrC U0 s0) : Ok (fun r => FrC U0 r) (df_X9_readNumber_130 n x3 s0) := by
  unfold df_X9_readNumber_130
  exact ok_df_X9_readNumber_131 n (x3) (0) s0 h0
theorem ok_df_X9_readNumber_100 {U0 : St} (n : Nat) (x1 : Int32) (x2 : Int32) (y0 : Int32) (s0 : St) (h0 : FrC U0 s0) : Ok (fun r => FrC U0 r) (df_X9_readNumber_100 n x1 x2 y0 s0) := by
  unfold df_X9_readNumber_100
  exact ok_ite (fun hc => ok_df_X9_readNumber_130 n (y0) s0 h0) (fun _ => ok_o (ok_ck (ok_ite (fun hc => ok_ite (fun hc => ok_df_X9_readNumber_131 n (y0) (1) s0 h0) (fun _ => ok_df_X9_readNumber_130 n (y0) s0 h0)) (fun _ => ok_df_X9_readNumber_130 n (y0) s0 h0))))
theorem ok_df_X9_readNumber_99 {U0 : St} (n : Nat) (x1 : Int32) (x2 : Int32) (s0 : St) (h0 : FrC U0 s0) : Ok (fun r => FrC U0 r) (df_X9_readNumber_99 n x1 x2 s0) := by
  unfold df_X9_readNumber_99
  exact ok_df_X9_readNumber_100 n (x1) (x2) (0) s0 h0
theorem ok_df_X9_readNumber_70 {U0 : St} (n : Nat) (x1 : Int32) (x2 : Int32) (s0 : St) (h0 : FrC U0 s0) : Ok (fun r => FrC U0 r) (df_X9_readNumber_70 n x1 x2 s0) := by
  unfold df_X9_readNumber_70
  exact ok_ite (fun hc => ok_df_X9_readNumber_99 n (x1) (x2) s0 h0) (fun _ => ok_o (ok_ck (ok_ite (fun hc => ok_ite (fun hc => ok_df_X9_readNumber_100 n (x1) (x2) (1) s0 h0) (fun _ => ok_df_X9_readNumber_99 n (x1) (x2) s0 h0)) (fun _ => ok_df_X9_readNumber_99 n (x1) (x2) s0 h0))))
theorem ok_df_X9_readNumber_48 {U0 : St} (n : Nat)  (s0 : St) (h0 : FrC U0 s0) : Ok (fun r => FrC U0 r) (df_X9_readNumber_48 n  s0) := by
  unfold df_X9_readNumber_48
  exact ok_lcS ((fc_I (by decide) h0)) (fun s36 h1 => ok_o (ok_ck (ok_lcS ((fc_I (by decide) h1)) (fun s39 h2 => ok_some (h2)))))
theorem ok_df_X9_readNumber_30 {U0 : St} (n : Nat) (x1 : Int32) (y0 : Int32) (s0 : St) (h0 : FrC U0 s0) : Ok (fun r => FrC U0 r) (df_X9_readNumber_30 n x1 y0 s0) := by
  unfold df_X9_readNumber_30
  exact ok_ite (fun hc => ok_ite (fun hc => ok_df_X9_readNumber_48 n  s0 h0) (fun _ => ok_ite (fun hc => ok_df_X9_readNumber_48 n  s0 h0) (fun _ => ok_df_X9_readNumber_70 n (x1) (y0) s0 h0))) (fun _ => ok_df_X9_readNumber_70 n (x1) (y0) s0 h0)
theorem ok_df_X9_readNumber_0 {U0 : St} (n : Nat)  (s0 : St) (h0 : FrC U0 s0) : Ok (fun r => FrC U0 r) (df_X9_readNumber_0 n  s0) := by
  unfold df_X9_readNumber_0
  exact ok_lv (fun z1 => ok_ite (fun hc => ok_df_X9_readNumber_30 n (z1) (0) s0 h0) (fun _ => ok_o (ok_ck (ok_df_X9_readNumber_30 n (z1) ((sR s0 7 (Int32.toNatClampNeg ((sI s0 3) + 1)))) s0 h0))))
theorem ok_df_X9_readNumber {U0 : St} (n : Nat)  (s0 : St) (h0 : FrC U0 s0) : Ok (fun r => FrC U0 r) (df_X9_readNumber n  s0) := by
  unfold df_X9_readNumber
  exact ok_df_X9_readNumber_0 n  s0 h0
theorem ok_df_X9_next_85 {U0 : St} (n : Nat)  (s0 : St) (h0 : FrC U0 s0) : Ok (fun r => FrC U0 r) (df_X9_next_85 n  s0) := by
  unfold df_X9_next_85
  exact ok_lcS ((fc_I (by decide) h0)) (fun s4 h1 => ok_some (h1))
theorem ok_df_X9_next_228 {U0 : St} (n : Nat)  (s0 : St) (h0 : FrC U0 s0) : Ok (fun r => FrC U0 r) (df_X9_next_228 n  s0) := by
  unfold df_X9_next_228
  exact ok_some (h0)
theorem ok_df_X9_next_191 {U0 : St} (n : Nat) (y1 : Int32) (s0 : St) (h0 : FrC U0 s0) : Ok (fun r => FrC U0 r) (df_X9_next_191 n y1 s0) := by
  unfold df_X9_next_191
  exact ok_lcS ((fc_I (by decide) h0)) (fun s26 h1 => ok_df_X9_next_228 n  s26 h1)
theorem ok_df_X9_next_159 {U0 : St} (n : Nat) (x1 : Int32) (s0 : St) (h0 : FrC U0 s0) : Ok (fun r => FrC U0 r) (df_X9_next_159 n x1 s0) := by
  unfold df_X9_next_159
  exact ok_ite (fun hc => ok_ite (fun hc => ok_b1cS (ok_df_X9_readText n  s0 h0) (fun s23 h1 => ok_df_X9_next_228 n  s23 h1)) (fun _ => ok_ite (fun hc => ok_b1cS (ok_df_X9_readCharacter n  s0 h0) (fun s20 h2 => ok_df_X9_next_228 n  s20 h2)) (fun _ => ok_b1cS (ok_df_X9_readSign n (x1) s0 h0) (fun s17 h3 => ok_df_X9_next_228 n  s17 h3)))) (fun _ => ok_ite (fun hc => ok_df_X9_next_191 n (6) s0 h0) (fun _ => ok_df_X9_next_191 n (1) s0 h0))
theorem ok_df_X9_next_140 {U0 : St} (n : Nat) (x1 : Int32) (s0 : St) (h0 : FrC U0 s0) : Ok (fun r => FrC U0 r) (df_X9_next_140 n x1 s0) := by
  unfold df_X9_next_140
  exact ok_ite (fun hc => ok_df_X9_next_159 n (x1) s0 h0) (fun _ => ok_ite (fun hc => ok_df_X9_next_159 n (x1) s0 h0) (fun _ => ok_b1cS (ok_df_X9_readNumber n  s0 h0) (fun s29 h1 => ok_df_X9_next_228 n  s29 h1)))
theorem ok_dF_X9_next_101 {U0 : St} (n : Nat) (g101 : Int32 → (St) → Option (St)) (x1 : Int32) (hg101 : ∀ (y0 : Int32) (s : (St)), FrC U0 s → Ok (fun r => FrC U0 r) (g101 y0 s)) (s0 : St) (h0 : FrC U0 s0) : Ok (fun r => FrC U0 r) (dF_X9_next_101 n g101 x1 s0) := by
  unfold dF_X9_next_101
  exact ok_ite (fun hc => ok_df_X9_next_140 n (x1) s0 h0) (fun _ => ok_o (ok_ck (ok_n2 (fun q33 s34 => ok_ite (fun hc => ok_df_X9_next_140 n (x1) s0 h0) (fun _ => ok_lcS ((fc_I (by decide) h0)) (fun s37 h1 => hg101 (x1) s37 h1))))))
theorem ok_df_X9_next_101 {U0 : St} (n : Nat)  : ∀ (kk : Nat) (y0 : Int32) (s : (St)), FrC U0 s → Ok (fun r => FrC U0 r) (df_X9_next_101 n  kk y0 s) := fun kk => by
  induction kk with
  | zero => intros; exact ok_none
  | succ kk ih =>
    intro y0 s hs
    exact ok_dF_X9_next_101 n  (df_X9_next_101 n  kk) y0  ih s hs
theorem ok_df_X9_next_52 {U0 : St} (n : Nat)  (s0 : St) (h0 : FrC U0 s0) : Ok (fun r => FrC U0 r) (df_X9_next_52 n  s0) := by
  unfold df_X9_next_52
  exact ok_lcS ((fc_I (by decide) h0)) (fun s2 h1 => ok_ite (fun hc => ok_df_X9_next_85 n  s2 h1) (fun _ => ok_o (ok_ck (ok_ite (fun hc => ok_df_X9_next_85 n  s2 h1) (fun _ => ok_o (ok_ck (ok_lv (fun z10 => ok_df_X9_next_101 n  n (z10) s2 h1))))))))
theorem ok_df_X9_next_39 {U0 : St} (n : Nat) (g0 : (St) → Option (St)) (hg0 : ∀  (s : (St)), FrC U0 s → Ok (fun r => FrC U0 r) (g0 s)) (s0 : St) (h0 : FrC U0 s0) : Ok (fun r => FrC U0 r) (df_X9_next_39 n g0 s0) := by
  unfold df_X9_next_39
  exact ok_lcS ((fc_I (by decide) h0)) (fun s41 h1 => hg0  s41 h1)
theorem ok_dF_X9_next_0 {U0 : St} (n : Nat) (g0 : (St) → Option (St)) (hg0 : ∀  (s : (St)), FrC U0 s → Ok (fun r => FrC U0 r) (g0 s)) (s0 : St) (h0 : FrC U0 s0) : Ok (fun r => FrC U0 r) (dF_X9_next_0 n g0 s0) := by
  unfold dF_X9_next_0
  exact ok_ite (fun hc => ok_df_X9_next_52 n  s0 h0) (fun _ => ok_o (ok_ck (ok_ite (fun hc => ok_df_X9_next_39 n g0 hg0 s0 h0) (fun _ => ok_o (ok_ck (ok_ite (fun hc => ok_df_X9_next_39 n g0 hg0 s0 h0) (fun _ => ok_df_X9_next_52 n  s0 h0)))))))
theorem ok_df_X9_next_0 {U0 : St} (n : Nat)  : ∀ (kk : Nat)  (s : (St)), FrC U0 s → Ok (fun r => FrC U0 r) (df_X9_next_0 n  kk  s) := fun kk => by
  induction kk with
  | zero => intros; exact ok_none
  | succ kk ih =>
    intro  s hs
    exact ok_dF_X9_next_0 n  (df_X9_next_0 n  kk)   ih s hs
theorem ok_df_X9_next {U0 : St} (n : Nat)  (s0 : St) (h0 : FrC U0 s0) : Ok (fun r => FrC U0 r) (df_X9_next n  s0) := by
  unfold df_X9_next
  exact ok_df_X9_next_0 n  n s0 h0
theorem ok_df_X9_startLine_0 {U0 : St} (n : Nat) (v0 : Int32) (v1 : Int32) (s0 : St) (h0 : FrC U0 s0) : Ok (fun r => FrC U0 r) (df_X9_startLine_0 n v0 v1 s0) := by
  unfold df_X9_startLine_0
  exact ok_lcS ((fc_I (by decide) h0)) (fun s1 h1 => ok_o (ok_lcS ((fc_I (by decide) h1)) (fun s3 h2 => ok_b1cS (ok_df_X9_next n  s3 h2) (fun s5 h3 => ok_some (h3)))))
theorem ok_df_X9_startLine {U0 : St} (n : Nat) (v0 : Int32) (v1 : Int32) (s0 : St) (h0 : FrC U0 s0) : Ok (fun r => FrC U0 r) (df_X9_startLine n v0 v1 s0) := by
  unfold df_X9_startLine
  exact ok_df_X9_startLine_0 n v0 v1 s0 h0
theorem ok_df_X9_isSign_21 {U0 : St} (n : Nat) (y0 : Int32) (s0 : St) (h0 : FrC U0 s0) : Ok (fun r => FrC U0 r.2) (df_X9_isSign_21 n y0 s0) := by
  unfold df_X9_isSign_21
  exact ok_z (ok_some (h0))
theorem ok_df_X9_isSign_20 {U0 : St} (n : Nat)  (s0 : St) (h0 : FrC U0 s0) : Ok (fun r => FrC U0 r.2) (df_X9_isSign_20 n  s0) := by
  unfold df_X9_isSign_20
  exact ok_df_X9_isSign_21 n (0) s0 h0
theorem ok_df_X9_isSign_0 {U0 : St} (n : Nat) (v0 : Int32) (s0 : St) (h0 : FrC U0 s0) : Ok (fun r => FrC U0 r.2) (df_X9_isSign_0 n v0 s0) := by
  unfold df_X9_isSign_0
  exact ok_ite (fun hc => ok_ite (fun hc => ok_df_X9_isSign_21 n (1) s0 h0) (fun _ => ok_df_X9_isSign_20 n  s0 h0)) (fun _ => ok_df_X9_isSign_20 n  s0 h0)
theorem ok_df_X9_isSign {U0 : St} (n : Nat) (v0 : Int32) (s0 : St) (h0 : FrC U0 s0) : Ok (fun r => FrC U0 r.2) (df_X9_isSign n v0 s0) := by
  unfold df_X9_isSign
  exact ok_df_X9_isSign_0 n v0 s0 h0
theorem ok_df_X9_nameAt_214 {U0 : St} (n : Nat) (x1 : Int32) (x2 : Int32) (x3 : Int32) (s0 : St) (h0 : FrC U0 s0) : Ok (fun r => FrC U0 r.2) (df_X9_nameAt_214 n x1 x2 x3 s0) := by
  unfold df_X9_nameAt_214
  exact ok_lv (fun z8 => ok_ck (ok_lcS ((fc_R (by decide) h0)) (fun s10 h1 => ok_ck (ok_lcS ((fc_R (by decide) h1)) (fun s12 h2 => ok_ck (ok_lcS ((fc_R (by decide) h2)) (fun s14 h3 => ok_ck (ok_ck (ok_lcS ((fc_R (by decide) h3)) (fun s17 h4 => ok_ck (ok_lcS ((fc_R (by decide) h4)) (fun s19 h5 => ok_some (h5)))))))))))))
theorem ok_df_X9_nameAt_194 {U0 : St} (n : Nat) (x1 : Int32) (x2 : Int32) (x3 : Int32) (s0 : St) (h0 : FrC U0 s0) : Ok (fun r => FrC U0 r.2) (df_X9_nameAt_194 n x1 x2 x3 s0) := by
  unfold df_X9_nameAt_194
  exact ok_ite (fun hc => ok_df_X9_nameAt_214 n (x1) (x2) (x3) s0 h0) (fun _ => ok_lcS ((fc_I (by decide) h0)) (fun s20 h1 => ok_df_X9_nameAt_214 n (x1) (x2) (x3) s20 h1))
theorem ok_df_X9_nameAt_165 {U0 : St} (n : Nat) (g71 : Int32 → Int32 → Int32 → Int32 → Int32 → (St) → Option (Int32 × (St))) (x1 : Int32) (x2 : Int32) (x3 : Int32) (x4 : Int32) (x5 : Int32) (x7 : Int32) (hg71 : ∀ (y0 : Int32) (y1 : Int32) (y2 : Int32) (y3 : Int32) (y4 : Int32) (s : (St)), FrC U0 s → Ok (fun r => FrC U0 r.2) (g71 y0 y1 y2 y3 y4 s)) (s0 : St) (h0 : FrC U0 s0) : Ok (fun r => FrC U0 r.2) (df_X9_nameAt_165 n g71 x1 x2 x3 x4 x5 x7 s0) := by
  unfold df_X9_nameAt_165
  exact ok_ite (fun hc => ok_ck (ok_lv (fun z29 => ok_lv (fun z30 => hg71 (x1) (x2) (x3) (z29) (z30) s0 h0)))) (fun _ => ok_some (h0))
theorem ok_df_X9_nameAt_157 {U0 : St} (n : Nat) (g71 : Int32 → Int32 → Int32 → Int32 → Int32 → (St) → Option (Int32 × (St))) (g119 : Int32 → Int32 → Int32 → Int32 → Int32 → Int32 → Int32 → Int32 → (St) → Option (Int32 × (St))) (x1 : Int32) (x2 : Int32) (x3 : Int32) (x4 : Int32) (x5 : Int32) (x6 : Int32) (x8 : Int32) (y0 : Int32) (hg71 : ∀ (y0 : Int32) (y1 : Int32) (y2 : Int32) (y3 : Int32) (y4 : Int32) (s : (St)), FrC U0 s → Ok (fun r => FrC U0 r.2) (g71 y0 y1 y2 y3 y4 s)) (hg119 : ∀ (y0 : Int32) (y1 : Int32) (y2 : Int32) (y3 : Int32) (y4 : Int32) (y5 : Int32) (y6 : Int32) (y7 : Int32) (s : (St)), FrC U0 s → Ok (fun r => FrC U0 r.2) (g119 y0 y1 y2 y3 y4 y5 y6 y7 s)) (s0 : St) (h0 : FrC U0 s0) : Ok (fun r => FrC U0 r.2) (df_X9_nameAt_157 n g71 g119 x1 x2 x3 x4 x5 x6 x8 y0 s0) := by
  unfold df_X9_nameAt_157
  exact ok_lv (fun z37 => hg119 (x1) (x2) (x3) (x4) (x5) (x6) (y0) (z37) s0 h0)
theorem ok_dF_X9_nameAt_119 {U0 : St} (n : Nat) (g71 : Int32 → Int32 → Int32 → Int32 → Int32 → (St) → Option (Int32 × (St))) (g119 : Int32 → Int32 → Int32 → Int32 → Int32 → Int32 → Int32 → Int32 → (St) → Option (Int32 × (St))) (x1 : Int32) (x2 : Int32) (x3 : Int32) (x4 : Int32) (x5 : Int32) (x6 : Int32) (x7 : Int32) (x8 : Int32) (hg71 : ∀ (y0 : Int32) (y1 : Int32) (y2 : Int32) (y3 : Int32) (y4 : Int32) (s : (St)), FrC U0 s → Ok (fun r => FrC U0 r.2) (g71 y0 y1 y2 y3 y4 s)) (hg119 : ∀ (y0 : Int32) (y1 : Int32) (y2 : Int32) (y3 : Int32) (y4 : Int32) (y5 : Int32) (y6 : Int32) (y7 : Int32) (s : (St)), FrC U0 s → Ok (fun r => FrC U0 r.2) (g119 y0 y1 y2 y3 y4 y5 y6 y7 s)) (s0 : St) (h0 : FrC U0 s0) : Ok (fun r => FrC U0 r.2) (dF_X9_nameAt_119 n g71 g119 x1 x2 x3 x4 x5 x6 x7 x8 s0) := by
  unfold dF_X9_nameAt_119
  exact ok_ite (fun hc => ok_df_X9_nameAt_165 n g71 (x1) (x2) (x3) (x4) (x5) (x7) hg71 s0 h0) (fun _ => ok_ite (fun hc => ok_df_X9_nameAt_165 n g71 (x1) (x2) (x3) (x4) (x5) (x7) hg71 s0 h0) (fun _ => ok_o (ok_ck (ok_o (ok_ck (ok_ite (fun hc => ok_df_X9_nameAt_157 n g71 g119 (x1) (x2) (x3) (x4) (x5) (x6) (x8) (1) hg71 hg119 s0 h0) (fun _ => ok_df_X9_nameAt_157 n g71 g119 (x1) (x2) (x3) (x4) (x5) (x6) (x8) (0) hg71 hg119 s0 h0)))))))
theorem ok_df_X9_nameAt_119 {U0 : St} (n : Nat) (g71 : Int32 → Int32 → Int32 → Int32 → Int32 → (St) → Option (Int32 × (St))) (hg71 : ∀ (y0 : Int32) (y1 : Int32) (y2 : Int32) (y3 : Int32) (y4 : Int32) (s : (St)), FrC U0 s → Ok (fun r => FrC U0 r.2) (g71 y0 y1 y2 y3 y4 s)) : ∀ (kk : Nat) (y0 : Int32) (y1 : Int32) (y2 : Int32) (y3 : Int32) (y4 : Int32) (y5 : Int32) (y6 : Int32) (y7 : Int32) (s : (St)), FrC U0 s → Ok (fun r => FrC U0 r.2) (df_X9_nameAt_119 n g71 kk y0 y1 y2 y3 y4 y5 y6 y7 s) := fun kk => by
  induction kk with
  | zero => intros; exact ok_none
  | succ kk ih =>
    intro y0 y1 y2 y3 y4 y5 y6 y7 s hs
    exact ok_dF_X9_nameAt_119 n g71 (df_X9_nameAt_119 n g71 kk) y0 y1 y2 y3 y4 y5 y6 y7 hg71 ih s hs
theorem ok_df_X9_nameAt_114 {U0 : St} (n : Nat) (g71 : Int32 → Int32 → Int32 → Int32 → Int32 → (St) → Option (Int32 × (St))) (x1 : Int32) (x2 : Int32) (x3 : Int32) (x4 : Int32) (x5 : Int32) (x6 : Int32) (y0 : Int32) (hg71 : ∀ (y0 : Int32) (y1 : Int32) (y2 : Int32) (y3 : Int32) (y4 : Int32) (s : (St)), FrC U0 s → Ok (fun r => FrC U0 r.2) (g71 y0 y1 y2 y3 y4 s)) (s0 : St) (h0 : FrC U0 s0) : Ok (fun r => FrC U0 r.2) (df_X9_nameAt_114 n g71 x1 x2 x3 x4 x5 x6 y0 s0) := by
  unfold df_X9_nameAt_114
  exact ok_df_X9_nameAt_119 n g71 hg71 n (x1) (x2) (x3) (x4) (x5) (x6) (y0) (0) s0 h0
theorem ok_dF_X9_nameAt_71 {U0 : St} (n : Nat) (g71 : Int32 → Int32 → Int32 → Int32 → Int32 → (St) → Option (Int32 × (St))) (x1 : Int32) (x2 : Int32) (x3 : Int32) (x4 : Int32) (x5 : Int32) (hg71 : ∀ (y0 : Int32) (y1 : Int32) (y2 : Int32) (y3 : Int32) (y4 : Int32) (s : (St)), FrC U0 s → Ok (fun r => FrC U0 r.2) (g71 y0 y1 y2 y3 y4 s)) (s0 : St) (h0 : FrC U0 s0) : Ok (fun r => FrC U0 r.2) (dF_X9_nameAt_71 n g71 x1 x2 x3 x4 x5 s0) := by
  unfold dF_X9_nameAt_71
  exact ok_ite (fun hc => ok_df_X9_nameAt_194 n (x1) (x2) (x3) s0 h0) (fun _ => ok_ite (fun hc => ok_df_X9_nameAt_194 n (x1) (x2) (x3) s0 h0) (fun _ => ok_ck (ok_lv (fun z23 => ok_ck (ok_ite (fun hc => ok_df_X9_nameAt_114 n g71 (x1) (x2) (x3) (x4) (x5) (z23) (1) hg71 s0 h0) (fun _ => ok_df_X9_nameAt_114 n g71 (x1) (x2) (x3) (x4) (x5) (z23) (0) hg71 s0 h0))))))
theorem ok_df_X9_nameAt_71 {U0 : St} (n : Nat)  : ∀ (kk : Nat) (y0 : Int32) (y1 : Int32) (y2 : Int32) (y3 : Int32) (y4 : Int32) (s : (St)), FrC U0 s → Ok (fun r => FrC U0 r.2) (df_X9_nameAt_71 n  kk y0 y1 y2 y3 y4 s) := fun kk => by
  induction kk with
  | zero => intros; exact ok_none
  | succ kk ih =>
    intro y0 y1 y2 y3 y4 s hs
    exact ok_dF_X9_nameAt_71 n  (df_X9_nameAt_71 n  kk) y0 y1 y2 y3 y4  ih s hs
theorem ok_df_X9_nameAt_44 {U0 : St} (n : Nat) (x1 : Int32) (x2 : Int32) (x3 : Int32) (s0 : St) (h0 : FrC U0 s0) : Ok (fun r => FrC U0 r.2) (df_X9_nameAt_44 n x1 x2 x3 s0) := by
  unfold df_X9_nameAt_44
  exact ok_lv (fun z2 => ok_ck (ok_lv (fun z4 => ok_lv (fun z5 => ok_df_X9_nameAt_71 n  n (x1) (x2) (z2) (z4) (z5) s0 h0))))
theorem ok_dF_X9_nameAt_5 {U0 : St} (n : Nat) (g5 : Int32 → Int32 → Int32 → Int32 → (St) → Option (Int32 × (St))) (x1 : Int32) (x2 : Int32) (x3 : Int32) (x4 : Int32) (hg5 : ∀ (y0 : Int32) (y1 : Int32) (y2 : Int32) (y3 : Int32) (s : (St)), FrC U0 s → Ok (fun r => FrC U0 r.2) (g5 y0 y1 y2 y3 s)) (s0 : St) (h0 : FrC U0 s0) : Ok (fun r => FrC U0 r.2) (dF_X9_nameAt_5 n g5 x1 x2 x3 x4 s0) := by
  unfold dF_X9_nameAt_5
  exact ok_ite (fun hc => ok_df_X9_nameAt_44 n (x1) (x2) (x3) s0 h0) (fun _ => ok_o (ok_ite (fun hc => ok_df_X9_nameAt_44 n (x1) (x2) (x3) s0 h0) (fun _ => ok_o (ok_ck (ok_lv (fun z42 => ok_lv (fun z43 => hg5 (x1) (x2) (z42) (z43) s0 h0)))))))
theorem ok_df_X9_nameAt_5 {U0 : St} (n : Nat)  : ∀ (kk : Nat) (y0 : Int32) (y1 : Int32) (y2 : Int32) (y3 : Int32) (s : (St)), FrC U0 s → Ok (fun r => FrC U0 r.2) (df_X9_nameAt_5 n  kk y0 y1 y2 y3 s) := fun kk => by
  induction kk with
  | zero => intros; exact ok_none
  | succ kk ih =>
    intro y0 y1 y2 y3 s hs
    exact ok_dF_X9_nameAt_5 n  (df_X9_nameAt_5 n  kk) y0 y1 y2 y3  ih s hs
theorem ok_df_X9_nameAt_0 {U0 : St} (n : Nat) (v0 : Int32) (v1 : Int32) (s0 : St) (h0 : FrC U0 s0) : Ok (fun r => FrC U0 r.2) (df_X9_nameAt_0 n v0 v1 s0) := by
  unfold df_X9_nameAt_0
  exact ok_df_X9_nameAt_5 n  n (v0) (v1) (0) (0) s0 h0
theorem ok_df_X9_nameAt {U0 : St} (n : Nat) (v0 : Int32) (v1 : Int32) (s0 : St) (h0 : FrC U0 s0) : Ok (fun r => FrC U0 r.2) (df_X9_nameAt n v0 v1 s0) := by
  unfold df_X9_nameAt
  exact ok_df_X9_nameAt_0 n v0 v1 s0 h0
theorem ok_df_X9_isDefined_18 {U0 : St} (n : Nat) (y0 : Int32) (s0 : St) (h0 : FrC U0 s0) : Ok (fun r => FrC U0 r.2) (df_X9_isDefined_18 n y0 s0) := by
  unfold df_X9_isDefined_18
  exact ok_z (ok_some (h0))
theorem ok_df_X9_isDefined_0 {U0 : St} (n : Nat) (v0 : Int32) (s0 : St) (h0 : FrC U0 s0) : Ok (fun r => FrC U0 r.2) (df_X9_isDefined_0 n v0 s0) := by
  unfold df_X9_isDefined_0
  exact ok_ck (ok_ite (fun hc => ok_df_X9_isDefined_18 n (0) s0 h0) (fun _ => ok_df_X9_isDefined_18 n (1) s0 h0))
theorem ok_df_X9_isDefined {U0 : St} (n : Nat) (v0 : Int32) (s0 : St) (h0 : FrC U0 s0) : Ok (fun r => FrC U0 r.2) (df_X9_isDefined n v0 s0) := by
  unfold df_X9_isDefined
  exact ok_df_X9_isDefined_0 n v0 s0 h0
theorem ok_df_X9_addLabel_157 {U0 : St} (n : Nat) (x4 : Int32) (s0 : St) (h0 : FrC U0 s0) : Ok (fun r => FrC U0 r.2) (df_X9_addLabel_157 n x4 s0) := by
  unfold df_X9_addLabel_157
  exact ok_some (h0)
theorem ok_df_X9_addLabel_144 {U0 : St} (n : Nat) (x3 : Int32) (x4 : Int32) (s0 : St) (h0 : FrC U0 s0) : Ok (fun r => FrC U0 r.2) (df_X9_addLabel_144 n x3 x4 s0) := by
  unfold df_X9_addLabel_144
  exact ok_ck (ok_lcS ((fc_R (by decide) h0)) (fun s22 h1 => ok_df_X9_addLabel_157 n (x4) s22 h1))
theorem ok_df_X9_addLabel_87 {U0 : St} (n : Nat) (x3 : Int32) (x4 : Int32) (y1 : Int32) (y2 : Int32) (s0 : St) (h0 : FrC U0 s0) : Ok (fun r => FrC U0 r.2) (df_X9_addLabel_87 n x3 x4 y1 y2 s0) := by
  unfold df_X9_addLabel_87
  exact ok_ck (ok_lcS ((fc_R (by decide) h0)) (fun s13 h1 => ok_ite (fun hc => ok_df_X9_addLabel_157 n (x4) s13 h1) (fun _ => ok_ite (fun hc => ok_df_X9_addLabel_157 n (x4) s13 h1) (fun _ => ok_ck (ok_lv (fun z17 => ok_ite (fun hc => ok_ck (ok_lcS ((fc_R (by decide) h1)) (fun s24 h2 => ok_df_X9_addLabel_144 n (x3) (x4) s24 h2))) (fun _ => ok_ck (ok_lcS ((fc_R (by decide) h1)) (fun s20 h3 => ok_df_X9_addLabel_144 n (x3) (x4) s20 h3)))))))))
theorem ok_df_X9_addLabel_0 {U0 : St} (n : Nat) (v0 : Int32) (v1 : Int32) (v2 : Int32) (s0 : St) (h0 : FrC U0 s0) : Ok (fun r => FrC U0 r.2) (df_X9_addLabel_0 n v0 v1 v2 s0) := by
  unfold df_X9_addLabel_0
  exact ok_lv (fun z1 => ok_lcS ((fc_I (by decide) h0)) (fun s2 h1 => ok_ck (ok_lcS ((fc_R (by decide) h1)) (fun s4 h2 => ok_ck (ok_lcS ((fc_R (by decide) h2)) (fun s6 h3 => ok_ck (ok_lcS ((fc_R (by decide) h3)) (fun s8 h4 => ok_ck (ok_lcS ((fc_R (by decide) h4)) (fun s10 h5 => ok_ite (fun hc => ok_df_X9_addLabel_87 n (v2) (z1) (((z1 * 5) + 4)) (0) s10 h5) (fun _ => ok_df_X9_addLabel_87 n (v2) (z1) (((z1 * 5) + 4)) (1) s10 h5)))))))))))
theorem ok_df_X9_addLabel {U0 : St} (n : Nat) (v0 : Int32) (v1 : Int32) (v2 : Int32) (s0 : St) (h0 : FrC U0 s0) : Ok (fun r => FrC U0 r.2) (df_X9_addLabel n v0 v1 v2 s0) := by
  unfold df_X9_addLabel
  exact ok_df_X9_addLabel_0 n v0 v1 v2 s0 h0
theorem ok_df_X9_define_0 {U0 : St} (n : Nat) (v0 : Int32) (v1 : Int32) (v2 : Int32) (s0 : St) (h0 : FrC U0 s0) : Ok (fun r => FrC U0 r) (df_X9_define_0 n v0 v1 v2 s0) := by
  unfold df_X9_define_0
  exact ok_ck (ok_lcS ((fc_R (by decide) h0)) (fun s2 h1 => ok_ck (ok_lcS ((fc_R (by decide) h1)) (fun s4 h2 => ok_some (h2)))))
theorem ok_df_X9_define {U0 : St} (n : Nat) (v0 : Int32) (v1 : Int32) (v2 : Int32) (s0 : St) (h0 : FrC U0 s0) : Ok (fun r => FrC U0 r) (df_X9_define n v0 v1 v2 s0) := by
  unfold df_X9_define
  exact ok_df_X9_define_0 n v0 v1 v2 s0 h0
theorem ok_df_X1_readLabel_60 {U0 : St} (n : Nat)  (s0 : St × (St)) (h0 : FrC U0 s0.2) : Ok (fun r => FrC U0 r.2) (df_X1_readLabel_60 n  s0) := by
  unfold df_X1_readLabel_60
  exact ok_b1cP (ok_df_X1_blame n (4) s0 h0) (fun s13 h1 => ok_some (h1))
theorem ok_df_X1_readLabel_0 {U0 : St} (n : Nat) (v0 : Int32) (v1 : Int32) (v2 : Int32) (s0 : St × (St)) (h0 : FrC U0 s0.2) : Ok (fun r => FrC U0 r.2) (df_X1_readLabel_0 n v0 v1 v2 s0) := by
  unfold df_X1_readLabel_0
  exact ok_ite (fun hc => ok_b2cS (ok_df_X9_nameAt n (v0) (v1) s0.2 h0) (fun q2 s3 h1 => ok_lcP (h1) (fun s5 h2 => ok_o (ok_b2xS (ok_df_X7_registerAt n (v0) (v1) ((pR nd_st0 0 (sR s5.2 7))) (fc_x h2)) (fun q7 s8 h3 => ok_lcP ((fc_7 h3 h2)) (fun s10 h4 => ok_ite (fun hc => ok_df_X1_readLabel_60 n  s10 h4) (fun _ => ok_b2cS (ok_df_X9_isDefined n (q2) s10.2 h4) (fun q15 s16 h5 => ok_lcP (h5) (fun s18 h6 => ok_ite (fun hc => ok_b2cS (ok_df_X9_addLabel n ((sI s18.1 0)) ((sI s18.1 4)) ((-1)) s18.2 h6) (fun q20 s21 h7 => ok_lcP (h7) (fun s23 h8 => ok_b1cS (ok_df_X9_define n (q2) (2) (q20) s23.2 h8) (fun s25 h9 => ok_lcP (h9) (fun s27 h10 => ok_some (h10)))))) (fun _ => ok_df_X1_readLabel_60 n  s18 h6)))))))))) (fun _ => ok_b2cS (ok_df_X9_addLabel n ((sI s0.1 0)) ((sI s0.1 4)) (v2) s0.2 h0) (fun q28 s29 h11 => ok_lcP (h11) (fun s31 h12 => ok_some (h12))))
theorem ok_df_X1_readLabel {U0 : St} (n : Nat) (v0 : Int32) (v1 : Int32) (v2 : Int32) (s0 : St × (St)) (h0 : FrC U0 s0.2) : Ok (fun r => FrC U0 r.2) (df_X1_readLabel n v0 v1 v2 s0) := by
  unfold df_X1_readLabel
  exact ok_df_X1_readLabel_0 n v0 v1 v2 s0 h0
theorem ok_df_X1_statementNamed_130 {U0 : St} (n : Nat) (x4 : Option Nat) (s0 : St × (St)) (h0 : FrC U0 s0.2) : Ok (fun r => FrC U0 r.2.2) (df_X1_statementNamed_130 n x4 s0) := by
  unfold df_X1_statementNamed_130
  exact ok_m (ok_some (h0)) (fun j27 => ok_some (h0))
theorem ok_df_X1_statementNamed_122 {U0 : St} (n : Nat)  (s0 : St × (St)) (h0 : FrC U0 s0.2) : Ok (fun r => FrC U0 r.2.2) (df_X1_statementNamed_122 n  s0) := by
  unfold df_X1_statementNamed_122
  exact ok_b1cP (ok_df_X1_blame n (2) s0 h0) (fun s25 h1 => ok_df_X1_statementNamed_130 n (none) s25 h1)
theorem ok_df_X1_statementNamed_93 {U0 : St} (n : Nat) (y0 : Option Nat) (s0 : St × (St)) (h0 : FrC U0 s0.2) : Ok (fun r => FrC U0 r.2.2) (df_X1_statementNamed_93 n y0 s0) := by
  unfold df_X1_statementNamed_93
  exact ok_m (ok_df_X1_statementNamed_122 n  s0 h0) (fun j23 => ok_lt (ok_ite (fun hc => ok_lt (ok_ite (fun hc => ok_df_X1_statementNamed_130 n (some j23) s0 h0) (fun _ => ok_df_X1_statementNamed_122 n  s0 h0))) (fun _ => ok_df_X1_statementNamed_122 n  s0 h0)))
theorem ok_df_X1_statementNamed_65 {U0 : St} (n : Nat) (x1 : Int32) (x2 : Int32) (y0 : Int32) (s0 : St × (St)) (h0 : FrC U0 s0.2) : Ok (fun r => FrC U0 r.2.2) (df_X1_statementNamed_65 n x1 x2 y0 s0) := by
  unfold df_X1_statementNamed_65
  exact ok_ite (fun hc => ok_df_X1_statementNamed_93 n (none) s0 h0) (fun _ => ok_o (ok_b2xS (ok_df_X7_named n (x1) ((x2 - y0)) ((pR nd_st0 0 (sR s0.2 7))) (fc_x h0)) (fun q18 s19 h1 => ok_lcP ((fc_7 h1 h0)) (fun s21 h2 => ok_m (ok_df_X1_statementNamed_93 n (none) s21 h2) (fun j22 => ok_df_X1_statementNamed_93 n (some j22) s21 h2)))))
theorem ok_df_X1_statementNamed_0 {U0 : St} (n : Nat) (v0 : Int32) (v1 : Int32) (v2 : Int32) (s0 : St × (St)) (h0 : FrC U0 s0.2) : Ok (fun r => FrC U0 r.2.2) (df_X1_statementNamed_0 n v0 v1 v2 s0) := by
  unfold df_X1_statementNamed_0
  exact ok_ite (fun hc => ok_lcP (h0) (fun s2 h1 => ok_o (ok_b2xS (ok_df_X7_named n (v0) (v1) ((pR nd_st0 0 (sR s2.2 7))) (fc_x h1)) (fun q4 s5 h2 => ok_lcP ((fc_7 h2 h1)) (fun s7 h3 => ok_m (ok_o (ok_b2xS (ok_df_X7_order n (v0) (v1) ((pR nd_st0 0 (sR s7.2 7))) (fc_x h3)) (fun q10 s11 h4 => ok_lcP ((fc_7 h4 h3)) (fun s13 h5 => ok_lcP (h5) (fun s14 h6 => ok_ite (fun hc => ok_df_X1_statementNamed_65 n (v0) (v1) (5) s14 h6) (fun _ => ok_df_X1_statementNamed_65 n (v0) (v1) (3) s14 h6)))))) (fun j8 => ok_df_X1_statementNamed_130 n (some j8) s7 h3)))))) (fun _ => ok_b1cP (ok_df_X1_blame n (1) s0 h0) (fun s33 h7 => ok_some (h7)))
theorem ok_df_X1_statementNamed {U0 : St} (n : Nat) (v0 : Int32) (v1 : Int32) (v2 : Int32) (s0 : St × (St)) (h0 : FrC U0 s0.2) : Ok (fun r => FrC U0 r.2.2) (df_X1_statementNamed n v0 v1 v2 s0) := by
  unfold df_X1_statementNamed
  exact ok_df_X1_statementNamed_0 n v0 v1 v2 s0 h0
theorem ok_df_X1_readLine_160 {U0 : St} (n : Nat)  (s0 : St × (St)) (h0 : FrC U0 s0.2) : Ok (fun r => FrC U0 r.2.2) (df_X1_readLine_160 n  s0) := by
  unfold df_X1_readLine_160
  exact ok_some (h0)
theorem ok_df_X1_readLine_107 {U0 : St} (n : Nat) (g13 : Int32 → (St × (St)) → Option (Option Nat × (St × (St)))) (x3 : Int32) (x5 : Int32) (x6 : Int32) (x7 : Int32) (hg13 : ∀ (y0 : Int32) (s : (St × (St))), FrC U0 s.2 → Ok (fun r => FrC U0 r.2.2) (g13 y0 s)) (s0 : St × (St)) (h0 : FrC U0 s0.2) : Ok (fun r => FrC U0 r.2.2) (df_X1_readLine_107 n g13 x3 x5 x6 x7 s0) := by
  unfold df_X1_readLine_107
  exact ok_b1cS (ok_df_X9_next n  s0.2 h0) (fun s15 h1 => ok_lcP (h1) (fun s17 h2 => ok_b2cS (ok_df_X9_isSign n (58) s17.2 h2) (fun q18 s19 h3 => ok_lcP (h3) (fun s21 h4 => ok_ite (fun hc => ok_b2cP (ok_df_X1_statementNamed n (x5) (x6) (x7) s21 h4) (fun q31 s32 h5 => ok_m (ok_some (h5)) (fun j34 => ok_some (h5)))) (fun _ => ok_b1cP (ok_df_X1_readLabel n (x5) (x6) (x7) s21 h4) (fun s24 h6 => ok_b1cS (ok_df_X9_next n  s24.2 h6) (fun s27 h7 => ok_lcP (h7) (fun s29 h8 => ok_lv (fun z30 => hg13 (z30) s29 h8)))))))))
theorem ok_df_X1_readLine_87 {U0 : St} (n : Nat) (g13 : Int32 → (St × (St)) → Option (Option Nat × (St × (St)))) (x3 : Int32) (x4 : Int32) (x5 : Int32) (x6 : Int32) (y0 : Int32) (hg13 : ∀ (y0 : Int32) (s : (St × (St))), FrC U0 s.2 → Ok (fun r => FrC U0 r.2.2) (g13 y0 s)) (s0 : St × (St)) (h0 : FrC U0 s0.2) : Ok (fun r => FrC U0 r.2.2) (df_X1_readLine_87 n g13 x3 x4 x5 x6 y0 s0) := by
  unfold df_X1_readLine_87
  exact ok_ite (fun hc => ok_df_X1_readLine_107 n g13 (x3) (x5) (x6) (y0) hg13 s0 h0) (fun _ => ok_ite (fun hc => ok_df_X1_readLine_107 n g13 (x3) (x5) (x6) (y0) hg13 s0 h0) (fun _ => ok_b1cP (ok_df_X1_blame n (1) s0 h0) (fun s37 h1 => ok_some (h1))))
theorem ok_df_X1_readLine_86 {U0 : St} (n : Nat) (g13 : Int32 → (St × (St)) → Option (Option Nat × (St × (St)))) (x3 : Int32) (x4 : Int32) (x5 : Int32) (x6 : Int32) (hg13 : ∀ (y0 : Int32) (s : (St × (St))), FrC U0 s.2 → Ok (fun r => FrC U0 r.2.2) (g13 y0 s)) (s0 : St × (St)) (h0 : FrC U0 s0.2) : Ok (fun r => FrC U0 r.2.2) (df_X1_readLine_86 n g13 x3 x4 x5 x6 s0) := by
  unfold df_X1_readLine_86
  exact ok_df_X1_readLine_87 n g13 (x3) (x4) (x5) (x6) ((-1)) hg13 s0 h0
theorem ok_dF_X1_readLine_13 {U0 : St} (n : Nat) (g13 : Int32 → (St × (St)) → Option (Option Nat × (St × (St)))) (x3 : Int32) (hg13 : ∀ (y0 : Int32) (s : (St × (St))), FrC U0 s.2 → Ok (fun r => FrC U0 r.2.2) (g13 y0 s)) (s0 : St × (St)) (h0 : FrC U0 s0.2) : Ok (fun r => FrC U0 r.2.2) (dF_X1_readLine_13 n g13 x3 s0) := by
  unfold dF_X1_readLine_13
  exact ok_ite (fun hc => ok_df_X1_readLine_160 n  s0 h0) (fun _ => ok_ite (fun hc => ok_ite (fun hc => ok_df_X1_readLine_160 n  s0 h0) (fun _ => ok_lv (fun z9 => ok_lv (fun z10 => ok_lv (fun z11 => ok_ite (fun hc => ok_ite (fun hc => ok_df_X1_readLine_87 n g13 (x3) (z9) (z10) (z11) ((sI s0.2 4)) hg13 s0 h0) (fun _ => ok_df_X1_readLine_86 n g13 (x3) (z9) (z10) (z11) hg13 s0 h0)) (fun _ => ok_df_X1_readLine_86 n g13 (x3) (z9) (z10) (z11) hg13 s0 h0)))))) (fun _ => ok_df_X1_readLine_160 n  s0 h0))
theorem ok_df_X1_readLine_13 {U0 : St} (n : Nat)  : ∀ (kk : Nat) (y0 : Int32) (s : (St × (St))), FrC U0 s.2 → Ok (fun r => FrC U0 r.2.2) (df_X1_readLine_13 n  kk y0 s) := fun kk => by
  induction kk with
  | zero => intros; exact ok_none
  | succ kk ih =>
    intro y0 s hs
    exact ok_dF_X1_readLine_13 n  (df_X1_readLine_13 n  kk) y0  ih s hs
theorem ok_df_X1_readLine_0 {U0 : St} (n : Nat) (v0 : Int32) (v1 : Int32) (s0 : St × (St)) (h0 : FrC U0 s0.2) : Ok (fun r => FrC U0 r.2.2) (df_X1_readLine_0 n v0 v1 s0) := by
  unfold df_X1_readLine_0
  exact ok_b1cS (ok_df_X9_startLine n (v0) (v1) s0.2 h0) (fun s2 h1 => ok_lcP (h1) (fun s4 h2 => ok_lv (fun z5 => ok_df_X1_readLine_13 n  n (z5) s4 h2)))
theorem ok_df_X1_readLine {U0 : St} (n : Nat) (v0 : Int32) (v1 : Int32) (s0 : St × (St)) (h0 : FrC U0 s0.2) : Ok (fun r => FrC U0 r.2.2) (df_X1_readLine n v0 v1 s0) := by
  unfold df_X1_readLine
  exact ok_df_X1_readLine_0 n v0 v1 s0 h0
theorem ok_df_X1_expect_37 {U0 : St} (n : Nat)  (s0 : St × (St)) (h0 : FrC U0 s0.2) : Ok (fun r => FrC U0 r.2) (df_X1_expect_37 n  s0) := by
  unfold df_X1_expect_37
  exact ok_some (h0)
theorem ok_df_X1_expect_23 {U0 : St} (n : Nat)  (s0 : St × (St)) (h0 : FrC U0 s0.2) : Ok (fun r => FrC U0 r.2) (df_X1_expect_23 n  s0) := by
  unfold df_X1_expect_23
  exact ok_ite (fun hc => ok_b1cS (ok_df_X9_next n  s0.2 h0) (fun s4 h1 => ok_lcP (h1) (fun s6 h2 => ok_df_X1_expect_37 n  s6 h2))) (fun _ => ok_df_X1_expect_37 n  s0 h0)
theorem ok_df_X1_expect_0 {U0 : St} (n : Nat) (v0 : Int32) (s0 : St × (St)) (h0 : FrC U0 s0.2) : Ok (fun r => FrC U0 r.2) (df_X1_expect_0 n v0 s0) := by
  unfold df_X1_expect_0
  exact ok_ite (fun hc => ok_b2cS (ok_df_X9_isSign n (v0) s0.2 h0) (fun q7 s8 h1 => ok_lcP (h1) (fun s10 h2 => ok_ite (fun hc => ok_b1cP (ok_df_X1_blame n (1) s10 h2) (fun s13 h3 => ok_df_X1_expect_23 n  s13 h3)) (fun _ => ok_df_X1_expect_23 n  s10 h2)))) (fun _ => ok_df_X1_expect_23 n  s0 h0)
theorem ok_df_X1_expect {U0 : St} (n : Nat) (v0 : Int32) (s0 : St × (St)) (h0 : FrC U0 s0.2) : Ok (fun r => FrC U0 r.2) (df_X1_expect n v0 s0) := by
  unfold df_X1_expect
  exact ok_df_X1_expect_0 n v0 s0 h0
theorem ok_df_X1_fixed_33 {U0 : St} (n : Nat) (y1 : Int32) (s0 : St × (St)) (h0 : FrC U0 s0.2) : Ok (fun r => FrC U0 r.2.2) (df_X1_fixed_33 n y1 s0) := by
  unfold df_X1_fixed_33
  exact ok_b1cP (ok_df_X1_blame n (y1) s0 h0) (fun s5 h1 => ok_some (h1))
theorem ok_df_X1_fixed_23 {U0 : St} (n : Nat) (x1 : Int32) (s0 : St × (St)) (h0 : FrC U0 s0.2) : Ok (fun r => FrC U0 r.2.2) (df_X1_fixed_23 n x1 s0) := by
  unfold df_X1_fixed_23
  exact ok_ite (fun hc => ok_df_X1_fixed_33 n (5) s0 h0) (fun _ => ok_df_X1_fixed_33 n (1) s0 h0)
theorem ok_df_X1_fixed_94 {U0 : St} (n : Nat) (y1 : Int32) (s0 : St × (St)) (h0 : FrC U0 s0.2) : Ok (fun r => FrC U0 r.2.2) (df_X1_fixed_94 n y1 s0) := by
  unfold df_X1_fixed_94
  exact ok_b1cP (ok_df_X1_blame n (y1) s0 h0) (fun s15 h1 => ok_some (h1))
theorem ok_df_X1_fixed_71 {U0 : St} (n : Nat)  (s0 : St × (St)) (h0 : FrC U0 s0.2) : Ok (fun r => FrC U0 r.2.2) (df_X1_fixed_71 n  s0) := by
  unfold df_X1_fixed_71
  exact ok_ite (fun hc => ok_df_X1_fixed_94 n (6) s0 h0) (fun _ => ok_df_X1_fixed_94 n ((sI s0.2 11)) s0 h0)
theorem ok_df_X1_fixed_0 {U0 : St} (n : Nat) (v0 : Int32) (v1 : Int32) (v2 : Int32) (s0 : St × (St)) (h0 : FrC U0 s0.2) : Ok (fun r => FrC U0 r.2.2) (df_X1_fixed_0 n v0 v1 v2 s0) := by
  unfold df_X1_fixed_0
  exact ok_ite (fun hc => ok_ite (fun hc => ok_df_X1_fixed_23 n (v0) s0 h0) (fun _ => ok_ite (fun hc => ok_df_X1_fixed_23 n (v0) s0 h0) (fun _ => ok_b2cS (ok_df_X9_evaluate n (v0) (0) s0.2 h0) (fun q8 s9 h1 => ok_lcP (h1) (fun s11 h2 => ok_ite (fun hc => ok_ite (fun hc => ok_df_X1_fixed_71 n  s11 h2) (fun _ => ok_ite (fun hc => ok_some (h2)) (fun _ => ok_df_X1_fixed_71 n  s11 h2))) (fun _ => ok_df_X1_fixed_71 n  s11 h2)))))) (fun _ => ok_some (h0))
theorem ok_df_X1_fixed {U0 : St} (n : Nat) (v0 : Int32) (v1 : Int32) (v2 : Int32) (s0 : St × (St)) (h0 : FrC U0 s0.2) : Ok (fun r => FrC U0 r.2.2) (df_X1_fixed n v0 v1 v2 s0) := by
  unfold df_X1_fixed
  exact ok_df_X1_fixed_0 n v0 v1 v2 s0 h0
theorem ok_df_X9_emit_42 {U0 : St} (n : Nat)  (s0 : St) (h0 : FrC U0 s0) : Ok (fun r => FrC U0 r) (df_X9_emit_42 n  s0) := by
  unfold df_X9_emit_42
  exact ok_some (h0)
theorem ok_df_X9_emit_0 {U0 : St} (n : Nat) (v0 : Int32) (v1 : Int32) (s0 : St) (h0 : FrC U0 s0) : Ok (fun r => FrC U0 r) (df_X9_emit_0 n v0 v1 s0) := by
  unfold df_X9_emit_0
  exact ok_ite (fun hc => ok_df_X9_emit_42 n  s0 h0) (fun _ => ok_ck (ok_lcS ((fc_R (by decide) h0)) (fun s3 h1 => ok_ck (ok_lcS ((fc_R (by decide) h1)) (fun s5 h2 => ok_lcS ((fc_I (by decide) h2)) (fun s6 h3 => ok_df_X9_emit_42 n  s6 h3))))))
theorem ok_df_X9_emit {U0 : St} (n : Nat) (v0 : Int32) (v1 : Int32) (s0 : St) (h0 : FrC U0 s0) : Ok (fun r => FrC U0 r) (df_X9_emit n v0 v1 s0) := by
  unfold df_X9_emit
  exact ok_df_X9_emit_0 n v0 v1 s0 h0
theorem ok_df_X9_takeHalf_133 {U0 : St} (n : Nat)  (s0 : St) (h0 : FrC U0 s0) : Ok (fun r => FrC U0 r) (df_X9_takeHalf_133 n  s0) := by
  unfold df_X9_takeHalf_133
  exact ok_some (h0)
theorem ok_df_X9_takeHalf_130 {U0 : St} (n : Nat) (y1 : Int32) (s0 : St) (h0 : FrC U0 s0) : Ok (fun r => FrC U0 r) (df_X9_takeHalf_130 n y1 s0) := by
  unfold df_X9_takeHalf_130
  exact ok_lcS ((fc_I (by decide) h0)) (fun s4 h1 => ok_df_X9_takeHalf_133 n  s4 h1)
theorem ok_df_X9_takeHalf_128 {U0 : St} (n : Nat)  (s0 : St) (h0 : FrC U0 s0) : Ok (fun r => FrC U0 r) (df_X9_takeHalf_128 n  s0) := by
  unfold df_X9_takeHalf_128
  exact ok_df_X9_takeHalf_130 n (6) s0 h0
theorem ok_df_X9_takeHalf_90 {U0 : St} (n : Nat)  (s0 : St) (h0 : FrC U0 s0) : Ok (fun r => FrC U0 r) (df_X9_takeHalf_90 n  s0) := by
  unfold df_X9_takeHalf_90
  exact ok_ite (fun hc => ok_o (ok_b2xS (ok_df_X7_stands n (20) ((sI s0 3)) (((sI s0 0) - (sI s0 3))) ((pR nd_st0 0 (sR s0 7))) (fc_x h0)) (fun q7 s8 h1 => ok_lcS ((fc_7 h1 h0)) (fun s10 h2 => ok_ite (fun hc => ok_df_X9_takeHalf_128 n  s10 h2) (fun _ => ok_df_X9_takeHalf_130 n (4) s10 h2))))) (fun _ => ok_df_X9_takeHalf_128 n  s0 h0)
theorem ok_df_X9_takeHalf_43 {U0 : St} (n : Nat) (y1 : Int32) (s0 : St) (h0 : FrC U0 s0) : Ok (fun r => FrC U0 r) (df_X9_takeHalf_43 n y1 s0) := by
  unfold df_X9_takeHalf_43
  exact ok_lcS ((fc_I (by decide) h0)) (fun s28 h1 => ok_df_X9_takeHalf_133 n  s28 h1)
theorem ok_df_X9_takeHalf_24 {U0 : St} (n : Nat) (y1 : Int32) (s0 : St) (h0 : FrC U0 s0) : Ok (fun r => FrC U0 r) (df_X9_takeHalf_24 n y1 s0) := by
  unfold df_X9_takeHalf_24
  exact ok_b1cS (ok_df_X9_push n (y1) s0 h0) (fun s22 h1 => ok_b2cS (ok_df_X9_isSign n (40) s22 h1) (fun q24 s25 h2 => ok_ite (fun hc => ok_df_X9_takeHalf_43 n (6) s25 h2) (fun _ => ok_df_X9_takeHalf_43 n (0) s25 h2)))
theorem ok_df_X9_takeHalf_0 {U0 : St} (n : Nat)  (s0 : St) (h0 : FrC U0 s0) : Ok (fun r => FrC U0 r) (df_X9_takeHalf_0 n  s0) := by
  unfold df_X9_takeHalf_0
  exact ok_ite (fun hc => ok_ite (fun hc => ok_o (ok_b2xS (ok_df_X7_stands n (19) ((sI s0 3)) (((sI s0 0) - (sI s0 3))) ((pR nd_st0 0 (sR s0 7))) (fc_x h0)) (fun q14 s15 h1 => ok_lcS ((fc_7 h1 h0)) (fun s17 h2 => ok_ite (fun hc => ok_df_X9_takeHalf_90 n  s17 h2) (fun _ => ok_lcS ((fc_I (by decide) h2)) (fun s19 h3 => ok_df_X9_takeHalf_133 n  s19 h3)))))) (fun _ => ok_df_X9_takeHalf_90 n  s0 h0)) (fun _ => ok_ite (fun hc => ok_df_X9_takeHalf_24 n (13) s0 h0) (fun _ => ok_df_X9_takeHalf_24 n (14) s0 h0))
theorem ok_df_X9_takeHalf {U0 : St} (n : Nat)  (s0 : St) (h0 : FrC U0 s0) : Ok (fun r => FrC U0 r) (df_X9_takeHalf n  s0) := by
  unfold df_X9_takeHalf
  exact ok_df_X9_takeHalf_0 n  s0 h0
theorem ok_df_X9_popTo_69 {U0 : St} (n : Nat)  (s0 : St) (h0 : FrC U0 s0) : Ok (fun r => FrC U0 r) (df_X9_popTo_69 n  s0) := by
  unfold df_X9_popTo_69
  exact ok_some (h0)
theorem ok_dF_X9_popTo_0 {U0 : St} (n : Nat) (g0 : Int32 → (St) → Option (St)) (x1 : Int32) (hg0 : ∀ (y0 : Int32) (s : (St)), FrC U0 s → Ok (fun r => FrC U0 r) (g0 y0 s)) (s0 : St) (h0 : FrC U0 s0) : Ok (fun r => FrC U0 r) (dF_X9_popTo_0 n g0 x1 s0) := by
  unfold dF_X9_popTo_0
  exact ok_ite (fun hc => ok_df_X9_popTo_69 n  s0 h0) (fun _ => ok_ck (ok_ite (fun hc => ok_df_X9_popTo_69 n  s0 h0) (fun _ => ok_ck (ok_ck (ok_ite (fun hc => ok_df_X9_popTo_69 n  s0 h0) (fun _ => ok_lcS ((fc_I (by decide) h0)) (fun s8 h1 => ok_ck (ok_b1cS (ok_df_X9_emit n ((sR s8 2 (Int32.toNatClampNeg (sI s8 6)))) (0) s8 h1) (fun s11 h2 => hg0 (x1) s11 h2)))))))))
theorem ok_df_X9_popTo_0 {U0 : St} (n : Nat)  : ∀ (kk : Nat) (y0 : Int32) (s : (St)), FrC U0 s → Ok (fun r => FrC U0 r) (df_X9_popTo_0 n  kk y0 s) := fun kk => by
  induction kk with
  | zero => intros; exact ok_none
  | succ kk ih =>
    intro y0 s hs
    exact ok_dF_X9_popTo_0 n  (df_X9_popTo_0 n  kk) y0  ih s hs
theorem ok_df_X9_popTo {U0 : St} (n : Nat) (v0 : Int32) (s0 : St) (h0 : FrC U0 s0) : Ok (fun r => FrC U0 r) (df_X9_popTo n v0 s0) := by
  unfold df_X9_popTo
  exact ok_df_X9_popTo_0 n  n v0 s0 h0
theorem ok_df_X9_takeOperator_120 {U0 : St} (n : Nat)  (s0 : St) (h0 : FrC U0 s0) : Ok (fun r => FrC U0 r) (df_X9_takeOperator_120 n  s0) := by
  unfold df_X9_takeOperator_120
  exact ok_some (h0)
theorem ok_df_X9_takeOperator_19 {U0 : St} (n : Nat) (y0 : Int32) (s0 : St) (h0 : FrC U0 s0) : Ok (fun r => FrC U0 r) (df_X9_takeOperator_19 n y0 s0) := by
  unfold df_X9_takeOperator_19
  exact ok_ite (fun hc => ok_b1cS (ok_df_X9_popTo n (0) s0 h0) (fun s4 h1 => ok_ite (fun hc => ok_lcS ((fc_I (by decide) h1)) (fun s19 h2 => ok_df_X9_takeOperator_120 n  s19 h2)) (fun _ => ok_b2cS (ok_df_X9_isSign n (41) s4 h1) (fun q7 s8 h3 => ok_ite (fun hc => ok_lcS ((fc_I (by decide) h3)) (fun s11 h4 => ok_df_X9_takeOperator_120 n  s11 h4)) (fun _ => ok_lcS ((fc_I (by decide) h3)) (fun s12 h5 => ok_ck (ok_ite (fun hc => ok_df_X9_takeOperator_120 n  s12 h5) (fun _ => ok_ck (ok_b1cS (ok_df_X9_emit n ((sR s12 2 (Int32.toNatClampNeg (sI s12 6)))) (0) s12 h5) (fun s17 h6 => ok_df_X9_takeOperator_120 n  s17 h6)))))))))) (fun _ => ok_ck (ok_b1cS (ok_df_X9_popTo n ((tb_2 (Int32.toNatClampNeg y0))) s0 h0) (fun s23 h7 => ok_b1cS (ok_df_X9_push n (y0) s23 h7) (fun s26 h8 => ok_lcS ((fc_I (by decide) h8)) (fun s28 h9 => ok_some (h9))))))
theorem ok_df_X9_takeOperator_0 {U0 : St} (n : Nat)  (s0 : St) (h0 : FrC U0 s0) : Ok (fun r => FrC U0 r) (df_X9_takeOperator_0 n  s0) := by
  unfold df_X9_takeOperator_0
  exact ok_ite (fun hc => ok_n2 (fun q29 s30 => ok_df_X9_takeOperator_19 n (q29) s0 h0)) (fun _ => ok_df_X9_takeOperator_19 n (0) s0 h0)
theorem ok_df_X9_takeOperator {U0 : St} (n : Nat)  (s0 : St) (h0 : FrC U0 s0) : Ok (fun r => FrC U0 r) (df_X9_takeOperator n  s0) := by
  unfold df_X9_takeOperator
  exact ok_df_X9_takeOperator_0 n  s0 h0
theorem ok_df_X9_takeNear_66 {U0 : St} (n : Nat)  (s0 : St) (h0 : FrC U0 s0) : Ok (fun r => FrC U0 r) (df_X9_takeNear_66 n  s0) := by
  unfold df_X9_takeNear_66
  exact ok_some (h0)
theorem ok_df_X9_takeNear_63 {U0 : St} (n : Nat) (y1 : Int32) (y2 : Int32) (s0 : St) (h0 : FrC U0 s0) : Ok (fun r => FrC U0 r) (df_X9_takeNear_63 n y1 y2 s0) := by
  unfold df_X9_takeNear_63
  exact ok_b1cS (ok_df_X9_emit n (y1) (y2) s0 h0) (fun s9 h1 => ok_df_X9_takeNear_66 n  s9 h1)
theorem ok_df_X9_takeNear_0 {U0 : St} (n : Nat)  (s0 : St) (h0 : FrC U0 s0) : Ok (fun r => FrC U0 r) (df_X9_takeNear_0 n  s0) := by
  unfold df_X9_takeNear_0
  exact ok_lcS ((fc_B (Or.inl rfl) h0)) (fun s1 h1 => ok_ck (ok_lv (fun z3 => ok_o (ok_ck (ok_ite (fun hc => ok_b1cS (ok_df_X9_emit n (20) (z3) s1 h1) (fun s12 h2 => ok_df_X9_takeNear_66 n  s12 h2)) (fun _ => ok_ite (fun hc => ok_df_X9_takeNear_63 n (19) (((-1) - (sI s1 4))) s1 h1) (fun _ => ok_df_X9_takeNear_63 n (19) (z3) s1 h1)))))))
theorem ok_df_X9_takeNear {U0 : St} (n : Nat)  (s0 : St) (h0 : FrC U0 s0) : Ok (fun r => FrC U0 r) (df_X9_takeNear n  s0) := by
  unfold df_X9_takeNear
  exact ok_df_X9_takeNear_0 n  s0 h0
theorem ok_df_X9_takeOperand_253 {U0 : St} (n : Nat)  (s0 : St) (h0 : FrC U0 s0) : Ok (fun r => FrC U0 r) (df_X9_takeOperand_253 n  s0) := by
  unfold df_X9_takeOperand_253
  exact ok_some (h0)
theorem ok_df_X9_takeOperand_250 {U0 : St} (n : Nat) (y1 : Int32) (s0 : St) (h0 : FrC U0 s0) : Ok (fun r => FrC U0 r) (df_X9_takeOperand_250 n y1 s0) := by
  unfold df_X9_takeOperand_250
  exact ok_lcS ((fc_I (by decide) h0)) (fun s11 h1 => ok_df_X9_takeOperand_253 n  s11 h1)
theorem ok_df_X9_takeOperand_234 {U0 : St} (n : Nat)  (s0 : St) (h0 : FrC U0 s0) : Ok (fun r => FrC U0 r) (df_X9_takeOperand_234 n  s0) := by
  unfold df_X9_takeOperand_234
  exact ok_b2cS (ok_df_X9_isSign n (37) s0 h0) (fun q7 s8 h1 => ok_ite (fun hc => ok_df_X9_takeOperand_250 n (6) s8 h1) (fun _ => ok_df_X9_takeOperand_250 n (2) s8 h1))
theorem ok_df_X9_takeOperand_223 {U0 : St} (n : Nat) (y1 : Int32) (s0 : St) (h0 : FrC U0 s0) : Ok (fun r => FrC U0 r) (df_X9_takeOperand_223 n y1 s0) := by
  unfold df_X9_takeOperand_223
  exact ok_b1cS (ok_df_X9_push n (y1) s0 h0) (fun s16 h1 => ok_lcS ((fc_I (by decide) h1)) (fun s18 h2 => ok_df_X9_takeOperand_253 n  s18 h2))
theorem ok_df_X9_takeOperand_192 {U0 : St} (n : Nat)  (s0 : St) (h0 : FrC U0 s0) : Ok (fun r => FrC U0 r) (df_X9_takeOperand_192 n  s0) := by
  unfold df_X9_takeOperand_192
  exact ok_ite (fun hc => ok_df_X9_takeOperand_223 n (11) s0 h0) (fun _ => ok_ite (fun hc => ok_df_X9_takeOperand_223 n (12) s0 h0) (fun _ => ok_df_X9_takeOperand_223 n (15) s0 h0))
theorem ok_df_X9_takeOperand_129 {U0 : St} (n : Nat) (x1 : Int32) (y1 : Int32) (s0 : St) (h0 : FrC U0 s0) : Ok (fun r => FrC U0 r) (df_X9_takeOperand_129 n x1 y1 s0) := by
  unfold df_X9_takeOperand_129
  exact ok_f (fun hf1 => ok_z (ok_lcS ((fc_B (b01_f hf1) h0)) (fun s30 h2 => ok_b1cS (ok_df_X9_emit n (17) (x1) s30 h2) (fun s32 h3 => ok_df_X9_takeOperand_253 n  s32 h3))))
theorem ok_df_X9_takeOperand_128 {U0 : St} (n : Nat) (x1 : Int32) (s0 : St) (h0 : FrC U0 s0) : Ok (fun r => FrC U0 r) (df_X9_takeOperand_128 n x1 s0) := by
  unfold df_X9_takeOperand_128
  exact ok_df_X9_takeOperand_129 n (x1) (0) s0 h0
theorem ok_df_X9_takeOperand_76 {U0 : St} (n : Nat)  (s0 : St) (h0 : FrC U0 s0) : Ok (fun r => FrC U0 r) (df_X9_takeOperand_76 n  s0) := by
  unfold df_X9_takeOperand_76
  exact ok_ite (fun hc => ok_b2cS (ok_df_X9_nameAt n ((sI s0 3)) (((sI s0 0) - (sI s0 3))) s0 h0) (fun q24 s25 h1 => ok_ite (fun hc => ok_df_X9_takeOperand_128 n (q24) s25 h1) (fun _ => ok_ck (ok_ite (fun hc => ok_df_X9_takeOperand_129 n (q24) (1) s25 h1) (fun _ => ok_df_X9_takeOperand_128 n (q24) s25 h1))))) (fun _ => ok_ite (fun hc => ok_b1cS (ok_df_X9_takeNear n  s0 h0) (fun s22 h2 => ok_df_X9_takeOperand_253 n  s22 h2)) (fun _ => ok_ite (fun hc => ok_ite (fun hc => ok_df_X9_takeOperand_192 n  s0 h0) (fun _ => ok_ite (fun hc => ok_df_X9_takeOperand_192 n  s0 h0) (fun _ => ok_ite (fun hc => ok_df_X9_takeOperand_192 n  s0 h0) (fun _ => ok_df_X9_takeOperand_234 n  s0 h0)))) (fun _ => ok_df_X9_takeOperand_234 n  s0 h0)))
theorem ok_df_X9_takeOperand_0 {U0 : St} (n : Nat)  (s0 : St) (h0 : FrC U0 s0) : Ok (fun r => FrC U0 r) (df_X9_takeOperand_0 n  s0) := by
  unfold df_X9_takeOperand_0
  exact ok_lcS ((fc_I (by decide) h0)) (fun s1 h1 => ok_ite (fun hc => ok_b1cS (ok_df_X9_emit n (16) ((sI s1 4)) s1 h1) (fun s45 h2 => ok_df_X9_takeOperand_253 n  s45 h2)) (fun _ => ok_ite (fun hc => ok_ite (fun hc => ok_o (ok_ck (ok_ite (fun hc => ok_lcS ((fc_B (Or.inl rfl) h1)) (fun s40 h3 => ok_b1cS (ok_df_X9_emit n (18) (0) s40 h3) (fun s42 h4 => ok_df_X9_takeOperand_253 n  s42 h4))) (fun _ => ok_df_X9_takeOperand_76 n  s1 h1)))) (fun _ => ok_df_X9_takeOperand_76 n  s1 h1)) (fun _ => ok_df_X9_takeOperand_76 n  s1 h1)))
theorem ok_df_X9_takeOperand {U0 : St} (n : Nat)  (s0 : St) (h0 : FrC U0 s0) : Ok (fun r => FrC U0 r) (df_X9_takeOperand n  s0) := by
  unfold df_X9_takeOperand
  exact ok_df_X9_takeOperand_0 n  s0 h0
theorem ok_df_X9_sum_127 {U0 : St} (n : Nat) (y0 : Int32) (s0 : St) (h0 : FrC U0 s0) : Ok (fun r => FrC U0 r.2) (df_X9_sum_127 n y0 s0) := by
  unfold df_X9_sum_127
  exact ok_some (h0)
theorem ok_df_X9_sum_107 {U0 : St} (n : Nat) (x1 : Int32) (s0 : St) (h0 : FrC U0 s0) : Ok (fun r => FrC U0 r.2) (df_X9_sum_107 n x1 s0) := by
  unfold df_X9_sum_107
  exact ok_b1cS (ok_df_X9_emit n (21) (0) s0 h0) (fun s8 h1 => ok_ite (fun hc => ok_df_X9_sum_127 n (x1) s8 h1) (fun _ => ok_df_X9_sum_127 n ((-1)) s8 h1))
theorem ok_df_X9_sum_101 {U0 : St} (n : Nat) (g26 : Int32 → Int32 → (St) → Option (Int32 × (St))) (x1 : Int32) (x2 : Int32) (hg26 : ∀ (y0 : Int32) (y1 : Int32) (s : (St)), FrC U0 s → Ok (fun r => FrC U0 r.2) (g26 y0 y1 s)) (s0 : St) (h0 : FrC U0 s0) : Ok (fun r => FrC U0 r.2) (df_X9_sum_101 n g26 x1 x2 s0) := by
  unfold df_X9_sum_101
  exact ok_lv (fun z19 => hg26 (x1) (z19) s0 h0)
theorem ok_df_X9_sum_80 {U0 : St} (n : Nat) (g26 : Int32 → Int32 → (St) → Option (Int32 × (St))) (x1 : Int32) (x2 : Int32) (hg26 : ∀ (y0 : Int32) (y1 : Int32) (s : (St)), FrC U0 s → Ok (fun r => FrC U0 r.2) (g26 y0 y1 s)) (s0 : St) (h0 : FrC U0 s0) : Ok (fun r => FrC U0 r.2) (df_X9_sum_80 n g26 x1 x2 s0) := by
  unfold df_X9_sum_80
  exact ok_ite (fun hc => ok_df_X9_sum_101 n g26 (x1) (x2) hg26 s0 h0) (fun _ => ok_ite (fun hc => ok_df_X9_sum_101 n g26 (x1) (x2) hg26 s0 h0) (fun _ => ok_b1cS (ok_df_X9_next n  s0 h0) (fun s22 h1 => ok_df_X9_sum_101 n g26 (x1) (x2) hg26 s22 h1)))
theorem ok_dF_X9_sum_26 {U0 : St} (n : Nat) (g26 : Int32 → Int32 → (St) → Option (Int32 × (St))) (x1 : Int32) (x2 : Int32) (hg26 : ∀ (y0 : Int32) (y1 : Int32) (s : (St)), FrC U0 s → Ok (fun r => FrC U0 r.2) (g26 y0 y1 s)) (s0 : St) (h0 : FrC U0 s0) : Ok (fun r => FrC U0 r.2) (dF_X9_sum_26 n g26 x1 x2 s0) := by
  unfold dF_X9_sum_26
  exact ok_ite (fun hc => ok_df_X9_sum_107 n (x1) s0 h0) (fun _ => ok_ite (fun hc => ok_df_X9_sum_107 n (x1) s0 h0) (fun _ => ok_ite (fun hc => ok_df_X9_sum_107 n (x1) s0 h0) (fun _ => ok_ite (fun hc => ok_b1cS (ok_df_X9_takeOperand n  s0 h0) (fun s28 h1 => ok_df_X9_sum_80 n g26 (x1) (x2) hg26 s28 h1)) (fun _ => ok_ite (fun hc => ok_b1cS (ok_df_X9_takeOperator n  s0 h0) (fun s25 h2 => ok_df_X9_sum_80 n g26 (x1) (x2) hg26 s25 h2)) (fun _ => ok_b1cS (ok_df_X9_takeHalf n  s0 h0) (fun s16 h3 => ok_df_X9_sum_80 n g26 (x1) (x2) hg26 s16 h3))))))
theorem ok_df_X9_sum_26 {U0 : St} (n : Nat)  : ∀ (kk : Nat) (y0 : Int32) (y1 : Int32) (s : (St)), FrC U0 s → Ok (fun r => FrC U0 r.2) (df_X9_sum_26 n  kk y0 y1 s) := fun kk => by
  induction kk with
  | zero => intros; exact ok_none
  | succ kk ih =>
    intro y0 y1 s hs
    exact ok_dF_X9_sum_26 n  (df_X9_sum_26 n  kk) y0 y1  ih s hs
theorem ok_df_X9_sum_0 {U0 : St} (n : Nat)  (s0 : St) (h0 : FrC U0 s0) : Ok (fun r => FrC U0 r.2) (df_X9_sum_0 n  s0) := by
  unfold df_X9_sum_0
  exact ok_lv (fun z1 => ok_lcS ((fc_I (by decide) h0)) (fun s2 h1 => ok_lcS ((fc_B (Or.inr rfl) h1)) (fun s3 h2 => ok_lcS ((fc_I (by decide) h2)) (fun s4 h3 => ok_o (ok_df_X9_sum_26 n  n (z1) (32768) s4 h3)))))
theorem ok_df_X9_sum {U0 : St} (n : Nat)  (s0 : St) (h0 : FrC U0 s0) : Ok (fun r => FrC U0 r.2) (df_X9_sum n  s0) := by
  unfold df_X9_sum
  exact ok_df_X9_sum_0 n  s0 h0
theorem ok_df_X1_readConstant_81 {U0 : St} (n : Nat)  (s0 : St × (St)) (h0 : FrC U0 s0.2) : Ok (fun r => FrC U0 r.2) (df_X1_readConstant_81 n  s0) := by
  unfold df_X1_readConstant_81
  exact ok_b1cP (ok_df_X1_blame n (4) s0 h0) (fun s14 h1 => ok_some (h1))
theorem ok_df_X1_readConstant_158 {U0 : St} (n : Nat)  (s0 : St × (St)) (h0 : FrC U0 s0.2) : Ok (fun r => FrC U0 r.2) (df_X1_readConstant_158 n  s0) := by
  unfold df_X1_readConstant_158
  exact ok_some (h0)
theorem ok_df_X1_readConstant_118 {U0 : St} (n : Nat) (x2 : Int32) (y0 : Int32) (s0 : St × (St)) (h0 : FrC U0 s0.2) : Ok (fun r => FrC U0 r.2) (df_X1_readConstant_118 n x2 y0 s0) := by
  unfold df_X1_readConstant_118
  exact ok_b2cP (ok_df_X1_fixed n (y0) ((-2147483648)) (2147483647) s0 h0) (fun q29 s30 h1 => ok_ite (fun hc => ok_b1cS (ok_df_X9_define n (x2) (1) (q29) s30.2 h1) (fun s34 h2 => ok_lcP (h2) (fun s36 h3 => ok_lcP (h3) (fun s37 h4 => ok_df_X1_readConstant_158 n  s37 h4)))) (fun _ => ok_df_X1_readConstant_158 n  s30 h1))
theorem ok_df_X1_readConstant_0 {U0 : St} (n : Nat)  (s0 : St × (St)) (h0 : FrC U0 s0.2) : Ok (fun r => FrC U0 r.2) (df_X1_readConstant_0 n  s0) := by
  unfold df_X1_readConstant_0
  exact ok_ite (fun hc => ok_lv (fun z2 => ok_b2cS (ok_df_X9_nameAt n ((sI s0.2 3)) (z2) s0.2 h0) (fun q3 s4 h1 => ok_lcP (h1) (fun s6 h2 => ok_o (ok_b2xS (ok_df_X7_registerAt n ((sI s6.2 3)) (z2) ((pR nd_st0 0 (sR s6.2 7))) (fc_x h2)) (fun q8 s9 h3 => ok_lcP ((fc_7 h3 h2)) (fun s11 h4 => ok_ite (fun hc => ok_df_X1_readConstant_81 n  s11 h4) (fun _ => ok_b2cS (ok_df_X9_isDefined n (q3) s11.2 h4) (fun q16 s17 h5 => ok_lcP (h5) (fun s19 h6 => ok_ite (fun hc => ok_b1cS (ok_df_X9_next n  s19.2 h6) (fun s22 h7 => ok_lcP (h7) (fun s24 h8 => ok_b1cP (ok_df_X1_expect n (44) s24 h8) (fun s26 h9 => ok_ite (fun hc => ok_b2cS (ok_df_X9_sum n  s26.2 h9) (fun q38 s39 h10 => ok_lcP (h10) (fun s41 h11 => ok_df_X1_readConstant_118 n (q3) (q38) s41 h11))) (fun _ => ok_df_X1_readConstant_118 n (q3) (0) s26 h9))))) (fun _ => ok_df_X1_readConstant_81 n  s19 h6))))))))))) (fun _ => ok_b1cP (ok_df_X1_blame n (1) s0 h0) (fun s43 h12 => ok_some (h12)))
theorem ok_df_X1_readConstant {U0 : St} (n : Nat)  (s0 : St × (St)) (h0 : FrC U0 s0.2) : Ok (fun r => FrC U0 r.2) (df_X1_readConstant n  s0) := by
  unfold df_X1_readConstant
  exact ok_df_X1_readConstant_0 n  s0 h0
theorem ok_df_X1_add_17 {U0 : St} (n : Nat)  (s0 : St × (St)) (h0 : FrC U0 s0.2) : Ok (fun r => FrC U0 r.2) (df_X1_add_17 n  s0) := by
  unfold df_X1_add_17
  exact ok_some (h0)
theorem ok_df_X1_add_0 {U0 : St} (n : Nat) (v0 : Int32) (v1 : Int32) (v2 : Int32) (v3 : Int32) (s0 : St × (St)) (h0 : FrC U0 s0.2) : Ok (fun r => FrC U0 r.2) (df_X1_add_0 n v0 v1 v2 v3 s0) := by
  unfold df_X1_add_0
  exact ok_ite (fun hc => ok_ite (fun hc => ok_lv (fun z3 => ok_ck (ok_lcP (h0) (fun s5 h1 => ok_ck (ok_lcP (h1) (fun s7 h2 => ok_ck (ok_lcP (h2) (fun s9 h3 => ok_ck (ok_lcP (h3) (fun s11 h4 => ok_ck (ok_lcP (h4) (fun s13 h5 => ok_ck (ok_lcP (h5) (fun s15 h6 => ok_ck (ok_lcP (h6) (fun s17 h7 => ok_ck (ok_lcP (h7) (fun s19 h8 => ok_lcP (h8) (fun s20 h9 => ok_some (h9)))))))))))))))))))) (fun _ => ok_df_X1_add_17 n  s0 h0)) (fun _ => ok_df_X1_add_17 n  s0 h0)
theorem ok_df_X1_add {U0 : St} (n : Nat) (v0 : Int32) (v1 : Int32) (v2 : Int32) (v3 : Int32) (s0 : St × (St)) (h0 : FrC U0 s0.2) : Ok (fun r => FrC U0 r.2) (df_X1_add n v0 v1 v2 v3 s0) := by
  unfold df_X1_add
  exact ok_df_X1_add_0 n v0 v1 v2 v3 s0 h0
theorem ok_df_X1_readList_78 {U0 : St} (n : Nat) (x1 : Int32) (x2 : Int32) (x3 : Int32) (s0 : St × (St)) (h0 : FrC U0 s0.2) : Ok (fun r => FrC U0 r.2) (df_X1_readList_78 n x1 x2 x3 s0) := by
  unfold df_X1_readList_78
  exact ok_b1cP (ok_df_X1_add n (5) ((x3 * x1)) (x1) (x2) s0 h0) (fun s5 h1 => ok_some (h1))
theorem ok_df_X1_readList_47 {U0 : St} (n : Nat) (g20 : Int32 → Int32 → Int32 → Int32 → (St × (St)) → Option (St × (St))) (x1 : Int32) (x2 : Int32) (x3 : Int32) (x4 : Int32) (hg20 : ∀ (y0 : Int32) (y1 : Int32) (y2 : Int32) (y3 : Int32) (s : (St × (St))), FrC U0 s.2 → Ok (fun r => FrC U0 r.2) (g20 y0 y1 y2 y3 s)) (s0 : St × (St)) (h0 : FrC U0 s0.2) : Ok (fun r => FrC U0 r.2) (df_X1_readList_47 n g20 x1 x2 x3 x4 s0) := by
  unfold df_X1_readList_47
  exact ok_lv (fun z13 => ok_b2cS (ok_df_X9_isSign n (44) s0.2 h0) (fun q14 s15 h1 => ok_lcP (h1) (fun s17 h2 => ok_ite (fun hc => ok_df_X1_readList_78 n (x1) (x2) (z13) s17 h2) (fun _ => ok_b1cS (ok_df_X9_next n  s17.2 h2) (fun s20 h3 => ok_lcP (h3) (fun s22 h4 => ok_lv (fun z23 => hg20 (x1) (x2) (z13) (z23) s22 h4)))))))
theorem ok_dF_X1_readList_20 {U0 : St} (n : Nat) (g20 : Int32 → Int32 → Int32 → Int32 → (St × (St)) → Option (St × (St))) (x1 : Int32) (x2 : Int32) (x3 : Int32) (x4 : Int32) (hg20 : ∀ (y0 : Int32) (y1 : Int32) (y2 : Int32) (y3 : Int32) (s : (St × (St))), FrC U0 s.2 → Ok (fun r => FrC U0 r.2) (g20 y0 y1 y2 y3 s)) (s0 : St × (St)) (h0 : FrC U0 s0.2) : Ok (fun r => FrC U0 r.2) (dF_X1_readList_20 n g20 x1 x2 x3 x4 s0) := by
  unfold dF_X1_readList_20
  exact ok_ite (fun hc => ok_df_X1_readList_78 n (x1) (x2) (x3) s0 h0) (fun _ => ok_ite (fun hc => ok_b2cS (ok_df_X9_sum n  s0.2 h0) (fun q8 s9 h1 => ok_lcP (h1) (fun s11 h2 => ok_ite (fun hc => ok_df_X1_readList_47 n g20 (x1) (x2) (x3) (x4) hg20 s11 h2) (fun _ => ok_b1cP (ok_df_X1_blame n (1) s11 h2) (fun s25 h3 => ok_df_X1_readList_47 n g20 (x1) (x2) (x3) (x4) hg20 s25 h3))))) (fun _ => ok_df_X1_readList_78 n (x1) (x2) (x3) s0 h0))
theorem ok_df_X1_readList_20 {U0 : St} (n : Nat)  : ∀ (kk : Nat) (y0 : Int32) (y1 : Int32) (y2 : Int32) (y3 : Int32) (s : (St × (St))), FrC U0 s.2 → Ok (fun r => FrC U0 r.2) (df_X1_readList_20 n  kk y0 y1 y2 y3 s) := fun kk => by
  induction kk with
  | zero => intros; exact ok_none
  | succ kk ih =>
    intro y0 y1 y2 y3 s hs
    exact ok_dF_X1_readList_20 n  (df_X1_readList_20 n  kk) y0 y1 y2 y3  ih s hs
theorem ok_df_X1_readList_0 {U0 : St} (n : Nat) (v0 : Int32) (s0 : St × (St)) (h0 : FrC U0 s0.2) : Ok (fun r => FrC U0 r.2) (df_X1_readList_0 n v0 s0) := by
  unfold df_X1_readList_0
  exact ok_lv (fun z1 => ok_o (ok_df_X1_readList_20 n  n (v0) (z1) (0) (32768) s0 h0))
theorem ok_df_X1_readList {U0 : St} (n : Nat) (v0 : Int32) (s0 : St × (St)) (h0 : FrC U0 s0.2) : Ok (fun r => FrC U0 r.2) (df_X1_readList n v0 s0) := by
  unfold df_X1_readList
  exact ok_df_X1_readList_0 n v0 s0 h0
theorem ok_df_X1_keepLetter_33 {U0 : St} (n : Nat)  (s0 : St × (St)) (h0 : FrC U0 s0.2) : Ok (fun r => FrC U0 r.2) (df_X1_keepLetter_33 n  s0) := by
  unfold df_X1_keepLetter_33
  exact ok_some (h0)
theorem ok_df_X1_keepLetter_0 {U0 : St} (n : Nat) (v0 : Int32) (s0 : St × (St)) (h0 : FrC U0 s0.2) : Ok (fun r => FrC U0 r.2) (df_X1_keepLetter_0 n v0 s0) := by
  unfold df_X1_keepLetter_0
  exact ok_ite (fun hc => ok_df_X1_keepLetter_33 n  s0 h0) (fun _ => ok_ck (ok_lcP (h0) (fun s3 h1 => ok_lcP (h1) (fun s4 h2 => ok_df_X1_keepLetter_33 n  s4 h2))))
theorem ok_df_X1_keepLetter {U0 : St} (n : Nat) (v0 : Int32) (s0 : St × (St)) (h0 : FrC U0 s0.2) : Ok (fun r => FrC U0 r.2) (df_X1_keepLetter n v0 s0) := by
  unfold df_X1_keepLetter
  exact ok_df_X1_keepLetter_0 n v0 s0 h0
theorem ok_dF_X1_keepText_10 {U0 : St} (n : Nat) (g10 : Int32 → (St × (St)) → Option (St × (St))) (x1 : Int32) (hg10 : ∀ (y0 : Int32) (s : (St × (St))), FrC U0 s.2 → Ok (fun r => FrC U0 r.2) (g10 y0 s)) (s0 : St × (St)) (h0 : FrC U0 s0.2) : Ok (fun r => FrC U0 r.2) (dF_X1_keepText_10 n g10 x1 s0) := by
  unfold dF_X1_keepText_10
  exact ok_ite (fun hc => ok_some (h0)) (fun _ => ok_b2cS (ok_df_X9_character n (x1) (34) s0.2 h0) (fun q3 s4 h1 => ok_lcP (h1) (fun s6 h2 => ok_b1cP (ok_df_X1_keepLetter n (q3) s6 h2) (fun s8 h3 => ok_b2cS (ok_df_X9_width n (x1) s8.2 h3) (fun q10 s11 h4 => ok_lcP (h4) (fun s13 h5 => ok_lv (fun z14 => hg10 (z14) s13 h5)))))))
theorem ok_df_X1_keepText_10 {U0 : St} (n : Nat)  : ∀ (kk : Nat) (y0 : Int32) (s : (St × (St))), FrC U0 s.2 → Ok (fun r => FrC U0 r.2) (df_X1_keepText_10 n  kk y0 s) := fun kk => by
  induction kk with
  | zero => intros; exact ok_none
  | succ kk ih =>
    intro y0 s hs
    exact ok_dF_X1_keepText_10 n  (df_X1_keepText_10 n  kk) y0  ih s hs
theorem ok_df_X1_keepText_0 {U0 : St} (n : Nat)  (s0 : St × (St)) (h0 : FrC U0 s0.2) : Ok (fun r => FrC U0 r.2) (df_X1_keepText_0 n  s0) := by
  unfold df_X1_keepText_0
  exact ok_lv (fun z1 => ok_df_X1_keepText_10 n  n (z1) s0 h0)
theorem ok_df_X1_keepText {U0 : St} (n : Nat)  (s0 : St × (St)) (h0 : FrC U0 s0.2) : Ok (fun r => FrC U0 r.2) (df_X1_keepText n  s0) := by
  unfold df_X1_keepText
  exact ok_df_X1_keepText_0 n  s0 h0
theorem ok_df_X1_readTexts_90 {U0 : St} (n : Nat) (x2 : Int32) (s0 : St × (St)) (h0 : FrC U0 s0.2) : Ok (fun r => FrC U0 r.2) (df_X1_readTexts_90 n x2 s0) := by
  unfold df_X1_readTexts_90
  exact ok_b1cP (ok_df_X1_add n (6) (((sI s0.1 1) - x2)) (0) (x2) s0 h0) (fun s5 h1 => ok_some (h1))
theorem ok_df_X1_readTexts_55 {U0 : St} (n : Nat) (g14 : Int32 → Int32 → Int32 → (St × (St)) → Option (St × (St))) (x1 : Int32) (x2 : Int32) (x3 : Int32) (hg14 : ∀ (y0 : Int32) (y1 : Int32) (y2 : Int32) (s : (St × (St))), FrC U0 s.2 → Ok (fun r => FrC U0 r.2) (g14 y0 y1 y2 s)) (s0 : St × (St)) (h0 : FrC U0 s0.2) : Ok (fun r => FrC U0 r.2) (df_X1_readTexts_55 n g14 x1 x2 x3 s0) := by
  unfold df_X1_readTexts_55
  exact ok_b1cS (ok_df_X9_next n  s0.2 h0) (fun s14 h1 => ok_lcP (h1) (fun s16 h2 => ok_b2cS (ok_df_X9_isSign n (44) s16.2 h2) (fun q17 s18 h3 => ok_lcP (h3) (fun s20 h4 => ok_ite (fun hc => ok_df_X1_readTexts_90 n (x2) s20 h4) (fun _ => ok_b1cS (ok_df_X9_next n  s20.2 h4) (fun s23 h5 => ok_lcP (h5) (fun s25 h6 => ok_lv (fun z26 => hg14 (x1) (x2) (z26) s25 h6))))))))
theorem ok_dF_X1_readTexts_14 {U0 : St} (n : Nat) (g14 : Int32 → Int32 → Int32 → (St × (St)) → Option (St × (St))) (x1 : Int32) (x2 : Int32) (x3 : Int32) (hg14 : ∀ (y0 : Int32) (y1 : Int32) (y2 : Int32) (s : (St × (St))), FrC U0 s.2 → Ok (fun r => FrC U0 r.2) (g14 y0 y1 y2 s)) (s0 : St × (St)) (h0 : FrC U0 s0.2) : Ok (fun r => FrC U0 r.2) (dF_X1_readTexts_14 n g14 x1 x2 x3 s0) := by
  unfold dF_X1_readTexts_14
  exact ok_ite (fun hc => ok_df_X1_readTexts_90 n (x2) s0 h0) (fun _ => ok_ite (fun hc => ok_ite (fun hc => ok_b1cP (ok_df_X1_keepText n  s0 h0) (fun s10 h1 => ok_ite (fun hc => ok_df_X1_readTexts_55 n g14 (x1) (x2) (x3) hg14 s10 h1) (fun _ => ok_b1cP (ok_df_X1_keepLetter n (0) s10 h1) (fun s28 h2 => ok_df_X1_readTexts_55 n g14 (x1) (x2) (x3) hg14 s28 h2)))) (fun _ => ok_b1cP (ok_df_X1_blame n (1) s0 h0) (fun s31 h3 => ok_some (h3)))) (fun _ => ok_df_X1_readTexts_90 n (x2) s0 h0))
theorem ok_df_X1_readTexts_14 {U0 : St} (n : Nat)  : ∀ (kk : Nat) (y0 : Int32) (y1 : Int32) (y2 : Int32) (s : (St × (St))), FrC U0 s.2 → Ok (fun r => FrC U0 r.2) (df_X1_readTexts_14 n  kk y0 y1 y2 s) := fun kk => by
  induction kk with
  | zero => intros; exact ok_none
  | succ kk ih =>
    intro y0 y1 y2 s hs
    exact ok_dF_X1_readTexts_14 n  (df_X1_readTexts_14 n  kk) y0 y1 y2  ih s hs
theorem ok_df_X1_readTexts_0 {U0 : St} (n : Nat) (v0 : Int32) (s0 : St × (St)) (h0 : FrC U0 s0.2) : Ok (fun r => FrC U0 r.2) (df_X1_readTexts_0 n v0 s0) := by
  unfold df_X1_readTexts_0
  exact ok_lv (fun z1 => ok_o (ok_df_X1_readTexts_14 n  n (v0) (z1) (32768) s0 h0))
theorem ok_df_X1_readTexts {U0 : St} (n : Nat) (v0 : Int32) (s0 : St × (St)) (h0 : FrC U0 s0.2) : Ok (fun r => FrC U0 r.2) (df_X1_readTexts n v0 s0) := by
  unfold df_X1_readTexts
  exact ok_df_X1_readTexts_0 n v0 s0 h0
theorem ok_df_X1_isRegister_51 {U0 : St} (n : Nat) (y0 : Int32) (s0 : St × (St)) (h0 : FrC U0 s0.2) : Ok (fun r => FrC U0 r.2.2) (df_X1_isRegister_51 n y0 s0) := by
  unfold df_X1_isRegister_51
  exact ok_z (ok_some (h0))
theorem ok_df_X1_isRegister_50 {U0 : St} (n : Nat)  (s0 : St × (St)) (h0 : FrC U0 s0.2) : Ok (fun r => FrC U0 r.2.2) (df_X1_isRegister_50 n  s0) := by
  unfold df_X1_isRegister_50
  exact ok_df_X1_isRegister_51 n (0) s0 h0
theorem ok_df_X1_isRegister_0 {U0 : St} (n : Nat)  (s0 : St × (St)) (h0 : FrC U0 s0.2) : Ok (fun r => FrC U0 r.2.2) (df_X1_isRegister_0 n  s0) := by
  unfold df_X1_isRegister_0
  exact ok_ite (fun hc => ok_o (ok_b2xS (ok_df_X7_registerAt n ((sI s0.2 3)) (((sI s0.2 0) - (sI s0.2 3))) ((pR nd_st0 0 (sR s0.2 7))) (fc_x h0)) (fun q4 s5 h1 => ok_lcP ((fc_7 h1 h0)) (fun s7 h2 => ok_ite (fun hc => ok_df_X1_isRegister_50 n  s7 h2) (fun _ => ok_df_X1_isRegister_51 n (1) s7 h2))))) (fun _ => ok_df_X1_isRegister_50 n  s0 h0)
theorem ok_df_X1_isRegister {U0 : St} (n : Nat)  (s0 : St × (St)) (h0 : FrC U0 s0.2) : Ok (fun r => FrC U0 r.2.2) (df_X1_isRegister n  s0) := by
  unfold df_X1_isRegister
  exact ok_df_X1_isRegister_0 n  s0 h0
theorem ok_df_X1_setLetter_32 {U0 : St} (n : Nat)  (s0 : St × (St)) (h0 : FrC U0 s0.2) : Ok (fun r => FrC U0 r.2) (df_X1_setLetter_32 n  s0) := by
  unfold df_X1_setLetter_32
  exact ok_some (h0)
theorem ok_df_X1_setLetter_0 {U0 : St} (n : Nat) (v0 : Int32) (s0 : St × (St)) (h0 : FrC U0 s0.2) : Ok (fun r => FrC U0 r.2) (df_X1_setLetter_0 n v0 s0) := by
  unfold df_X1_setLetter_0
  exact ok_ite (fun hc => ok_ite (fun hc => ok_df_X1_setLetter_32 n  s0 h0) (fun _ => ok_ck (ok_lcP (h0) (fun s4 h1 => ok_df_X1_setLetter_32 n  s4 h1)))) (fun _ => ok_df_X1_setLetter_32 n  s0 h0)
theorem ok_df_X1_setLetter {U0 : St} (n : Nat) (v0 : Int32) (s0 : St × (St)) (h0 : FrC U0 s0.2) : Ok (fun r => FrC U0 r.2) (df_X1_setLetter n v0 s0) := by
  unfold df_X1_setLetter
  exact ok_df_X1_setLetter_0 n v0 s0 h0
theorem ok_df_X1_addInstruction_124 {U0 : St} (n : Nat)  (s0 : St × (St)) (h0 : FrC U0 s0.2) : Ok (fun r => FrC U0 r.2) (df_X1_addInstruction_124 n  s0) := by
  unfold df_X1_addInstruction_124
  exact ok_some (h0)
theorem ok_df_X1_addInstruction_113 {U0 : St} (n : Nat) (x2 : Int32) (x3 : Int32) (x4 : Int32) (y1 : Int32) (y2 : Int32) (s0 : St × (St)) (h0 : FrC U0 s0.2) : Ok (fun r => FrC U0 r.2) (df_X1_addInstruction_113 n x2 x3 x4 y1 y2 s0) := by
  unfold df_X1_addInstruction_113
  exact ok_b1cP (ok_df_X1_add n (y1) (y2) (x2) (x3) s0 h0) (fun s9 h1 => ok_b1cP (ok_df_X1_setLetter n (x4) s9 h1) (fun s12 h2 => ok_df_X1_addInstruction_124 n  s12 h2))
theorem ok_df_X1_addInstruction_69 {U0 : St} (n : Nat) (x2 : Int32) (x3 : Int32) (y1 : Int32) (y2 : Int32) (s0 : St × (St)) (h0 : FrC U0 s0.2) : Ok (fun r => FrC U0 r.2) (df_X1_addInstruction_69 n x2 x3 y1 y2 s0) := by
  unfold df_X1_addInstruction_69
  exact ok_b1cP (ok_df_X1_add n (y1) (y2) (x2) (x3) s0 h0) (fun s21 h1 => ok_df_X1_addInstruction_124 n  s21 h1)
theorem ok_df_X1_addInstruction_68 {U0 : St} (n : Nat) (x2 : Int32) (x3 : Int32) (y1 : Int32) (s0 : St × (St)) (h0 : FrC U0 s0.2) : Ok (fun r => FrC U0 r.2) (df_X1_addInstruction_68 n x2 x3 y1 s0) := by
  unfold df_X1_addInstruction_68
  exact ok_df_X1_addInstruction_69 n (x2) (x3) (y1) (4) s0 h0
theorem ok_df_X1_addInstruction_0 {U0 : St} (n : Nat) (v0 : Nat) (v1 : Int32) (v2 : Int32) (v3 : Int32) (s0 : St × (St)) (h0 : FrC U0 s0.2) : Ok (fun r => FrC U0 r.2) (df_X1_addInstruction_0 n v0 v1 v2 v3 s0) := by
  unfold df_X1_addInstruction_0
  exact ok_lt (ok_ite (fun hc => ok_lt (ok_ite (fun hc => ok_lt (ok_ite (fun hc => ok_ite (fun hc => ok_df_X1_addInstruction_113 n (v1) (v2) (v3) (0) (4) s0 h0) (fun _ => ok_df_X1_addInstruction_113 n (v1) (v2) (v3) (0) (2) s0 h0)) (fun _ => ok_b1cP (ok_df_X1_add n (3) (8) (v1) (v2) s0 h0) (fun s15 h1 => ok_df_X1_addInstruction_124 n  s15 h1)))) (fun _ => ok_lv (fun z17 => ok_lt (ok_ite (fun hc => ok_df_X1_addInstruction_68 n (v1) (v2) (2) s0 h0) (fun _ => ok_ite (fun hc => ok_df_X1_addInstruction_68 n (v1) (v2) (2) s0 h0) (fun _ => ok_ite (fun hc => ok_df_X1_addInstruction_68 n (v1) (v2) (2) s0 h0) (fun _ => ok_df_X1_addInstruction_69 n (v1) (v2) (2) (2) s0 h0)))))))) (fun _ => ok_b1cP (ok_df_X1_add n (1) (2) (v1) (v2) s0 h0) (fun s26 h2 => ok_df_X1_addInstruction_124 n  s26 h2)))
theorem ok_df_X1_addInstruction {U0 : St} (n : Nat) (v0 : Nat) (v1 : Int32) (v2 : Int32) (v3 : Int32) (s0 : St × (St)) (h0 : FrC U0 s0.2) : Ok (fun r => FrC U0 r.2) (df_X1_addInstruction n v0 v1 v2 v3 s0) := by
  unfold df_X1_addInstruction
  exact ok_df_X1_addInstruction_0 n v0 v1 v2 v3 s0 h0
theorem ok_df_X1_addNumber_39 {U0 : St} (n : Nat) (x1 : Int32) (x2 : Int32) (x3 : Int32) (s0 : St × (St)) (h0 : FrC U0 s0.2) : Ok (fun r => FrC U0 r.2) (df_X1_addNumber_39 n x1 x2 x3 s0) := by
  unfold df_X1_addNumber_39
  exact ok_b1cP (ok_df_X1_add n (4) (x3) (x1) (x2) s0 h0) (fun s10 h1 => ok_some (h1))
theorem ok_df_X1_addNumber_37 {U0 : St} (n : Nat) (x1 : Int32) (x2 : Int32) (s0 : St × (St)) (h0 : FrC U0 s0.2) : Ok (fun r => FrC U0 r.2) (df_X1_addNumber_37 n x1 x2 s0) := by
  unfold df_X1_addNumber_37
  exact ok_df_X1_addNumber_39 n (x1) (x2) (4) s0 h0
theorem ok_df_X1_addNumber_21 {U0 : St} (n : Nat) (x1 : Int32) (x2 : Int32) (x3 : Int32) (s0 : St × (St)) (h0 : FrC U0 s0.2) : Ok (fun r => FrC U0 r.2) (df_X1_addNumber_21 n x1 x2 x3 s0) := by
  unfold df_X1_addNumber_21
  exact ok_n2 (fun q5 s6 => ok_ite (fun hc => ok_n2 (fun q12 s13 => ok_ite (fun hc => ok_df_X1_addNumber_37 n (x1) (x2) s0 h0) (fun _ => ok_df_X1_addNumber_39 n (x1) (x2) (x3) s0 h0))) (fun _ => ok_df_X1_addNumber_37 n (x1) (x2) s0 h0))
theorem ok_df_X1_addNumber_0 {U0 : St} (n : Nat) (v0 : Int32) (v1 : Int32) (s0 : St × (St)) (h0 : FrC U0 s0.2) : Ok (fun r => FrC U0 r.2) (df_X1_addNumber_0 n v0 v1 s0) := by
  unfold df_X1_addNumber_0
  exact ok_n2 (fun q1 s2 => ok_ite (fun hc => ok_df_X1_addNumber_21 n (v0) (v1) (8) s0 h0) (fun _ => ok_ite (fun hc => ok_df_X1_addNumber_21 n (v0) (v1) (8) s0 h0) (fun _ => ok_df_X1_addNumber_39 n (v0) (v1) (2) s0 h0)))
theorem ok_df_X1_addNumber {U0 : St} (n : Nat) (v0 : Int32) (v1 : Int32) (s0 : St × (St)) (h0 : FrC U0 s0.2) : Ok (fun r => FrC U0 r.2) (df_X1_addNumber n v0 v1 s0) := by
  unfold df_X1_addNumber
  exact ok_df_X1_addNumber_0 n v0 v1 s0 h0
theorem ok_df_X1_readRegister_31 {U0 : St} (n : Nat)  (s0 : St × (St)) (h0 : FrC U0 s0.2) : Ok (fun r => FrC U0 r.2.2) (df_X1_readRegister_31 n  s0) := by
  unfold df_X1_readRegister_31
  exact ok_b1cP (ok_df_X1_blame n (1) s0 h0) (fun s4 h1 => ok_some (h1))
theorem ok_df_X1_readRegister_100 {U0 : St} (n : Nat)  (s0 : St × (St)) (h0 : FrC U0 s0.2) : Ok (fun r => FrC U0 r.2.2) (df_X1_readRegister_100 n  s0) := by
  unfold df_X1_readRegister_100
  exact ok_b1cP (ok_df_X1_blame n (3) s0 h0) (fun s11 h1 => ok_some (h1))
theorem ok_df_X1_readRegister_87 {U0 : St} (n : Nat) (x1 : Int32) (y0 : Int32) (s0 : St × (St)) (h0 : FrC U0 s0.2) : Ok (fun r => FrC U0 r.2.2) (df_X1_readRegister_87 n x1 y0 s0) := by
  unfold df_X1_readRegister_87
  exact ok_ite (fun hc => ok_df_X1_readRegister_100 n  s0 h0) (fun _ => ok_n2 (fun q13 s14 => ok_ite (fun hc => ok_df_X1_readRegister_100 n  s0 h0) (fun _ => ok_b1cS (ok_df_X9_next n  s0.2 h0) (fun s18 h1 => ok_lcP (h1) (fun s20 h2 => ok_n2 (fun q21 s22 => ok_some (h2)))))))
theorem ok_df_X1_readRegister_0 {U0 : St} (n : Nat) (v0 : Int32) (s0 : St × (St)) (h0 : FrC U0 s0.2) : Ok (fun r => FrC U0 r.2.2) (df_X1_readRegister_0 n v0 s0) := by
  unfold df_X1_readRegister_0
  exact ok_ite (fun hc => ok_ite (fun hc => ok_df_X1_readRegister_31 n  s0 h0) (fun _ => ok_ite (fun hc => ok_df_X1_readRegister_31 n  s0 h0) (fun _ => ok_lv (fun z7 => ok_ite (fun hc => ok_o (ok_b2xS (ok_df_X7_registerAt n ((sI s0.2 3)) (z7) ((pR nd_st0 0 (sR s0.2 7))) (fc_x h0)) (fun q25 s26 h1 => ok_lcP ((fc_7 h1 h0)) (fun s28 h2 => ok_df_X1_readRegister_87 n (v0) (q25) s28 h2)))) (fun _ => ok_df_X1_readRegister_87 n (v0) ((-1)) s0 h0))))) (fun _ => ok_some (h0))
theorem ok_df_X1_readRegister {U0 : St} (n : Nat) (v0 : Int32) (s0 : St × (St)) (h0 : FrC U0 s0.2) : Ok (fun r => FrC U0 r.2.2) (df_X1_readRegister n v0 s0) := by
  unfold df_X1_readRegister
  exact ok_df_X1_readRegister_0 n v0 s0 h0
theorem ok_df_X1_readInstruction_159 {U0 : St} (n : Nat)  (s0 : St × (St)) (h0 : FrC U0 s0.2) : Ok (fun r => FrC U0 r.2) (df_X1_readInstruction_159 n  s0) := by
  unfold df_X1_readInstruction_159
  exact ok_some (h0)
theorem ok_df_X1_readInstruction_110 {U0 : St} (n : Nat) (x1 : Nat) (x2 : Int32) (x3 : Int32) (x4 : Int32) (s0 : St × (St)) (h0 : FrC U0 s0.2) : Ok (fun r => FrC U0 r.2) (df_X1_readInstruction_110 n x1 x2 x3 x4 s0) := by
  unfold df_X1_readInstruction_110
  exact ok_lt (ok_ite (fun hc => ok_ite (fun hc => ok_b1cP (ok_df_X1_addInstruction n (x1) (x2) (x3) (x4) s0 h0) (fun s13 h1 => ok_df_X1_readInstruction_159 n  s13 h1)) (fun _ => ok_df_X1_readInstruction_159 n  s0 h0)) (fun _ => ok_b2cP (ok_df_X1_fixed n (x3) ((-2147483648)) (2147483647) s0 h0) (fun q15 s16 h2 => ok_b1cP (ok_df_X1_addNumber n ((((x2 : Int32) >>> ((7 : Int32) &&& 31)) &&& 31)) (q15) s16 h2) (fun s19 h3 => ok_df_X1_readInstruction_159 n  s19 h3))))
theorem ok_df_X1_readInstruction_104 {U0 : St} (n : Nat) (g18 : Nat → Int32 → Int32 → Int32 → Int32 → (St × (St)) → Option (St × (St))) (x1 : Nat) (x2 : Int32) (x3 : Int32) (x4 : Int32) (x5 : Int32) (hg18 : ∀ (y0 : Nat) (y1 : Int32) (y2 : Int32) (y3 : Int32) (y4 : Int32) (s : (St × (St))), FrC U0 s.2 → Ok (fun r => FrC U0 r.2) (g18 y0 y1 y2 y3 y4 s)) (s0 : St × (St)) (h0 : FrC U0 s0.2) : Ok (fun r => FrC U0 r.2) (df_X1_readInstruction_104 n g18 x1 x2 x3 x4 x5 s0) := by
  unfold df_X1_readInstruction_104
  exact ok_lv (fun z34 => hg18 (x1) (x2) (x3) (x4) (z34) s0 h0)
theorem ok_dF_X1_readInstruction_18 {U0 : St} (n : Nat) (g18 : Nat → Int32 → Int32 → Int32 → Int32 → (St × (St)) → Option (St × (St))) (x1 : Nat) (x2 : Int32) (x3 : Int32) (x4 : Int32) (x5 : Int32) (hg18 : ∀ (y0 : Nat) (y1 : Int32) (y2 : Int32) (y3 : Int32) (y4 : Int32) (s : (St × (St))), FrC U0 s.2 → Ok (fun r => FrC U0 r.2) (g18 y0 y1 y2 y3 y4 s)) (s0 : St × (St)) (h0 : FrC U0 s0.2) : Ok (fun r => FrC U0 r.2) (dF_X1_readInstruction_18 n g18 x1 x2 x3 x4 x5 s0) := by
  unfold dF_X1_readInstruction_18
  exact ok_lt (ok_lt (ok_n2 (fun q4 s5 => ok_ite (fun hc => ok_df_X1_readInstruction_110 n (x1) (x2) (x3) (x4) s0 h0) (fun _ => ok_ite (fun hc => ok_lt (ok_lt (ok_n2 (fun q23 s24 => ok_ite (fun hc => ok_ite (fun hc => ok_b2cS (ok_df_X9_sum n  s0.2 h0) (fun q29 s30 h1 => ok_lcP (h1) (fun s32 h2 => ok_ite (fun hc => ok_df_X1_readInstruction_104 n g18 (x1) (x2) (q29) (q23) (x5) hg18 s32 h2) (fun _ => ok_b1cP (ok_df_X1_blame n (1) s32 h2) (fun s36 h3 => ok_df_X1_readInstruction_104 n g18 (x1) (x2) (q29) (q23) (x5) hg18 s36 h3))))) (fun _ => ok_b2cP (ok_df_X1_readRegister n (q23) s0 h0) (fun q38 s39 h4 => ok_lv (fun z41 => ok_df_X1_readInstruction_104 n g18 (x1) (z41) (x3) (x4) (x5) hg18 s39 h4)))) (fun _ => ok_b1cP (ok_df_X1_expect n (q23) s0 h0) (fun s43 h5 => ok_df_X1_readInstruction_104 n g18 (x1) (x2) (x3) (x4) (x5) hg18 s43 h5)))))) (fun _ => ok_df_X1_readInstruction_110 n (x1) (x2) (x3) (x4) s0 h0)))))
theorem ok_df_X1_readInstruction_18 {U0 : St} (n : Nat)  : ∀ (kk : Nat) (y0 : Nat) (y1 : Int32) (y2 : Int32) (y3 : Int32) (y4 : Int32) (s : (St × (St))), FrC U0 s.2 → Ok (fun r => FrC U0 r.2) (df_X1_readInstruction_18 n  kk y0 y1 y2 y3 y4 s) := fun kk => by
  induction kk with
  | zero => intros; exact ok_none
  | succ kk ih =>
    intro y0 y1 y2 y3 y4 s hs
    exact ok_dF_X1_readInstruction_18 n  (df_X1_readInstruction_18 n  kk) y0 y1 y2 y3 y4  ih s hs
theorem ok_df_X1_readInstruction_0 {U0 : St} (n : Nat) (v0 : Nat) (s0 : St × (St)) (h0 : FrC U0 s0.2) : Ok (fun r => FrC U0 r.2) (df_X1_readInstruction_0 n v0 s0) := by
  unfold df_X1_readInstruction_0
  exact ok_lt (ok_lv (fun z2 => ok_df_X1_readInstruction_18 n  n (v0) (z2) ((-1)) (0) (0) s0 h0))
theorem ok_df_X1_readInstruction {U0 : St} (n : Nat) (v0 : Nat) (s0 : St × (St)) (h0 : FrC U0 s0.2) : Ok (fun r => FrC U0 r.2) (df_X1_readInstruction n v0 s0) := by
  unfold df_X1_readInstruction
  exact ok_df_X1_readInstruction_0 n v0 s0 h0
theorem ok_df_X1_readJump_81 {U0 : St} (n : Nat) (x1 : Int32) (x2 : Int32) (s0 : St × (St)) (h0 : FrC U0 s0.2) : Ok (fun r => FrC U0 r.2) (df_X1_readJump_81 n x1 x2 s0) := by
  unfold df_X1_readJump_81
  exact ok_b1cP (ok_df_X1_expect n (40) s0 h0) (fun s11 h1 => ok_b2cP (ok_df_X1_readRegister n (97) s11 h1) (fun q14 s15 h2 => ok_lv (fun z17 => ok_b1cP (ok_df_X1_expect n (41) s15 h2) (fun s19 h3 => ok_b1cP (ok_df_X1_add n (0) (4) (z17) (x2) s19 h3) (fun s22 h4 => ok_b1cP (ok_df_X1_setLetter n (73) s22 h4) (fun s25 h5 => ok_some (h5)))))))
theorem ok_df_X1_readJump_71 {U0 : St} (n : Nat) (x1 : Int32) (y0 : Int32) (s0 : St × (St)) (h0 : FrC U0 s0.2) : Ok (fun r => FrC U0 r.2) (df_X1_readJump_71 n x1 y0 s0) := by
  unfold df_X1_readJump_71
  exact ok_ite (fun hc => ok_df_X1_readJump_81 n (x1) (y0) s0 h0) (fun _ => ok_b1cP (ok_df_X1_blame n (1) s0 h0) (fun s28 h1 => ok_df_X1_readJump_81 n (x1) (y0) s28 h1))
theorem ok_df_X1_readJump_47 {U0 : St} (n : Nat) (x1 : Int32) (s0 : St × (St)) (h0 : FrC U0 s0.2) : Ok (fun r => FrC U0 r.2) (df_X1_readJump_47 n x1 s0) := by
  unfold df_X1_readJump_47
  exact ok_b1cP (ok_df_X1_expect n (44) s0 h0) (fun s6 h1 => ok_ite (fun hc => ok_b2cS (ok_df_X9_sum n  s6.2 h1) (fun q30 s31 h2 => ok_lcP (h2) (fun s33 h3 => ok_df_X1_readJump_71 n (x1) (q30) s33 h3))) (fun _ => ok_df_X1_readJump_71 n (x1) (0) s6 h1))
theorem ok_df_X1_readJump_0 {U0 : St} (n : Nat)  (s0 : St × (St)) (h0 : FrC U0 s0.2) : Ok (fun r => FrC U0 r.2) (df_X1_readJump_0 n  s0) := by
  unfold df_X1_readJump_0
  exact ok_b2cP (ok_df_X1_readRegister n (100) s0 h0) (fun q1 s2 h1 => ok_ite (fun hc => ok_ite (fun hc => ok_b1cP (ok_df_X1_add n (0) (4) ((((ko_b 32) ||| ((q1 : Int32) <<< ((8 : Int32) &&& 31))) ||| 128)) ((-1)) s2 h1) (fun s37 h2 => ok_some (h2))) (fun _ => ok_df_X1_readJump_47 n (q1) s2 h1)) (fun _ => ok_df_X1_readJump_47 n (q1) s2 h1))
theorem ok_df_X1_readJump {U0 : St} (n : Nat)  (s0 : St × (St)) (h0 : FrC U0 s0.2) : Ok (fun r => FrC U0 r.2) (df_X1_readJump n  s0) := by
  unfold df_X1_readJump
  exact ok_df_X1_readJump_0 n  s0 h0
theorem ok_df_X1_readStatement_228 {U0 : St} (n : Nat)  (s0 : St × (St)) (h0 : FrC U0 s0.2) : Ok (fun r => FrC U0 r.2) (df_X1_readStatement_228 n  s0) := by
  unfold df_X1_readStatement_228
  exact ok_some (h0)
theorem ok_df_X1_readStatement_206 {U0 : St} (n : Nat)  (s0 : St × (St)) (h0 : FrC U0 s0.2) : Ok (fun r => FrC U0 r.2) (df_X1_readStatement_206 n  s0) := by
  unfold df_X1_readStatement_206
  exact ok_ite (fun hc => ok_ite (fun hc => ok_df_X1_readStatement_228 n  s0 h0) (fun _ => ok_b1cP (ok_df_X1_blame n (1) s0 h0) (fun s13 h1 => ok_df_X1_readStatement_228 n  s13 h1))) (fun _ => ok_df_X1_readStatement_228 n  s0 h0)
theorem ok_df_X1_readStatement_72 {U0 : St} (n : Nat) (x1 : Nat) (s0 : St × (St)) (h0 : FrC U0 s0.2) : Ok (fun r => FrC U0 r.2) (df_X1_readStatement_72 n x1 s0) := by
  unfold df_X1_readStatement_72
  exact ok_lt (ok_lcP (h0) (fun s9 h1 => ok_df_X1_readStatement_206 n  s9 h1))
theorem ok_df_X1_readStatement_90 {U0 : St} (n : Nat) (x1 : Nat) (s0 : St × (St)) (h0 : FrC U0 s0.2) : Ok (fun r => FrC U0 r.2) (df_X1_readStatement_90 n x1 s0) := by
  unfold df_X1_readStatement_90
  exact ok_lt (ok_b1cP (ok_df_X1_readList n ((ko_b x1)) s0 h0) (fun s23 h1 => ok_df_X1_readStatement_206 n  s23 h1))
theorem ok_df_X1_readStatement_115 {U0 : St} (n : Nat) (y1 : Int32) (s0 : St × (St)) (h0 : FrC U0 s0.2) : Ok (fun r => FrC U0 r.2) (df_X1_readStatement_115 n y1 s0) := by
  unfold df_X1_readStatement_115
  exact ok_b1cP (ok_df_X1_readTexts n (y1) s0 h0) (fun s31 h1 => ok_df_X1_readStatement_206 n  s31 h1)
theorem ok_df_X1_readStatement_101 {U0 : St} (n : Nat) (x1 : Nat) (s0 : St × (St)) (h0 : FrC U0 s0.2) : Ok (fun r => FrC U0 r.2) (df_X1_readStatement_101 n x1 s0) := by
  unfold df_X1_readStatement_101
  exact ok_lt (ok_ite (fun hc => ok_df_X1_readStatement_115 n (1) s0 h0) (fun _ => ok_df_X1_readStatement_115 n (0) s0 h0))
theorem ok_df_X1_readStatement_188 {U0 : St} (n : Nat) (y1 : Nat) (s0 : St × (St)) (h0 : FrC U0 s0.2) : Ok (fun r => FrC U0 r.2) (df_X1_readStatement_188 n y1 s0) := by
  unfold df_X1_readStatement_188
  exact ok_b1cP (ok_df_X1_readInstruction n (y1) s0 h0) (fun s63 h1 => ok_df_X1_readStatement_206 n  s63 h1)
theorem ok_df_X1_readStatement_0 {U0 : St} (n : Nat) (v0 : Nat) (s0 : St × (St)) (h0 : FrC U0 s0.2) : Ok (fun r => FrC U0 r.2) (df_X1_readStatement_0 n v0 s0) := by
  unfold df_X1_readStatement_0
  exact ok_lt (ok_n2 (fun q2 s3 => ok_ck (ok_ite (fun hc => ok_df_X1_readStatement_72 n (v0) s0 h0) (fun _ => ok_ite (fun hc => ok_df_X1_readStatement_72 n (v0) s0 h0) (fun _ => ok_ite (fun hc => ok_b1cP (ok_df_X1_readConstant n  s0 h0) (fun s18 h1 => ok_df_X1_readStatement_206 n  s18 h1)) (fun _ => ok_ite (fun hc => ok_df_X1_readStatement_90 n (v0) s0 h0) (fun _ => ok_ite (fun hc => ok_df_X1_readStatement_90 n (v0) s0 h0) (fun _ => ok_ite (fun hc => ok_df_X1_readStatement_90 n (v0) s0 h0) (fun _ => ok_ite (fun hc => ok_df_X1_readStatement_101 n (v0) s0 h0) (fun _ => ok_ite (fun hc => ok_df_X1_readStatement_101 n (v0) s0 h0) (fun _ => ok_ite (fun hc => ok_b2cS (ok_df_X9_sum n  s0.2 h0) (fun q35 s36 h2 => ok_lcP (h2) (fun s38 h3 => ok_b2cP (ok_df_X1_fixed n (q35) (0) (32768) s38 h3) (fun q39 s40 h4 => ok_b1cP (ok_df_X1_add n (7) (q39) (0) ((-1)) s40 h4) (fun s43 h5 => ok_df_X1_readStatement_206 n  s43 h5))))) (fun _ => ok_ite (fun hc => ok_b2cS (ok_df_X9_sum n  s0.2 h0) (fun q46 s47 h6 => ok_lcP (h6) (fun s49 h7 => ok_b2cP (ok_df_X1_fixed n (q46) (0) (10) s49 h7) (fun q50 s51 h8 => ok_b1cP (ok_df_X1_add n (8) (0) (((1 : Int32) <<< ((q50 : Int32) &&& 31))) ((-1)) s51 h8) (fun s54 h9 => ok_df_X1_readStatement_206 n  s54 h9))))) (fun _ => ok_ite (fun hc => ok_b2cP (ok_df_X1_isRegister n  s0 h0) (fun q57 s58 h10 => ok_ite (fun hc => ok_df_X1_readStatement_188 n (103) s58 h10) (fun _ => ok_df_X1_readStatement_188 n (v0) s58 h10))) (fun _ => ok_ite (fun hc => ok_b1cP (ok_df_X1_readJump n  s0 h0) (fun s67 h11 => ok_df_X1_readStatement_206 n  s67 h11)) (fun _ => ok_b1cP (ok_df_X1_readInstruction n (v0) s0 h0) (fun s70 h12 => ok_df_X1_readStatement_206 n  s70 h12))))))))))))))))
theorem ok_df_X1_readStatement {U0 : St} (n : Nat) (v0 : Nat) (s0 : St × (St)) (h0 : FrC U0 s0.2) : Ok (fun r => FrC U0 r.2) (df_X1_readStatement n v0 s0) := by
  unfold df_X1_readStatement
  exact ok_df_X1_readStatement_0 n v0 s0 h0
theorem ok_df_X1_make_153 {U0 : St} (n : Nat) (y0 : Int32) (s0 : St × (St × (St)) × (St)) (h0 : FrC U0 s0.2.1.2) : Ok (fun r => FrC U0 r.2.2.1.2) (df_X1_make_153 n y0 s0) := by
  unfold df_X1_make_153
  exact ok_some (h0)
theorem ok_df_X1_make_130 {U0 : St} (n : Nat)  (s0 : St × (St × (St)) × (St)) (h0 : FrC U0 s0.2.1.2) : Ok (fun r => FrC U0 r.2.2.1.2) (df_X1_make_130 n  s0) := by
  unfold df_X1_make_130
  exact ok_ite (fun hc => ok_df_X1_make_153 n (0) s0 h0) (fun _ => ok_df_X1_make_153 n (((sI s0.2.1.1 2) + (16 * (sI s0.2.1.1 3)))) s0 h0)
theorem ok_df_X1_make_118 {U0 : St} (n : Nat)  (s0 : St × (St × (St)) × (St)) (h0 : FrC U0 s0.2.1.2) : Ok (fun r => FrC U0 r.2.2.1.2) (df_X1_make_118 n  s0) := by
  unfold df_X1_make_118
  exact ok_ite (fun hc => ok_b1cQ (ok_df_X1_describe n  s0 h0) (fun s10 h1 => ok_df_X1_make_130 n  s10 h1)) (fun _ => ok_df_X1_make_130 n  s0 h0)
theorem ok_df_X1_make_90 {U0 : St} (n : Nat)  (s0 : St × (St × (St)) × (St)) (h0 : FrC U0 s0.2.1.2) : Ok (fun r => FrC U0 r.2.2.1.2) (df_X1_make_90 n  s0) := by
  unfold df_X1_make_90
  exact ok_ite (fun hc => ok_b1cP (ok_df_X1_layOut n  s0.2.1 h0) (fun s13 h1 => ok_lcQ (h1) (fun s15 h2 => ok_ite (fun hc => ok_b1cQ (ok_df_X1_putAll n  s15 h2) (fun s18 h3 => ok_df_X1_make_118 n  s18 h3)) (fun _ => ok_some (h2))))) (fun _ => ok_df_X1_make_118 n  s0 h0)
theorem ok_df_X1_make_84 {U0 : St} (n : Nat) (g12 : Int32 → Int32 → Int32 → (St × (St × (St)) × (St)) → Option (Int32 × (St × (St × (St)) × (St)))) (x2 : Int32) (x4 : Int32) (x5 : Int32) (hg12 : ∀ (y0 : Int32) (y1 : Int32) (y2 : Int32) (s : (St × (St × (St)) × (St))), FrC U0 s.2.1.2 → Ok (fun r => FrC U0 r.2.2.1.2) (g12 y0 y1 y2 s)) (s0 : St × (St × (St)) × (St)) (h0 : FrC U0 s0.2.1.2) : Ok (fun r => FrC U0 r.2.2.1.2) (df_X1_make_84 n g12 x2 x4 x5 s0) := by
  unfold df_X1_make_84
  exact ok_lv (fun z30 => hg12 (x2) (x4) (z30) s0 h0)
theorem ok_df_X1_make_78 {U0 : St} (n : Nat) (g12 : Int32 → Int32 → Int32 → (St × (St × (St)) × (St)) → Option (Int32 × (St × (St × (St)) × (St)))) (x2 : Int32) (x5 : Int32) (hg12 : ∀ (y0 : Int32) (y1 : Int32) (y2 : Int32) (s : (St × (St × (St)) × (St))), FrC U0 s.2.1.2 → Ok (fun r => FrC U0 r.2.2.1.2) (g12 y0 y1 y2 s)) (s0 : St × (St × (St)) × (St)) (h0 : FrC U0 s0.2.1.2) : Ok (fun r => FrC U0 r.2.2.1.2) (df_X1_make_78 n g12 x2 x5 s0) := by
  unfold df_X1_make_78
  exact ok_lv (fun z29 => ok_df_X1_make_84 n g12 (x2) (z29) (x5) hg12 s0 h0)
theorem ok_df_X1_make_40 {U0 : St} (n : Nat) (g12 : Int32 → Int32 → Int32 → (St × (St × (St)) × (St)) → Option (Int32 × (St × (St × (St)) × (St)))) (x2 : Int32) (x4 : Int32) (x5 : Int32) (hg12 : ∀ (y0 : Int32) (y1 : Int32) (y2 : Int32) (s : (St × (St × (St)) × (St))), FrC U0 s.2.1.2 → Ok (fun r => FrC U0 r.2.2.1.2) (g12 y0 y1 y2 s)) (s0 : St × (St × (St)) × (St)) (h0 : FrC U0 s0.2.1.2) : Ok (fun r => FrC U0 r.2.2.1.2) (df_X1_make_40 n g12 x2 x4 x5 s0) := by
  unfold df_X1_make_40
  exact ok_lcQ (h0) (fun s22 h1 => ok_b2cP (ok_df_X1_readLine n (x4) (x5) s22.2.1 h1) (fun q23 s24 h2 => ok_lcQ (h2) (fun s26 h3 => ok_m (ok_ite (fun hc => ok_df_X1_make_78 n g12 (x2) (x5) hg12 s26 h3) (fun _ => ok_df_X1_make_78 n g12 (x2) (x5) hg12 s26 h3)) (fun j27 => ok_ite (fun hc => ok_b1cP (ok_df_X1_readStatement n (j27) s26.2.1 h3) (fun s33 h4 => ok_lcQ (h4) (fun s35 h5 => ok_df_X1_make_78 n g12 (x2) (x5) hg12 s35 h5))) (fun _ => ok_df_X1_make_78 n g12 (x2) (x5) hg12 s26 h3)))))
theorem ok_dF_X1_make_12 {U0 : St} (n : Nat) (g12 : Int32 → Int32 → Int32 → (St × (St × (St)) × (St)) → Option (Int32 × (St × (St × (St)) × (St)))) (x2 : Int32) (x4 : Int32) (x5 : Int32) (hg12 : ∀ (y0 : Int32) (y1 : Int32) (y2 : Int32) (s : (St × (St × (St)) × (St))), FrC U0 s.2.1.2 → Ok (fun r => FrC U0 r.2.2.1.2) (g12 y0 y1 y2 s)) (s0 : St × (St × (St)) × (St)) (h0 : FrC U0 s0.2.1.2) : Ok (fun r => FrC U0 r.2.2.1.2) (dF_X1_make_12 n g12 x2 x4 x5 s0) := by
  unfold dF_X1_make_12
  exact ok_ite (fun hc => ok_df_X1_make_90 n  s0 h0) (fun _ => ok_ite (fun hc => ok_ite (fun hc => ok_df_X1_make_40 n g12 (x2) (x4) (x5) hg12 s0 h0) (fun _ => ok_ck (ok_ite (fun hc => ok_df_X1_make_40 n g12 (x2) (x4) (x5) hg12 s0 h0) (fun _ => ok_df_X1_make_84 n g12 (x2) (x4) (x5) hg12 s0 h0)))) (fun _ => ok_df_X1_make_90 n  s0 h0))
theorem ok_df_X1_make_12 {U0 : St} (n : Nat)  : ∀ (kk : Nat) (y0 : Int32) (y1 : Int32) (y2 : Int32) (s : (St × (St × (St)) × (St))), FrC U0 s.2.1.2 → Ok (fun r => FrC U0 r.2.2.1.2) (df_X1_make_12 n  kk y0 y1 y2 s) := fun kk => by
  induction kk with
  | zero => intros; exact ok_none
  | succ kk ih =>
    intro y0 y1 y2 s hs
    exact ok_dF_X1_make_12 n  (df_X1_make_12 n  kk) y0 y1 y2  ih s hs
theorem ok_df_X1_make_0 {U0 : St} (n : Nat) (v1 : Int32) (s0 : St × (St × (St)) × (St)) (h0 : FrC U0 s0.2.1.2) : Ok (fun r => FrC U0 r.2.2.1.2) (df_X1_make_0 n v1 s0) := by
  unfold df_X1_make_0
  exact ok_b1cP (ok_df_X1_start n (v1) s0.2.1 h0) (fun s2 h1 => ok_lcQ (h1) (fun s4 h2 => ok_df_X1_make_12 n  n (v1) (0) (0) s4 h2))
theorem ok_df_X1_make {U0 : St} (n : Nat) (v1 : Int32) (s0 : St × (St × (St)) × (St)) (h0 : FrC U0 s0.2.1.2) : Ok (fun r => FrC U0 r.2.2.1.2) (df_X1_make n v1 s0) := by
  unfold df_X1_make
  exact ok_df_X1_make_0 n v1 s0 h0

/-- strange letters: the line of the first one, or 0 -/
def stG (c : Nat → Nat) : Nat → Nat → Nat → Nat
  | 0, _, _ => 0
  | m + 1, x, l => if c x = 9 ∨ c x = 10 ∨ (32 ≤ c x ∧ c x ≤ 126) then stG c m (x + 1) (if c x = 10 then l + 1 else l) else l
theorem stG_n {c : Nat → Nat} (m x l : Nat) : stG c (m + 1) x l = if c x = 9 ∨ c x = 10 ∨ (32 ≤ c x ∧ c x ≤ 126) then stG c m (x + 1) (if c x = 10 then l + 1 else l) else l := rfl
theorem stG_l {c : Nat → Nat} : ∀ m x l : Nat, stG c m x l = 0 ∨ (l ≤ stG c m x l ∧ stG c m x l ≤ l + m) := fun m => by
  induction m with
  | zero => intro x l; exact Or.inl rfl
  | succ m ih =>
    intro x l
    unfold stG
    split
    · have := ih (x + 1) (if c x = 10 then l + 1 else l)
      split at this <;> rename_i h <;> simp only [h, if_true, if_false] <;> omega
    · omega
theorem stG_0 {c : Nat → Nat} : ∀ m x l : Nat, 0 < l → stG c m x l = 0 → ∀ i : Nat, x ≤ i → i < x + m → c i = 9 ∨ c i = 10 ∨ (32 ≤ c i ∧ c i ≤ 126) := fun m => by
  induction m with
  | zero => intro x l hl h i h1 h2; omega
  | succ m ih =>
    intro x l hl h i h1 h2
    unfold stG at h
    split at h
    · rename_i hx
      by_cases w : i = x
      · subst w; exact hx
      · exact ih (x + 1) (if c x = 10 then l + 1 else l) (by split <;> omega) h i (by omega) (by omega)
    · omega
theorem str_R {n L : Nat} {c : Nat → Nat} {τ : S19} (hL : L ≤ 32768) (h256 : ∀ i : Nat, i < L → c i < 256) (t1 : sI τ.1 1 = nI L) (t3 : ∀ i : Nat, i < L → sR τ.2.2.2.1 3 i = nI (c i)) : ∀ m x g l : Nat, x + m = L → m < g → l + m < 2 ^ 20 → df_X19_strange_4 n g (nI l) (nI x) τ = some (nI (stG c m x l), τ) := fun m => by
  induction m with
  | zero =>
    intro x g l h1 h2 h3
    obtain ⟨g, rfl⟩ : ∃ k : Nat, g = k + 1 := ⟨g - 1, by omega⟩
    show dF_X19_strange_4 n (df_X19_strange_4 n g) (nI l) (nI x) τ = _
    unfold dF_X19_strange_4
    rw [t1, if_pos (zle (show L ≤ x by omega) (by omega))]
    rfl
  | succ m ih =>
    intro x g l h1 h2 h3
    obtain ⟨g, rfl⟩ : ∃ k : Nat, g = k + 1 := ⟨g - 1, by omega⟩
    have hx := h256 x (by omega)
    have tx := t3 x (by omega)
    have go : df_X19_strange_55 n (df_X19_strange_4 n g) (nI l) (nI x) τ = some (nI (stG c m (x + 1) (if c x = 10 then l + 1 else l)), τ) := by
      unfold df_X19_strange_55 df_X19_strange_73
      rw [nm_ck (by omega) (by omega), nI_clamp (by omega), tx]
      by_cases y : c x = 10
      · rw [if_pos (show nI (c x) = 10 from congrArg nI y), nb_let, show nI x + Int32.ofInt 1 = nI (x + 1) from nI_add x 1, show nI l + 1 = nI (l + 1) from nI_add l 1, if_pos y]
        exact ih (x + 1) g (l + 1) (by omega) (by omega) (by omega)
      · rw [if_neg (show ¬ nI (c x) = 10 from zne (b := 10) y (by omega) (by omega)), nb_let, show nI x + Int32.ofInt 1 = nI (x + 1) from nI_add x 1, if_neg y]
        exact ih (x + 1) g l (by omega) (by omega) (by omega)
    show dF_X19_strange_4 n (df_X19_strange_4 n g) (nI l) (nI x) τ = _
    unfold dF_X19_strange_4
    rw [t1, if_neg (znle (show x < L by omega) (by omega)), nm_ck (by omega) (by omega), nI_clamp (by omega), tx]
    by_cases y1 : c x = 9
    · rw [if_pos (show nI (c x) = 9 from congrArg nI y1), go]
      rw [stG_n, if_pos (Or.inl y1)]
    rw [if_neg (show ¬ nI (c x) = 9 from zne (b := 9) y1 (by omega) (by omega)), nm_ck (by omega) (by omega)]
    by_cases y2 : c x = 10
    · rw [if_pos (show nI (c x) = 10 from congrArg nI y2), go]
      rw [stG_n, if_pos (Or.inr (Or.inl y2))]
    rw [if_neg (show ¬ nI (c x) = 10 from zne (b := 10) y2 (by omega) (by omega)), nm_ck (by omega) (by omega)]
    have hin : df_X19_in n (nI (c x)).toInt64 32 126 () = some (if (32 : Int) ≤ (nI (c x)).toInt ∧ (nI (c x)).toInt ≤ 126 then 1 else 0, ()) := nb_in32 n (nI (c x)) 32 126
    rw [hin, nb_b2, nI_toInt (by omega)]
    by_cases y3 : 32 ≤ c x ∧ c x ≤ 126
    · rw [if_pos (show (32 : Int) ≤ ((c x : Nat) : Int) ∧ ((c x : Nat) : Int) ≤ 126 by omega), if_neg (show ¬ (1 : Int32) = 0 by decide), go]
      rw [stG_n, if_pos (Or.inr (Or.inr y3))]
    · rw [if_neg (show ¬ ((32 : Int) ≤ ((c x : Nat) : Int) ∧ ((c x : Nat) : Int) ≤ 126) by omega), if_pos rfl]
      rw [stG_n, if_neg (show ¬ (c x = 9 ∨ c x = 10 ∨ (32 ≤ c x ∧ c x ≤ 126)) by omega)]
theorem bz_10 : ∀ z : Fin 256, (vp_nar .byte ((nI z.1).toInt8.toInt32) = 10 ↔ z.1 = 10) ∧ (vp_nar .byte ((nI z.1).toInt8.toInt32) = 9 ↔ z.1 = 9) := by decide +kernel
theorem stg_s {n g : Nat} {Q U : St} {a b c : Int32} (h : ¬ sI Q 2 = 0) (hg : 0 < g) : df_X1_start_43 n g a b c (Q, U) = some (Q, U) := by
  obtain ⟨g, rfl⟩ : ∃ k : Nat, g = k + 1 := ⟨g - 1, by omega⟩
  show dF_X1_start_43 n (df_X1_start_43 n g) a b c (Q, U) = _
  unfold dF_X1_start_43 df_X1_start_112
  rw [if_neg (show ¬ sI ((Q, U) : St × St).1 2 = 0 from h)]
  split <;> rfl
theorem stg_C {n L : Nat} {c : Nat → Nat} {Q U : St} (hL : L ≤ 32768) (h256 : ∀ i : Nat, i < L → c i < 256) (r7 : ∀ i : Nat, i < L → sR U 7 i = vp_nar .byte ((nI (c i)).toInt8.toInt32)) (q2 : sI Q 2 = 0) : ∀ m x g l : Nat, x + m = L → m < g → 0 < l → l + m < 2 ^ 20 → df_X1_start_43 n g (nI L) (nI l) (nI x) (Q, U) = some (if stG c m x l = 0 then (Q, U) else (pI (pI Q 2 1) 3 (nI (stG c m x l)), U)) := fun m => by
  induction m with
  | zero =>
    intro x g l h1 h2 h3 h4
    obtain ⟨g, rfl⟩ : ∃ k : Nat, g = k + 1 := ⟨g - 1, by omega⟩
    show dF_X1_start_43 n (df_X1_start_43 n g) (nI L) (nI l) (nI x) (Q, U) = _
    unfold dF_X1_start_43 df_X1_start_112
    rw [if_pos (zle (show L ≤ x by omega) (by omega))]
    rfl
  | succ m ih =>
    intro x g l h1 h2 h3 h4
    obtain ⟨g, rfl⟩ : ∃ k : Nat, g = k + 1 := ⟨g - 1, by omega⟩
    have hx := h256 x (by omega)
    have rx := r7 x (by omega)
    obtain ⟨z1, z2, z3⟩ := bz_C ⟨c x, hx⟩
    obtain ⟨z4, z5⟩ := bz_10 ⟨c x, hx⟩
    have z1 : vp_nar .byte ((nI (c x)).toInt8.toInt32) < 32 ↔ (c x < 32 ∨ 128 ≤ c x) := z1
    have z2 : vp_nar .byte ((nI (c x)).toInt8.toInt32) ≤ 126 ↔ (c x ≤ 126 ∨ 128 ≤ c x) := z2
    have z4 : vp_nar .byte ((nI (c x)).toInt8.toInt32) = 10 ↔ c x = 10 := z4
    have z5 : vp_nar .byte ((nI (c x)).toInt8.toInt32) = 9 ↔ c x = 9 := z5
    have go : ∀ l' : Nat, l' = (if c x = 10 then l + 1 else l) → df_X1_start_106 n (df_X1_start_43 n g) (nI L) (nI l') (nI x) (Q, U) = some (if stG c m (x + 1) (if c x = 10 then l + 1 else l) = 0 then (Q, U) else (pI (pI Q 2 1) 3 (nI (stG c m (x + 1) (if c x = 10 then l + 1 else l))), U)) := fun l' hl' => by
      unfold df_X1_start_106
      rw [nb_let, show nI x + Int32.ofInt 1 = nI (x + 1) from nI_add x 1, ← hl']
      exact ih (x + 1) g l' (by omega) (by omega) (by rw [hl']; split <;> omega) (by rw [hl']; split <;> omega)
    have bad : ¬ (c x = 9 ∨ c x = 10 ∨ (32 ≤ c x ∧ c x ≤ 126)) → df_X1_start_96 n (df_X1_start_43 n g) (nI L) (nI l) (nI x) (Q, U) = some (if stG c (m + 1) x l = 0 then (Q, U) else (pI (pI Q 2 1) 3 (nI (stG c (m + 1) x l)), U)) := fun hb => by
      rw [stG_n, if_neg hb, if_neg (show ¬ l = 0 by omega)]
      unfold df_X1_start_96 df_X1_blame df_X1_blame_0 df_X1_blame_12
      rw [if_pos (show sI ((Q, U) : St × St).1 2 = 0 from q2), nb_let, nb_b1, nb_let]
      unfold df_X1_start_106
      rw [nb_let]
      exact stg_s (Q := pI (pI Q 2 1) 3 (nI l)) (show ¬ (1 : Int32) = 0 by decide) (by omega)
    show dF_X1_start_43 n (df_X1_start_43 n g) (nI L) (nI l) (nI x) (Q, U) = _
    unfold dF_X1_start_43
    rw [if_neg (znle (show x < L by omega) (by omega)), if_pos (show sI ((Q, U) : St × St).1 2 = 0 from q2), nm_ck (by omega) (by omega), nb_let, nI_clamp (by omega), show sR ((Q, U) : St × St).2 7 x = vp_nar .byte ((nI (c x)).toInt8.toInt32) from rx]
    by_cases y1 : c x = 10
    · rw [if_pos (z4.mpr y1), nb_let, show nI l + Int32.ofInt 1 = nI (l + 1) from nI_add l 1]
      refine (go (l + 1) (if_pos y1).symm).trans ?_
      rw [stG_n, if_pos (show c x = 9 ∨ c x = 10 ∨ (32 ≤ c x ∧ c x ≤ 126) from Or.inr (Or.inl y1))]
    rw [if_neg (fun h => y1 (z4.mp h))]
    by_cases y2 : c x = 9
    · rw [if_pos (z5.mpr y2)]
      refine (go l (if_neg y1).symm).trans ?_
      rw [stG_n, if_pos (show c x = 9 ∨ c x = 10 ∨ (32 ≤ c x ∧ c x ≤ 126) from Or.inl y2)]
    rw [if_neg (fun h => y2 (z5.mp h))]
    by_cases y3 : c x < 32 ∨ 128 ≤ c x
    · rw [if_pos (z1.mpr y3)]
      exact bad (by omega)
    rw [if_neg (fun h => y3 (z1.mp h))]
    by_cases y4 : c x ≤ 126
    · rw [if_pos (z2.mpr (Or.inl y4))]
      refine (go l (if_neg y1).symm).trans ?_
      rw [stG_n, if_pos (show c x = 9 ∨ c x = 10 ∨ (32 ≤ c x ∧ c x ≤ 126) from Or.inr (Or.inr ⟨by omega, y4⟩))]
    · rw [if_neg (fun h => by have := z2.mp h; omega)]
      exact bad (by omega)
/-- the class's make, if a letter is strange -/
theorem MAKs {n L : Nat} {c : Nat → Nat} {M Q U P : St} (hn : 70000 < n) (hL : L ≤ 32768) (h256 : ∀ i : Nat, i < L → c i < 256) (r7 : ∀ i : Nat, i < L → sR U 7 i = vp_nar .byte ((nI (c i)).toInt8.toInt32)) (hs : ¬ stG c L 0 1 = 0) : ∃ Q' U' : St, df_X1_make n (nI L) (M, ((Q, U), P)) = some (1 + 16 * nI (stG c L 0 1), (M, ((Q', U'), P))) := by
  have e0 := stg_C (n := n) (Q := pI (pI (pI (pI (pI (pI Q 0 0) 1 0) 2 0) 3 0) 4 0) 6 0) (U := pR (pR (pI (pI (pI (pO U 0 (some 8)) 5 0) 8 0) 9 0) 4 (nd_fl 256 0 (sR U 4))) 5 (nd_fl 20 0 (sR U 5))) hL h256 r7 rfl L 0 n 1 (by omega) (by omega) (by omega) (by omega)
  rw [if_neg hs] at e0
  generalize hq : pI (pI (pI (pI (pI (pI (pI (pI Q 0 0) 1 0) 2 0) 3 0) 4 0) 6 0) 2 1) 3 (nI (stG c L 0 1)) = Q' at e0
  generalize hu : pR (pR (pI (pI (pI (pO U 0 (some 8)) 5 0) 8 0) 9 0) 4 (nd_fl 256 0 (sR U 4))) 5 (nd_fl 20 0 (sR U 5)) = U' at e0
  have e1 : df_X1_start n (nI L) (Q, U) = some (Q', U') := by
    rw [← e0, ← hu]
    rfl
  have f2 : sI Q' 2 = 1 := by rw [← hq]; rfl
  have f3 : sI Q' 3 = nI (stG c L 0 1) := by rw [← hq]; rfl
  have nf : ¬ sI ((M, ((Q', U'), P)) : St × (St × St) × St).2.1.1 2 = 0 := by
    rw [show sI ((M, ((Q', U'), P)) : St × (St × St) × St).2.1.1 2 = _ from f2]
    decide
  refine ⟨Q', U', ?_⟩
  unfold df_X1_make df_X1_make_0
  rw [show df_X1_start n (nI L) ((M, ((Q, U), P)) : St × (St × St) × St).2.1 = _ from e1, nb_b1, nb_let]
  obtain ⟨g, hg⟩ : ∃ g : Nat, n = g + 1 := ⟨n - 1, by omega⟩
  have e2 : ∀ k : Nat, k = g + 1 → df_X1_make_12 n k (nI L) 0 0 (M, ((Q', U'), P)) = df_X1_make_90 n (M, ((Q', U'), P)) := fun k hk => by
    subst hk
    show dF_X1_make_12 n (df_X1_make_12 n g) (nI L) 0 0 (M, ((Q', U'), P)) = _
    unfold dF_X1_make_12
    rw [if_neg nf]
    split <;> rfl
  rw [show df_X1_make_12 n n (nI L) 0 0 (M, ((Q', U'), P)) = _ from e2 n hg]
  unfold df_X1_make_90 df_X1_make_118 df_X1_make_130 df_X1_make_153
  rw [if_neg nf, if_neg nf, if_neg nf, show sI ((M, ((Q', U'), P)) : St × (St × St) × St).2.1.1 2 = _ from f2, show sI ((M, ((Q', U'), P)) : St × (St × St) × St).2.1.1 3 = _ from f3]

/-- what it holds -/
def adR (X : Nat → Nat) (V : Nat → Int32) (R : Nat → Int32) : Nat → Nat → Int32
  | 0 => R
  | k + 1 => if X k / 131072 < 2 then upd (adR X V R k) (nmd X k) (V k) else adR X V R k
theorem nmd_l (X : Nat → Nat) : ∀ k : Nat, nmd X k ≤ k := fun k => by
  induction k with
  | zero => exact Nat.le_refl 0
  | succ k ih =>
    show nmd X k + (if X k / 131072 < 2 then 1 else 0) ≤ k + 1
    split <;> omega
theorem nmd_n (X : Nat → Nat) (k : Nat) : nmd X (k + 1) = nmd X k + (if X k / 131072 < 2 then 1 else 0) := rfl
theorem nmd_m (X : Nat → Nat) : ∀ m k : Nat, nmd X k ≤ nmd X (k + m) := fun m => by
  induction m with
  | zero => intro k; exact Nat.le_refl _
  | succ m ih =>
    intro k
    have := ih k
    rw [show k + (m + 1) = (k + m) + 1 from rfl, nmd_n]
    omega
theorem lam_n (X : Nat → Nat) (k : Nat) : lam X (k + 1) = lam X k + (if X k / 131072 = 2 then 0 else 1) := rfl
/-- countOf(false), countOf(true) -/
theorem cou_0 {n nL : Nat} {X : Nat → Nat} {S : St} (hL : nL ≤ 16500) (h3 : sI S 3 = nI nL) (h6 : ∀ k : Nat, k < nL → sR S 6 k = nI (X k)) (hX : ∀ k : Nat, k < nL → X k < 2 ^ 20) : ∀ m k g : Nat, k + m = nL → m < g → df_X13_countOf_4 n g 0 (nI (nmd X k)) (nI k) S = some (nI (nmd X nL), S) ∧ df_X13_countOf_4 n g 1 (nI (k - lam X k)) (nI k) S = some (nI (nL - lam X nL), S) := fun m => by
  induction m with
  | zero =>
    intro k g h1 h2
    obtain ⟨g, rfl⟩ : ∃ k : Nat, g = k + 1 := ⟨g - 1, by omega⟩
    have e : k = nL := by omega
    subst e
    constructor
    · show dF_X13_countOf_4 n (df_X13_countOf_4 n g) 0 (nI (nmd X k)) (nI k) S = _
      unfold dF_X13_countOf_4
      rw [h3, if_pos (zle (Nat.le_refl k) (by omega))]
    · show dF_X13_countOf_4 n (df_X13_countOf_4 n g) 1 (nI (k - lam X k)) (nI k) S = _
      unfold dF_X13_countOf_4
      rw [h3, if_pos (zle (Nat.le_refl k) (by omega))]
  | succ m ih =>
    intro k g h1 h2
    obtain ⟨g, rfl⟩ : ∃ k : Nat, g = k + 1 := ⟨g - 1, by omega⟩
    have x2 := hX k (by omega)
    have s1 : (nI (X k) : Int32) >>> ((17 : Int32) &&& 31) = nI (X k / 131072) := pk_shrN (by omega) _ 17 (by decide)
    obtain ⟨i1, i2⟩ := ih (k + 1) g (by omega) (by omega)
    rw [nmd_n] at i1
    rw [lam_n] at i2
    have ll := lam_le X k
    have nl := nmd_l X k
    constructor
    · show dF_X13_countOf_4 n (df_X13_countOf_4 n g) 0 (nI (nmd X k)) (nI k) S = _
      unfold dF_X13_countOf_4 df_X13_countOf_59
      rw [h3, if_neg (znle (show k < nL by omega) (by omega)), if_pos rfl, nm_ck (by omega) (by omega), nI_clamp (by omega), h6 k (by omega), s1]
      by_cases y : X k / 131072 < 2
      · rw [if_pos y] at i1
        rw [if_neg (show ¬ (2 : Int32) ≤ nI (X k / 131072) from znle (a := 2) y (by omega)), nb_let, show nI k + Int32.ofInt 1 = nI (k + 1) from nI_add k 1, show nI (nmd X k) + 1 = nI (nmd X k + 1) from nI_add _ 1]
        exact i1
      · rw [if_neg y] at i1
        rw [if_pos (show (2 : Int32) ≤ nI (X k / 131072) from zle (a := 2) (by omega) (by omega)), nb_let, show nI k + Int32.ofInt 1 = nI (k + 1) from nI_add k 1]
        exact i1
    · show dF_X13_countOf_4 n (df_X13_countOf_4 n g) 1 (nI (k - lam X k)) (nI k) S = _
      unfold dF_X13_countOf_4 df_X13_countOf_59
      rw [h3, if_neg (znle (show k < nL by omega) (by omega)), if_neg (show ¬ (1 : Int32) = 0 by decide), nm_ck (by omega) (by omega), nI_clamp (by omega), h6 k (by omega), s1]
      by_cases y : X k / 131072 = 2
      · rw [if_pos y, show k + 1 - (lam X k + 0) = k - lam X k + 1 by omega] at i2
        rw [if_pos (show nI (X k / 131072) = (2 : Int32) from congrArg nI y), nb_let, show nI k + Int32.ofInt 1 = nI (k + 1) from nI_add k 1, show nI (k - lam X k) + 1 = nI (k - lam X k + 1) from nI_add _ 1]
        exact i2
      · rw [if_neg y, show k + 1 - (lam X k + 1) = k - lam X k by omega] at i2
        rw [if_neg (show ¬ nI (X k / 131072) = (2 : Int32) from zne (b := 2) y (by omega) (by omega)), nb_let, show nI k + Int32.ofInt 1 = nI (k + 1) from nI_add k 1]
        exact i2
/-- addresses() -/
theorem adr_12 {n nL : Nat} {X : Nat → Nat} {S : St} (hL : nL ≤ 16500) (h3 : sI S 3 = nI nL) (h6 : ∀ k : Nat, k < nL → sR S 6 k = nI (X k)) (hX : ∀ k : Nat, k < nL → X k < 2 ^ 20) : ∀ m k g : Nat, k + m = nL → m < g → df_X13_addresses_12 n (nmd X nL) g (nI (nmd X k)) (nI k) (adR X (vlO (sI S 4) X (sR S 7)) (fun _ => 0) k, S) = some (adR X (vlO (sI S 4) X (sR S 7)) (fun _ => 0) nL, S) := fun m => by
  induction m with
  | zero =>
    intro k g h1 h2
    obtain ⟨g, rfl⟩ : ∃ k : Nat, g = k + 1 := ⟨g - 1, by omega⟩
    have e : k = nL := by omega
    subst e
    show dF_X13_addresses_12 n (nmd X k) (df_X13_addresses_12 n (nmd X k) g) (nI (nmd X k)) (nI k) (adR X (vlO (sI S 4) X (sR S 7)) (fun _ => 0) k, S) = _
    unfold dF_X13_addresses_12
    rw [show sI ((adR X (vlO (sI S 4) X (sR S 7)) (fun _ => 0) k, S) : (Nat → Int32) × St).2 3 = nI k from h3, if_pos (zle (Nat.le_refl k) (by omega))]
  | succ m ih =>
    intro k g h1 h2
    obtain ⟨g, rfl⟩ : ∃ k : Nat, g = k + 1 := ⟨g - 1, by omega⟩
    have x2 := hX k (by omega)
    have s1 : (nI (X k) : Int32) >>> ((17 : Int32) &&& 31) = nI (X k / 131072) := pk_shrN (by omega) _ 17 (by decide)
    have i1 := ih (k + 1) g (by omega) (by omega)
    have nl := nmd_l X k
    have nm := nmd_m X m (k + 1)
    rw [show k + 1 + m = nL by omega] at nm
    rw [nmd_n] at i1 nm
    rw [show adR X (vlO (sI S 4) X (sR S 7)) (fun _ => 0) (k + 1) = (if X k / 131072 < 2 then upd (adR X (vlO (sI S 4) X (sR S 7)) (fun _ => 0) k) (nmd X k) (vlO (sI S 4) X (sR S 7) k) else adR X (vlO (sI S 4) X (sR S 7)) (fun _ => 0) k) from rfl] at i1
    show dF_X13_addresses_12 n (nmd X nL) (df_X13_addresses_12 n (nmd X nL) g) (nI (nmd X k)) (nI k) (adR X (vlO (sI S 4) X (sR S 7)) (fun _ => 0) k, S) = _
    unfold dF_X13_addresses_12
    rw [show sI ((adR X (vlO (sI S 4) X (sR S 7)) (fun _ => 0) k, S) : (Nat → Int32) × St).2 3 = nI nL from h3, if_neg (znle (show k < nL by omega) (by omega)), nm_ck (by omega) (by omega), nI_clamp (by omega), show sR ((adR X (vlO (sI S 4) X (sR S 7)) (fun _ => 0) k, S) : (Nat → Int32) × St).2 6 k = nI (X k) from h6 k (by omega), s1, show nI k + 1 = nI (k + 1) from nI_add k 1]
    by_cases y : X k / 131072 < 2
    · rw [if_pos y, if_pos y] at i1
      rw [if_pos y] at nm
      rw [if_pos (show nI (X k / 131072) < (2 : Int32) from zlt (b := 2) y (by omega)), show df_X13_valueOf n (nI k) ((adR X (vlO (sI S 4) X (sR S 7)) (fun _ => 0) k, S) : (Nat → Int32) × St).2 = _ from vo_1 k nL X (by omega) hL ⟨h6 k (by omega), x2⟩, nb_b2, nm_ck (by omega) (by omega), nI_clamp (by omega), show nI (nmd X k) + 1 = nI (nmd X k + 1) from nI_add _ 1]
      exact i1
    · rw [if_neg y, if_neg y] at i1
      rw [if_neg (show ¬ nI (X k / 131072) < (2 : Int32) from znl (b := 2) (by omega) (by omega))]
      exact i1
theorem adr_1 {n nL : Nat} {X : Nat → Nat} {S : St} (hn : 20000 < n) (hL : nL ≤ 16500) (h3 : sI S 3 = nI nL) (h6 : ∀ k : Nat, k < nL → sR S 6 k = nI (X k)) (hX : ∀ k : Nat, k < nL → X k < 2 ^ 20) (hb : nmd X nL ≤ 10986) : df_X13_addresses n S = some ((nmd X nL, adR X (vlO (sI S 4) X (sR S 7)) (fun _ => 0) nL), S) := by
  have c0 := (cou_0 (n := n) hL h3 h6 hX nL 0 n (by omega) (by omega)).1
  have a0 := adr_12 (n := n) hL h3 h6 hX nL 0 n (by omega) (by omega)
  have nl := nmd_l X nL
  unfold df_X13_addresses df_X13_countOf df_X13_countOf_0
  rw [show df_X13_countOf_4 n n 0 0 0 S = some (nI (nmd X nL), S) from c0, nb_b2, nI_toInt (by omega), if_pos ⟨by omega, by omega⟩, nI_clamp (by omega), show df_X13_addresses_12 n (nmd X nL) n 0 0 (fun _ => 0, S) = _ from a0, nb_b1]
/-- the class's row of labels is the same -/
theorem lcs_n {R R1 : Nat → Int32} (j : Nat) : lcS R R1 (j + 1) = if R (5 * j + 4) = 1 ∧ (lcS R R1 j).1 < 10986 then ((lcS R R1 j).1 + 1, upd (lcS R R1 j).2 (lcS R R1 j).1 (R (5 * j + 2))) else lcS R R1 j := rfl
theorem lcs_R {X : Nat → Nat} {V : Nat → Int32} {R R1 R2 : Nat → Int32} {nL : Nat} (h4 : ∀ k : Nat, k < nL → ¬ X k / 131072 = 2 → R (5 * lam X k + 4) = nI (if X k / 131072 < 2 then 1 else 0)) (h2 : ∀ k : Nat, k < nL → ¬ X k / 131072 = 2 → R (5 * lam X k + 2) = V k) (hb : nmd X nL ≤ 10986) : ∀ k : Nat, k ≤ nL → (lcS R R1 (lam X k)).1 = nmd X k ∧ ∀ i : Nat, i < nmd X k → (lcS R R1 (lam X k)).2 i = adR X V R2 k i := fun k => by
  induction k with
  | zero => intro _; exact ⟨rfl, fun i hi => absurd hi (Nat.not_lt_zero _)⟩
  | succ k ih =>
    intro hk
    obtain ⟨i1, i2⟩ := ih (by omega)
    have nm := nmd_m X (nL - (k + 1)) (k + 1)
    rw [show k + 1 + (nL - (k + 1)) = nL by omega] at nm
    rw [nmd_n] at nm
    rw [lam_n, nmd_n, show adR X V R2 (k + 1) = (if X k / 131072 < 2 then upd (adR X V R2 k) (nmd X k) (V k) else adR X V R2 k) from rfl]
    by_cases y : X k / 131072 = 2
    · rw [if_pos y, if_neg (by omega), if_neg (by omega)]
      exact ⟨i1, i2⟩
    · rw [if_neg y, lcs_n, h4 k (by omega) y, h2 k (by omega) y, i1]
      by_cases z : X k / 131072 < 2
      · rw [if_pos z] at nm
        rw [if_pos z, if_pos (show nI 1 = (1 : Int32) ∧ nmd X k < 10986 from ⟨rfl, by omega⟩), if_pos z]
        refine ⟨rfl, fun i hi => ?_⟩
        show upd (lcS R R1 (lam X k)).2 (nmd X k) (V k) i = upd (adR X V R2 k) (nmd X k) (V k) i
        by_cases w : i = nmd X k
        · rw [w, up_e, up_e]
        · rw [up_n w, up_n w]
          exact i2 i (by omega)
      · rw [if_neg z, if_neg (show ¬ (nI 0 = (1 : Int32) ∧ nmd X k < 10986) from fun h => absurd h.1 (by decide)), if_neg z]
        exact ⟨i1, i2⟩

/-- the program that nothing uses -/
def slP (σ : S12) (s : Nat) : Option Nat := if s < 4 then σ.2.1 1 s else σ.2.1 0 (s - 4)
theorem isU (n T L i : Nat) (hn : 20 < n) (hi : i < 9) {σ : S12} (h1 : ∀ k : Nat, k < 4 → σ.2.1 1 k = none ∨ ∃ j : Nat, j < 9 ∧ σ.2.1 1 k = some j) (h0 : ∀ k : Nat, k < 4 → σ.2.1 0 k = none ∨ ∃ j : Nat, j < 9 ∧ σ.2.1 0 k = some j) : (df_X12_isUsedProgram n T L i σ = some (1, σ) ∧ ∃ s : Nat, s < 8 ∧ slP σ s = some i) ∨ (df_X12_isUsedProgram n T L i σ = some (0, σ) ∧ ∀ k : Nat, k < 4 → ¬ σ.2.1 1 k = some i ∧ ¬ σ.2.1 0 k = some i) := by
  have st : ∀ k m : Nat, k < 4 → ((σ.2.1 1 k = some i ∨ σ.2.1 0 k = some i) → df_X12_isUsedProgram_2 n T L (m + 1) i (nI k) σ = some (1, σ)) ∧ (¬ (σ.2.1 1 k = some i ∨ σ.2.1 0 k = some i) → df_X12_isUsedProgram_2 n T L (m + 1) i (nI k) σ = df_X12_isUsedProgram_2 n T L m i (nI (k + 1)) σ) := fun k m hk => by
    have w : nI k + Int32.ofInt 1 = nI (k + 1) := nI_add k 1
    have ck : ∀ x : Option (Int32 × S12), nd_ck (nI k) 4 x = x := fun x => nm_ck (by omega) (by omega)
    have lt9 : ∀ x : Option (Int32 × S12), nd_lt i 9 x = x := fun x => nb_lt hi
    have e0 : df_X12_isUsedProgram_2 n T L (m + 1) i (nI k) σ = nd_m (σ.2.1 1 k) (nd_m (σ.2.1 0 k) (df_X12_isUsedProgram_2 n T L m i (nI (k + 1)) σ) (fun j5 => nd_lt j5 9 (if j5 = i then some (1, σ) else df_X12_isUsedProgram_2 n T L m i (nI (k + 1)) σ))) (fun j3 => nd_lt j3 9 (if j3 = i then some (1, σ) else nd_m (σ.2.1 0 k) (df_X12_isUsedProgram_2 n T L m i (nI (k + 1)) σ) (fun j5 => nd_lt j5 9 (if j5 = i then some (1, σ) else df_X12_isUsedProgram_2 n T L m i (nI (k + 1)) σ)))) := by
      show dF_X12_isUsedProgram_2 n T L (df_X12_isUsedProgram_2 n T L m) i (nI k) σ = _
      unfold dF_X12_isUsedProgram_2 df_X12_isUsedProgram_30
      rw [if_neg (show ¬ (4 : Int32) ≤ nI k from znle (a := 4) hk (by omega))]
      simp only [ck, lt9, w, nb_let, nI_clamp (show k < 2 ^ 31 by omega)]
    have zz : ∀ x : Option (Int32 × S12), (σ.2.1 0 k = some i → nd_m (σ.2.1 0 k) x (fun j5 => nd_lt j5 9 (if j5 = i then some (1, σ) else x)) = some (1, σ)) ∧ (¬ σ.2.1 0 k = some i → nd_m (σ.2.1 0 k) x (fun j5 => nd_lt j5 9 (if j5 = i then some (1, σ) else x)) = x) := fun x => by
      refine ⟨fun e => ?_, fun e => ?_⟩
      · rw [e, nb_mS, nb_lt hi, if_pos rfl]
      · rcases h0 k hk with y | ⟨j, y1, y2⟩
        · rw [y, nb_mN]
        · rw [y2, nb_mS, nb_lt y1, if_neg (fun z => e (by rw [y2, z]))]
    rw [e0]
    refine ⟨fun e => ?_, fun e => ?_⟩
    · rcases h1 k hk with y | ⟨j, y1, y2⟩
      · rw [y, nb_mN]
        exact (zz _).1 (e.resolve_left (by rw [y]; exact fun z => by cases z))
      · rw [y2, nb_mS, nb_lt y1]
        by_cases z : j = i
        · rw [if_pos z]
        · rw [if_neg z]
          exact (zz _).1 (e.resolve_left (by rw [y2]; exact fun q => z (Option.some.inj q)))
    · rcases h1 k hk with y | ⟨j, y1, y2⟩
      · rw [y, nb_mN]
        exact (zz _).2 (fun z => e (Or.inr z))
      · rw [y2, nb_mS, nb_lt y1, if_neg (fun z => e (Or.inl (by rw [y2, z])))]
        exact (zz _).2 (fun z => e (Or.inr z))
  obtain ⟨m, e⟩ := nm_ls (fun m k => df_X12_isUsedProgram_2 n T L m i (nI k) σ) (fun k => decide (σ.2.1 1 k = some i ∨ σ.2.1 0 k = some i)) 0 4 n (by omega) (fun k m _ hk hP => (st k m (by omega)).2 (of_decide_eq_false hP))
  have e : df_X12_isUsedProgram n T L i σ = df_X12_isUsedProgram_2 n T L (m + 1) i (nI (fN (fun k => decide (σ.2.1 1 k = some i ∨ σ.2.1 0 k = some i)) 0 4)) σ := e
  obtain ⟨_, x2, x3, x4⟩ := fN_le (fun k => decide (σ.2.1 1 k = some i ∨ σ.2.1 0 k = some i)) 4 0
  generalize fN (fun k => decide (σ.2.1 1 k = some i ∨ σ.2.1 0 k = some i)) 0 4 = E at e x2 x3 x4
  by_cases c : E < 4
  · have x3 := of_decide_eq_true (x3 (by omega))
    refine Or.inl ⟨e.trans ((st E m c).1 x3), ?_⟩
    rcases x3 with y | y
    · exact ⟨E, by omega, by unfold slP; rw [if_pos c]; exact y⟩
    · exact ⟨E + 4, by omega, by unfold slP; rw [if_neg (by omega), show E + 4 - 4 = E by omega]; exact y⟩
  · refine Or.inr ⟨e.trans ?_, fun k hk => ?_⟩
    · rw [show E = 4 by omega]
      show dF_X12_isUsedProgram_2 n T L (df_X12_isUsedProgram_2 n T L m) i (nI 4) σ = _
      unfold dF_X12_isUsedProgram_2
      exact if_pos (show (4 : Int32) ≤ nI 4 by decide)
    · have := of_decide_eq_false (x4 k (by omega) (by omega))
      exact ⟨fun z => this (Or.inl z), fun z => this (Or.inr z)⟩
theorem unP (n T L : Nat) (hn : 20 < n) {σ : S12} (h1 : ∀ k : Nat, k < 4 → σ.2.1 1 k = none ∨ ∃ j : Nat, j < 9 ∧ σ.2.1 1 k = some j) (h0 : ∀ k : Nat, k < 4 → σ.2.1 0 k = none ∨ ∃ j : Nat, j < 9 ∧ σ.2.1 0 k = some j) (hp : ∀ i : Nat, i < 9 → σ.2.1 4 i = some i) : ∃ j : Nat, j < 9 ∧ df_X12_unusedProgram n T L σ = some (some j, σ) ∧ ∀ k : Nat, k < 4 → ¬ σ.2.1 1 k = some j ∧ ¬ σ.2.1 0 k = some j := by
  have e32 : ∀ i : Nat, i < 9 → df_X12_unusedProgram_32 n T L (nI i) σ = some (some i, σ) := fun i hi => by
    unfold df_X12_unusedProgram_32
    rw [nm_ck (by omega) (by omega), nI_clamp (by omega), hp i hi, nb_mS]
  have g : ∀ d i m : Nat, i + d = 8 → d < m → (∀ i' : Nat, i' < i → ∃ s : Nat, s < 8 ∧ slP σ s = some i') → ∃ j : Nat, j < 9 ∧ df_X12_unusedProgram_2 n T L m (nI i) σ = some (some j, σ) ∧ ∀ k : Nat, k < 4 → ¬ σ.2.1 1 k = some j ∧ ¬ σ.2.1 0 k = some j := fun d => by
    induction d with
    | zero =>
      intro i m hi hm hu
      obtain ⟨m, rfl⟩ : ∃ j : Nat, m = j + 1 := ⟨m - 1, by omega⟩
      rw [show i = 8 by omega] at hu ⊢
      have no : ∀ s : Nat, s < 8 → ¬ slP σ s = some 8 := fun s hs e => by
        have hq : ∀ i' : Nat, ∃ k : Nat, i' < 9 → k < 8 ∧ slP σ k = some i' := fun i' => by
          by_cases c : i' < 8
          · obtain ⟨k, a, b⟩ := hu i' c
            exact ⟨k, fun _ => ⟨a, b⟩⟩
          · exact ⟨s, fun y => ⟨hs, by rw [e, show i' = 8 by omega]⟩⟩
        obtain ⟨a, b, h1, h2, h3⟩ := pgn 8 (fun i' => Classical.choose (hq i')) (fun i' hi' => (Classical.choose_spec (hq i') hi').1)
        have s1 := (Classical.choose_spec (hq a) (by omega)).2
        have s2 := (Classical.choose_spec (hq b) h2).2
        have h3 : Classical.choose (hq a) = Classical.choose (hq b) := h3
        rw [h3, s2] at s1
        have := Option.some.inj s1
        omega
      refine ⟨8, by omega, ?_, fun k hk => ⟨fun e => no k (by omega) (by unfold slP; rw [if_pos hk]; exact e), fun e => no (k + 4) (by omega) (by unfold slP; rw [if_neg (by omega), show k + 4 - 4 = k by omega]; exact e)⟩⟩
      show dF_X12_unusedProgram_2 n T L (df_X12_unusedProgram_2 n T L m) (nI 8) σ = _
      unfold dF_X12_unusedProgram_2
      rw [if_pos (show (8 : Int32) ≤ nI 8 by decide)]
      exact e32 8 (by omega)
    | succ d ih =>
      intro i m hi hm hu
      obtain ⟨m, rfl⟩ : ∃ j : Nat, m = j + 1 := ⟨m - 1, by omega⟩
      have e0 : df_X12_unusedProgram_2 n T L (m + 1) (nI i) σ = nd_b2 (df_X12_isUsedProgram n T L i σ) (fun q7 s8 => if q7 = 0 then df_X12_unusedProgram_32 n T L (nI i) s8 else df_X12_unusedProgram_2 n T L m (nI (i + 1)) s8) := by
        show dF_X12_unusedProgram_2 n T L (df_X12_unusedProgram_2 n T L m) (nI i) σ = _
        unfold dF_X12_unusedProgram_2
        rw [if_neg (show ¬ (8 : Int32) ≤ nI i from znle (a := 8) (by omega) (by omega)), nm_ck (by omega) (by omega), nI_clamp (by omega), hp i (by omega), nb_mS, show nI i + Int32.ofInt 1 = nI (i + 1) from nI_add i 1]
        rfl
      rw [e0]
      rcases isU n T L i hn (by omega) h1 h0 with ⟨a, b⟩ | ⟨a, b⟩
      · rw [a, nb_b2, if_neg (by decide)]
        exact ih (i + 1) m (by omega) (by omega) (fun i' hi' => by
          by_cases c : i' = i
          · rw [c]; exact b
          · exact hu i' (by omega))
      · rw [a, nb_b2, if_pos rfl]
        exact ⟨i, by omega, e32 i (by omega), b⟩
  exact g 8 0 n (by omega) (by omega) (fun i' hi' => by omega)

/-- both have assembled: what the calls want of it -/
def ASZ (n L : Nat) (M T : St) (rc : Option (Int32 × (St × (St × St) × St))) (rr : Option (Int32 × (St × St))) : Prop := ∃ (Q2 U2 P2 S2 : St) (t z co m : Nat) (row : Nat → Int32), rc = some (0, (M, ((Q2, U2), P2))) ∧ rr = some (0, (T, S2)) ∧ df_X13_textSize n S2 = some (nI t, S2) ∧ df_X13_dataBegin n S2 = some (nI (bsN t), S2) ∧ df_X13_end n S2 = some (nI z, S2) ∧ df_X13_countOf n 1 S2 = some (nI co, S2) ∧ df_X13_addresses n S2 = some ((m, row), S2) ∧ (m ≤ 10986 ∧ 3 * m ≤ L + 128) ∧ sI P2 0 = nI t ∧ sI P2 1 = nI (bsN t) ∧ sI P2 2 = nI z ∧ sI P2 3 = nI co ∧ sI P2 4 = nI m ∧ (∀ k : Nat, k < m → row k = sR P2 1 k) ∧ t ≤ 32768 ∧ z ≤ 32768 ∧ (z = t ∨ bsN t < z) ∧ ∀ fm : Nat, fm ≤ 98304 → ∃ S3 : St, df_X13_put_ n (nI fm) S2 = some S3 ∧ (∀ i : Nat, i < z → ∃ b l : Nat, b < 256 ∧ l < 2 ^ 22 ∧ sR P2 0 i = vp_nar .byte ((nI b).toInt8.toInt32) ∧ sR S3 9 (fm + i) = nI (l * 256 + b) ∧ ∀ n : Nat, 40000 < n → df_X8_lineOf n (nI i) P2 = some (nI l, P2)) ∧ (∀ j : Nat, j < fm ∨ fm + 32768 ≤ j → sR S3 9 j = sR S2 9 j)
theorem lam_mn (X : Nat → Nat) : ∀ m k : Nat, lam X k ≤ lam X (k + m) := fun m => by
  induction m with
  | zero => intro k; exact Nat.le_refl _
  | succ m ih =>
    intro k
    have := ih k
    rw [show k + (m + 1) = (k + m) + 1 from rfl, lam_n]
    omega
theorem AS_Z {n L : Nat} {c : Nat → Nat} {M U P T : St} {rc : Option (Int32 × (St × (St × St) × St))} {rr : Option (Int32 × (St × St))} (hn : 70000 < n) (hL : L ≤ 32768) (h : ASG n L c M U P T rc rr) : ASZ n L M T rc rr := by
  obtain ⟨p, Bz, B0, sn, lu, ln, se, co, SW0, LW, cs, ns, C, A, NM, BK, bs, ws, nl, NR, LB0, sc, X, nL, nS, PAz, BY, Ds, Qs, Es, Zs, Ls, Fs, N0, NP, lv, sg, Q1, U1, S1, W, Q2, U2, P2, S2, hR, hp0, hp1, hX, hlv, hsg, hLD, big, hrc, hrr, o1, o2, o3, i0, i1, i2, i3, i4, r1, e1, e2, hWc, hWl, hv, ⟨B', ct, ap, gr, PA, OU, OF, hB, h5, hS⟩, hput⟩ := h
  obtain ⟨a1, a2, a3, a4, a5, a6, a7, a8, a9, a10, a11, a12, a13, a14, a15⟩ := hR
  obtain ⟨t1, t2, t3, t4, t5, t6, t7, t8, t9, t10⟩ := a1
  obtain ⟨b1, b2, b3, b4, b5, b6, b7, b8, b9⟩ := hB
  obtain ⟨_, q0, q1, q3, hU', u6, q7, q8, q9⟩ := hLD
  have hnm := NLB_l t10.2
  have hnL : nL ≤ 16500 := by omega
  have hX' : ∀ k : Nat, k < nL → X k < 2 ^ 20 := fun k hk => by have := (t7 k hk).2.1; omega
  have k3 : sI (pI S2 1 1) 3 = nI nL := (SR_3 hS).trans b4
  have k4 : sI (pI S2 1 1) 4 = nI (lay Ds Zs BY lv nS).1 := (SR_4 hS).trans b6
  have k5 : sI (pI S2 1 1) 5 = nI (lay Ds Zs BY lv nS).2 := (SR_5 hS).trans h5
  have k6 : ∀ k : Nat, k < nL → sR (pI S2 1 1) 6 k = nI (X k) := fun k hk => by
    show sR S2 6 k = _
    rw [SR_r6 hS]
    exact b5 k hk
  have k7 : sR (pI S2 1 1) 7 = W := (SR_r7 hS).trans b8
  generalize hlay : lay Ds Zs BY lv nS = ly at *
  have lb : ly.1 ≤ 32768 ∧ ly.2 ≤ 32768 ∧ (szA ly = ly.1 ∨ bsN ly.1 < szA ly) := by
    unfold szA at big ⊢
    unfold bsN at big ⊢
    by_cases y : ly.2 = 0
    · rw [if_pos y] at big ⊢
      omega
    · rw [if_neg y] at big ⊢
      omega
  have eB : df_X13_base n (pI S2 1 1) = some (nI (bsN ly.1), pI S2 1 1) := by
    unfold df_X13_base df_X13_base_0
    rw [k4]
    have e : ((((nI ly.1 + 1023) / 1024) * 1024 : Int32)) = nI (bsN ly.1) := bs_R (by omega)
    rw [e]
  have eA : df_X13_all n (pI S2 1 1) = some (nI (szA ly), pI S2 1 1) := by
    unfold df_X13_all df_X13_all_0 df_X13_all_34
    rw [if_neg (show ¬ sI (pI S2 1 1) 1 = 0 from (by decide : ¬ (1 : Int32) = 0)), k5, k4, eB, nb_b2, k5]
    rw [← szA_n (t := ly.1) (d := ly.2) (by omega)]
    split <;> rfl
  have cc := (cou_0 (n := n) hnL k3 k6 hX' nL 0 n (by omega) (by omega)).2
  have ad := adr_1 (n := n) (by omega) hnL k3 k6 hX' (by omega)
  rw [k4, k7] at ad
  have hlab := lcs_R (V := vlO (nI ly.1) X W) (R := sR U1 6) (R1 := sR P 1) (R2 := fun _ => 0) (nL := nL) (fun k hk y => by
    have l1 := lam_mn X (nL - (k + 1)) (k + 1)
    rw [show k + 1 + (nL - (k + 1)) = nL by omega, lam_n, if_neg y] at l1
    rw [u6 (lam X k) 4 (by omega) (by omega) (by omega)]
    exact (t6 k hk y).2.2) hv (by omega) nL (Nat.le_refl _)
  rw [← t4] at hlab
  refine ⟨Q2, U2, P2, pI S2 1 1, ly.1, szA ly, co, nmd X nL, _, hrc, hrr, ?_, ?_, ?_, ?_, ad, by omega, i0, i1, i2, i3, by rw [i4, hlab.1], fun k hk => by rw [r1]; exact (hlab.2 k hk).symm, lb.1, big, lb.2.2, fun fm hfm => ?_⟩
  · unfold df_X13_textSize df_X13_textSize_0
    rw [k4]
  · unfold df_X13_dataBegin df_X13_dataBegin_0
    rw [eB, nb_b2]
  · unfold df_X13_end df_X13_end_0
    rw [eA, nb_b2]
  · unfold df_X13_countOf df_X13_countOf_0
    have : nL - lam X nL = co := by omega
    rw [this] at cc
    exact cc
  · obtain ⟨B3, S3, ct3, ap3, gr3, PA3, OU3, OF3, w1, w2, w3, w4, w5, w6, w7⟩ := hput fm hfm
    exact ⟨S3, w1, w6, w7⟩

