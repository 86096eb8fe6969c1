theorem bc_256 (n : Nat) {A B : St × St} {s0 : St} {w : Nat → Int32} {G : Int32 → St × (St × St) × (St × St) → Option (St × (St × St) × (St × St))} (h : okY B.2) : dF_X6_become_2 n G (nI 256) (s0, ((pR A.1 0 w, A.2), B)) = some (s0, (bcM A B w, B)) := by
  have bd := bc_D n (A := A.2) (B := B.2) (s0 := nd_st0) h
  have c256 : ∀ {α : Type} (x : Option α), nd_cp 0 0 256 256 256 x = x := fun x => cp_id (a := 0) (b := 0) (k := 256) (by omega) (by omega) (by omega) (by omega)
  have c1024 : ∀ {α : Type} (x : Option α), nd_cp 0 0 1024 1024 1024 x = x := fun x => cp_id (a := 0) (b := 0) (k := 1024) (by omega) (by omega) (by omega) (by omega)
  have c528 : ∀ {α : Type} (x : Option α), nd_cp 0 0 528 528 528 x = x := fun x => cp_id (a := 0) (b := 0) (k := 528) (by omega) (by omega) (by omega) (by omega)
  have c112 : ∀ {α : Type} (x : Option α), nd_cp 0 0 112 112 112 x = x := fun x => cp_id (a := 0) (b := 0) (k := 112) (by omega) (by omega) (by omega) (by omega)
  have c16 : ∀ {α : Type} (x : Option α), nd_cp 0 0 16 16 16 x = x := fun x => cp_id (a := 0) (b := 0) (k := 16) (by omega) (by omega) (by omega) (by omega)
  have z0 : Int32.toNatClampNeg (0 : Int32) = 0 := tn_k (k := 0) (by omega)
  have z256 : Int32.toNatClampNeg (256 : Int32) = 256 := tn_k (k := 256) (by omega)
  have z1024 : Int32.toNatClampNeg (1024 : Int32) = 1024 := tn_k (k := 1024) (by omega)
  have z528 : Int32.toNatClampNeg (528 : Int32) = 528 := tn_k (k := 528) (by omega)
  have z112 : Int32.toNatClampNeg (112 : Int32) = 112 := tn_k (k := 112) (by omega)
  have z16 : Int32.toNatClampNeg (16 : Int32) = 16 := tn_k (k := 16) (by omega)
  unfold dF_X6_become_2
  rw [if_pos (show (256 : Int32) ≤ nI 256 by decide), z0, z256, z1024, z528, z112, z16]
  rw [c256, nb_let, c1024, nb_let, nb_let, c528, nb_let, c528, nb_let, c256, nb_let, c112, nb_let, c16, nb_let, c16, nb_let, nb_let]
  dsimp only
  rw [bd, nb_b1, nb_let, nb_let, nb_let, nb_let, nb_let, nb_let, nb_let, nb_let, nb_let]
  dsimp only
  unfold bcM
  simp only [nb_RR, nb_RI, nb_II, nb_IR, nm_IL, nm_IQ, nm_RL, nm_RQ, nm_LI, nm_LR, nm_LL, nm_LQ, nm_QI, nm_QR, nm_QL, nm_QQ, Nat.reduceEqDiff, if_false, if_true, ↓reduceIte]
theorem bc_k (n : Nat) {A B : St × St} {s0 : St} {w : Nat → Int32} {g : Int32 → St × (St × St) × (St × St) → Option (St × (St × St) × (St × St))} {k x : Nat} (hk : k < 256) (hx : x < 2 ^ 31) (ex : sR B.1 1 k = nI x) : dF_X6_become_2 n g (nI k) (s0, ((pR A.1 0 w, A.2), B)) = g (nI (k + 1)) (s0, ((pR A.1 0 (if x ≤ 0 then w else va_cpy (sR B.1 0) w (k * 256) (k * 256) 256), A.2), B)) := by
  have u1 : k < 2 ^ 31 := by omega
  have u2 : k * 256 < 2 ^ 31 := by omega
  have k1 : nI k * 256 = nI (k * 256) := by simp (disch := (first | assumption | decide | omega)) only [eq_self, Nat.reduceEqDiff, Nat.reduceLeDiff, nl_256, no_1, no_1024, pk_mul, nI_add, nm_ck, nI_clamp, nI_ltI, nI_leI, nI_eq, nb_b2, nb_b1, ↓nb_let, nm_z0, nm_z1, nb_II, nb_IR, nb_RI, nb_RR, nm_IL, nm_IQ, nm_RL, nm_RQ, nm_LI, nm_LR, nm_LL, nm_LQ, nm_QI, nm_QR, nm_QL, nm_QQ, nm_rr, nm_ii, nm_eqm, not_false_eq_true, pk_sub, nm_div, nm_shl, nm_shr, nm_ush, nm_or8, nm_or64, nm_or256, nm_m1, nm_m3, nm_m7, nm_m15, nm_m31, nm_m63, nm_m255, nm_m511, nm_m1023, nm_m2047, nm_m65535, Nat.reduceMod, Nat.reducePow, Nat.reduceAdd, Nat.reduceSub, Nat.reduceMul, nm_bo, nm_bi, nm_rc, nm_ic, nm_ri, nm_rl, nm_rq, nm_ql, nm_qi, nm_li, nm_us, nm_uu, nm_cp, nm_sa31, nm_sa7, nm_m127, nm_m2, nm_nz, nm_nzk, nm_eq32, nm_nzf, if_true, if_false, ↓reduceIte, if_pos, if_neg]
  have z256 : Int32.toNatClampNeg (256 : Int32) = 256 := tn_k (k := 256) (by omega)
  have c : ∀ {α : Type} (y : Option α), nd_cp (nI (k * 256)) (nI (k * 256)) 256 65536 65536 y = y := fun y => cp_id (a := k * 256) (b := k * 256) (k := 256) (by omega) (by omega) (by omega) (by omega)
  have k2 : nI k + Int32.ofInt 1 = nI (k + 1) := nI_add ..
  unfold dF_X6_become_2
  rw [if_neg (show ¬ (256 : Int32) ≤ nI k from fun z => by have z : nI 256 ≤ nI k := z; rw [nI_leI (by omega) u1] at z; omega), nm_ck hk u1, nI_clamp u1]
  by_cases d : x ≤ 0
  · rw [if_pos (show sR B.1 1 k ≤ (0 : Int32) from (show sR B.1 1 k ≤ nI 0 by rw [ex, nI_leI hx (by omega)]; exact d)), if_pos d]
    unfold df_X6_become_42
    rw [nb_let, k2]
  · rw [if_neg (show ¬ sR B.1 1 k ≤ (0 : Int32) from fun z => by have z : sR B.1 1 k ≤ nI 0 := z; rw [ex, nI_leI hx (by omega)] at z; exact d z), if_neg d, k1, c, nI_clamp u2, z256, nb_let]
    unfold df_X6_become_42
    rw [nb_let, k2]
    dsimp only
    rw [show sR (pR A.1 0 w) 0 = w from rfl, nm_rr]
theorem bc_M (n : Nat) (hn : 1024 < n) {A B : St × St} {s0 : St} (h : okY B.2) (hu : ∀ f : Nat, f < 256 → ∃ x : Nat, x < 2 ^ 31 ∧ sR B.1 1 f = nI x) : ∃ w : Nat → Int32, df_X6_become n (s0, (A, B)) = some (s0, (bcM A B w, B)) ∧ ∀ f x : Nat, f < 256 → x < 2 ^ 31 → sR B.1 1 f = nI x → 0 < x → ∀ j : Nat, j < 256 → w (f * 256 + j) = sR B.1 0 (f * 256 + j) := by
  obtain ⟨m, s, ⟨w, e1, e2⟩, e3⟩ := nm_l1 (S := St × (St × St) × (St × St)) (fun g k s => df_X6_become_2 n g (nI k) s) (fun k s => ∃ w : Nat → Int32, s = (s0, ((pR A.1 0 w, A.2), B)) ∧ ∀ f x : Nat, f < k → x < 2 ^ 31 → sR B.1 1 f = nI x → 0 < x → ∀ j : Nat, j < 256 → w (f * 256 + j) = sR B.1 0 (f * 256 + j)) 256 n (by omega) (fun k g s hk ⟨w, e1, e2⟩ => by
    subst e1
    obtain ⟨x, hx, ex⟩ := hu k hk
    refine ⟨_, ⟨if x ≤ 0 then w else va_cpy (sR B.1 0) w (k * 256) (k * 256) 256, rfl, fun f y hf hy ey y0 j hj => ?_⟩, bc_k n hk hx ex⟩
    by_cases c : x ≤ 0
    · rw [if_pos c]
      by_cases d : f = k
      · rw [d] at ey
        have : x = y := nm_inI (by omega) (by omega) (ex.symm.trans ey)
        omega
      · exact e2 f y (by omega) hy ey y0 j hj
    · rw [if_neg c]
      by_cases d : f = k
      · rw [d, va_i (by omega), show k * 256 + (k * 256 + j - k * 256) = k * 256 + j by omega]
      · rw [va_o (by omega)]
        exact e2 f y (by omega) hy ey y0 j hj) (s0, (A, B)) ⟨sR A.1 0, by rw [nm_r0], fun f x hf => by omega⟩
  subst e1
  refine ⟨w, Eq.trans (b := df_X6_become_2 n n (nI 0) (s0, (A, B))) rfl (Eq.trans e3 ?_), e2⟩
  show df_X6_become_2 n (m + 1) (nI 256) _ = _
  rw [show df_X6_become_2 n (m + 1) = dF_X6_become_2 n (df_X6_become_2 n m) from rfl]
  exact bc_256 n h
