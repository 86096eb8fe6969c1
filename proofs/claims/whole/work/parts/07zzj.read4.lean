theorem ma_f {X : St × St} {M : St × St} (h : rK M X) {p Z q : Nat} (hp : p < 16) (hm : ma X p Z q = true) : Z < 65536 ∧ ∃ f : Nat, f < 256 ∧ sR X.1 16 (64 * p + Z / 1024) = nI f := by
  unfold ma at hm
  by_cases d : Z < 65536
  · rw [decide_eq_true d, Bool.true_and] at hm
    refine ⟨d, ?_⟩
    rcases h.1 (64 * p + Z / 1024) (by omega) with ⟨y1, y2⟩ | ⟨f, r, y1, y2, y3, y4, _⟩
    · exfalso
      unfold mb at hm
      rw [y1] at hm
      simp at hm
    · exact ⟨f, y1, y4⟩
  · rw [decide_eq_false d, Bool.false_and] at hm
    exact nomatch hm
/-- reading, once it is known how many bytes come and that there are frames -/
theorem rd_E (n : Nat) (hn : 1024 < n) {B p : Nat} {K : St × (St × (St × St))} {X : St × St} (h : cP B p K X) {A N o k t m : Nat} {v : Nat → Int32} (ho : o < 48) (ht : t < 16) (hN : N ≤ 512) (hmN : m ≤ N) (hk : k = 1 ∨ k = 3 ∨ k = 4) (ek : sR X.1 19 o = nI k) (et : sR X.1 20 o = nI t) (f1 : k = 1 → ∀ L : Nat, L ≤ 512 → sR X.1 26 t = nI L → m ≤ L) (f3 : k = 3 → ∀ x : Nat, x ≤ 512 → sR X.1 21 o = nI x → x + m ≤ 512) (f4 : k = 4 → ∀ T : Nat, T ≤ 512 → sI X.1 7 = nI T → m ≤ T) (hv : ∀ j : Nat, j < m → df_X10_comingByte n (nI o) (nI j) K.2.2.2 = some (v j, K.2.2.2)) (hr : ∀ (j : Nat) (b' fr' ho' : Nat → Int32) (us' re' wr' : Int32) (g : Int32 → Int32 → Int32 → Int32 → Int32 → Int32 → St × St → Option (Int32 × (St × St))), j < m → dF_X16_read_124 n g (nI A) (nI N) (nI o) (nI m) (nI t) (nI j) (wX X b' fr' (sR X.1 17) ho' us' re' wr') = nd_b1 (df_X16_write n (nI p) (nI (A + j)) (v j) (wX X b' fr' (sR X.1 17) ho' us' re' wr')) (fun s => g (nI A) (nI N) (nI o) (nI m) (nI t) (nI (j + 1)) s)) {fa fb : Nat} (m1' : 1 ≤ m) (hA : A + m ≤ 65536) (ha : fa < 256) (hb : fb < 256) (ea : sR X.1 16 (64 * p + A / 1024) = nI fa) (eb : sR X.1 16 (64 * p + (A + m - 1) / 1024) = nI fb) (hw : cU (sR X.1 16) + wt (sR X.1 16) (64 * p + A / 1024) (64 * p + (A + m - 1) / 1024) ≤ 256) : ∃ M1 M2 : St × St, df_X6_own n (nI p) (nI A) K.2.2 = some (nI 1, M1) ∧ df_X6_own n (nI p) (nI (A + m - 1)) M1 = some (nI 1, M2) ∧ cO B p K X (df_X5_read_160 n n (nI p) (nI A) (nI N) (nI o) (nI m) (nI 0) (K.1, (K.2.1, M2))) (df_X16_read_124 n n (nI A) (nI N) (nI o) (nI m) (nI t) (nI 0) X) := by
  obtain ⟨h1, h2, h3, h4, h5, h6, h7⟩ := h
  have okr := h1.2.2.2.2.1.2.2.2.2.2.2.2.2.1
  have er : sI K.2.2.1 6 = sI X.1 4 := h1.2.2.2.2.1.2.2.2.2.2.2.2.1
  obtain ⟨M1, w, u, g, fu, fr, hho, us, o1, o2, q1, q2, q3, q4, q5, _, q7⟩ := nk_write n hn (M := K.2.2) (X := X) h1.1 (p := p) (a := A) (m := m) h2 m1' (by omega) hA ha hb ea eb hw okr (Or.inl h7)
  obtain ⟨q, w', r1, r2⟩ := rd_C n (K1 := K.1) (K2 := K.2.1) (M := K.2.2) q1 (N := N) (o := o) (show m < n by omega) (by omega) h2 hA q2 hv
  obtain ⟨q', s1⟩ := rd_R n (N := N) (o := o) (x6 := nI t) (show m < n by omega) (q3 v) (fun k hk => q7 v k hk) hr
  have hre : okR (rvs (sI X.1 4) A m) := okR_rvs okr A m
  have rm := rM_wrote h1 (wn := nI (p * 67108864 + A * 1024 + m)) (wr := wvs X (sI X.1 16) p A m) r1 hre (fun j hj => ⟨fun z => by
    by_cases c : sR X.1 16 j = -nI 1
    · exact c
    · exact absurd z (q5 j hj c), fun z => q4 j z hj⟩)
  obtain ⟨D', X', t1, t2, t3, t4, t5⟩ := rd_T n hn rm ho ht hN hmN hk ek et f1 f3 f4 (nI A)
  have nt := nk_note n (M := mU K.2.2 w' u g fu) (re := sI X.1 4) er okr h2 hA m1' (show m ≤ 512 by omega)
  have nt : df_X6_noteWrite n (nI p) (nI A) (nI m) (mU K.2.2 w' u g fu) = some (pI (pI (mU K.2.2 w' u g fu).1 6 (rvs (sI X.1 4) A m)) 7 (nI (p * 67108864 + A * 1024 + m)), K.2.2.2) := nt
  have t1 : df_X10_taken n (nI o) (nI N) (nI m) K.2.2.2 = some D' := t1
  refine ⟨M1, mU K.2.2 w u g fu, o1, o2, ?_⟩
  obtain ⟨j1, j2, j3, j4, j5, j6, j7⟩ := t4
  refine ⟨(nI m).toInt64, nI m, K.1, (pI (pI (mU K.2.2 w' u g fu).1 6 (rvs (sI X.1 4) A m)) 7 (nI (p * 67108864 + A * 1024 + m)), D'), X', ?_, ?_, t3, fun _ => rfl, Or.inl ⟨j4.trans h4, rfl⟩, ⟨j1, j2, j3, j5, j6⟩, Or.inr ⟨A, m, m1', by omega, hA, rfl, ?_⟩, fun _ => by rw [t5]; exact h5, fun z => absurd ((j4.trans h4).symm.trans z) (by decide)⟩
  · rw [r2, show df_X5_read_160 n (q + 1) = dF_X5_read_160 n (df_X5_read_160 n q) from rfl]
    generalize df_X5_read_160 n q = G
    have v2 : m < 2 ^ 31 := by omega
    clear rm t3 r1 r2 q1 q2 q3 q4 q5 q7 h1 hr hv s1
    generalize mU K.2.2 w' u g fu = S at nt
    simp (disch := (first | assumption | decide | omega)) only [dF_X5_read_160, Nat.le_refl, nt, t1, eq_self, Nat.reduceEqDiff, Nat.reduceLeDiff, nl_1, nl_255, no_1, no_1024, pk_mul, nI_add, nm_ck, nI_clamp, nI_ltI, nI_leI, nI_eq, nb_b2, nb_b1, ↓nb_let, nm_z0, nm_z1, nb_II, nb_IR, nb_RI, nb_RR, nm_IL, nm_IQ, nm_RL, nm_RQ, nm_LI, nm_LR, nm_LL, nm_LQ, nm_QI, nm_QR, nm_QL, nm_QQ, nm_rr, nm_ii, nm_eqm, not_false_eq_true, pk_sub, nm_div, nm_shl, nm_shr, nm_ush, nm_or8, nm_or64, nm_or256, nm_m1, nm_m3, nm_m7, nm_m15, nm_m31, nm_m63, nm_m255, nm_m511, nm_m1023, nm_m2047, nm_m65535, Nat.reduceMod, Nat.reducePow, Nat.reduceAdd, Nat.reduceSub, Nat.reduceMul, nm_bo, nm_bi, nm_rc, nm_ic, nm_ri, nm_rl, nm_rq, nm_ql, nm_qi, nm_li, nm_us, nm_uu, nm_cp, nm_sa31, nm_sa7, nm_m127, nm_m2, nm_nz, nm_nzk, nm_eq32, nm_nzf, if_true, if_false, ↓reduceIte, if_pos, if_neg]
  · rw [s1, show df_X16_read_124 n (q' + 1) = dF_X16_read_124 n (df_X16_read_124 n q') from rfl]
    exact t2 _
  · rw [j7]
    show wvs X (sI X.1 16) p A m = wvs X (nI 0) p A m
    rw [h7]
