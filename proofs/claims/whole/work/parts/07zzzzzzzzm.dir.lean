theorem dsp_40 {n : Nat} {S : St} (hc : cstS S) (k : Nat) (hk : k < 128) (hs : shT k = 40) (od : Int32) : df_X13_statement_136 n (nI k) od S = nd_b1 (df_X13_directive n 40 (ptT k ||| od) S) (fun (s : St) => df_X13_statement_326 n s) := by
  unfold df_X13_statement_136
  rw [if_pos (show (0 : Int32) ≤ nI k from zle (a := 0) (Nat.zero_le _) (by omega)), nm_ck (by omega) (by omega), nI_clamp (by omega), (hc k hk).2.1, hs, nb_let, nm_ck (by omega) (by omega), (hc k hk).2.2, nb_let, if_neg (show ¬ (40 : Int32) ≤ 39 by decide)]
theorem dsp_41 {n : Nat} {S : St} (hc : cstS S) (k : Nat) (hk : k < 128) (hs : shT k = 41) (od : Int32) : df_X13_statement_136 n (nI k) od S = nd_b1 (df_X13_directive n 41 (ptT k ||| od) S) (fun (s : St) => df_X13_statement_326 n s) := by
  unfold df_X13_statement_136
  rw [if_pos (show (0 : Int32) ≤ nI k from zle (a := 0) (Nat.zero_le _) (by omega)), nm_ck (by omega) (by omega), nI_clamp (by omega), (hc k hk).2.1, hs, nb_let, nm_ck (by omega) (by omega), (hc k hk).2.2, nb_let, if_neg (show ¬ (41 : Int32) ≤ 39 by decide)]
theorem dsp_42 {n : Nat} {S : St} (hc : cstS S) (k : Nat) (hk : k < 128) (hs : shT k = 42) (od : Int32) : df_X13_statement_136 n (nI k) od S = nd_b1 (df_X13_directive n 42 (ptT k ||| od) S) (fun (s : St) => df_X13_statement_326 n s) := by
  unfold df_X13_statement_136
  rw [if_pos (show (0 : Int32) ≤ nI k from zle (a := 0) (Nat.zero_le _) (by omega)), nm_ck (by omega) (by omega), nI_clamp (by omega), (hc k hk).2.1, hs, nb_let, nm_ck (by omega) (by omega), (hc k hk).2.2, nb_let, if_neg (show ¬ (42 : Int32) ≤ 39 by decide)]
theorem dsp_43 {n : Nat} {S : St} (hc : cstS S) (k : Nat) (hk : k < 128) (hs : shT k = 43) (od : Int32) : df_X13_statement_136 n (nI k) od S = nd_b1 (df_X13_directive n 43 (ptT k ||| od) S) (fun (s : St) => df_X13_statement_326 n s) := by
  unfold df_X13_statement_136
  rw [if_pos (show (0 : Int32) ≤ nI k from zle (a := 0) (Nat.zero_le _) (by omega)), nm_ck (by omega) (by omega), nI_clamp (by omega), (hc k hk).2.1, hs, nb_let, nm_ck (by omega) (by omega), (hc k hk).2.2, nb_let, if_neg (show ¬ (43 : Int32) ≤ 39 by decide)]
theorem dsp_44 {n : Nat} {S : St} (hc : cstS S) (k : Nat) (hk : k < 128) (hs : shT k = 44) (od : Int32) : df_X13_statement_136 n (nI k) od S = nd_b1 (df_X13_directive n 44 (ptT k ||| od) S) (fun (s : St) => df_X13_statement_326 n s) := by
  unfold df_X13_statement_136
  rw [if_pos (show (0 : Int32) ≤ nI k from zle (a := 0) (Nat.zero_le _) (by omega)), nm_ck (by omega) (by omega), nI_clamp (by omega), (hc k hk).2.1, hs, nb_let, nm_ck (by omega) (by omega), (hc k hk).2.2, nb_let, if_neg (show ¬ (44 : Int32) ≤ 39 by decide)]
theorem dsp_45 {n : Nat} {S : St} (hc : cstS S) (k : Nat) (hk : k < 128) (hs : shT k = 45) (od : Int32) : df_X13_statement_136 n (nI k) od S = nd_b1 (df_X13_directive n 45 (ptT k ||| od) S) (fun (s : St) => df_X13_statement_326 n s) := by
  unfold df_X13_statement_136
  rw [if_pos (show (0 : Int32) ≤ nI k from zle (a := 0) (Nat.zero_le _) (by omega)), nm_ck (by omega) (by omega), nI_clamp (by omega), (hc k hk).2.1, hs, nb_let, nm_ck (by omega) (by omega), (hc k hk).2.2, nb_let, if_neg (show ¬ (45 : Int32) ≤ 39 by decide)]
theorem dsp_46 {n : Nat} {S : St} (hc : cstS S) (k : Nat) (hk : k < 128) (hs : shT k = 46) (od : Int32) : df_X13_statement_136 n (nI k) od S = nd_b1 (df_X13_directive n 46 (ptT k ||| od) S) (fun (s : St) => df_X13_statement_326 n s) := by
  unfold df_X13_statement_136
  rw [if_pos (show (0 : Int32) ≤ nI k from zle (a := 0) (Nat.zero_le _) (by omega)), nm_ck (by omega) (by omega), nI_clamp (by omega), (hc k hk).2.1, hs, nb_let, nm_ck (by omega) (by omega), (hc k hk).2.2, nb_let, if_neg (show ¬ (46 : Int32) ≤ 39 by decide)]
theorem dsp_47 {n : Nat} {S : St} (hc : cstS S) (k : Nat) (hk : k < 128) (hs : shT k = 47) (od : Int32) : df_X13_statement_136 n (nI k) od S = nd_b1 (df_X13_directive n 47 (ptT k ||| od) S) (fun (s : St) => df_X13_statement_326 n s) := by
  unfold df_X13_statement_136
  rw [if_pos (show (0 : Int32) ≤ nI k from zle (a := 0) (Nat.zero_le _) (by omega)), nm_ck (by omega) (by omega), nI_clamp (by omega), (hc k hk).2.1, hs, nb_let, nm_ck (by omega) (by omega), (hc k hk).2.2, nb_let, if_neg (show ¬ (47 : Int32) ≤ 39 by decide)]
theorem dsp_48 {n : Nat} {S : St} (hc : cstS S) (k : Nat) (hk : k < 128) (hs : shT k = 48) (od : Int32) : df_X13_statement_136 n (nI k) od S = nd_b1 (df_X13_directive n 48 (ptT k ||| od) S) (fun (s : St) => df_X13_statement_326 n s) := by
  unfold df_X13_statement_136
  rw [if_pos (show (0 : Int32) ≤ nI k from zle (a := 0) (Nat.zero_le _) (by omega)), nm_ck (by omega) (by omega), nI_clamp (by omega), (hc k hk).2.1, hs, nb_let, nm_ck (by omega) (by omega), (hc k hk).2.2, nb_let, if_neg (show ¬ (48 : Int32) ≤ 39 by decide)]
theorem dsp_49 {n : Nat} {S : St} (hc : cstS S) (k : Nat) (hk : k < 128) (hs : shT k = 49) (od : Int32) : df_X13_statement_136 n (nI k) od S = nd_b1 (df_X13_directive n 49 (ptT k ||| od) S) (fun (s : St) => df_X13_statement_326 n s) := by
  unfold df_X13_statement_136
  rw [if_pos (show (0 : Int32) ≤ nI k from zle (a := 0) (Nat.zero_le _) (by omega)), nm_ck (by omega) (by omega), nI_clamp (by omega), (hc k hk).2.1, hs, nb_let, nm_ck (by omega) (by omega), (hc k hk).2.2, nb_let, if_neg (show ¬ (49 : Int32) ≤ 39 by decide)]
theorem dirA : shT (sgm 118) = 40 ∧ shT (sgm 119) = 41 ∧ shT (sgm 120) = 42 ∧ shT (sgm 121) = 43 ∧ shT (sgm 122) = 44 ∧ shT (sgm 123) = 45 ∧ shT (sgm 124) = 46 ∧ shT (sgm 125) = 47 ∧ shT (sgm 126) = 48 ∧ shT (sgm 127) = 49 ∧ ptT (sgm 121) = 1 ∧ ptT (sgm 122) = 2 ∧ ptT (sgm 123) = 4 ∧ ptT (sgm 124) = 0 ∧ ptT (sgm 125) = 0 := by decide +kernel
theorem pI_s (σ : St) (k : Nat) : pI σ k (sI σ k) = σ := Prod.ext (funext fun j => by
  show (if j = k then sI σ k else σ.1 j) = σ.1 j
  by_cases h : j = k
  · rw [if_pos h, h]; rfl
  · rw [if_neg h]) rfl
theorem SR_p14 {B : St} {ct : Nat} {gr : Bool} {PA BY OU : Nat → Int32} {ft : Int32} {ap : Nat} {S : St} (h : SR B ct gr PA BY OU ft ap S) (v : Int32) : SR (pI B 14 v) ct gr PA BY OU ft ap (pI S 14 v) := by
  obtain ⟨ms, dv, ls, sg, vl, PL, tk, fr, to, nm, rfl⟩ := h
  refine ⟨ms, dv, ls, sg, vl, PL, tk, fr, to, nm, Prod.ext (funext fun j => ?_) rfl⟩
  show (if j = 14 then v else _) = _
  by_cases h : j = 14
  · subst h; rfl
  · unfold uR xR yR pI
    simp only [if_neg h]
/-- .space -/
theorem rfb_S {n L e : Nat} {c : Nat → Nat} {BC BR0 : St} (hT0 : atx n L e c BC BR0) {q p1 κ v1 : Nat} {x : Int32} (T : TS n L e c BC q q p1 κ 1 v1 x) (hN : NAr n L c q (p1 - q) 126 0) {p2 m : Nat} {P : Nat → Tp} (R : RX n L e c BC p1 true p2 m P) {X0 : Nat → Nat} {W0 : Nat → Int32} {n0 : Nat} {z : Int32} (hF : FXD c e X0 W0 n0 P m z) {k : Nat} (hz : z = nI k) {se : Nat} : RFB n L e c BC q se 0 3 0 none X0 W0 n0 (7, 0, 0, [], []) := by
  intro B X nL cu A ct ap μ gr PA BY OU S hV hc hE h14 hP hA hlw hl hb h hμ hw
  have qe : q ≤ e := T.1
  have eL' : e ≤ L := hT0.2.2.1
  have L' : L ≤ 32768 := hT0.2.1
  obtain ⟨m1, m2, m3, m4, m5⟩ := md_n (B := B) hμ
  have hV' := RV_p15 hV (nI μ)
  have hY : PY PA cu q := ⟨A * 2 ^ 17 + q, hP, by omega, by omega⟩
  have ou : ∀ O : Nat → Int32, (if μ = 3 then wrL O (sI B 19).toNatClampNeg [] else O) = O := fun O => by split <;> rfl
  obtain ⟨S1, e1, e2, e3⟩ := stm_2 hV.1 hc h (nI μ) T hN
  obtain ⟨S2, f1, f2, f3⟩ := fix_L hV' hY e2 (by rw [m1]; exact m2) R hF hE 0 32768
  have f4 := SR_w18 f3 k
  refine ⟨pI S2 18 (nI k), ?_, fun _ w => absurd rfl w, fun _ => ⟨k, p2, gr, f2, fun u => absurd (show (7 : Nat) = 1 ∨ (7 : Nat) = 2 from u) (by decide), ?_⟩⟩
  · rw [e1, dsp_48 e3 (sgm 126) (sgm_l (by omega)) dirA.2.2.2.2.2.2.2.2.1 0]
    unfold df_X13_directive df_X13_directive_0 df_X13_directive_185
    rw [if_pos (by decide), if_neg (by decide), if_pos rfl, f1, nb_b2, SR_18 e2, hz, nI_add, Nat.zero_add, nb_let, nb_b1]
    exact s326 (by rw [SR_15 f4, m1]; exact m2)
  · show SR (pI B 15 (nI μ)) k gr PA BY (if μ = 3 then wrL OU (sI B 19).toNatClampNeg [] else OU) 0 p2 (pI S2 18 (nI k))
    rw [ou]
    exact f4
/-- .align -/
theorem rfb_L {n L e : Nat} {c : Nat → Nat} {BC BR0 : St} (hT0 : atx n L e c BC BR0) {q p1 κ v1 : Nat} {x : Int32} (T : TS n L e c BC q q p1 κ 1 v1 x) (hN : NAr n L c q (p1 - q) 127 0) {p2 m : Nat} {P : Nat → Tp} (R : RX n L e c BC p1 true p2 m P) {X0 : Nat → Nat} {W0 : Nat → Int32} {n0 : Nat} {z : Int32} (hF : FXD c e X0 W0 n0 P m z) {se : Nat} : RFB n L e c BC q se 0 3 0 (some (-1 - z)) X0 W0 n0 (8, 0, 0, [], []) := by
  intro B X nL cu A ct ap μ gr PA BY OU S hV hc hE h14 hP hA hlw hl hb h hμ hw
  have qe : q ≤ e := T.1
  have eL' : e ≤ L := hT0.2.2.1
  have L' : L ≤ 32768 := hT0.2.1
  obtain ⟨m1, m2, m3, m4, m5⟩ := md_n (B := B) hμ
  have hV' := RV_p15 hV (nI μ)
  have hY : PY PA cu q := ⟨A * 2 ^ 17 + q, hP, by omega, by omega⟩
  have ou : ∀ O : Nat → Int32, (if μ = 3 then wrL O (sI B 19).toNatClampNeg [] else O) = O := fun O => by split <;> rfl
  obtain ⟨S1, e1, e2, e3⟩ := stm_2 hV.1 hc h (nI μ) T hN
  obtain ⟨S2, f1, f2, f3⟩ := fix_L hV' hY e2 (by rw [m1]; exact m2) R hF hE 0 10
  have hcu := hV.2.2.2.2.2.2.1
  have h16 := hV.2.2.2.2.2.1
  have s16 : sI S2 16 = nI cu := (SR_16 f3).trans h16
  have bu : upd BY cu (-1 - z) = BY := funext fun i => by
    unfold upd
    by_cases w : i = cu
    · rw [if_pos w, w]; exact (hb _ rfl).symm
    · rw [if_neg w]
  have f4 := SR_w5 f3 (upd BY cu (-1 - z))
  rw [bu] at f4
  refine ⟨pR S2 5 BY, ?_, fun _ w => absurd rfl w, fun _ => ⟨0, p2, gr, f2, fun u => absurd (show (8 : Nat) = 1 ∨ (8 : Nat) = 2 from u) (by decide), ?_⟩⟩
  · rw [e1, dsp_49 e3 (sgm 127) (sgm_l (by omega)) dirA.2.2.2.2.2.2.2.2.2.1 0]
    unfold df_X13_directive df_X13_directive_0 df_X13_directive_185
    rw [if_pos (by decide), if_neg (by decide), if_neg (by decide), if_pos rfl, f1, nb_b2, s16, nm_ck hcu (by omega), nI_clamp (by omega), SR_r5 f3, bu, nb_let, nb_b1]
    exact s326 (by rw [SR_15 f4, m1]; exact m2)
  · show SR (pI B 15 (nI μ)) 0 gr PA BY (if μ = 3 then wrL OU (sI B 19).toNatClampNeg [] else OU) 0 p2 (pR S2 5 BY)
    rw [ou]
    exact f4
/-- .equ -/
theorem rfb_E {n L e : Nat} {c : Nat → Nat} {BC BR0 : St} (hT0 : atx n L e c BC BR0) {q p1 κ v1 : Nat} {x : Int32} (T : TS n L e c BC q q p1 κ 1 v1 x) (hN : NAr n L c q (p1 - q) 120 0) {q1 p3 κ1 τ1 w1 : Nat} {x1 : Int32} (T1 : TS n L e c BC p1 q1 p3 κ1 τ1 w1 x1) (t1 : τ1 = 1) {q2 p4 κ2 τ2 w2 : Nat} {x2 : Int32} (T2 : TS n L e c BC p3 q2 p4 κ2 τ2 w2 x2) (t2 : τ2 = 44) {p2 m : Nat} {P : Nat → Tp} (R : RX n L e c BC p4 true p2 m P) {X0 : Nat → Nat} {W0 : Nat → Int32} {n0 : Nat} {z : Int32} (hF : FXD c e X0 W0 n0 P m z) {se : Nat} : RFB n L e c BC q se 0 3 0 none X0 W0 n0 (9, 0, 0, [], []) := by
  intro B X nL cu A ct ap μ gr PA BY OU S hV hc hE h14 hP hA hlw hl hb h hμ hw
  have qe : q ≤ e := T.1
  have eL' : e ≤ L := hT0.2.2.1
  have L' : L ≤ 32768 := hT0.2.1
  obtain ⟨m1, m2, m3, m4, m5⟩ := md_n (B := B) hμ
  have hV' := RV_p15 hV (nI μ)
  have hY : PY PA cu q := ⟨A * 2 ^ 17 + q, hP, by omega, by omega⟩
  have ou : ∀ O : Nat → Int32, (if μ = 3 then wrL O (sI B 19).toNatClampNeg [] else O) = O := fun O => by split <;> rfl
  obtain ⟨S1, e1, e2, e3⟩ := stm_2 hV.1 hc h (nI μ) T hN
  obtain ⟨S2, f1, f2, _⟩ := ned_y (B := pI B 15 (nI μ)) hV.1 e2 T1 1 (by omega) (by omega) t1
  obtain ⟨S3, f3, f4⟩ := com_y (B := pI B 15 (nI μ)) hV.1 f2 T2 t2
  obtain ⟨S4, f5, f6, f7⟩ := fix_L hV' hY f4 (by rw [m1]; exact m2) R hF hE (-2147483648) 2147483647
  have nm : ¬ sI S4 15 = 0 := by rw [SR_15 f7, m1]; exact m2
  have nm2 : ¬ sI S2 15 = 0 := by rw [SR_15 f2, m1]; exact m2
  refine ⟨S4, ?_, fun _ w => absurd rfl w, fun _ => ⟨0, p2, gr, f6, fun u => absurd (show (9 : Nat) = 1 ∨ (9 : Nat) = 2 from u) (by decide), ?_⟩⟩
  · rw [e1, dsp_42 e3 (sgm 120) (sgm_l (by omega)) dirA.2.2.1 0]
    unfold df_X13_directive df_X13_directive_0 df_X13_directive_185 df_X13_constant df_X13_constant_0
    rw [if_pos (by decide), if_pos rfl, show df_X13_needs n 1 S1 = some (1, S2) from f1, nb_b2, if_neg (by decide), nb_let, nb_let, if_neg nm2]
    unfold df_X13_constant_49 df_X13_constant_90
    rw [f3, nb_b2, if_neg (by decide), f5, nb_b2, if_neg nm, nb_b1, nb_b1]
    exact s326 nm
  · show SR (pI B 15 (nI μ)) 0 gr PA BY (if μ = 3 then wrL OU (sI B 19).toNatClampNeg [] else OU) 0 p2 S4
    rw [ou]
    exact f7
/-- .text, .data in their own section -/
theorem rfb_T {n L e : Nat} {c : Nat → Nat} {BC BR0 : St} (hT0 : atx n L e c BC BR0) {q p1 κ v1 : Nat} {x : Int32} (T : TS n L e c BC q q p1 κ 1 v1 x) {y : Nat} (hy : y = 118 ∨ y = 119) (hN : NAr n L c q (p1 - q) y 0) (hp1 : p1 ≤ e) {X0 : Nat → Nat} {W0 : Nat → Int32} {n0 : Nat} : RFB n L e c BC q (y - 118) 0 3 0 none X0 W0 n0 (9, 0, 0, [], []) := by
  intro B X nL cu A ct ap μ gr PA BY OU S hV hc hE h14 hP hA hlw hl hb h hμ hw
  have qe : q ≤ e := T.1
  have eL' : e ≤ L := hT0.2.2.1
  have L' : L ≤ 32768 := hT0.2.1
  obtain ⟨m1, m2, m3, m4, m5⟩ := md_n (B := B) hμ
  have hV' := RV_p15 hV (nI μ)
  have hY : PY PA cu q := ⟨A * 2 ^ 17 + q, hP, by omega, by omega⟩
  have ou : ∀ O : Nat → Int32, (if μ = 3 then wrL O (sI B 19).toNatClampNeg [] else O) = O := fun O => by split <;> rfl
  obtain ⟨S1, e1, e2, e3⟩ := stm_2 hV.1 hc h (nI μ) T hN
  have h14' : sI S1 14 = nI (y - 118) := (SR_14 e2).trans h14
  refine ⟨S1, ?_, fun _ w => absurd rfl w, fun _ => ⟨0, p1, gr, hp1, fun u => absurd (show (9 : Nat) = 1 ∨ (9 : Nat) = 2 from u) (by decide), ?_⟩⟩
  · have fin : df_X13_statement_326 n S1 = some S1 := s326 (by rw [SR_15 e2, m1]; exact m2)
    rcases hy with hy | hy <;> subst hy
    · rw [e1, dsp_40 e3 (sgm 118) (sgm_l (by omega)) dirA.1 0]
      unfold df_X13_directive df_X13_directive_0 df_X13_directive_185
      rw [if_neg (by decide), show (40 : Int32) - 40 = sI S1 14 from h14'.symm, pI_s, nb_let, nb_b1, fin]
    · rw [e1, dsp_41 e3 (sgm 119) (sgm_l (by omega)) dirA.2.1 0]
      unfold df_X13_directive df_X13_directive_0 df_X13_directive_185
      rw [if_neg (by decide), show (41 : Int32) - 40 = sI S1 14 from h14'.symm, pI_s, nb_let, nb_b1, fin]
  · show SR (pI B 15 (nI μ)) 0 gr PA BY (if μ = 3 then wrL OU (sI B 19).toNatClampNeg [] else OU) 0 p1 S1
    rw [ou]
    exact e2
/-- .space and .align as they are read -/
theorem rdr_S {n L e : Nat} {c : Nat → Nat} {BC B : St} {X : Nat → Nat} {nL cu : Nat} (hV : RV n L e c BC B X nL cu) (hc : cstS B) {ct : Nat} {gr : Bool} {PA BY OU : Nat → Int32} {ap : Nat} {S : St} (h : SR B ct gr PA BY OU 0 ap S) {q p1 κ v1 : Nat} {x : Int32} (T : TS n L e c BC q q p1 κ 1 v1 x) (hY : PY PA cu q) (hN : NAr n L c q (p1 - q) 126 0) {ok : Bool} {p2 m : Nat} {P : Nat → Tp} (R : RX n L e c BC p1 ok p2 m P) : ∃ S' : St, df_X13_statement n (nI q) 0 S = df_X13_statement_326 n S' ∧ (ok = false → FL e (pI B 15 0) (nI 1 + 16 * sI B 13) S') ∧ (ok = true → one P m ∧ p2 ≤ e ∧ (fxR (!lsF (loV c X e nL) P m) (zV (VW c X e nL q B) P m) (dV (VW c X e nL q B) P m) 0 32768 = 0 → ∃ k : Nat, k ≤ 32768 ∧ zV (VW c X e nL q B) P m = nI k ∧ SR (pI B 15 0) k gr PA BY OU 0 p2 S') ∧ (¬ fxR (!lsF (loV c X e nL) P m) (zV (VW c X e nL q B) P m) (dV (VW c X e nL q B) P m) 0 32768 = 0 → FL e (pI B 15 0) (nI (fxR (!lsF (loV c X e nL) P m) (zV (VW c X e nL q B) P m) (dV (VW c X e nL q B) P m) 0 32768) + 16 * sI B 13) S')) := by
  obtain ⟨S1, e1, e2, e3⟩ := stm_2 hV.1 hc h 0 T hN
  have hd : ∀ (w : Int32) (S2 : St), df_X13_fixed n 0 32768 S1 = some (w, S2) → df_X13_statement n (nI q) 0 S = df_X13_statement_326 n (pI S2 18 (nI 0 + w)) := fun w S2 f => by
    rw [e1, dsp_48 e3 (sgm 126) (sgm_l (by omega)) dirA.2.2.2.2.2.2.2.2.1 0]
    unfold df_X13_directive df_X13_directive_0 df_X13_directive_185
    rw [if_pos (by decide), if_neg (by decide), if_pos rfl, f, nb_b2, SR_18 e2, nb_let, nb_b1]
  have flw : ∀ (ft : Int32) (S2 : St) (v : Int32), FL e (pI B 15 0) ft S2 → FL e (pI B 15 0) ft (pI S2 18 v) := fun ft S2 v hh => by
    obtain ⟨ct', gr', PA', BY', OU', ap', h1, h2⟩ := hh
    obtain ⟨k, hk, rfl⟩ := nI_ex v
    exact ⟨_, _, _, _, _, _, h1, SR_w18 h2 k⟩
  cases ok with
  | false =>
    obtain ⟨w, S2, f1, f2⟩ := fix_f (RV_p15 hV 0) hY e2 R 0 32768
    exact ⟨_, hd w S2 f1, fun _ => flw _ _ _ f2, fun u => (nomatch u)⟩
  | true =>
    obtain ⟨w, S2, f1, f2, f3, f4, f5, f6⟩ := fix_R (RV_p15 hV 0) hY e2 rfl R 0 32768
    have f3 : w = zV (VW c X e nL q B) P m := f3
    subst f3
    refine ⟨_, hd _ S2 f1, fun u => (nomatch u), fun _ => ⟨f6, f2, fun u => ?_, fun u => flw _ _ _ (f5 u)⟩⟩
    have rg : ¬ (zV (VW c X e nL q B) P m < 0 ∨ 32768 < zV (VW c X e nL q B) P m) := fun z => by
      have u : fxR (!lsF (loV c X e nL) P m) (zV (VW c X e nL q B) P m) (dV (VW c X e nL q B) P m) 0 32768 = 0 := u
      unfold fxR at u
      rw [if_pos z] at u
      split at u
      · exact absurd u (by decide)
      · split at u <;> exact absurd u (by decide)
    obtain ⟨k, hk, ek⟩ := nI_of2 (M := 32768) (n := 32768) (by decide) (fun z => rg (Or.inl z)) (Int32.not_lt.mp (fun z => rg (Or.inr z)))
    refine ⟨k, hk, ek, ?_⟩
    rw [ek, nI_add, Nat.zero_add]
    exact SR_w18 (f4 u) k
