/-- la and li: their bytes in the reference -/
def laL (r : Nat) (v : Int32) : List Int32 := by4 ((23 ||| nI r <<< ((7 : Int32) &&& 31)) ||| hiO v <<< ((12 : Int32) &&& 31)) ++ by4 (((19 ||| nI r <<< ((7 : Int32) &&& 31)) ||| nI r <<< ((15 : Int32) &&& 31)) ||| loO v <<< ((20 : Int32) &&& 31))
theorem la_94 {n : Nat} {B : St} {ct : Nat} {gr : Bool} {PA BY OU : Nat → Int32} {ft : Int32} {ap : Nat} {S : St} (h : SR B ct gr PA BY OU ft ap S) (hw : OKW B (ct + 8)) (r : Nat) (v : Int32) : ∃ S' : St, df_X13_others_94 n 38 (nI r) v S = some S' ∧ SR B (ct + 8) gr PA BY (pt B ct OU (laL r v)) ft ap S' := by
  obtain ⟨S1, e1, h1⟩ := wor_S (n := n) h (OKW_m hw (by omega)) ((23 ||| nI r <<< ((7 : Int32) &&& 31)) ||| hiO v <<< ((12 : Int32) &&& 31))
  obtain ⟨S2, e2, h2⟩ := wor_S (n := n) h1 (OKW_m hw (by omega)) (((19 ||| nI r <<< ((7 : Int32) &&& 31)) ||| nI r <<< ((15 : Int32) &&& 31)) ||| loO v <<< ((20 : Int32) &&& 31))
  refine ⟨S2, ?_, ?_⟩
  · unfold df_X13_others_94
    rw [nb_let, nb_let, if_pos rfl, show ((v + 2048).toUInt32 >>> ((12 : Int32).toUInt32 &&& Int32.toUInt32 31)).toInt32 = hiO v from rfl, show (v <<< ((20 : Int32) &&& 31)) >>> ((20 : Int32) &&& 31) = loO v from rfl, e1, nb_b1]
    unfold df_X13_others_215 df_X13_others_242 df_X13_others_264 df_X13_others_321
    rw [if_pos rfl, e2, nb_b1, if_neg (by decide)]
  · rw [show pt B (ct + 4) (pt B ct OU (by4 ((23 ||| nI r <<< ((7 : Int32) &&& 31)) ||| hiO v <<< ((12 : Int32) &&& 31)))) (by4 (((19 ||| nI r <<< ((7 : Int32) &&& 31)) ||| nI r <<< ((15 : Int32) &&& 31)) ||| loO v <<< ((20 : Int32) &&& 31))) = pt B ct OU (laL r v) from pt_a (by4 _) _] at h2
    exact h2
theorem la_94F {n e : Nat} {B : St} {ft : Int32} {S : St} (h : FL e B ft S) (m3 : ¬ sI B 15 = 3) (x v : Int32) : ∃ S' : St, df_X13_others_94 n 38 x v S = some S' ∧ FL e B ft S' := by
  obtain ⟨S1, e1, h1⟩ := wor_F (n := n) h m3 ((23 ||| x <<< ((7 : Int32) &&& 31)) ||| hiO v <<< ((12 : Int32) &&& 31))
  obtain ⟨S2, e2, h2⟩ := wor_F (n := n) h1 m3 (((19 ||| x <<< ((7 : Int32) &&& 31)) ||| x <<< ((15 : Int32) &&& 31)) ||| loO v <<< ((20 : Int32) &&& 31))
  refine ⟨S2, ?_, h2⟩
  unfold df_X13_others_94
  rw [nb_let, nb_let, if_pos rfl, show ((v + 2048).toUInt32 >>> ((12 : Int32).toUInt32 &&& Int32.toUInt32 31)).toInt32 = hiO v from rfl, show (v <<< ((20 : Int32) &&& 31)) >>> ((20 : Int32) &&& 31) = loO v from rfl, e1, nb_b1]
  unfold df_X13_others_215 df_X13_others_242 df_X13_others_264 df_X13_others_321
  rw [if_pos rfl, e2, nb_b1, if_neg (by decide)]
theorem wiF_t {B : St} (h : ∃ ln : Nat, sI B 13 = nI ln ∧ ln ≤ 40000) {ms dv : Bool} : wiF B ms dv true = exF B ms dv := by
  by_cases y : exF B ms dv = 0
  · rw [wiF_o h y, y, if_neg (fun u => nomatch u.2)]
  · exact wiF_e h y
/-- la in the reference -/
theorem la_R {n L e : Nat} {c : Nat → Nat} {BC B : St} {X : Nat → Nat} {nL st cu : Nat} (hV : RV n L e c BC B X nL cu) {ct : Nat} {gr : Bool} {PA BY OU : Nat → Int32} (hY : PY PA cu st) {p : Nat} {S : St} (h : SR B ct gr PA BY OU 0 p S) (hw : OKW B (ct + 8)) (w : Int32) {f p2 : Nat} {rs : List Nat} {m : Nat} {P : Nat → Tp} (h0 : ¬ f = 0 → sI B 15 = 0) (hTr : Tr n L e c BC [100, 44, 65] p f p2 rs m P) : ∃ S' : St, df_X13_others n 38 w S = some S' ∧ (¬ f = 0 → FL e B (nI f + 16 * sI B 13) S') ∧ (f = 0 → ∃ (r : Nat) (z : Int32) (ms dv : Bool), rs = [r] ∧ r < 32 ∧ p2 ≤ e ∧ rnF (VW c X e nL st B) P m = ([z], ms, dv) ∧ PLO e B ct gr PA BY OU p2 (wiF B ms dv true) (laL r (z - sI B 17)) S') := by
  have hT := hV.1
  have hl := hV.2.2.2.2.2.2.2
  have d33 : ¬ (38 : Int32) = 33 := by decide
  have d39 : ¬ (38 : Int32) = 39 := by decide
  have le33 : (33 : Int32) ≤ 38 := by decide
  obtain ⟨q1, p1, κ1, τ1, v1, x1, T1, hTr⟩ := hTr
  rw [if_neg (by decide), if_pos (by decide)] at hTr
  rcases hTr with ⟨g1, r1, rs1, rfl, hTr⟩ | hF
  rotate_left
  · have hF2 : (tkG c τ1 q1 p1 = 33 ∧ f = 1) ∨ (tkG c τ1 q1 p1 = 32 ∧ f = 3) := by
      rcases hF with hF | ⟨hF | hF, hF2⟩
      · exact Or.inl hF
      · exact Or.inr ⟨hF, hF2⟩
      · exact absurd hF.2 (by unfold rfit; simp)
    obtain ⟨S1, e1, g1⟩ := tak_n hT h T1 (by omega)
    have ne := f13 hl (g := tkG c τ1 q1 p1)
    rw [f13e hF2] at g1 ne
    refine ⟨S1, ?_, fun _ => FN_L g1, fun u => by omega⟩
    unfold df_X13_others df_X13_others_0
    rw [e1, nb_b2, if_neg d33, com_F (FN_L g1) ne, nb_b2, if_pos rfl]
  obtain ⟨S1, e1, h1⟩ := tak_y hT h T1 g1
  obtain ⟨q2, p3, κ2, τ2, v2, x2, T2, hTr⟩ := hTr
  rw [if_pos (by decide)] at hTr
  rcases hTr with ⟨g2, hTr⟩ | hF
  rotate_left
  · obtain ⟨S2, e2, g2⟩ := com_n hT h1 T2 hF.1
    rw [hF.2]
    refine ⟨S2, ?_, fun _ => FN_L g2, fun u => absurd u (by decide)⟩
    unfold df_X13_others df_X13_others_0
    rw [e1, nb_b2, if_neg d33, e2, nb_b2, if_pos rfl]
  obtain ⟨S2, e2, h2⟩ := com_y hT h1 T2 g2
  have hd : df_X13_others n 38 w S = nd_b2 (df_X13_expression n S2) (fun (q11 : Int32) (s12 : St) => df_X13_others_94 n 38 (nI (tkG c τ1 q1 p1)) (q11 - sI s12 17) s12) := by
    unfold df_X13_others df_X13_others_0
    rw [e1, nb_b2, if_neg d33, e2, nb_b2, if_neg (by decide), if_pos le33, if_neg d39]
  obtain ⟨q3, p4, κ3, τ3, v3, x3, T3, hTr⟩ := hTr
  rw [if_neg (by decide), if_neg (by decide)] at hTr
  obtain ⟨ok, px, R, hTr⟩ := hTr
  rcases hTr with ⟨rfl, z1, z2, hTr⟩ | ⟨rfl, hF⟩
  · obtain ⟨rfl, rfl, rfl⟩ := hTr
    obtain ⟨z, S3, ms, dv, k1, k2, k3, k4, k5, k6, k7⟩ := exp_y hV hY h2 R
    by_cases y : exF B ms dv = 0
    · rw [y] at k2
      obtain ⟨S4, f1, f2⟩ := la_94 (n := n) k2 hw (tkG c τ1 q1 p1) (z - sI B 17)
      refine ⟨S4, ?_, fun u => absurd rfl u, fun _ => ⟨_, z, ms, dv, rfl, g1, z2, k6, fun _ => f2, fun u => absurd ((wiF_t hl).trans y) u⟩⟩
      rw [hd, k1, nb_b2, SR_17 k2, f1]
    · have fl : FL e B (exF B ms dv) S3 := SR_FL k2 k3
      have m2 : sI B 15 = 2 := Classical.byContradiction fun u => y ((exF_0 hl).mpr (fun w => u w.1))
      obtain ⟨S4, f1, f2⟩ := la_94F (n := n) fl (m2_3 m2) (nI (tkG c τ1 q1 p1)) (z - sI B 17)
      refine ⟨S4, ?_, fun u => absurd rfl u, fun _ => ⟨_, z, ms, dv, rfl, g1, z2, k6, fun u => absurd ((wiF_t hl).symm.trans u) y, fun _ => ?_⟩⟩
      · rw [hd, k1, nb_b2, SR_17 k2, f1]
      · rw [wiF_t hl]; exact f2
  · obtain ⟨z, S3, k1, fl⟩ := exp_n hV hY h2 R
    have m0 := h0 (by omega)
    obtain ⟨S4, f1, f2⟩ := la_94F (n := n) fl (m0_3 m0) (nI (tkG c τ1 q1 p1)) (z - sI B 17)
    rw [hF]
    refine ⟨S4, ?_, fun _ => f2, fun u => absurd u (by decide)⟩
    rw [hd, k1, nb_b2, (FL_f fl).2.2.2.1, f1]
/-- comparisons by value -/
theorem i_le (a b : Int32) : a ≤ b ↔ a.toInt ≤ b.toInt := Int32.le_iff_toInt_le
theorem i_lt (a b : Int32) : a < b ↔ a.toInt < b.toInt := Int32.lt_iff_toInt_lt
theorem fz_1 (lo hi v : Int32) : fzO lo hi 1 v = true ↔ lo.toInt ≤ v.toInt ∧ v.toInt ≤ hi.toInt := by
  unfold fzO
  rw [show v &&& nI (1 - 1) = 0 from (rmd_1 v (k := 1) (Or.inl rfl)).mp (by rw [show (nI 1 : Int32) = 1 from rfl, Int32.div_one, Int32.mul_one, Int32.sub_self])]
  rw [decide_eq_true (rfl : (0 : Int32) = 0), Bool.and_true, Bool.and_eq_true, Bool.not_eq_true', Bool.not_eq_true', decide_eq_false_iff_not, decide_eq_false_iff_not, i_lt, i_lt]
  omega
/-- li: all its roads -/
theorem li_94g {n : Nat} {B : St} {ct : Nat} {gr : Bool} {PA BY OU : Nat → Int32} {ft : Int32} {ap : Nat} {S : St} (h : SR B ct gr PA BY OU ft ap S) (r : Nat) (hr : r < 32) (v : Int32) (hw : OKW B (ct + (numB (nI r) v).length)) : ∃ S' : St, df_X13_others_94 n 39 (nI r) v S = some S' ∧ SR B (ct + (numB (nI r) v).length) gr PA BY (pt B ct OU (numB (nI r) v)) ft ap S' := by
  have t33 : (-33 : Int32).toInt = -33 := by decide
  have t32 : (32 : Int32).toInt = 32 := by decide
  have tm32 : (-32 : Int32).toInt = -32 := by decide
  have t31 : (31 : Int32).toInt = 31 := by decide
  have t2048 : (-2048 : Int32).toInt = -2048 := by decide
  have t2047 : (2047 : Int32).toInt = 2047 := by decide
  have t2049 : (-2049 : Int32).toInt = -2049 := by decide
  have tp2048 : (2048 : Int32).toInt = 2048 := by decide
  have c33 : v ≤ -33 ↔ v.toInt ≤ -33 := by rw [i_le, t33]
  have c32 : (32 : Int32) ≤ v ↔ 32 ≤ v.toInt := by rw [i_le, t32]
  have cm : v < -2048 ↔ v.toInt < -2048 := by rw [i_lt, t2048]
  have c47 : v ≤ 2047 ↔ v.toInt ≤ 2047 := by rw [i_le, t2047]
  have c49 : v ≤ -2049 ↔ v.toInt ≤ -2049 := by rw [i_le, t2049]
  have c48 : (2048 : Int32) ≤ v ↔ 2048 ≤ v.toInt := by rw [i_le, tp2048]
  have c3 : v < -32 ↔ v.toInt < -32 := by rw [i_lt, tm32]
  have c1 : v ≤ 31 ↔ v.toInt ≤ 31 := by rw [i_le, t31]
  have z32 := fz_1 (-32) 31 v
  have z20 := fz_1 (-2048) 2047 v
  rw [tm32, t31] at z32
  rw [t2048, t2047] at z20
  have r0 : nI r = (0 : Int32) ↔ r = 0 := nI_eq (b := 0) (by omega) (by omega)
  have s264 : ∀ T : St, df_X13_others_264 n 39 (nI r) v T = if -2049 < v.toInt ∧ v.toInt < 2048 ∧ (r = 0 ∨ v.toInt < -32 ∨ 31 < v.toInt) then nd_b1 (df_X13_word n ((19 ||| nI r <<< ((7 : Int32) &&& 31)) ||| v <<< ((20 : Int32) &&& 31)) T) (fun (s : St) => some s) else some T := fun T => by
    unfold df_X13_others_264 df_X13_others_304 df_X13_others_321
    rw [if_pos rfl]
    by_cases a : v.toInt ≤ -2049
    · rw [if_pos (c49.mpr a), if_neg (by omega)]
    · rw [if_neg (fun z => a (c49.mp z))]
      by_cases b : 2048 ≤ v.toInt
      · rw [if_pos (c48.mpr b), if_neg (by omega)]
      · rw [if_neg (fun z => b (c48.mp z))]
        by_cases d : r = 0
        · rw [if_pos (r0.mpr d), if_pos (by omega)]
        · rw [if_neg (fun z => d (r0.mp z))]
          by_cases f : v.toInt < -32
          · rw [if_pos (c3.mpr f), if_pos (by omega)]
          · rw [if_neg (fun z => f (c3.mp z))]
            by_cases g : v.toInt ≤ 31
            · rw [if_pos (c1.mpr g), if_neg (by omega)]
            · rw [if_neg (fun z => g (c1.mp z)), if_pos (by omega)]
  have i39 : ¬ (39 : Int32) = 38 := by decide
  by_cases A : -32 ≤ v.toInt ∧ v.toInt ≤ 31 ∧ ¬ r = 0
  · -- a half
    have nb : numB (nI r) v = by2 ((16385 ||| nI r <<< ((7 : Int32) &&& 31)) ||| plN v) := if_pos ⟨z32.mpr ⟨A.1, A.2.1⟩, fun z => A.2.2 (r0.mp z)⟩
    rw [nb] at hw
    obtain ⟨S1, e1, h1⟩ := hal_S (n := n) h (OKW_m hw (Nat.le_refl _)) ((16385 ||| nI r <<< ((7 : Int32) &&& 31)) ||| plN v)
    rw [nb]
    refine ⟨S1, ?_, h1⟩
    unfold df_X13_others_94
    rw [nb_let, nb_let, if_neg i39, if_neg (fun z => by have := c33.mp z; omega), if_neg (fun z => by have := c32.mp z; omega), if_neg (fun z => A.2.2 (r0.mp z)), sX_R, nb_b2, e1, nb_b1]
    unfold df_X13_others_215
    rw [if_neg i39, if_neg (fun z => by have := cm.mp z; omega), if_pos (c47.mpr (by omega)), s264, if_neg (by omega)]
  · have to182 : df_X13_others_94 n 39 (nI r) v S = df_X13_others_182 n 39 (nI r) v (hiO v) (loO v) S := by
      unfold df_X13_others_94
      rw [nb_let, nb_let, if_neg i39]
      by_cases a : v.toInt ≤ -33
      · rw [if_pos (c33.mpr a)]; rfl
      · rw [if_neg (fun z => a (c33.mp z))]
        by_cases b : 32 ≤ v.toInt
        · rw [if_pos (c32.mpr b)]; rfl
        · rw [if_neg (fun z => b (c32.mp z)), if_pos (r0.mpr (by omega))]; rfl
    have n1 : ¬ (fzO (-32) 31 1 v = true ∧ ¬ nI r = 0) := fun z => A (by have := z32.mp z.1; exact ⟨this.1, this.2, fun u => z.2 (r0.mpr u)⟩)
    rw [to182]
    by_cases C : -2048 ≤ v.toInt ∧ v.toInt ≤ 2047
    · have nb : numB (nI r) v = by4 ((19 ||| nI r <<< ((7 : Int32) &&& 31)) ||| v <<< ((20 : Int32) &&& 31)) := (if_neg n1).trans (if_pos (z20.mpr C))
      rw [nb] at hw
      obtain ⟨S1, e1, h1⟩ := wor_S (n := n) h (OKW_m hw (Nat.le_refl _)) ((19 ||| nI r <<< ((7 : Int32) &&& 31)) ||| v <<< ((20 : Int32) &&& 31))
      rw [nb]
      refine ⟨S1, ?_, h1⟩
      unfold df_X13_others_182 df_X13_others_215
      rw [if_neg (fun z => by have := cm.mp z; omega), if_pos (c47.mpr C.2), if_neg i39, if_neg (fun z => by have := cm.mp z; omega), if_pos (c47.mpr C.2), s264, if_pos (by omega), e1, nb_b1]
    · have n2 : ¬ fzO (-2048) 2047 1 v = true := fun z => C (z20.mp z)
      have out : v.toInt < -2048 ∨ 2047 < v.toInt := by omega
      have len4 : 4 ≤ (numB (nI r) v).length := by
        unfold numB
        rw [if_neg n1, if_neg n2, List.length_append]
        exact Nat.le_add_right 4 _
      obtain ⟨S1, e1, h1⟩ := wor_S (n := n) h (OKW_m hw (by omega)) ((55 ||| nI r <<< ((7 : Int32) &&& 31)) ||| hiO v <<< ((12 : Int32) &&& 31))
      have to215 : df_X13_others_182 n 39 (nI r) v (hiO v) (loO v) S = df_X13_others_237 n 39 (nI r) v (loO v) S1 := by
        unfold df_X13_others_182 df_X13_others_198
        rw [e1, nb_b1]
        unfold df_X13_others_215
        rw [if_neg i39]
        by_cases a : v.toInt < -2048
        · rw [if_pos (cm.mpr a), if_pos (cm.mpr a)]
        · have nc : ¬ v ≤ 2047 := fun z => by have := c47.mp z; omega
          have na : ¬ v < -2048 := fun z => a (cm.mp z)
          simp only [if_neg na, if_neg nc]
      rw [to215]
      unfold df_X13_others_237
      by_cases lz : loO v = 0
      · have nb : numB (nI r) v = by4 ((55 ||| nI r <<< ((7 : Int32) &&& 31)) ||| hiO v <<< ((12 : Int32) &&& 31)) := by
          unfold numB
          rw [if_neg n1, if_neg n2, if_pos lz, List.append_nil]
        rw [nb, if_pos lz, s264, if_neg (by omega)]
        exact ⟨S1, rfl, h1⟩
      · have hw8 : OKW B (ct + 8) := by
          unfold numB at hw
          rw [if_neg n1, if_neg n2, if_neg lz] at hw
          exact hw
        obtain ⟨S2, e2, h2⟩ := wor_S (n := n) h1 hw8 (((19 ||| nI r <<< ((7 : Int32) &&& 31)) ||| nI r <<< ((15 : Int32) &&& 31)) ||| loO v <<< ((20 : Int32) &&& 31))
        have nb : numB (nI r) v = by4 ((55 ||| nI r <<< ((7 : Int32) &&& 31)) ||| hiO v <<< ((12 : Int32) &&& 31)) ++ by4 (((19 ||| nI r <<< ((7 : Int32) &&& 31)) ||| nI r <<< ((15 : Int32) &&& 31)) ||| loO v <<< ((20 : Int32) &&& 31)) := by
          unfold numB
          rw [if_neg n1, if_neg n2, if_neg lz]
        rw [if_neg lz]
        refine ⟨S2, ?_, ?_⟩
        · unfold df_X13_others_242
          rw [e2, nb_b1, s264, if_neg (by omega)]
        · rw [nb]
          rw [show pt B (ct + 4) (pt B ct OU (by4 ((55 ||| nI r <<< ((7 : Int32) &&& 31)) ||| hiO v <<< ((12 : Int32) &&& 31)))) (by4 (((19 ||| nI r <<< ((7 : Int32) &&& 31)) ||| nI r <<< ((15 : Int32) &&& 31)) ||| loO v <<< ((20 : Int32) &&& 31))) = pt B ct OU (by4 ((55 ||| nI r <<< ((7 : Int32) &&& 31)) ||| hiO v <<< ((12 : Int32) &&& 31)) ++ by4 (((19 ||| nI r <<< ((7 : Int32) &&& 31)) ||| nI r <<< ((15 : Int32) &&& 31)) ||| loO v <<< ((20 : Int32) &&& 31))) from pt_a (by4 _) _] at h2
          exact h2
theorem li_94 {n : Nat} {B : St} {ct : Nat} {gr : Bool} {PA BY OU : Nat → Int32} {ap : Nat} {S : St} (h : SR B ct gr PA BY OU 0 ap S) (r : Nat) (hr : r < 32) (v : Int32) (hw : OKW B (ct + (numB (nI r) v).length)) : ∃ S' : St, df_X13_others_94 n 39 (nI r) v S = some S' ∧ SR B (ct + (numB (nI r) v).length) gr PA BY (pt B ct OU (numB (nI r) v)) 0 ap S' := li_94g h r hr v hw
