theorem SR_p6 {B : St} {ct : Nat} {gr : Bool} {PA BY OU : Nat → Int32} {ft : Int32} {ap : Nat} {S : St} (h : SR B ct gr PA BY OU ft ap S) (v : Int32) : SR (pI B 6 v) ct gr PA BY OU ft ap (pI S 6 v) := by
  obtain ⟨ms, dv, ls, sg, vl, PL, tk, fr, to, nm, rfl⟩ := h
  refine ⟨ms, dv, ls, sg, vl, PL, tk, fr, to, nm, Prod.ext (funext fun j => ?_) rfl⟩
  show (if j = 6 then v else _) = _
  by_cases h : j = 6
  · subst h; rfl
  · unfold uR xR yR pI
    simp only [if_neg h]
/-- what a later round needs of a statement: D, its line's end, and how it behaves -/
def SRD (n L : Nat) (c X : Nat → Nat) (nL : Nat) (W BY : Nat → Int32) (s : Nat) (D : Dt) (q e se fl n0 A : Nat) : Prop := A < 64 ∧ A / 4 % 2 = se ∧ A / 8 = fl / 8 ∧ (fl = 0 ∨ fl = 8 ∨ fl = 16 ∨ fl = 25) ∧ (0 < fl ↔ (D.1 = 1 ∨ D.1 = 2)) ∧ q + 3 ≤ e ∧ e ≤ L ∧ c e = 10 ∧ n0 ≤ nL ∧ ∃ (lw lv sz : Nat) (ba : Option Int32) (X0 : Nat → Nat) (W0 : Nat → Int32), (∀ BC : St, RFB n L e c BC q se lw lv sz ba X0 W0 n0 D) ∧ (∀ k : Nat, k < n0 → X0 k = X k ∧ (X k / 131072 = 2 → W0 k = W k)) ∧ (∀ v : Int32, ba = some v → BY s = v) ∧ lw ≤ A % 4 ∧ A % 4 ≤ lv
def PAg (PA0 : Nat → Int32) (AA Qs : Nat → Nat) (gG : Nat → Bool) (s : Nat) : Nat → Int32 := fun x => if x < s ∧ gG x = true then nI ((AA x + 1) * 2 ^ 17 + Qs x) else PA0 x
theorem PAg_0 {PA0 : Nat → Int32} {AA Qs : Nat → Nat} {gG : Nat → Bool} : PAg PA0 AA Qs gG 0 = PA0 := funext fun x => if_neg (by omega)
theorem PAg_o {PA0 : Nat → Int32} {AA Qs : Nat → Nat} {gG : Nat → Bool} {s : Nat} : PAg PA0 AA Qs gG s s = PA0 s := if_neg (by omega)
theorem PAg_y {PA0 : Nat → Int32} {AA Qs : Nat → Nat} {gG : Nat → Bool} {s : Nat} (h : gG s = true) : upd (PAg PA0 AA Qs gG s) s (nI ((AA s + 1) * 2 ^ 17 + Qs s)) = PAg PA0 AA Qs gG (s + 1) := funext fun x => by
  unfold PAg
  by_cases z : x = s
  · rw [z, up_e, if_pos ⟨by omega, h⟩]
  · rw [up_n z]
    by_cases y : x < s ∧ gG x = true
    · rw [if_pos y, if_pos ⟨by omega, y.2⟩]
    · rw [if_neg y, if_neg (fun u => y ⟨by omega, u.2⟩)]
theorem PAg_n {PA0 : Nat → Int32} {AA Qs : Nat → Nat} {gG : Nat → Bool} {s : Nat} (h : gG s = false) : PAg PA0 AA Qs gG s = PAg PA0 AA Qs gG (s + 1) := funext fun x => by
  unfold PAg
  by_cases y : x < s ∧ gG x = true
  · rw [if_pos y, if_pos ⟨by omega, y.2⟩]
  · rw [if_neg y, if_neg (fun u => by
      by_cases w : x = s
      · rw [w, h] at u; exact absurd u.2 (by decide)
      · exact y ⟨by omega, u.2⟩)]
/-- whether a statement grows -/
def gwF (c X : Nat → Nat) (nL T : Nat) (W : Nat → Int32) (D : Dt) (q e ad l : Nat) : Bool := decide (D.1 = 1 ∨ D.1 = 2) && sG D (VV c X e nL q (nI T) (nI ad) W) (nI ad) l
theorem st_19 {n L : Nat} {c : Nat → Nat} {B0 : St} (hX : TXT n L c B0) {X : Nat → Nat} {nL nS T : Nat} {OF W : Nat → Int32} (hK : XOK L c X nL) {BY OU PA0 : Nat → Int32} {Ds : Nat → Dt} {Qs Es Zs Fs N0 AA of : Nat → Nat} (G : Int32 → St → Option St) (hnS : nS ≤ 8200) (hT : T ≤ 2 ^ 30) (hst : ∀ s : Nat, s < nS → SRD n L c X nL W BY s (Ds s) (Qs s) (Es s) (Zs s) (Fs s) (N0 s) (AA s) ∧ PA0 s = nI (AA s * 2 ^ 17 + Qs s) ∧ OF s = nI (of s)) (gG : Nat → Bool) (hg : ∀ s : Nat, s < nS → gG s = gwF c X nL T W (Ds s) (Qs s) (Es s) (of s + (if Zs s = 1 then bsN T else 0)) (AA s % 4)) : ∀ (m s g : Nat) (B S : St) (ct ap : Nat) (gr : Bool), s + m = nS → m < g → RBd L c X nL nS T OF W B → SR B ct gr (PAg PA0 AA Qs gG s) BY OU 0 ap S → ∃ (B' S' : St) (ct' ap' : Nat) (gr' : Bool), df_X13_stretch_19 n G g (bI (anyF gG s)) (nI s) S = G (bI (anyF gG nS)) S' ∧ RBd L c X nL nS T OF W B' ∧ SR B' ct' gr' (PAg PA0 AA Qs gG nS) BY OU 0 ap' S' ∧ sI B' 13 = sI B 13 ∧ sI B' 1 = sI B 1 ∧ sI B' 5 = sI B 5 ∧ sO B' = sO B := fun m => by
  induction m with
  | zero =>
    intro s g B S ct ap gr h1 h2 hB h
    have : s = nS := by omega
    subst this
    obtain ⟨g, rfl⟩ : ∃ k : Nat, g = k + 1 := ⟨g - 1, by omega⟩
    have e19 : ∀ w : Int32, (∃ (B' S' : St) (ct' ap' : Nat) (gr' : Bool), df_X13_stretch_113 n G (bI (anyF gG s)) w S = G (bI (anyF gG s)) S' ∧ RBd L c X nL s T OF W B' ∧ SR B' ct' gr' (PAg PA0 AA Qs gG s) BY OU 0 ap' S' ∧ sI B' 13 = sI B 13 ∧ sI B' 1 = sI B 1 ∧ sI B' 5 = sI B 5 ∧ sO B' = sO B) := fun w => ⟨pI B 6 w, pI S 6 w, ct, ap, gr, by unfold df_X13_stretch_113; rw [nb_let], hB, SR_p6 h w, rfl, rfl, rfl, rfl⟩
    show ∃ (B' S' : St) (ct' ap' : Nat) (gr' : Bool), dF_X13_stretch_19 n G (df_X13_stretch_19 n G g) (bI (anyF gG s)) (nI s) S = _ ∧ _
    unfold dF_X13_stretch_19
    rw [SR_2 h, hB.2.2.1, if_pos (zle (Nat.le_refl s) (by omega))]
    by_cases y : bI (anyF gG s) = 0
    · rw [if_pos y]; exact e19 _
    · rw [if_neg y]; exact e19 _
  | succ m ih =>
    intro s g B S ct ap gr h1 h2 hB h
    obtain ⟨g, rfl⟩ : ∃ k : Nat, g = k + 1 := ⟨g - 1, by omega⟩
    obtain ⟨⟨c1, c2, c3, c4, c5, c6, c7, c8, c9, lw, lv, sz, ba, X0, W0, d1, d2, d3, d4, d5⟩, hP, hO⟩ := hst s (by omega)
    have hL := hX.2.1
    have qb : Qs s < 131072 := by omega
    obtain ⟨p1, p2, p3, p4⟩ := pla_1 c1 qb
    have gs := hg s (by omega)
    show ∃ (B' S' : St) (ct' ap' : Nat) (gr' : Bool), dF_X13_stretch_19 n G (df_X13_stretch_19 n G g) (bI (anyF gG s)) (nI s) S = _ ∧ _
    unfold dF_X13_stretch_19
    rw [SR_2 h, hB.2.2.1, if_neg (znle (show s < nS by omega) (by omega)), nm_ck (by omega) (by omega), nI_clamp (by omega), SR_r3 h, PAg_o, hP, p3]
    by_cases z : Fs s = 0
    · have kn : ¬ ((Ds s).1 = 1 ∨ (Ds s).1 = 2) := fun w => by have := c5.mpr w; omega
      have gf : gG s = false := by rw [gs]; unfold gwF; rw [decide_eq_false kn]; rfl
      rw [if_pos (show nI (AA s / 8) = 0 from congrArg nI (show AA s / 8 = 0 by omega))]
      unfold df_X13_stretch_89
      rw [nb_let, show nI s + Int32.ofInt 1 = nI (s + 1) from nI_add s 1]
      have ea : anyF gG s = anyF gG (s + 1) := by
        show anyF gG s = (anyF gG s || gG s)
        rw [gf, Bool.or_false]
      rw [ea]
      rw [PAg_n gf] at h
      exact ih (s + 1) g B S ct ap gr (by omega) (by omega) hB h
    · have kn : (Ds s).1 = 1 ∨ (Ds s).1 = 2 := c5.mp (by omega)
      rw [if_neg (show ¬ nI (AA s / 8) = 0 from zne (b := 0) (by omega) (by omega) (by omega)), nb_let]
      have h20 := SR_w20 h false
      obtain ⟨S1, r1, r2, r3⟩ := again_R hX hB hK h20 (s := s) (q := Qs s) (e := Es s) (se := Zs s) (A := AA s) (of := of s) (n0 := N0 s) (D := Ds s) (by omega) (PAg_o.trans hP) c1 c2 c6 c7 c8 hO hT d1 c9 d2 d3 d4 d5 (μ := 1) (Or.inl rfl) (fun w => absurd w (show ¬ nI 1 = 3 by decide))
      obtain ⟨ct1, p1', gr1, q1, q2, q3⟩ := r3 (fun w => absurd w (by decide))
      have q2 := q2 kn
      rw [decide_eq_true (rfl : (1 : Nat) = 1), Bool.true_and] at q2
      have gg : gr1 = gG s := by
        rw [q2, gs]
        unfold gwF
        rw [decide_eq_true kn, Bool.true_and]
      rw [gg, if_neg (show ¬ (1 : Nat) = 3 by decide)] at q3
      rw [show df_X13_again n (nI s) 1 (pI S 20 0) = some S1 from r1, nb_b1, SR_20 q3]
      have hB1 : RBd L c X nL nS T OF W (BX B s (nI (of s + (if Zs s = 1 then bsN T else 0))) (Zs s) (nI 1)) := hB
      have e72 : ∀ S2 : St, (∃ (PA2 : Nat → Int32), PA2 = PAg PA0 AA Qs gG (s + 1) ∧ SR (BX B s (nI (of s + (if Zs s = 1 then bsN T else 0))) (Zs s) (nI 1)) ct1 (gG s) PA2 BY OU 0 p1' S2) → ∃ (B' S' : St) (ct' ap' : Nat) (gr' : Bool), df_X13_stretch_72 n G (df_X13_stretch_19 n G g) (bI (anyF gG s)) (nI s) S2 = G (bI (anyF gG nS)) S' ∧ RBd L c X nL nS T OF W B' ∧ SR B' ct' gr' (PAg PA0 AA Qs gG nS) BY OU 0 ap' S' ∧ sI B' 13 = sI B 13 ∧ sI B' 1 = sI B 1 ∧ sI B' 5 = sI B 5 ∧ sO B' = sO B := fun S2 hS2 => by
        obtain ⟨PA2, e2, hS2⟩ := hS2
        subst e2
        obtain ⟨B', S', ct', ap', gr', t1, t2, t3, t4, t5, t6, t7⟩ := ih (s + 1) g _ S2 ct1 p1' (gG s) (by omega) (by omega) hB1 hS2
        refine ⟨B', S', ct', ap', gr', ?_, t2, t3, t4, t5, t6, t7⟩
        unfold df_X13_stretch_72 df_X13_stretch_83 df_X13_stretch_88 df_X13_stretch_89
        rw [nb_let, nb_let, show nI s + Int32.ofInt 1 = nI (s + 1) from nI_add s 1, SR_20 hS2]
        have t1 : df_X13_stretch_19 n G g (bI (anyF gG s || gG s)) (nI (s + 1)) S2 = G (bI (anyF gG nS)) S' := t1
        rw [← t1]
        cases hh : anyF gG s with
        | false =>
          rw [if_pos (show bI false = 0 from rfl)]
          cases hg2 : gG s with
          | false => rw [if_pos (show bI false = 0 from rfl)]; rfl
          | true => rw [if_neg (show ¬ bI true = 0 by decide)]; rfl
        | true => rw [if_neg (show ¬ bI true = 0 by decide)]; rfl
      cases hgs : gG s with
      | false =>
        rw [hgs] at q3
        rw [if_pos (show bI false = 0 from rfl)]
        refine e72 S1 ⟨PAg PA0 AA Qs gG s, PAg_n hgs, ?_⟩
        rw [hgs]; exact q3
      | true =>
        rw [hgs] at q3
        rw [if_neg (show ¬ bI true = 0 by decide), nm_ck (by omega) (by omega), nm_ck (by omega) (by omega), SR_r3 q3, PAg_o, hP, show nI (AA s * 2 ^ 17 + Qs s) + 131072 = nI ((AA s + 1) * 2 ^ 17 + Qs s) from by rw [show (131072 : Int32) = nI 131072 from rfl, nI_add]; exact congrArg nI (by omega), nb_let]
        refine e72 _ ⟨upd (PAg PA0 AA Qs gG s) s (nI ((AA s + 1) * 2 ^ 17 + Qs s)), PAg_y hgs, ?_⟩
        rw [hgs]; exact SR_w3 q3 _
