theorem SR_p17 {B : St} {ct : Nat} {gr : Bool} {PA BY OU : Nat → Int32} {ft : Int32} {ap : Nat} {S : St} (h : SR B ct gr PA BY OU ft ap S) (v : Int32) : SR (pI B 17 v) ct gr PA BY OU ft ap (pI S 17 v) := by
  obtain ⟨ms, dv, ls, sg, vl, PL, tk, fr, to, nm, rfl⟩ := h
  refine ⟨ms, dv, ls, sg, vl, PL, tk, fr, to, nm, Prod.ext (funext fun j => ?_) rfl⟩
  show (if j = 17 then v else _) = _
  by_cases h : j = 17
  · subst h; rfl
  · unfold uR xR yR pI
    simp only [if_neg h]
/-- the text, and the class's row of it -/
def TXT (n L : Nat) (c : Nat → Nat) (B0 : St) : Prop := 70000 < n ∧ L ≤ 32768 ∧ (∀ i : Nat, c i < 127) ∧ (∀ i : Nat, L ≤ i → c i = 10) ∧ (∀ i : Nat, c i = 9 ∨ c i = 10 ∨ 32 ≤ c i) ∧ sO B0 0 = some 8 ∧ ∀ i : Nat, i < L → sR B0 7 i = nI (c i)
/-- the reference when all is laid out -/
def RBd (L : Nat) (c X : Nat → Nat) (nL nS T : Nat) (OF W : Nat → Int32) (B : St) : Prop := sI B 0 = nI L ∧ (∀ i : Nat, i < L → sR B 2 i = nI (c i)) ∧ sI B 2 = nI nS ∧ sI B 3 = nI nL ∧ (∀ k : Nat, k < nL → sR B 6 k = nI (X k)) ∧ sI B 4 = nI T ∧ sR B 4 = OF ∧ sR B 7 = W ∧ cstS B ∧ (∃ l : Nat, sI B 13 = nI l ∧ l ≤ 40000)
def XOK (L : Nat) (c X : Nat → Nat) (nL : Nat) : Prop := nL ≤ 16500 ∧ ∀ k : Nat, k < nL → X k < 5 * 131072 ∧ X k % 131072 < 40000 ∧ (3 ≤ X k / 131072 → X k % 131072 < L ∧ 48 ≤ c (X k % 131072))
def adN (Zs : Nat → Nat) (of : Nat → Nat) (T s : Nat) : Nat := of s + (if Zs s = 1 then bsN T else 0)
def BX (B : St) (s : Nat) (ad : Int32) (se : Nat) (μ : Int32) : St := pI (pI (pI (pI B 16 (nI s)) 17 ad) 14 (nI se)) 15 μ
theorem again_R {n L : Nat} {c : Nat → Nat} {B0 : St} (hX : TXT n L c B0) {X : Nat → Nat} {nL nS T : Nat} {OF W : Nat → Int32} {B : St} (hB : RBd L c X nL nS T OF W B) (hK : XOK L c X nL) {ct : Nat} {gr : Bool} {PA BY OU : Nat → Int32} {ap : Nat} {S : St} (h : SR B ct gr PA BY OU 0 ap S) {s q e se A of lw lv sz n0 : Nat} {ba : Option Int32} {X0 : Nat → Nat} {W0 : Nat → Int32} {D : Dt} (hs : s < 11000) (hPA : PA s = nI (A * 2 ^ 17 + q)) (hA : A < 64) (hZ : A / 4 % 2 = se) (hq : q + 3 ≤ e) (heL : e ≤ L) (hce : c e = 10) (hof : OF s = nI of) (hT : T ≤ 2 ^ 30) (hR : ∀ BC : St, RFB n L e c BC q se lw lv sz ba X0 W0 n0 D) (hn0 : n0 ≤ nL) (hX0 : ∀ k : Nat, k < n0 → X0 k = X k ∧ (X k / 131072 = 2 → W0 k = W k)) (hba : ∀ v : Int32, ba = some v → BY s = v) (hlw : lw ≤ A % 4) (hlv : A % 4 ≤ lv) {μ : Nat} (hμ : μ = 1 ∨ μ = 2 ∨ μ = 3) (hw : OKW (BX B s (nI (of + (if se = 1 then bsN T else 0))) se (nI μ)) (sZ D (A % 4))) : ∃ S' : St, df_X13_again n (nI s) (nI μ) S = some S' ∧ (μ = 2 → ¬ sF D (VV c X e nL q (nI T) (nI (of + (if se = 1 then bsN T else 0))) W) (nI (of + (if se = 1 then bsN T else 0))) (A % 4) = 0 → FL e (BX B s (nI (of + (if se = 1 then bsN T else 0))) se (nI μ)) (nI (sF D (VV c X e nL q (nI T) (nI (of + (if se = 1 then bsN T else 0))) W) (nI (of + (if se = 1 then bsN T else 0))) (A % 4)) + 16 * sI B 13) S') ∧ ((μ = 2 → sF D (VV c X e nL q (nI T) (nI (of + (if se = 1 then bsN T else 0))) W) (nI (of + (if se = 1 then bsN T else 0))) (A % 4) = 0) → ∃ (ct' p' : Nat) (gr' : Bool), p' ≤ e ∧ (D.1 = 1 ∨ D.1 = 2 → gr' = (decide (μ = 1) && sG D (VV c X e nL q (nI T) (nI (of + (if se = 1 then bsN T else 0))) W) (nI (of + (if se = 1 then bsN T else 0))) (A % 4))) ∧ SR (BX B s (nI (of + (if se = 1 then bsN T else 0))) se (nI μ)) ct' gr' PA BY (if μ = 3 then wrL OU (sI B 19).toNatClampNeg (sB D (VV c X e nL q (nI T) (nI (of + (if se = 1 then bsN T else 0))) W) (nI (of + (if se = 1 then bsN T else 0))) (A % 4)) else OU) 0 p' S') := by
  obtain ⟨hn, hL, h127, hend, hch, hO, htC⟩ := hX
  obtain ⟨b0, b2, bn, b3, b6, b4, bo, bw, bc, bl⟩ := hB
  obtain ⟨k1, k2⟩ := hK
  have qb : q < 131072 := by omega
  obtain ⟨p1, p2, p3, p4⟩ := pla_1 hA qb
  generalize had : of + (if se = 1 then bsN T else 0) = ad at hw ⊢
  have h1 := SR_p16 h (nI s)
  have h2 := SR_p17 h1 (nI ad)
  have h3 := SR_p14 h2 (nI se)
  have sec : ∀ S9 : St, sR S9 3 = PA → df_X13_sectionOf n (nI s) S9 = some (nI se, S9) := fun S9 h9 => by
    unfold df_X13_sectionOf df_X13_sectionOf_0
    rw [nm_ck hs (by omega), nI_clamp (by omega), h9, hPA, p2, hZ]
  have se2 : se < 2 := by omega
  have adr : df_X13_addressOf n (nI s) (pI S 16 (nI s)) = some (nI ad, pI S 16 (nI s)) := by
    unfold df_X13_addressOf df_X13_addressOf_0 df_X13_addressOf_23
    have r4 : sR (pI S 16 (nI s)) 4 = OF := (SR_r4 h1).trans bo
    rw [nm_ck hs (by omega), sec _ (SR_r3 h1), nb_b2, nI_clamp (by omega), r4, hof]
    by_cases y : se = 1
    · rw [if_pos (show nI se = 1 from congrArg nI y)]
      unfold df_X13_base df_X13_base_0
      rw [nb_b2, show sI (pI S 16 (nI s)) 4 = nI T from (SR_4 h1).trans b4]
      have e1 : ((((nI T + 1023) / 1024) * 1024 : Int32)) = nI (bsN T) := bs_R hT
      rw [e1, nI_add, ← had, if_pos y]
    · rw [if_neg (show ¬ nI se = 1 from zne (b := 1) y (by omega) (by omega)), ← had, if_neg y]
      rw [show nI of + 0 = nI (of + 0) from Int32.add_zero _]
  have hag : df_X13_again n (nI s) (nI μ) S = nd_b1 (df_X13_statement n (nI q) (nI μ) (pI (pI (pI S 16 (nI s)) 17 (nI ad)) 14 (nI se))) (fun (s12 : St) => some s12) := by
    unfold df_X13_again df_X13_again_0
    rw [nb_let, adr, nb_b2, nb_let, sec _ (SR_r3 h2), nb_b2, nb_let, nm_ck hs (by omega), nI_clamp (by omega), SR_r3 h3, hPA, p1]
  have hT0 : atx n L e c (bC B0 e 0 (fun _ => 0) (fun _ => 0)) (pI (pI (pI B 16 (nI s)) 17 (nI ad)) 14 (nI se)) := ⟨hn, hL, heL, h127, hend, hce, hO, rfl, htC, b0, b2, hch⟩
  have hV : RV n L e c (bC B0 e 0 (fun _ => 0) (fun _ => 0)) (pI (pI (pI B 16 (nI s)) 17 (nI ad)) 14 (nI se)) X nL s := ⟨hT0, k1, b3, fun k hk => ⟨b6 k hk, by have := (k2 k hk).1; omega⟩, fun k hk hk3 => (k2 k hk).2.2 hk3, rfl, hs, bl⟩
  have hE : tbE X0 W0 n0 X nL (pI (pI (pI B 16 (nI s)) 17 (nI ad)) 14 (nI se)) := ⟨hn0, fun k hk => ((hX0 k hk).1).symm, fun k hk hk2 => by
    rw [(hX0 k hk).1] at hk2
    show sR B 7 k = W0 k
    rw [bw]
    exact ((hX0 k hk).2 hk2).symm⟩
  obtain ⟨S', r1, r2, r3⟩ := hR (bC B0 e 0 (fun _ => 0) (fun _ => 0)) (pI (pI (pI B 16 (nI s)) 17 (nI ad)) 14 (nI se)) X nL s A ct ap μ gr PA BY OU (pI (pI (pI S 16 (nI s)) 17 (nI ad)) 14 (nI se)) hV bc hE rfl hPA hA hlw hlv hba h3 hμ hw
  have eV : VW c X e nL q (pI (pI (pI B 16 (nI s)) 17 (nI ad)) 14 (nI se)) = VV c X e nL q (nI T) (nI ad) W := by
    unfold VW
    show VV c X e nL q (sI B 4) (nI ad) (sR B 7) = _
    rw [b4, bw]
  rw [eV] at r2 r3
  refine ⟨S', by rw [hag, r1, nb_b1], r2, r3⟩
