/-- a statement of the reference from its start: its name -/
theorem SR_p15 {B : St} {ct : Nat} {gr : Bool} {PA BY OU : Nat → Int32} {ft : Int32} {ap : Nat} {S : St} (h : SR B ct gr PA BY OU ft ap S) (v : Int32) : SR (pI B 15 v) ct gr PA BY OU ft ap (pI S 15 v) := by
  obtain ⟨ms, dv, ls, sg, vl, PL, tk, fr, to, nm, rfl⟩ := h
  refine ⟨ms, dv, ls, sg, vl, PL, tk, fr, to, nm, Prod.ext (funext fun j => ?_) rfl⟩
  show (if j = 15 then v else _) = _
  by_cases h : j = 15
  · subst h; rfl
  · unfold uR xR yR pI
    simp only [if_neg h]
theorem cst_S {B : St} {ct : Nat} {gr : Bool} {PA BY OU : Nat → Int32} {ft : Int32} {ap : Nat} {S : St} (h : SR B ct gr PA BY OU ft ap S) (hc : cstS B) : cstS S := by
  obtain ⟨ms, dv, ls, sg, vl, PL, tk, fr, to, nm, rfl⟩ := h
  exact hc
theorem RV_p15 {n L e : Nat} {c : Nat → Nat} {BC B : St} {X : Nat → Nat} {nL cu : Nat} (h : RV n L e c BC B X nL cu) (v : Int32) : RV n L e c BC (pI B 15 v) X nL cu := h
/-- what the name of a statement is, in the reference: y the class's number of it -/
def NAr (n L : Nat) (c : Nat → Nat) (q l y : Nat) (od : Int32) : Prop := ∀ S : St, cstS S → (∀ i : Nat, i < L → sR S 2 i = nI (c i)) → sI S 9 = nI q → sI S 10 = nI (q + l) → hdR n S = df_X13_statement_136 n (nI (sgm y)) od S
theorem stm_1 {n L e : Nat} {c : Nat → Nat} {BC B : St} (hT : atx n L e c BC B) (hc : cstS B) {ct : Nat} {gr : Bool} {PA BY OU : Nat → Int32} {ap : Nat} {S : St} (h : SR B ct gr PA BY OU 0 ap S) (v : Int32) {q p1 κ v1 : Nat} {x : Int32} (T : TS n L e c BC q q p1 κ 1 v1 x) : ∃ S1 : St, df_X13_statement n (nI q) v S = hdR n S1 ∧ SR (pI B 15 v) 0 gr PA BY OU 0 p1 S1 ∧ sI S1 9 = nI q ∧ sI S1 10 = nI p1 ∧ cstS S1 ∧ ∀ i : Nat, i < L → sR S1 2 i = nI (c i) := by
  have h1 := SR_w18 (SR_w7 (SR_p15 h v) q) 0
  obtain ⟨S1, p2, e1, e2, e3, e4, e5, e6, e7, e8⟩ := scn_S (B := pI B 15 v) hT h1 T
  have := e8 (by omega)
  subst this
  refine ⟨S1, ?_, e2, e4, e5, cst_S e2 hc, fun i hi => ?_⟩
  · rw [stm_0]
    rw [show df_X13_scan n (pI (pI (pI S 15 v) 7 (nI q)) 18 0) = some S1 from e1, nb_b1]
  · rw [SR_r2 e2]
    exact hT.2.2.2.2.2.2.2.2.2.2.1 i hi
/-- the same with the class's number of the statement -/
theorem stm_2 {n L e : Nat} {c : Nat → Nat} {BC B : St} (hT : atx n L e c BC B) (hc : cstS B) {ct : Nat} {gr : Bool} {PA BY OU : Nat → Int32} {ap : Nat} {S : St} (h : SR B ct gr PA BY OU 0 ap S) (v : Int32) {q p1 κ v1 : Nat} {x : Int32} (T : TS n L e c BC q q p1 κ 1 v1 x) {y : Nat} {od : Int32} (hN : NAr n L c q (p1 - q) y od) : ∃ S1 : St, df_X13_statement n (nI q) v S = df_X13_statement_136 n (nI (sgm y)) od S1 ∧ SR (pI B 15 v) 0 gr PA BY OU 0 p1 S1 ∧ cstS S1 := by
  obtain ⟨S1, e1, e2, e3, e4, e5, e6⟩ := stm_1 hT hc h v T
  have := T.2.2.2.1
  exact ⟨S1, e1.trans (hN S1 e5 e6 e3 (by rw [e4]; congr 1; omega)), e2, e5⟩
/-- values of an expression's row -/
def zV (V : Tp → Int32 × Bool) (P : Nat → Tp) (m : Nat) : Int32 := (rnF V P m).1.headD 0
def mV (V : Tp → Int32 × Bool) (P : Nat → Tp) (m : Nat) : Bool := (rnF V P m).2.1
def dV (V : Tp → Int32 × Bool) (P : Nat → Tp) (m : Nat) : Bool := (rnF V P m).2.2
theorem zmd {V : Tp → Int32 × Bool} {P : Nat → Tp} {m : Nat} {z : Int32} {ms dv : Bool} (h : rnF V P m = ([z], ms, dv)) : z = zV V P m ∧ ms = mV V P m ∧ dv = dV V P m := by
  unfold zV mV dV
  rw [h]
  exact ⟨rfl, rfl, rfl⟩
def vF (ms dv ok : Bool) : Nat := if ms = true then 8 else if dv = true then 9 else if ok = true then 0 else 10
theorem vF_w {B : St} {ms dv ok : Bool} : wiF B ms dv ok = if sI B 15 = 2 then (if vF ms dv ok = 0 then 0 else nI (vF ms dv ok) + 16 * sI B 13) else 0 := by
  unfold wiF vF
  by_cases y : sI B 15 = 2
  · rw [if_pos y, if_pos y]
    cases ms with
    | true => rfl
    | false =>
      cases dv with
      | true => rfl
      | false => cases ok <;> rfl
  · rw [if_neg y, if_neg y]
/-- what a statement is: kind, bits, letter, the rows of its expressions, its own bytes -/
abbrev Dt : Type := Nat × Int32 × Nat × List (Nat × (Nat → Tp)) × List Int32
def dQ (D : Dt) : Nat → Tp := match D.2.2.2.1 with | x :: _ => x.2 | [] => fun _ => (0, 0, 0)
def dN (D : Dt) : Nat := match D.2.2.2.1 with | x :: _ => x.1 | [] => 0
def hiO (v : Int32) : Int32 := ((v + 2048).toUInt32 >>> ((12 : Int32).toUInt32 &&& Int32.toUInt32 31)).toInt32
def loO (v : Int32) : Int32 := (v <<< ((20 : Int32) &&& 31)) >>> ((20 : Int32) &&& 31)
def byZ (b v : Int32) : List Int32 := if b &&& 3 = 3 then by4 v else by2 v
def byK (v : Int32) : Nat → Nat → List Int32
  | 0, _ => []
  | k + 1, i => (v >>> ((8 * nI i) &&& 31)) :: byK v k (i + 1)
def liF (V : Tp → Int32 × Bool) : List (Nat × (Nat → Tp)) → Nat
  | [] => 0
  | x :: xs => if vF (mV V x.2 x.1) (dV V x.2 x.1) true = 0 then liF V xs else vF (mV V x.2 x.1) (dV V x.2 x.1) true
def liB (V : Tp → Int32 × Bool) (k : Nat) : List (Nat × (Nat → Tp)) → List Int32
  | [] => []
  | x :: xs => byK (zV V x.2 x.1) k 0 ++ liB V k xs
/-- the fault that a statement has when it is put, whether it grows, its bytes; l its level -/
def sF (D : Dt) (V : Tp → Int32 × Bool) (ad : Int32) (l : Nat) : Nat := if D.1 = 0 then (if D.2.2.1 = 0 then 0 else vF (mV V (dQ D) (dN D)) (dV V (dQ D) (dN D)) (lfO D.2.2.1 (vtO D.2.2.1 ad (zV V (dQ D) (dN D))))) else if D.1 = 1 then vF (mV V (dQ D) (dN D)) (dV V (dQ D) (dN D)) (lfO (hpO true l) (zV V (dQ D) (dN D) - ad)) else if D.1 = 2 then vF (mV V (dQ D) (dN D)) (dV V (dQ D) (dN D)) (lfO (hpO false l) (offO l (zV V (dQ D) (dN D) - ad))) else if D.1 = 3 then vF (mV V (dQ D) (dN D)) (dV V (dQ D) (dN D)) true else if D.1 = 5 then liF V D.2.2.2.1 else 0
def sG (D : Dt) (V : Tp → Int32 × Bool) (ad : Int32) (l : Nat) : Bool := !mV V (dQ D) (dN D) && (!dV V (dQ D) (dN D) && (decide (l < if D.1 = 1 then 1 else 2) && !lfO (hpO (decide (D.1 = 1)) l) (offO l (zV V (dQ D) (dN D) - ad))))
def brnC (l : Nat) (b v : Int32) : List Int32 := if l = 0 then by2 ((49153 ||| (b &&& 4096) <<< ((1 : Int32) &&& 31)) ||| (((b >>> ((15 : Int32) &&& 31)) &&& 31) &&& 7) <<< ((7 : Int32) &&& 31) ||| plL v) else if l = 1 then by4 (b ||| plT v) else by4 ((b ^^^ 4096) ||| plT 8) ++ by4 (111 ||| plJ (v - 4))
def numB (d v : Int32) : List Int32 := if fzO (-32) 31 1 v = true ∧ ¬ d = 0 then by2 ((16385 ||| d <<< ((7 : Int32) &&& 31)) ||| plN v) else if fzO (-2048) 2047 1 v = true then by4 ((19 ||| d <<< ((7 : Int32) &&& 31)) ||| v <<< ((20 : Int32) &&& 31)) else by4 ((55 ||| d <<< ((7 : Int32) &&& 31)) ||| hiO v <<< ((12 : Int32) &&& 31)) ++ (if loO v = 0 then [] else by4 ((19 ||| d <<< ((7 : Int32) &&& 31)) ||| d <<< ((15 : Int32) &&& 31) ||| loO v <<< ((20 : Int32) &&& 31)))
def sB (D : Dt) (V : Tp → Int32 × Bool) (ad : Int32) (l : Nat) : List Int32 := if D.1 = 0 then (if D.2.2.1 = 0 then byZ D.2.1 D.2.1 else byZ D.2.1 (D.2.1 ||| lbO D.2.2.1 (vtO D.2.2.1 ad (zV V (dQ D) (dN D))))) else if D.1 = 1 then hopL l ((D.2.1 >>> ((7 : Int32) &&& 31)) &&& 31) (zV V (dQ D) (dN D) - ad) else if D.1 = 2 then brnC l D.2.1 (zV V (dQ D) (dN D) - ad) else if D.1 = 3 then by4 (D.2.1 ||| hiO (zV V (dQ D) (dN D) - ad) <<< ((12 : Int32) &&& 31)) ++ by4 ((19 ||| ((D.2.1 >>> ((7 : Int32) &&& 31)) &&& 31) <<< ((7 : Int32) &&& 31)) ||| ((D.2.1 >>> ((7 : Int32) &&& 31)) &&& 31) <<< ((15 : Int32) &&& 31) ||| loO (zV V (dQ D) (dN D) - ad) <<< ((20 : Int32) &&& 31)) else if D.1 = 5 then liB V D.2.2.1 D.2.2.2.1 else D.2.2.2.2
/-- how many bytes a statement has at a level, .space and .align left out -/
def sZ (D : Dt) (l : Nat) : Nat := if D.1 = 0 then (if D.2.1 &&& 3 = 3 then 4 else 2) else if D.1 = 1 then (if l = 0 then 2 else 4) else if D.1 = 2 then (if l = 0 then 2 else if l = 1 then 4 else 8) else if D.1 = 3 then 8 else if D.1 = 5 then D.2.2.1 * D.2.2.2.1.length else D.2.2.2.2.length
/-- a table that has grown: what was a constant is the same -/
def tbE (X0 : Nat → Nat) (W0 : Nat → Int32) (n0 : Nat) (X : Nat → Nat) (nL : Nat) (B : St) : Prop := n0 ≤ nL ∧ (∀ k : Nat, k < n0 → X k = X0 k) ∧ ∀ k : Nat, k < n0 → X0 k / 131072 = 2 → sR B 7 k = W0 k
/-- the reference's statement in a later round, from any state: this is all that is said of it -/
def RFB (n L e : Nat) (c : Nat → Nat) (BC : St) (q se lw lv sz : Nat) (ba : Option Int32) (X0 : Nat → Nat) (W0 : Nat → Int32) (n0 : Nat) (D : Dt) : Prop := ∀ (B : St) (X : Nat → Nat) (nL cu A ct ap μ : Nat) (gr : Bool) (PA BY OU : Nat → Int32) (S : St), RV n L e c BC B X nL cu → cstS B → tbE X0 W0 n0 X nL B → sI B 14 = nI se → PA cu = nI (A * 2 ^ 17 + q) → A < 64 → lw ≤ A % 4 → A % 4 ≤ lv → (∀ v : Int32, ba = some v → BY cu = v) → SR B ct gr PA BY OU 0 ap S → (μ = 1 ∨ μ = 2 ∨ μ = 3) → OKW (pI B 15 (nI μ)) (sZ D (A % 4)) → ∃ S' : St, df_X13_statement n (nI q) (nI μ) S = some S' ∧ (μ = 2 → ¬ sF D (VW c X e nL q B) (sI B 17) (A % 4) = 0 → FL e (pI B 15 (nI μ)) (nI (sF D (VW c X e nL q B) (sI B 17) (A % 4)) + 16 * sI B 13) S') ∧ ((μ = 2 → sF D (VW c X e nL q B) (sI B 17) (A % 4) = 0) → ∃ (ct' p' : Nat) (gr' : Bool), p' ≤ e ∧ (D.1 = 1 ∨ D.1 = 2 → gr' = (decide (μ = 1) && sG D (VW c X e nL q B) (sI B 17) (A % 4))) ∧ SR (pI B 15 (nI μ)) ct' gr' PA BY (if μ = 3 then wrL OU (sI B 19).toNatClampNeg (sB D (VW c X e nL q B) (sI B 17) (A % 4)) else OU) 0 p' S')
/-- with the mode that is looked at -/
theorem md_n {B : St} {μ : Nat} (h : μ = 1 ∨ μ = 2 ∨ μ = 3) : sI (pI B 15 (nI μ)) 15 = nI μ ∧ ¬ nI μ = 0 ∧ (nI μ = (2 : Int32) ↔ μ = 2) ∧ (nI μ = (3 : Int32) ↔ μ = 3) ∧ (nI μ = (1 : Int32) ↔ μ = 1) := by
  refine ⟨rfl, ?_, ?_, ?_, ?_⟩ <;> rcases h with h | h | h <;> subst h <;> decide
theorem s326 {n : Nat} {S : St} (h : ¬ sI S 15 = 0) : df_X13_statement_326 n S = some S := by
  unfold df_X13_statement_326 df_X13_statement_346
  rw [if_neg h]
theorem pt_3 {B : St} {μ : Nat} (h : μ = 1 ∨ μ = 2 ∨ μ = 3) {OU : Nat → Int32} {bs : List Int32} : pt (pI B 15 (nI μ)) 0 OU bs = if μ = 3 then wrL OU (sI B 19).toNatClampNeg bs else OU := by
  obtain ⟨m1, m2, m3, m4, m5⟩ := md_n (B := B) h
  unfold pt
  rw [m1]
  by_cases y : μ = 3
  · rw [if_pos (m4.mpr y), if_pos y]; rfl
  · rw [if_neg (fun z => y (m4.mp z)), if_neg y]
/-- what PLO says, with the faults of a later round -/
theorem plo_l {e : Nat} {B : St} {μ : Nat} (hμ : μ = 1 ∨ μ = 2 ∨ μ = 3) (hl : ∃ ln : Nat, sI B 13 = nI ln ∧ ln ≤ 40000) {gr : Bool} {PA BY OU : Nat → Int32} {p2 : Nat} {bs : List Int32} {S : St} {ms dv ok : Bool} (h : PLO e (pI B 15 (nI μ)) 0 gr PA BY OU p2 (wiF (pI B 15 (nI μ)) ms dv ok) bs S) : (μ = 2 → ¬ vF ms dv ok = 0 → FL e (pI B 15 (nI μ)) (nI (vF ms dv ok) + 16 * sI B 13) S) ∧ ((μ = 2 → vF ms dv ok = 0) → SR (pI B 15 (nI μ)) bs.length gr PA BY (if μ = 3 then wrL OU (sI B 19).toNatClampNeg bs else OU) 0 p2 S) := by
  obtain ⟨m1, m2, m3, m4, m5⟩ := md_n (B := B) hμ
  have v13 : vF ms dv ok ≤ 10 := by unfold vF; cases ms <;> cases dv <;> cases ok <;> decide
  have e0 : sI (pI B 15 (nI μ)) 13 = sI B 13 := rfl
  rw [vF_w, m1, e0] at h
  refine ⟨fun u w => ?_, fun u => ?_⟩
  · rw [if_pos (m3.mpr u), if_neg w] at h
    exact h.2 (flt_n hl _ (by omega))
  · have z : (if nI μ = (2 : Int32) then (if vF ms dv ok = 0 then (0 : Int32) else nI (vF ms dv ok) + 16 * sI B 13) else 0) = 0 := by
      by_cases y : μ = 2
      · rw [if_pos (m3.mpr y), if_pos (u y)]
      · rw [if_neg (fun z => y (m3.mp z))]
    have := h.1 z
    rw [pt_3 hμ, Nat.zero_add] at this
    exact this
