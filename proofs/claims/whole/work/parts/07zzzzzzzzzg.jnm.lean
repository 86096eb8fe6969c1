/-- one entry more in the reference's table -/
def dfB (B : St) (nL : Nat) (w v : Int32) : St := pI (pR (pR B 6 (upd (sR B 6) nL w)) 7 (upd (sR B 7) nL v)) 3 (nI (nL + 1))
theorem SR_g6 {B : St} {ct : Nat} {gr : Bool} {PA BY OU : Nat → Int32} {ft : Int32} {ap : Nat} {S : St} (h : SR B ct gr PA BY OU ft ap S) (f : Nat → Int32) : SR (pR B 6 f) ct gr PA BY OU ft ap (pR S 6 f) := by
  obtain ⟨ms, dv, ls, sg, vl, PL, tk, fr, to, nm, rfl⟩ := h
  refine ⟨ms, dv, ls, sg, vl, PL, tk, fr, to, nm, Prod.ext rfl (Prod.ext rfl (Prod.ext (funext fun j => ?_) rfl))⟩
  show (if j = 6 then f else _) = _
  by_cases h : j = 6
  · subst h; rfl
  · unfold uR xR yR pR
    simp only [if_neg h]
theorem SR_g7 {B : St} {ct : Nat} {gr : Bool} {PA BY OU : Nat → Int32} {ft : Int32} {ap : Nat} {S : St} (h : SR B ct gr PA BY OU ft ap S) (f : Nat → Int32) : SR (pR B 7 f) ct gr PA BY OU ft ap (pR S 7 f) := by
  obtain ⟨ms, dv, ls, sg, vl, PL, tk, fr, to, nm, rfl⟩ := h
  refine ⟨ms, dv, ls, sg, vl, PL, tk, fr, to, nm, Prod.ext rfl (Prod.ext rfl (Prod.ext (funext fun j => ?_) rfl))⟩
  show (if j = 7 then f else _) = _
  by_cases h : j = 7
  · subst h; rfl
  · unfold uR xR yR pR
    simp only [if_neg h]
theorem SR_p3 {B : St} {ct : Nat} {gr : Bool} {PA BY OU : Nat → Int32} {ft : Int32} {ap : Nat} {S : St} (h : SR B ct gr PA BY OU ft ap S) (v : Int32) : SR (pI B 3 v) ct gr PA BY OU ft ap (pI S 3 v) := by
  obtain ⟨ms, dv, ls, sg, vl, PL, tk, fr, to, nm, rfl⟩ := h
  refine ⟨ms, dv, ls, sg, vl, PL, tk, fr, to, nm, Prod.ext (funext fun j => ?_) rfl⟩
  show (if j = 3 then v else _) = _
  by_cases h : j = 3
  · subst h; rfl
  · unfold uR xR yR pI
    simp only [if_neg h]
theorem SR_367 {B : St} {ct : Nat} {gr : Bool} {PA BY OU : Nat → Int32} {ft : Int32} {ap : Nat} {S : St} (h : SR B ct gr PA BY OU ft ap S) : sI S 3 = sI B 3 ∧ sR S 6 = sR B 6 ∧ sR S 7 = sR B 7 := by
  obtain ⟨ms, dv, ls, sg, vl, PL, tk, fr, to, nm, rfl⟩ := h
  exact ⟨rfl, rfl, rfl⟩
theorem def_S {n : Nat} {B : St} {ct : Nat} {gr : Bool} {PA BY OU : Nat → Int32} {ft : Int32} {ap : Nat} {S : St} (h : SR B ct gr PA BY OU ft ap S) {nL : Nat} (h3 : sI B 3 = nI nL) (hL : nL < 16500) (p q : Int32) (k v : Int32) : ∃ S' : St, df_X13_define n p q k v S = some S' ∧ SR (dfB B nL (p ||| k <<< ((17 : Int32) &&& 31)) v) ct gr PA BY OU ft ap S' := by
  obtain ⟨a3, a6, a7⟩ := SR_367 h
  refine ⟨_, ?_, SR_p3 (SR_g7 (SR_g6 h (upd (sR B 6) nL (p ||| k <<< ((17 : Int32) &&& 31)))) (upd (sR B 7) nL v)) (nI (nL + 1))⟩
  unfold df_X13_define df_X13_define_0
  rw [a3, h3, nm_ck hL (by omega), nI_clamp (by omega), nb_let, a6]
  rw [show sI (pR S 6 (upd (sR B 6) nL (p ||| k <<< ((17 : Int32) &&& 31)))) 3 = nI nL from a3.trans h3, nm_ck hL (by omega), nI_clamp (by omega), nb_let]
  rw [show sR (pR S 6 (upd (sR B 6) nL (p ||| k <<< ((17 : Int32) &&& 31)))) 7 = sR B 7 from a7, nb_let]
  rw [show sI (pR (pR S 6 (upd (sR B 6) nL (p ||| k <<< ((17 : Int32) &&& 31)))) 7 (upd (sR B 7) nL v)) 3 + 1 = nI (nL + 1) from by
    rw [show sI (pR (pR S 6 (upd (sR B 6) nL (p ||| k <<< ((17 : Int32) &&& 31)))) 7 (upd (sR B 7) nL v)) 3 = nI nL from a3.trans h3]
    exact nI_add nL 1]
/-- the reference's table, without the statement that is read -/
def RT0 (n L e : Nat) (c : Nat → Nat) (BC B : St) (X : Nat → Nat) (nL : Nat) : Prop := atx n L e c BC B ∧ nL ≤ 16500 ∧ sI B 3 = nI nL ∧ ∀ k : Nat, k < nL → sR B 6 k = nI (X k) ∧ X k < 2 ^ 20
theorem RV_0 {n L e : Nat} {c : Nat → Nat} {BC B : St} {X : Nat → Nat} {nL cu : Nat} (h : RV n L e c BC B X nL cu) : RT0 n L e c BC B X nL := ⟨h.1, h.2.1, h.2.2.1, h.2.2.2.1⟩
/-- a word in the reference: a register, or one that is known -/
theorem nmd_R {n L e : Nat} {c : Nat → Nat} {BC B : St} {X : Nat → Nat} {nL : Nat} (hV : RT0 n L e c BC B X nL) {ct : Nat} {gr : Bool} {PA BY OU : Nat → Int32} {ft : Int32} {ap : Nat} {S : St} (h : SR B ct gr PA BY OU ft ap S) (q l : Nat) (hq : q + l ≤ L) (hA : ∀ t : Nat, t < l → aP (c (q + t)) = true) : df_X13_register n (nI q) (nI (q + l)) S = some (rI (reS l (c q) (c (q + 1)) (c (q + 2)) (c (q + 3))), S) ∧ df_X13_find n (nI q) (nI (q + l)) S = some (if fN (fiP c X q l) 0 nL < nL then nI (fN (fiP c X q l) 0 nL) else -1, S) := by
  obtain ⟨hT, h1, h2, h3⟩ := id hV
  obtain ⟨hn, hL, heL, h127, hend, hce, hO, hst, htC, h0, htR, hch⟩ := id hT
  obtain ⟨ms, dv, ls, sg, vl, PL, tk, fr, to, nm, rfl⟩ := h
  constructor
  · exact re_1 n q l (by omega) h127 (by omega) (fun i hi => ⟨hA i hi, htR _ (by omega)⟩)
  · exact fi_1 (n := n) (L := L) (e := e) (c := c) (BC := BC) (BR := xR (yR B ct gr PA BY OU) ft ms dv ls sg vl PL) hT q l ap tk fr to nm hq nL X h1 h2 h3
/-- a word in the class: the same -/
theorem nmd_C {n L e : Nat} {c : Nat → Nat} {BC B : St} {X : Nat → Nat} {nL : Nat} (hV : RT0 n L e c BC B X nL) {cs tp st ns : Nat} {fx : Bool} {C A S NM BK : Nat → Int32} {ap kd fr : Nat} {nm : Int32} {bs ws : Nat → Nat} {W : Nat → Int32} (hH : HT L c ns NM BK bs ws) (hN : NTB c X nL W ns NM bs ws) (hI : IDX c X nL ns bs ws) (hns : ns < 16384) (q l : Nat) (hq : q + l ≤ L) (hl : l < 32) (hA : ∀ t : Nat, t < l → aP (c (q + t)) = true) : ∃ (id ns' : Nat) (NM' BK' : Nat → Int32) (bs' ws' : Nat → Nat), df_X9_nameAt n (nI q) (nI l) (uC (xC BC cs tp st ns fx C A S NM BK) ap kd fr nm) = some (nI id, uC (xC BC cs tp st ns' fx C A S NM' BK') ap kd fr nm) ∧ HT L c ns' NM' BK' bs' ws' ∧ id < ns' ∧ sW c (bs' id) (ws' id) q l ∧ ns' ≤ ns + 1 ∧ PS ns NM bs ws ns' NM' bs' ws' ∧ NTB c X nL W ns' NM' bs' ws' ∧ IDX c X nL ns' bs' ws' ∧ sO (uC (xC BC cs tp st ns' fx C A S NM' BK') ap kd fr nm) 0 = some 8 ∧ df_X7_registerAt n (nI q) (nI l) (pR nd_st0 0 (sR (uC (xC BC cs tp st ns' fx C A S NM' BK') ap kd fr nm) 7)) = some (rI (reS l (c q) (c (q + 1)) (c (q + 2)) (c (q + 3))), pR nd_st0 0 (sR (uC (xC BC cs tp st ns' fx C A S NM' BK') ap kd fr nm) 7)) ∧ df_X9_isDefined n (nI id) (uC (xC BC cs tp st ns' fx C A S NM' BK') ap kd fr nm) = some (bI (decide (nmK c X nL q l < nL)), uC (xC BC cs tp st ns' fx C A S NM' BK') ap kd fr nm) := by
  obtain ⟨hT, h1, h2, h3⟩ := id hV
  obtain ⟨hn, hL, heL, h127, hend, hce, hO, hst, htC, h0, htR, hch⟩ := id hT
  obtain ⟨id, ns', NM', BK', bs', ws', a1, a2, a3, a4, a5, a6, a7, a8⟩ := na_1 hT (cs := cs) (tp := tp) (st := st) (fx := fx) (C := C) (A := A) (S := S) (ap := ap) (kd := kd) (fr := fr) (nm := nm) hH hns q l hq hA
  have hp : PS ns NM bs ws ns' NM' bs' ws' := ⟨a5, a7, a8⟩
  have hN' := NTB_n hN hI hp a2
  refine ⟨id, ns', NM', BK', bs', ws', a1, a2, a3, a4, a6, hp, hN', IDX_n hI hp, hO, ?_, ?_⟩
  · exact cr_1 n q l (c := c) (B := pR nd_st0 0 (sR (uC (xC BC cs tp st ns' fx C A S NM' BK') ap kd fr nm) 7)) (by omega) (by omega) h127 (by omega) hA (fun i hi => htC _ (by omega))
  · have hns' := a2.1
    rw [df_9 id (by omega)]
    obtain ⟨b1, b2, b3⟩ := hN' id a3
    rw [nk_W a4] at b1 b2 b3
    by_cases z : nmK c X nL q l < nL
    · have : ¬ NM' (5 * id + 2) = 0 := by
        by_cases w : X (nmK c X nL q l) / 131072 = 2
        · rw [(b1 ⟨z, w⟩).1]; decide
        · rw [(b2 ⟨z, w⟩).1]; decide
      rw [decide_eq_false this, decide_eq_true z]; rfl
    · rw [decide_eq_true (b3 z), decide_eq_false z]; rfl
theorem nmK_f {c X : Nat → Nat} {nL q l : Nat} (h : ¬ reS l (c q) (c (q + 1)) (c (q + 2)) (c (q + 3)) < 32) : nmK c X nL q l = fN (fiP c X q l) 0 nL := if_neg h
theorem rI_n {r : Nat} : (0 ≤ rI r ↔ r < 32) := by
  unfold rI
  by_cases h : r < 32
  · rw [if_pos h]
    exact ⟨fun _ => h, fun _ => zle (a := 0) (Nat.zero_le _) (by omega)⟩
  · rw [if_neg h]
    exact ⟨fun w => absurd w (by decide), fun w => absurd w h⟩
theorem or17 {p k : Nat} (hp : p < 131072) (hk : k < 8) : nI p ||| nI k <<< ((17 : Int32) &&& 31) = nI (k * 131072 + p) := by
  rw [show ((17 : Int32) &&& 31) = nI 17 from by decide, nm_shl (by omega) (by omega), Int32.or_comm]
  exact nm_orG 17 (show p < 2 ^ 17 from hp) (by omega)
