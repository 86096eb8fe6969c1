def wA (n Tp L : Nat) (tpe BC BR : St) (X : St × St) (g : Nat) : Prop := ∀ (p k m m2 pt os cs ts σ tk st kd fr : Nat) (l : List Nat) (nm tv : Int64) (C S SA F T K P OA : Nat → Int32) (A N : Nat → Int64) (pos : Nat → Nat) (u : St × St), L - p < g → L - p < k → k ≤ 121 → k < m → L - p < m2 → iA l L p cs ts os σ pt C A F T K P N pos S SA OA → df_X2_next n Tp (tpe, mC BC cs l.length os p kd fr 0 pt nm C S SA F T A) = some u → wEnd BC BR tpe X (df_X2_read_11 n Tp m (nI 1) (nI 1) (nI k) u) (df_X15_read_24 n m2 (nI pt) (nI 0) (mR BR p tk st ts (nOp l) 0 tv K P OA N, X))
def wB (n Tp L : Nat) (tpe BC BR : St) (X : St × St) (g : Nat) : Prop := ∀ (p k m m2 pt os cs ts tk st kd fr : Nat) (l : List Nat) (nm tv : Int64) (C S SA F T K P OA : Nat → Int32) (A N : Nat → Int64) (pos : Nat → Nat) (u : St × St), L - p < g → L - p < k → k ≤ 121 → k < m → L - p < m2 → iB l L p cs ts os pt C A F T K P N pos S SA OA → df_X2_next n Tp (tpe, mC BC cs l.length os p kd fr 0 pt nm C S SA F T A) = some u → wEnd BC BR tpe X (df_X2_read_11 n Tp m (nI 0) (nI 1) (nI k) u) (df_X15_read_24 n m2 (nI pt) (nI 1) (mR BR p tk st ts (nOp l) 0 tv K P OA N, X))
theorem tS_v {s : Nat} (h1 : 1 ≤ s) (h : s ≤ 19 ∨ s = 21 ∨ s = 22 ∨ s = 25 ∨ s = 28 ∨ s = 29) : (s ≤ 18 ∧ tS s = s + 9) ∨ (s = 19 ∧ tS s = 28) ∨ (s = 21 ∧ tS s = 29) ∨ (s = 22 ∧ tS s = 30) ∨ (s = 25 ∧ tS s = 32) ∨ (s = 28 ∧ tS s = 31) ∨ (s = 29 ∧ tS s = 33) := by
  by_cases a : s ≤ 18
  · refine Or.inl ⟨a, ?_⟩
    unfold tS
    rw [if_neg (by omega), if_pos a]
  · rcases (show s = 19 ∨ s = 21 ∨ s = 22 ∨ s = 25 ∨ s = 28 ∨ s = 29 by omega) with rfl | rfl | rfl | rfl | rfl | rfl
    · exact Or.inr (Or.inl ⟨rfl, rfl⟩)
    · exact Or.inr (Or.inr (Or.inl ⟨rfl, rfl⟩))
    · exact Or.inr (Or.inr (Or.inr (Or.inl ⟨rfl, rfl⟩)))
    · exact Or.inr (Or.inr (Or.inr (Or.inr (Or.inl ⟨rfl, rfl⟩))))
    · exact Or.inr (Or.inr (Or.inr (Or.inr (Or.inr (Or.inl ⟨rfl, rfl⟩)))))
    · exact Or.inr (Or.inr (Or.inr (Or.inr (Or.inr (Or.inr ⟨rfl, rfl⟩)))))
theorem tk_v {κ s τ μ g : Nat} {Q : Prop} (hd : (κ = 1 ∧ τ = 1) ∨ (κ = 2 ∧ tkT μ τ g ∧ Q) ∨ (κ = 3 ∧ 1 ≤ s ∧ (s ≤ 19 ∨ s = 21 ∨ s = 22 ∨ s = 25 ∨ s = 28 ∨ s = 29) ∧ τ = tS s) ∨ (κ = 4 ∧ τ = 34)) : τ < 100 ∧ (τ = 32 → κ = 3 ∧ s = 25) ∧ (τ = 30 → κ = 3 ∧ s = 22) ∧ (κ = 3 → s < 100) ∧ 0 < κ ∧ κ < 5 ∧ (κ = 3 ∧ s = 25 → τ = 32) ∧ (κ = 3 ∧ s = 22 → τ = 30) := by
  rcases hd with ⟨h1, h2⟩ | ⟨h1, h2, _⟩ | ⟨h1, h2, h3, h4⟩ | ⟨h1, h2⟩
  · omega
  · unfold tkT at h2
    omega
  · have e := tS_v h2 h3
    rw [← h4] at e
    omega
  · omega
theorem to_w2 (n Tp : Nat) {tpe : St} {B : St} {cs tp os ap fr ft pt : Nat} {nm : Int64} {C S SA F T : Nat → Int32} {A : Nat → Int64} {b : Int32} {u : St × St} (h : df_X2_takeWord n Tp (tpe, mC B cs tp os ap 2 fr ft pt nm C S SA F T A) = some (b, u)) : df_X2_takeOperand n Tp (tpe, mC B cs tp os ap 2 fr ft pt nm C S SA F T A) = df_X2_takeOperand_169 n Tp b u := by
  rw [to_w, h, nb_b2]
/-- a leaf -/
theorem sA_leaf {n Tp L : Nat} {z : Nat → Nat} {tpe BC BR : St} {X : St × St} {g : Nat} (hT : txt n Tp L z tpe BC BR) (ihB : wB n Tp L tpe BC BR X g) {p q p' k m m2 pt os cs ts σ : Nat} {l : List Nat} {x w : Int64} {C : Nat → Int32} {A : Nat → Int64} {F T K P : Nat → Int32} {N : Nat → Int64} {pos : Nat → Nat} {S SA OA : Nat → Int32} (hI : iA l L p cs ts os σ pt C A F T K P N pos S SA OA) (hg : L - p < g + 1) (hk : L - p < k + 1) (hk2 : k + 1 ≤ 121) (hm : k + 1 < m + 2) (hm2 : L - p < m2 + 1) (pq : p ≤ q) (qp : q < p') (pL : p' ≤ L) {y a : Int64} {κ o τ : Nat} (h1 : pt < 40 → df_X2_takeOperand n Tp (tpe, mC BC cs l.length os p' κ q 0 pt x C S SA F T A) = df_X2_takeOperand_169 n Tp (nI 0) (tpe, mC BC (cs + 1) l.length os p' κ q 0 (pt + 1) y (upd C cs (nI o)) S SA F T (vp_updL A cs a))) (h2 : pt = 40 → df_X2_takeOperand n Tp (tpe, mC BC cs l.length os p' κ q 0 pt x C S SA F T A) = df_X2_takeOperand_169 n Tp (nI 0) (tpe, mC BC cs l.length os p' κ q (3 + 8 * q) 41 y C S SA F T A)) (hl : lf o τ a w) : wEnd BC BR tpe X (df_X2_read_11 n Tp (m + 2) (nI 1) (nI 1) (nI (k + 1)) (tpe, mC BC cs l.length os p' κ q 0 pt x C S SA F T A)) (df_X15_read_126 n (df_X15_read_24 n m2) (nI pt) (nI 0) (mR BR p' τ q ts (nOp l) 0 w K P OA N, X)) := by
  have ht := lf_t hl
  have hL := hT.2.2.2.1
  have i3 := hI.2.2.1
  have i8 := hI.2.2.2.2.2.2.2.1
  rw [r126_y n (nI pt) (Or.inl (by omega))]
  by_cases hp : pt < 40
  · rw [r262_t n pt (nI 0) hp (by omega) (by omega), r397 n _ (by omega) (by omega), show stT τ = 1 by unfold stT; rw [if_neg (by omega), if_neg (by omega), if_pos (by omega)]]
    obtain ⟨p3, κ3, q3, x3, e⟩ := nx_e hT pL (cs + 1) l.length os κ q 0 (pt + 1) y (upd C cs (nI o)) S SA F T (vp_updL A cs a)
    rw [lpt_1 n Tp (m + 1) k (by omega) ((h1 hp).trans (t169 n Tp 0 (by omega) e))]
    exact ihB p' k (m + 1) m2 (pt + 1) os (cs + 1) (ts + 1) τ q κ q l y w (upd C cs (nI o)) S SA F T (upd K ts (nI τ)) (upd P ts (-nI 1)) OA (vp_updL A cs a) (vp_updL N ts w) pos _ (by omega) (by omega) (by omega) (by omega) (by omega) (iA_leaf hI hl hp (by omega) pL hL) e
  · have hp40 : pt = 40 := by omega
    subst hp40
    rw [r262_3 n (nI 0) (nI 0) (by omega) (by omega) (by omega)]
    exact wA_f hT m k 0 (h2 rfl) (by omega) pL (by omega) (by omega) (by omega) rfl
theorem sA_u19 {n Tp L : Nat} {z : Nat → Nat} {tpe BC BR : St} {X : St × St} {g : Nat} (hT : txt n Tp L z tpe BC BR) (ihA : wA n Tp L tpe BC BR X g) {p q p' k m m2 pt os cs ts σ : Nat} {l : List Nat} {x w : Int64} {C : Nat → Int32} {A : Nat → Int64} {F T K P : Nat → Int32} {N : Nat → Int64} {pos : Nat → Nat} {S SA OA : Nat → Int32} (hI : iA l L p cs ts os σ pt C A F T K P N pos S SA OA) (hg : L - p < g + 1) (hk : L - p < k + 1) (hk2 : k + 1 ≤ 121) (hm : k + 1 < m + 2) (hm2 : L - p < m2 + 1) (pq : p ≤ q) (qp : q < p') (pL : p' ≤ L) : wEnd BC BR tpe X (df_X2_read_11 n Tp (m + 2) (nI 1) (nI 1) (nI (k + 1)) (tpe, mC BC cs l.length os p' 3 q 0 pt (nI 19).toInt64 C S SA F T A)) (df_X15_read_126 n (df_X15_read_24 n m2) (nI pt) (nI 0) (mR BR p' 28 q ts (nOp l) 0 w K P OA N, X)) := by
  have hL := hT.2.2.2.1
  have i3 := hI.2.2.1
  have i5 := hI.2.2.2.2.1
  have i8 := hI.2.2.2.2.2.2.2.1
  rw [r126_y n (nI pt) (by omega)]
  by_cases hp : pt < 40
  · rw [r262_t n pt (nI 0) hp (by omega) (by omega), r397 n _ (by omega) (by omega), show stT 28 = 0 from rfl]
    obtain ⟨p3, κ3, q3, x3, e⟩ := nx_e hT pL cs (l.length + 1) os 3 q 0 (pt + 1) (nI 19).toInt64 C (upd S l.length (nI 19)) (upd SA l.length (nI 0)) F T A
    rw [lpt_1 n Tp (m + 1) k (by omega) ((to_u19 n Tp hp (by omega)).trans (t169 n Tp 1 (by omega) e))]
    have f := ihA p' k (m + 1) m2 (pt + 1) os cs (ts + 1) σ 28 q 3 q (19 :: l) (nI 19).toInt64 w C (upd S l.length (nI 19)) (upd SA l.length (nI 0)) F T (upd K ts (nI 28)) (upd P ts (-nI 1)) OA A (vp_updL N ts w) pos _ (by omega) (by omega) (by omega) (by omega) (by omega) (iA_un hI (by omega) (by omega) hp (by omega) pL) e
    rw [nOp_u (by omega)] at f
    exact f
  · have hp40 : pt = 40 := by omega
    subst hp40
    rw [r262_3 n (nI 0) (nI 0) (by omega) (by omega) (by omega)]
    exact wA_f hT m k 1 (to_u19f n Tp (by omega)) (by omega) pL (by omega) (by omega) (by omega) rfl
theorem sA_u15 {n Tp L : Nat} {z : Nat → Nat} {tpe BC BR : St} {X : St × St} {g : Nat} (hT : txt n Tp L z tpe BC BR) (ihA : wA n Tp L tpe BC BR X g) {p q p' k m m2 pt os cs ts σ : Nat} {l : List Nat} {x w : Int64} {C : Nat → Int32} {A : Nat → Int64} {F T K P : Nat → Int32} {N : Nat → Int64} {pos : Nat → Nat} {S SA OA : Nat → Int32} (hI : iA l L p cs ts os σ pt C A F T K P N pos S SA OA) (hg : L - p < g + 1) (hk : L - p < k + 1) (hk2 : k + 1 ≤ 121) (hm : k + 1 < m + 2) (hm2 : L - p < m2 + 1) (pq : p ≤ q) (qp : q < p') (pL : p' ≤ L) : wEnd BC BR tpe X (df_X2_read_11 n Tp (m + 2) (nI 1) (nI 1) (nI (k + 1)) (tpe, mC BC cs l.length os p' 3 q 0 pt (nI 15).toInt64 C S SA F T A)) (df_X15_read_126 n (df_X15_read_24 n m2) (nI pt) (nI 0) (mR BR p' 24 q ts (nOp l) 0 w K P OA N, X)) := by
  have hL := hT.2.2.2.1
  have i3 := hI.2.2.1
  have i5 := hI.2.2.2.2.1
  have i8 := hI.2.2.2.2.2.2.2.1
  rw [r126_y n (nI pt) (by omega)]
  by_cases hp : pt < 40
  · rw [r262_t n pt (nI 0) hp (by omega) (by omega), r397 n _ (by omega) (by omega), show stT 24 = 0 from rfl]
    obtain ⟨p3, κ3, q3, x3, e⟩ := nx_e hT pL cs (l.length + 1) os 3 q 0 (pt + 1) (nI 15).toInt64 C (upd S l.length (nI 20)) (upd SA l.length (nI 0)) F T A
    rw [lpt_1 n Tp (m + 1) k (by omega) ((to_u15 n Tp hp (by omega)).trans (t169 n Tp 1 (by omega) e))]
    have f := ihA p' k (m + 1) m2 (pt + 1) os cs (ts + 1) σ 24 q 3 q (20 :: l) (nI 15).toInt64 w C (upd S l.length (nI 20)) (upd SA l.length (nI 0)) F T (upd K ts (nI 24)) (upd P ts (-nI 1)) OA A (vp_updL N ts w) pos _ (by omega) (by omega) (by omega) (by omega) (by omega) (iA_un hI (by omega) (by omega) hp (by omega) pL) e
    rw [nOp_u (by omega)] at f
    exact f
  · have hp40 : pt = 40 := by omega
    subst hp40
    rw [r262_3 n (nI 0) (nI 0) (by omega) (by omega) (by omega)]
    exact wA_f hT m k 1 (to_u15f n Tp (by omega)) (by omega) pL (by omega) (by omega) (by omega) rfl
theorem sA_u21 {n Tp L : Nat} {z : Nat → Nat} {tpe BC BR : St} {X : St × St} {g : Nat} (hT : txt n Tp L z tpe BC BR) (ihA : wA n Tp L tpe BC BR X g) {p q p' k m m2 pt os cs ts σ : Nat} {l : List Nat} {x w : Int64} {C : Nat → Int32} {A : Nat → Int64} {F T K P : Nat → Int32} {N : Nat → Int64} {pos : Nat → Nat} {S SA OA : Nat → Int32} (hI : iA l L p cs ts os σ pt C A F T K P N pos S SA OA) (hg : L - p < g + 1) (hk : L - p < k + 1) (hk2 : k + 1 ≤ 121) (hm : k + 1 < m + 2) (hm2 : L - p < m2 + 1) (pq : p ≤ q) (qp : q < p') (pL : p' ≤ L) : wEnd BC BR tpe X (df_X2_read_11 n Tp (m + 2) (nI 1) (nI 1) (nI (k + 1)) (tpe, mC BC cs l.length os p' 3 q 0 pt (nI 21).toInt64 C S SA F T A)) (df_X15_read_126 n (df_X15_read_24 n m2) (nI pt) (nI 0) (mR BR p' 29 q ts (nOp l) 0 w K P OA N, X)) := by
  have hL := hT.2.2.2.1
  have i3 := hI.2.2.1
  have i5 := hI.2.2.2.2.1
  have i8 := hI.2.2.2.2.2.2.2.1
  rw [r126_y n (nI pt) (by omega)]
  by_cases hp : pt < 40
  · rw [r262_t n pt (nI 0) hp (by omega) (by omega), r397 n _ (by omega) (by omega), show stT 29 = 0 from rfl]
    obtain ⟨p3, κ3, q3, x3, e⟩ := nx_e hT pL cs (l.length + 1) os 3 q 0 (pt + 1) (nI 21).toInt64 C (upd S l.length (nI 21)) (upd SA l.length (nI 0)) F T A
    rw [lpt_1 n Tp (m + 1) k (by omega) ((to_u21 n Tp hp (by omega)).trans (t169 n Tp 1 (by omega) e))]
    have f := ihA p' k (m + 1) m2 (pt + 1) os cs (ts + 1) σ 29 q 3 q (21 :: l) (nI 21).toInt64 w C (upd S l.length (nI 21)) (upd SA l.length (nI 0)) F T (upd K ts (nI 29)) (upd P ts (-nI 1)) OA A (vp_updL N ts w) pos _ (by omega) (by omega) (by omega) (by omega) (by omega) (iA_un hI (by omega) (by omega) hp (by omega) pL) e
    rw [nOp_u (by omega)] at f
    exact f
  · have hp40 : pt = 40 := by omega
    subst hp40
    rw [r262_3 n (nI 0) (nI 0) (by omega) (by omega) (by omega)]
    exact wA_f hT m k 1 (to_u21f n Tp (by omega)) (by omega) pL (by omega) (by omega) (by omega) rfl
theorem sA_o22 {n Tp L : Nat} {z : Nat → Nat} {tpe BC BR : St} {X : St × St} {g : Nat} (hT : txt n Tp L z tpe BC BR) (ihA : wA n Tp L tpe BC BR X g) {p q p' k m m2 pt os cs ts σ : Nat} {l : List Nat} {x w : Int64} {C : Nat → Int32} {A : Nat → Int64} {F T K P : Nat → Int32} {N : Nat → Int64} {pos : Nat → Nat} {S SA OA : Nat → Int32} (hI : iA l L p cs ts os σ pt C A F T K P N pos S SA OA) (hg : L - p < g + 1) (hk : L - p < k + 1) (hk2 : k + 1 ≤ 121) (hm : k + 1 < m + 2) (hm2 : L - p < m2 + 1) (pq : p ≤ q) (qp : q < p') (pL : p' ≤ L) : wEnd BC BR tpe X (df_X2_read_11 n Tp (m + 2) (nI 1) (nI 1) (nI (k + 1)) (tpe, mC BC cs l.length os p' 3 q 0 pt (nI 22).toInt64 C S SA F T A)) (df_X15_read_126 n (df_X15_read_24 n m2) (nI pt) (nI 0) (mR BR p' 30 q ts (nOp l) 0 w K P OA N, X)) := by
  have hL := hT.2.2.2.1
  have hn := hT.2.2.2.2.1
  have i3 := hI.2.2.1
  have i5 := hI.2.2.2.2.1
  have i8 := hI.2.2.2.2.2.2.2.1
  have fS := frs_S l cs ts os σ hI.1
  rw [r126_o n (nI pt) (by omega)]
  by_cases hp : pt < 40
  · by_cases h8 : nOp l < 8
    · rw [r262_o n pt (nI 0) hp (by omega) (by omega) h8, r397 n _ (by omega) (by omega), show stT 30 = 0 from rfl]
      have hO := op_1 n 22 0 (B := BC) (cs := cs) (tp := l.length) (os := os) (ap := p') (kd := 3) (fr := q) (pt := pt) (nm := (nI 22).toInt64) (C := C) (S := S) (SA := SA) (F := F) (T := T) (A := A) (by omega) (by omega) (sgL l) fS.1 hp (by rw [fS.2.1]; exact h8)
      obtain ⟨p3, κ3, q3, x3, e⟩ := nx_e hT pL cs (l.length + 1) os 3 q 0 (pt + 1) (nI 22).toInt64 C (upd S l.length (nI 22)) (upd SA l.length (nI 0)) F T A
      rw [lpt_1 n Tp (m + 1) k (by omega) ((to_o22 n Tp hO).trans (t169 n Tp 1 (by omega) e))]
      have f := ihA p' k (m + 1) m2 (pt + 1) os cs (ts + 1) σ 30 q 3 q (22 :: l) (nI 22).toInt64 w C (upd S l.length (nI 22)) (upd SA l.length (nI 0)) F T (upd K ts (nI 30)) (upd P ts (-nI 1)) (upd OA (nOp l) (nI ts)) A (vp_updL N ts w) pos _ (by omega) (by omega) (by omega) (by omega) (by omega) (iA_op hI (by omega) hp h8 (by omega) pL) e
      rw [nOp_o (by omega)] at f
      exact f
    · have h88 : nOp l = 8 := by have := hI.2.1; omega
      have hO := op_4 n 22 0 (B := BC) (cs := cs) (tp := l.length) (os := os) (ap := p') (kd := 3) (fr := q) (pt := pt) (nm := (nI 22).toInt64) (C := C) (S := S) (SA := SA) (F := F) (T := T) (A := A) (by omega) (by omega) (sgL l) fS.1 (by omega) hp (by rw [fS.2.1]; exact h8)
      rw [h88, r262_4 n pt (nI 0) (by omega) hp (by omega) (by omega)]
      exact wA_f hT m k 1 (to_o22 n Tp hO) (by omega) pL (by omega) (by omega) (by omega) rfl
  · have hp40 : pt = 40 := by omega
    subst hp40
    have hO := op_3 n 22 0 (B := BC) (cs := cs) (tp := l.length) (os := os) (ap := p') (kd := 3) (fr := q) (nm := (nI 22).toInt64) (C := C) (S := S) (SA := SA) (F := F) (T := T) (A := A) (by omega) (by omega) (sgL l) fS.1 (by omega)
    rw [r262_3 n (nI 0) (nI 1) (by omega) (by omega) (by omega)]
    exact wA_f hT m k 1 (to_o22 n Tp hO) (by omega) pL (by omega) (by omega) (by omega) rfl
theorem sA_o25 {n Tp L : Nat} {z : Nat → Nat} {tpe BC BR : St} {X : St × St} {g : Nat} (hT : txt n Tp L z tpe BC BR) (ihA : wA n Tp L tpe BC BR X g) {p q p' k m m2 pt os cs ts σ : Nat} {l : List Nat} {x w : Int64} {C : Nat → Int32} {A : Nat → Int64} {F T K P : Nat → Int32} {N : Nat → Int64} {pos : Nat → Nat} {S SA OA : Nat → Int32} (hI : iA l L p cs ts os σ pt C A F T K P N pos S SA OA) (hg : L - p < g + 1) (hk : L - p < k + 1) (hk2 : k + 1 ≤ 121) (hm : k + 1 < m + 2) (hm2 : L - p < m2 + 1) (pq : p ≤ q) (qp : q < p') (pL : p' ≤ L) : wEnd BC BR tpe X (df_X2_read_11 n Tp (m + 2) (nI 1) (nI 1) (nI (k + 1)) (tpe, mC BC cs l.length os p' 3 q 0 pt (nI 25).toInt64 C S SA F T A)) (df_X15_read_126 n (df_X15_read_24 n m2) (nI pt) (nI 0) (mR BR p' 32 q ts (nOp l) 0 w K P OA N, X)) := by
  have hL := hT.2.2.2.1
  have hn := hT.2.2.2.2.1
  have i3 := hI.2.2.1
  have i5 := hI.2.2.2.2.1
  have i8 := hI.2.2.2.2.2.2.2.1
  have fS := frs_S l cs ts os σ hI.1
  rw [r126_o n (nI pt) (by omega)]
  by_cases hp : pt < 40
  · by_cases h8 : nOp l < 8
    · rw [r262_o n pt (nI 0) hp (by omega) (by omega) h8, r397 n _ (by omega) (by omega), show stT 32 = 0 from rfl]
      have hO := op_1 n 25 0 (B := BC) (cs := cs) (tp := l.length) (os := os) (ap := p') (kd := 3) (fr := q) (pt := pt) (nm := (nI 25).toInt64) (C := C) (S := S) (SA := SA) (F := F) (T := T) (A := A) (by omega) (by omega) (sgL l) fS.1 hp (by rw [fS.2.1]; exact h8)
      obtain ⟨p3, κ3, q3, x3, e⟩ := nx_e hT pL cs (l.length + 1) os 3 q 0 (pt + 1) (nI 25).toInt64 C (upd S l.length (nI 25)) (upd SA l.length (nI 0)) F T A
      rw [lpt_1 n Tp (m + 1) k (by omega) ((to_o25 n Tp hO).trans (t169 n Tp 1 (by omega) e))]
      have f := ihA p' k (m + 1) m2 (pt + 1) os cs (ts + 1) σ 32 q 3 q (25 :: l) (nI 25).toInt64 w C (upd S l.length (nI 25)) (upd SA l.length (nI 0)) F T (upd K ts (nI 32)) (upd P ts (-nI 1)) (upd OA (nOp l) (nI ts)) A (vp_updL N ts w) pos _ (by omega) (by omega) (by omega) (by omega) (by omega) (iA_op hI (by omega) hp h8 (by omega) pL) e
      rw [nOp_o (by omega)] at f
      exact f
    · have h88 : nOp l = 8 := by have := hI.2.1; omega
      have hO := op_4 n 25 0 (B := BC) (cs := cs) (tp := l.length) (os := os) (ap := p') (kd := 3) (fr := q) (pt := pt) (nm := (nI 25).toInt64) (C := C) (S := S) (SA := SA) (F := F) (T := T) (A := A) (by omega) (by omega) (sgL l) fS.1 (by omega) hp (by rw [fS.2.1]; exact h8)
      rw [h88, r262_4 n pt (nI 0) (by omega) hp (by omega) (by omega)]
      exact wA_f hT m k 1 (to_o25 n Tp hO) (by omega) pL (by omega) (by omega) (by omega) rfl
  · have hp40 : pt = 40 := by omega
    subst hp40
    have hO := op_3 n 25 0 (B := BC) (cs := cs) (tp := l.length) (os := os) (ap := p') (kd := 3) (fr := q) (nm := (nI 25).toInt64) (C := C) (S := S) (SA := SA) (F := F) (T := T) (A := A) (by omega) (by omega) (sgL l) fS.1 (by omega)
    rw [r262_3 n (nI 0) (nI 1) (by omega) (by omega) (by omega)]
    exact wA_f hT m k 1 (to_o25 n Tp hO) (by omega) pL (by omega) (by omega) (by omega) rfl
theorem sA_b {n Tp L : Nat} {z : Nat → Nat} {tpe BC BR : St} {X : St × St} {g : Nat} (hT : txt n Tp L z tpe BC BR) {p q p' k m m2 pt os cs ts σ : Nat} {l : List Nat} {x w : Int64} {C : Nat → Int32} {A : Nat → Int64} {F T K P : Nat → Int32} {N : Nat → Int64} {pos : Nat → Nat} {S SA OA : Nat → Int32} (hI : iA l L p cs ts os σ pt C A F T K P N pos S SA OA) (hg : L - p < g + 1) (hk : L - p < k + 1) (hk2 : k + 1 ≤ 121) (hm : k + 1 < m + 2) (hm2 : L - p < m2 + 1) (pq : p ≤ q) (qp : q < p') (pL : p' ≤ L) {κ τ : Nat} (hto : df_X2_takeOperand n Tp (tpe, mC BC cs l.length os p' κ q 0 pt x C S SA F T A) = df_X2_takeOperand_169 n Tp (nI 0) (tpe, mC BC cs l.length os p' κ q (1 + 8 * q) pt x C S SA F T A)) (hτ : ¬ (τ < 10 ∨ τ = 24 ∨ τ = 28 ∨ τ = 29 ∨ τ = 30 ∨ τ = 32)) (hτ2 : τ < 100) : wEnd BC BR tpe X (df_X2_read_11 n Tp (m + 2) (nI 1) (nI 1) (nI (k + 1)) (tpe, mC BC cs l.length os p' κ q 0 pt x C S SA F T A)) (df_X15_read_126 n (df_X15_read_24 n m2) (nI pt) (nI 0) (mR BR p' τ q ts (nOp l) 0 w K P OA N, X)) := by
  have hL := hT.2.2.2.1
  rw [r126_n n (nI pt) hτ hτ2, r262_0 n (nI 0) (nI pt) (nI 0) (nI 0) (by omega)]
  exact wA_f hT m k 0 hto (by omega) pL (by omega) (by omega) (by omega) rfl
theorem sA_w0 {n Tp L : Nat} {z : Nat → Nat} {tpe BC BR : St} {X : St × St} {g : Nat} (hT : txt n Tp L z tpe BC BR) {p q p' k m m2 pt os cs ts σ : Nat} {l : List Nat} {x w : Int64} {C : Nat → Int32} {A : Nat → Int64} {F T K P : Nat → Int32} {N : Nat → Int64} {pos : Nat → Nat} {S SA OA : Nat → Int32} (hI : iA l L p cs ts os σ pt C A F T K P N pos S SA OA) (hg : L - p < g + 1) (hk : L - p < k + 1) (hk2 : k + 1 ≤ 121) (hm : k + 1 < m + 2) (hm2 : L - p < m2 + 1) (pq : p ≤ q) (qp : q < p') (pL : p' ≤ L) {gg : Nat} (hM' : tkM n Tp q p' 0 gg tpe BC) : wEnd BC BR tpe X (df_X2_read_11 n Tp (m + 2) (nI 1) (nI 1) (nI (k + 1)) (tpe, mC BC cs l.length os p' 2 q 0 pt x C S SA F T A)) (df_X15_read_126 n (df_X15_read_24 n m2) (nI pt) (nI 0) (mR BR p' 0 q ts (nOp l) 0 w K P OA N, X)) := by
  have hL := hT.2.2.2.1
  obtain ⟨y, hM, _⟩ := hM' cs l.length os 2 0 pt x C S SA F T A
  rw [r126_y n (nI pt) (by omega), r262_2 n (nI 0) (nI pt) (nI 0) (nI 0) (by omega)]
  exact wA_f hT m k 0 (to_w2 n Tp (tw_0 n Tp hM)) (by omega) pL (by omega) (by omega) (by omega) rfl
theorem sA_w31 {n Tp L : Nat} {z : Nat → Nat} {tpe BC BR : St} {X : St × St} {g : Nat} (hT : txt n Tp L z tpe BC BR) (ihB : wB n Tp L tpe BC BR X g) {p q p' k m m2 pt os cs ts σ : Nat} {l : List Nat} {x w : Int64} {C : Nat → Int32} {A : Nat → Int64} {F T K P : Nat → Int32} {N : Nat → Int64} {pos : Nat → Nat} {S SA OA : Nat → Int32} (hI : iA l L p cs ts os σ pt C A F T K P N pos S SA OA) (hg : L - p < g + 1) (hk : L - p < k + 1) (hk2 : k + 1 ≤ 121) (hm : k + 1 < m + 2) (hm2 : L - p < m2 + 1) (pq : p ≤ q) (qp : q < p') (pL : p' ≤ L) {gg : Nat} (hM' : tkM n Tp q p' 31 gg tpe BC) {τ : Nat} (hτ : τ = 2 ∧ gg < 32 ∧ w = (nI gg).toInt64 ∨ τ = 3 ∧ gg = 32) : wEnd BC BR tpe X (df_X2_read_11 n Tp (m + 2) (nI 1) (nI 1) (nI (k + 1)) (tpe, mC BC cs l.length os p' 2 q 0 pt x C S SA F T A)) (df_X15_read_126 n (df_X15_read_24 n m2) (nI pt) (nI 0) (mR BR p' τ q ts (nOp l) 0 w K P OA N, X)) := by
  have hL := hT.2.2.2.1
  have i3 := hI.2.2.1
  have i4 := hI.2.2.2.1
  obtain ⟨y, hM, hy⟩ := hM' cs l.length os 2 0 pt x C S SA F T A
  have hl : lf 31 τ y w := (hτ.elim (fun q => Or.inr (Or.inl ⟨rfl, q.1, gg, q.2.1, hy rfl, q.2.2⟩)) (fun q => Or.inr (Or.inr (Or.inl ⟨rfl, q.1, by rw [← q.2]; exact hy rfl⟩))))
  exact sA_leaf hT ihB hI hg hk hk2 hm hm2 pq qp pL (fun hp => to_w2 n Tp (tw_31 n Tp hM hp (by omega))) (fun hp => by subst hp; exact to_w2 n Tp (tw_31f n Tp hM (by omega))) hl
theorem sA_w32 {n Tp L : Nat} {z : Nat → Nat} {tpe BC BR : St} {X : St × St} {g : Nat} (hT : txt n Tp L z tpe BC BR) (ihB : wB n Tp L tpe BC BR X g) {p q p' k m m2 pt os cs ts σ : Nat} {l : List Nat} {x w : Int64} {C : Nat → Int32} {A : Nat → Int64} {F T K P : Nat → Int32} {N : Nat → Int64} {pos : Nat → Nat} {S SA OA : Nat → Int32} (hI : iA l L p cs ts os σ pt C A F T K P N pos S SA OA) (hg : L - p < g + 1) (hk : L - p < k + 1) (hk2 : k + 1 ≤ 121) (hm : k + 1 < m + 2) (hm2 : L - p < m2 + 1) (pq : p ≤ q) (qp : q < p') (pL : p' ≤ L) {gg : Nat} (hM' : tkM n Tp q p' 32 gg tpe BC) : wEnd BC BR tpe X (df_X2_read_11 n Tp (m + 2) (nI 1) (nI 1) (nI (k + 1)) (tpe, mC BC cs l.length os p' 2 q 0 pt x C S SA F T A)) (df_X15_read_126 n (df_X15_read_24 n m2) (nI pt) (nI 0) (mR BR p' 4 q ts (nOp l) 0 w K P OA N, X)) := by
  have hL := hT.2.2.2.1
  have i3 := hI.2.2.1
  have i4 := hI.2.2.2.1
  obtain ⟨y, hM, hy⟩ := hM' cs l.length os 2 0 pt x C S SA F T A
  have hl : lf 32 4 y w := Or.inr (Or.inr (Or.inr (Or.inl ⟨rfl, rfl⟩)))
  exact sA_leaf hT ihB hI hg hk hk2 hm hm2 pq qp pL (fun hp => to_w2 n Tp (tw_32 n Tp hM hp (by omega))) (fun hp => by subst hp; exact to_w2 n Tp (tw_32f n Tp hM (by omega))) hl
theorem sA_w33 {n Tp L : Nat} {z : Nat → Nat} {tpe BC BR : St} {X : St × St} {g : Nat} (hT : txt n Tp L z tpe BC BR) (ihB : wB n Tp L tpe BC BR X g) {p q p' k m m2 pt os cs ts σ : Nat} {l : List Nat} {x w : Int64} {C : Nat → Int32} {A : Nat → Int64} {F T K P : Nat → Int32} {N : Nat → Int64} {pos : Nat → Nat} {S SA OA : Nat → Int32} (hI : iA l L p cs ts os σ pt C A F T K P N pos S SA OA) (hg : L - p < g + 1) (hk : L - p < k + 1) (hk2 : k + 1 ≤ 121) (hm : k + 1 < m + 2) (hm2 : L - p < m2 + 1) (pq : p ≤ q) (qp : q < p') (pL : p' ≤ L) {gg : Nat} (hM' : tkM n Tp q p' 33 gg tpe BC) : wEnd BC BR tpe X (df_X2_read_11 n Tp (m + 2) (nI 1) (nI 1) (nI (k + 1)) (tpe, mC BC cs l.length os p' 2 q 0 pt x C S SA F T A)) (df_X15_read_126 n (df_X15_read_24 n m2) (nI pt) (nI 0) (mR BR p' 5 q ts (nOp l) 0 w K P OA N, X)) := by
  have hL := hT.2.2.2.1
  have i3 := hI.2.2.1
  have i4 := hI.2.2.2.1
  obtain ⟨y, hM, hy⟩ := hM' cs l.length os 2 0 pt x C S SA F T A
  have hl : lf 33 5 y w := Or.inr (Or.inr (Or.inr (Or.inr ⟨rfl, rfl⟩)))
  exact sA_leaf hT ihB hI hg hk hk2 hm hm2 pq qp pL (fun hp => to_w2 n Tp (tw_33 n Tp hM hp (by omega))) (fun hp => by subst hp; exact to_w2 n Tp (tw_33f n Tp hM (by omega))) hl
theorem sA_w27 {n Tp L : Nat} {z : Nat → Nat} {tpe BC BR : St} {X : St × St} {g : Nat} (hT : txt n Tp L z tpe BC BR) (ihA : wA n Tp L tpe BC BR X g) {p q p' k m m2 pt os cs ts σ : Nat} {l : List Nat} {x w : Int64} {C : Nat → Int32} {A : Nat → Int64} {F T K P : Nat → Int32} {N : Nat → Int64} {pos : Nat → Nat} {S SA OA : Nat → Int32} (hI : iA l L p cs ts os σ pt C A F T K P N pos S SA OA) (hg : L - p < g + 1) (hk : L - p < k + 1) (hk2 : k + 1 ≤ 121) (hm : k + 1 < m + 2) (hm2 : L - p < m2 + 1) (pq : p ≤ q) (qp : q < p') (pL : p' ≤ L) {gg : Nat} (hM' : tkM n Tp q p' 27 gg tpe BC) : wEnd BC BR tpe X (df_X2_read_11 n Tp (m + 2) (nI 1) (nI 1) (nI (k + 1)) (tpe, mC BC cs l.length os p' 2 q 0 pt x C S SA F T A)) (df_X15_read_126 n (df_X15_read_24 n m2) (nI pt) (nI 0) (mR BR p' 6 q ts (nOp l) 0 w K P OA N, X)) := by
  obtain ⟨T1, T2, T3, T4, T5, T6, T7, T8, T9⟩ := id hT
  have i3 := hI.2.2.1
  have i4 := hI.2.2.2.1
  have i5 := hI.2.2.2.2.1
  have i7 := hI.2.2.2.2.2.2.1
  have i8 := hI.2.2.2.2.2.2.2.1
  have fS := frs_S l cs ts os σ hI.1
  obtain ⟨y, hM, _⟩ := hM' cs l.length os 2 0 pt x C S SA F T A
  rw [r126_y n (nI pt) (by omega)]
  by_cases hp : pt < 40
  · rw [r262_t n pt (nI 0) hp (by omega) (by omega), r397 n _ (by omega) (by omega), show stT 6 = 2 from rfl]
    obtain ⟨m3, rfl⟩ : ∃ m3 : Nat, m2 = m3 + 1 := ⟨m2 - 1, by omega⟩
    obtain ⟨q2, p2, κ2, s2, τ2, μ2, g2, v2, e1, e2, e3, e4, e5, e6⟩ := tk_all n Tp L p' T1 T2 T3 T4 T5 T6 T7 T8 T9 pL
    obtain ⟨y2, hN, hN1, hN3⟩ := e5 cs l.length os 2 q 0 (pt + 1) y C S SA F T A
    rcases e6 with ⟨z1, z2, z3⟩ | ⟨hqL2, hqp2, h322, hR2, hd⟩
    · subst z1
      subst z3
      rw [go_E n m3 p2 p' _ (nI 2) T3 T4 T5 T6 T9 pL (e1.symm.trans z2), r463_e n p2 2 _ T3 (by omega) (by have := hI.2.1; omega) (Or.inl (by omega))]
      have tw := tw_271 n Tp p2 0 q2 (by omega) (by omega) (sgL l) fS.1 hM hp hN (Or.inl (by omega)) (by omega) (by omega)
      rw [z2] at tw
      exact wA_f hT m k 1 (to_w2 n Tp tw) (by omega) (Nat.le_refl _) (by omega) (by omega) (by omega) rfl
    obtain ⟨d1, d2, d3, d4, d5, d6, d7, d8⟩ := tk_v hd
    obtain ⟨w2, hR, _⟩ := hR2 6 q (ts + 1) (nOp l) 0 w (upd K ts (nI 6)) (upd P ts (-nI 1)) OA (vp_updL N ts w) X
    rw [go_0 n m3 L p' q2 p2 τ2 w2 _ (nI 2) T3 T4 T5 T6 T9 pL e1.symm hqL2 h322 hR (by decide)]
    by_cases hs : κ2 = 3 ∧ s2 = 25
    · have hτ2 := d7 hs
      obtain ⟨hs1, hs2⟩ := hs
      subst hs1
      subst hs2
      subst hτ2
      have hy2 : y2 = (nI 25).toInt64 := hN3 rfl
      subst hy2
      rw [r126_2]
      by_cases hp1 : pt + 1 < 40
      · by_cases h8 : nOp l < 8
        · rw [r262_o n (pt + 1) (nI 2) hp1 (by omega) (by omega) h8, r397 n _ (by omega) (by omega), show stT 32 = 0 from rfl]
          have hO := op_1 n 27 os (B := BC) (cs := cs) (tp := l.length) (os := os) (ap := p2) (kd := 3) (fr := q2) (pt := pt + 1) (nm := (nI 25).toInt64) (C := C) (S := S) (SA := SA) (F := F) (T := T) (A := A) (by omega) (by omega) (sgL l) fS.1 hp1 (by rw [fS.2.1]; exact h8)
          have tw := tw_27o n Tp p2 q2 hM hp hN hO
          obtain ⟨p3, κ3, q3, x3, e⟩ := nx_e hT e4 cs (l.length + 1) os 3 q2 0 (pt + 1 + 1) (nI 25).toInt64 C (upd S l.length (nI 27)) (upd SA l.length (nI os)) F T A
          rw [lpt_1 n Tp (m + 1) k (by omega) ((to_w2 n Tp tw).trans (t169 n Tp 1 (by omega) e))]
          have f := ihA p2 k (m + 1) m3 (pt + 2) os cs (ts + 2) σ 32 q2 3 q2 (27 :: l) (nI 25).toInt64 w2 C (upd S l.length (nI 27)) (upd SA l.length (nI os)) F T (upd (upd K ts (nI 6)) (ts + 1) (nI 32)) (upd (upd P ts (-nI 1)) (ts + 1) (-nI 1)) (upd OA (nOp l) (nI (ts + 1))) A (vp_updL (vp_updL N ts w) (ts + 1) w2) pos _ (by omega) (by omega) (by omega) (by omega) (by omega) (iA_wd hI (by omega) (by omega) h8 (by omega) e4) e
          rw [nOp_o (by omega)] at f
          exact f
        · have h88 : nOp l = 8 := by have := hI.2.1; omega
          have hO := op_4 n 27 os (B := BC) (cs := cs) (tp := l.length) (os := os) (ap := p2) (kd := 3) (fr := q2) (pt := pt + 1) (nm := (nI 25).toInt64) (C := C) (S := S) (SA := SA) (F := F) (T := T) (A := A) (by omega) (by omega) (sgL l) fS.1 (by omega) hp1 (by rw [fS.2.1]; exact h8)
          rw [h88, r262_4 n (pt + 1) (nI 2) (by omega) hp1 (by omega) (by omega)]
          exact wA_f hT m k 1 (to_w2 n Tp (tw_274 n Tp p2 q2 (pt + 1 + 1) (4 + 8 * q2) hM hp hN hO (by omega) (by omega))) (by omega) e4 (by omega) (by omega) (by omega) rfl
      · have hp39 : pt = 39 := by omega
        subst hp39
        have hO := op_3 n 27 os (B := BC) (cs := cs) (tp := l.length) (os := os) (ap := p2) (kd := 3) (fr := q2) (nm := (nI 25).toInt64) (C := C) (S := S) (SA := SA) (F := F) (T := T) (A := A) (by omega) (by omega) (sgL l) fS.1 (by omega)
        rw [show nI (39 + 1) = nI 40 from rfl, r262_3 n (nI 2) (nI 1) (by omega) (by omega) (by omega)]
        exact wA_f hT m k 1 (to_w2 n Tp (tw_274 n Tp p2 q2 41 (3 + 8 * q2) hM hp hN hO (by omega) (by omega))) (by omega) e4 (by omega) (by omega) (by omega) rfl
    · obtain ⟨x5, r⟩ := r126_2n n (nI (pt + 1)) (G := df_X15_read_24 n m3) (B := BR) (ap := p2) (tk := τ2) (st := q2) (ts := ts + 1) (op := nOp l) (ft := 0) (tv := w2) (K := upd K ts (nI 6)) (P := (upd P ts (-nI 1))) (OA := OA) (N := (vp_updL N ts w)) (X := X) (fun y => hs (d2 y)) d1
      rw [r, r262_0 n (nI 2) (nI (pt + 1)) (nI 0) x5 (by omega)]
      have tw := tw_271 n Tp p2 κ2 q2 (by omega) (by omega) (sgL l) fS.1 hM hp hN (by
        by_cases c3 : κ2 = 3
        · exact Or.inr ⟨s2, d4 c3, hN3 c3, fun y => hs ⟨c3, y⟩⟩
        · exact Or.inl c3) (by omega) (by omega)
      exact wA_f hT m k 1 (to_w2 n Tp tw) (by omega) e4 (by omega) (by omega) (by omega) rfl
  · have hp40 : pt = 40 := by omega
    subst hp40
    rw [r262_3 n (nI 0) (nI 0) (by omega) (by omega) (by omega)]
    exact wA_f hT m k 0 (to_w2 n Tp (tw_273 n Tp hM (by omega))) (by omega) pL (by omega) (by omega) (by omega) rfl
theorem sA_w26 {n Tp L : Nat} {z : Nat → Nat} {tpe BC BR : St} {X : St × St} {g : Nat} (hT : txt n Tp L z tpe BC BR) (ihA : wA n Tp L tpe BC BR X g) {p q p' k m m2 pt os cs ts σ : Nat} {l : List Nat} {x w : Int64} {C : Nat → Int32} {A : Nat → Int64} {F T K P : Nat → Int32} {N : Nat → Int64} {pos : Nat → Nat} {S SA OA : Nat → Int32} (hI : iA l L p cs ts os σ pt C A F T K P N pos S SA OA) (hg : L - p < g + 1) (hk : L - p < k + 1) (hk2 : k + 1 ≤ 121) (hm : k + 1 < m + 2) (hm2 : L - p < m2 + 1) (pq : p ≤ q) (qp : q < p') (pL : p' ≤ L) {gg : Nat} (hM' : tkM n Tp q p' 26 gg tpe BC) : wEnd BC BR tpe X (df_X2_read_11 n Tp (m + 2) (nI 1) (nI 1) (nI (k + 1)) (tpe, mC BC cs l.length os p' 2 q 0 pt x C S SA F T A)) (df_X15_read_126 n (df_X15_read_24 n m2) (nI pt) (nI 0) (mR BR p' 7 q ts (nOp l) 0 w K P OA N, X)) := by
  obtain ⟨T1, T2, T3, T4, T5, T6, T7, T8, T9⟩ := id hT
  have i3 := hI.2.2.1
  have i4 := hI.2.2.2.1
  have i5 := hI.2.2.2.2.1
  have i7 := hI.2.2.2.2.2.2.1
  have i8 := hI.2.2.2.2.2.2.2.1
  have fS := frs_S l cs ts os σ hI.1
  obtain ⟨y, hM, _⟩ := hM' cs l.length os 2 0 pt x C S SA F T A
  rw [r126_y n (nI pt) (by omega)]
  by_cases hp : pt < 40
  · rw [r262_t n pt (nI 0) hp (by omega) (by omega), r397 n _ (by omega) (by omega), show stT 7 = 2 from rfl]
    obtain ⟨m3, rfl⟩ : ∃ m3 : Nat, m2 = m3 + 1 := ⟨m2 - 1, by omega⟩
    obtain ⟨q2, p2, κ2, s2, τ2, μ2, g2, v2, e1, e2, e3, e4, e5, e6⟩ := tk_all n Tp L p' T1 T2 T3 T4 T5 T6 T7 T8 T9 pL
    obtain ⟨y2, hN, hN1, hN3⟩ := e5 cs l.length os 2 q 0 (pt + 1) y C S SA F T A
    rcases e6 with ⟨z1, z2, z3⟩ | ⟨hqL2, hqp2, h322, hR2, hd⟩
    · subst z1
      subst z3
      rw [go_E n m3 p2 p' _ (nI 2) T3 T4 T5 T6 T9 pL (e1.symm.trans z2), r463_e n p2 2 _ T3 (by omega) (by have := hI.2.1; omega) (Or.inl (by omega))]
      have tw := tw_261 n Tp p2 0 q2 (by omega) (by omega) (sgL l) fS.1 hM hp hN (Or.inl (by omega)) (by omega) (by omega)
      rw [z2] at tw
      exact wA_f hT m k 1 (to_w2 n Tp tw) (by omega) (Nat.le_refl _) (by omega) (by omega) (by omega) rfl
    obtain ⟨d1, d2, d3, d4, d5, d6, d7, d8⟩ := tk_v hd
    obtain ⟨w2, hR, _⟩ := hR2 7 q (ts + 1) (nOp l) 0 w (upd K ts (nI 7)) (upd P ts (-nI 1)) OA (vp_updL N ts w) X
    rw [go_0 n m3 L p' q2 p2 τ2 w2 _ (nI 2) T3 T4 T5 T6 T9 pL e1.symm hqL2 h322 hR (by decide)]
    by_cases hs : κ2 = 3 ∧ s2 = 25
    · have hτ2 := d7 hs
      obtain ⟨hs1, hs2⟩ := hs
      subst hs1
      subst hs2
      subst hτ2
      have hy2 : y2 = (nI 25).toInt64 := hN3 rfl
      subst hy2
      rw [r126_2]
      by_cases hp1 : pt + 1 < 40
      · by_cases h8 : nOp l < 8
        · rw [r262_o n (pt + 1) (nI 2) hp1 (by omega) (by omega) h8, r397 n _ (by omega) (by omega), show stT 32 = 0 from rfl]
          have hO := op_1 n 26 os (B := BC) (cs := cs) (tp := l.length) (os := os) (ap := p2) (kd := 3) (fr := q2) (pt := pt + 1) (nm := (nI 25).toInt64) (C := C) (S := S) (SA := SA) (F := F) (T := T) (A := A) (by omega) (by omega) (sgL l) fS.1 hp1 (by rw [fS.2.1]; exact h8)
          have tw := tw_26o n Tp p2 q2 hM hp hN hO
          obtain ⟨p3, κ3, q3, x3, e⟩ := nx_e hT e4 cs (l.length + 1) os 3 q2 0 (pt + 1 + 1) (nI 25).toInt64 C (upd S l.length (nI 26)) (upd SA l.length (nI os)) F T A
          rw [lpt_1 n Tp (m + 1) k (by omega) ((to_w2 n Tp tw).trans (t169 n Tp 1 (by omega) e))]
          have f := ihA p2 k (m + 1) m3 (pt + 2) os cs (ts + 2) σ 32 q2 3 q2 (26 :: l) (nI 25).toInt64 w2 C (upd S l.length (nI 26)) (upd SA l.length (nI os)) F T (upd (upd K ts (nI 7)) (ts + 1) (nI 32)) (upd (upd P ts (-nI 1)) (ts + 1) (-nI 1)) (upd OA (nOp l) (nI (ts + 1))) A (vp_updL (vp_updL N ts w) (ts + 1) w2) pos _ (by omega) (by omega) (by omega) (by omega) (by omega) (iA_wd hI (by omega) (by omega) h8 (by omega) e4) e
          rw [nOp_o (by omega)] at f
          exact f
        · have h88 : nOp l = 8 := by have := hI.2.1; omega
          have hO := op_4 n 26 os (B := BC) (cs := cs) (tp := l.length) (os := os) (ap := p2) (kd := 3) (fr := q2) (pt := pt + 1) (nm := (nI 25).toInt64) (C := C) (S := S) (SA := SA) (F := F) (T := T) (A := A) (by omega) (by omega) (sgL l) fS.1 (by omega) hp1 (by rw [fS.2.1]; exact h8)
          rw [h88, r262_4 n (pt + 1) (nI 2) (by omega) hp1 (by omega) (by omega)]
          exact wA_f hT m k 1 (to_w2 n Tp (tw_264 n Tp p2 q2 (pt + 1 + 1) (4 + 8 * q2) hM hp hN hO (by omega) (by omega))) (by omega) e4 (by omega) (by omega) (by omega) rfl
      · have hp39 : pt = 39 := by omega
        subst hp39
        have hO := op_3 n 26 os (B := BC) (cs := cs) (tp := l.length) (os := os) (ap := p2) (kd := 3) (fr := q2) (nm := (nI 25).toInt64) (C := C) (S := S) (SA := SA) (F := F) (T := T) (A := A) (by omega) (by omega) (sgL l) fS.1 (by omega)
        rw [show nI (39 + 1) = nI 40 from rfl, r262_3 n (nI 2) (nI 1) (by omega) (by omega) (by omega)]
        exact wA_f hT m k 1 (to_w2 n Tp (tw_264 n Tp p2 q2 41 (3 + 8 * q2) hM hp hN hO (by omega) (by omega))) (by omega) e4 (by omega) (by omega) (by omega) rfl
    · obtain ⟨x5, r⟩ := r126_2n n (nI (pt + 1)) (G := df_X15_read_24 n m3) (B := BR) (ap := p2) (tk := τ2) (st := q2) (ts := ts + 1) (op := nOp l) (ft := 0) (tv := w2) (K := upd K ts (nI 7)) (P := (upd P ts (-nI 1))) (OA := OA) (N := (vp_updL N ts w)) (X := X) (fun y => hs (d2 y)) d1
      rw [r, r262_0 n (nI 2) (nI (pt + 1)) (nI 0) x5 (by omega)]
      have tw := tw_261 n Tp p2 κ2 q2 (by omega) (by omega) (sgL l) fS.1 hM hp hN (by
        by_cases c3 : κ2 = 3
        · exact Or.inr ⟨s2, d4 c3, hN3 c3, fun y => hs ⟨c3, y⟩⟩
        · exact Or.inl c3) (by omega) (by omega)
      exact wA_f hT m k 1 (to_w2 n Tp tw) (by omega) e4 (by omega) (by omega) (by omega) rfl
  · have hp40 : pt = 40 := by omega
    subst hp40
    rw [r262_3 n (nI 0) (nI 0) (by omega) (by omega) (by omega)]
    exact wA_f hT m k 0 (to_w2 n Tp (tw_263 n Tp hM (by omega))) (by omega) pL (by omega) (by omega) (by omega) rfl
theorem sA_w23 {n Tp L : Nat} {z : Nat → Nat} {tpe BC BR : St} {X : St × St} {g : Nat} (hT : txt n Tp L z tpe BC BR) (ihA : wA n Tp L tpe BC BR X g) {p q p' k m m2 pt os cs ts σ : Nat} {l : List Nat} {x w : Int64} {C : Nat → Int32} {A : Nat → Int64} {F T K P : Nat → Int32} {N : Nat → Int64} {pos : Nat → Nat} {S SA OA : Nat → Int32} (hI : iA l L p cs ts os σ pt C A F T K P N pos S SA OA) (hg : L - p < g + 1) (hk : L - p < k + 1) (hk2 : k + 1 ≤ 121) (hm : k + 1 < m + 2) (hm2 : L - p < m2 + 1) (pq : p ≤ q) (qp : q < p') (pL : p' ≤ L) {gg : Nat} (hM' : tkM n Tp q p' 23 gg tpe BC) : wEnd BC BR tpe X (df_X2_read_11 n Tp (m + 2) (nI 1) (nI 1) (nI (k + 1)) (tpe, mC BC cs l.length os p' 2 q 0 pt x C S SA F T A)) (df_X15_read_126 n (df_X15_read_24 n m2) (nI pt) (nI 0) (mR BR p' 8 q ts (nOp l) 0 w K P OA N, X)) := by
  obtain ⟨T1, T2, T3, T4, T5, T6, T7, T8, T9⟩ := id hT
  have i3 := hI.2.2.1
  have i4 := hI.2.2.2.1
  have i5 := hI.2.2.2.2.1
  have i7 := hI.2.2.2.2.2.2.1
  have i8 := hI.2.2.2.2.2.2.2.1
  have fS := frs_S l cs ts os σ hI.1
  obtain ⟨y, hM, _⟩ := hM' cs l.length os 2 0 pt x C S SA F T A
  have re := re_R n (by omega) (B := BR) (ap := p') (tk := 8) (st := q) (ts := ts) (ft := 0) (tv := w) (K := K) (P := P) (OA := OA) (N := N) (X := X) hI.1 hI.2.1 (by omega)
  rw [r126_r n (nI pt) (hOb l) (by omega) re]
  by_cases hob : hOb l = true
  · rw [hob, if_pos rfl, r262_0 n (nI 0) (nI pt) (nI 0) (nI 0) (by omega)]
    have hw : 0 < cN (fun i => decide (23 ≤ sgL l i ∧ sgL l i ≤ 24)) l.length := by
      rcases Nat.eq_zero_or_pos (cN (fun i => decide (23 ≤ sgL l i ∧ sgL l i ≤ 24)) l.length) with y0 | y0
      · rw [fS.2.2.1.mp y0] at hob
        exact absurd hob (by decide)
      · exact y0
    exact wA_f hT m k 0 (to_w2 n Tp (tw_23n n Tp (by omega) (by omega) (sgL l) fS.1 hw hM)) (by omega) pL (by omega) (by omega) (by omega) rfl
  have hob : hOb l = false := Bool.eq_false_iff.mpr hob
  have hw := fS.2.2.1.mpr hob
  rw [hob, if_neg (show ¬ false = true by decide)]
  by_cases hp : pt < 40
  · rw [r262_t n pt (nI 0) hp (by omega) (by omega), r397 n _ (by omega) (by omega), show stT 8 = 3 from rfl]
    obtain ⟨m3, rfl⟩ : ∃ m3 : Nat, m2 = m3 + 1 := ⟨m2 - 1, by omega⟩
    obtain ⟨q2, p2, κ2, s2, τ2, μ2, g2, v2, e1, e2, e3, e4, e5, e6⟩ := tk_all n Tp L p' T1 T2 T3 T4 T5 T6 T7 T8 T9 pL
    obtain ⟨y2, hN, hN1, hN3⟩ := e5 cs l.length os 2 q 0 (pt + 1) y C S SA F T A
    rcases e6 with ⟨z1, z2, z3⟩ | ⟨hqL2, hqp2, h322, hR2, hd⟩
    · subst z1
      subst z3
      rw [go_E n m3 p2 p' _ (nI 3) T3 T4 T5 T6 T9 pL (e1.symm.trans z2), r463_e n p2 3 _ T3 (by omega) (by have := hI.2.1; omega) (Or.inl (by omega))]
      have tw := tw_231 n Tp p2 0 q2 (by omega) (by omega) (sgL l) fS.1 hw hM hp hN (Or.inl (by omega)) (by omega) (by omega)
      rw [z2] at tw
      exact wA_f hT m k 1 (to_w2 n Tp tw) (by omega) (Nat.le_refl _) (by omega) (by omega) (by omega) rfl
    obtain ⟨d1, d2, d3, d4, d5, d6, d7, d8⟩ := tk_v hd
    obtain ⟨w2, hR, _⟩ := hR2 8 q (ts + 1) (nOp l) 0 w (upd K ts (nI 8)) (upd P ts (-nI 1)) OA (vp_updL N ts w) X
    rw [go_0 n m3 L p' q2 p2 τ2 w2 _ (nI 3) T3 T4 T5 T6 T9 pL e1.symm hqL2 h322 hR (by decide)]
    by_cases hs : κ2 = 3 ∧ s2 = 22
    · have hτ2 := d8 hs
      obtain ⟨hs1, hs2⟩ := hs
      subst hs1
      subst hs2
      subst hτ2
      have hy2 : y2 = (nI 22).toInt64 := hN3 rfl
      subst hy2
      rw [r126_3]
      by_cases hp1 : pt + 1 < 40
      · by_cases h8 : nOp l < 8
        · rw [r262_o n (pt + 1) (nI 3) hp1 (by omega) (by omega) h8, r397 n _ (by omega) (by omega), show stT 30 = 0 from rfl]
          have hO := op_1 n 23 os (B := BC) (cs := cs) (tp := l.length) (os := os) (ap := p2) (kd := 3) (fr := q2) (pt := pt + 1) (nm := (nI 22).toInt64) (C := C) (S := S) (SA := SA) (F := F) (T := T) (A := A) (by omega) (by omega) (sgL l) fS.1 hp1 (by rw [fS.2.1]; exact h8)
          have tw := tw_23o n Tp p2 q2 (by omega) (by omega) (sgL l) fS.1 hw hM hp hN (by omega) (by omega) hO
          obtain ⟨p3, κ3, q3, x3, e⟩ := nx_e hT e4 (cs + 1) (l.length + 1) (os + 1) 3 q2 0 (pt + 1 + 1) (nI 22).toInt64 (upd C cs (nI 23)) (upd S l.length (nI 23)) (upd SA l.length (nI os)) (upd F os (nI (cs + 1))) T (vp_updL A cs (nI os).toInt64)
          rw [lpt_1 n Tp (m + 1) k (by omega) ((to_w2 n Tp tw).trans (t169 n Tp 1 (by omega) e))]
          have f := ihA p2 k (m + 1) m3 (pt + 2) (os + 1) (cs + 1) (ts + 2) σ 30 q2 3 q2 (23 :: l) (nI 22).toInt64 w2 (upd C cs (nI 23)) (upd S l.length (nI 23)) (upd SA l.length (nI os)) (upd F os (nI (cs + 1))) T (upd (upd K ts (nI 8)) (ts + 1) (nI 30)) (upd (upd P ts (-nI 1)) (ts + 1) (-nI 1)) (upd OA (nOp l) (nI (ts + 1))) (vp_updL A cs (nI os).toInt64) (vp_updL (vp_updL N ts w) (ts + 1) w2) (fun i => if i = os then ts else pos i) _ (by omega) (by omega) (by omega) (by omega) (by omega) (iA_23 hI (by omega) h8 hob (by omega) e4) e
          rw [nOp_o (by omega)] at f
          exact f
        · have h88 : nOp l = 8 := by have := hI.2.1; omega
          have hO := op_4 n 23 os (B := BC) (cs := cs) (tp := l.length) (os := os) (ap := p2) (kd := 3) (fr := q2) (pt := pt + 1) (nm := (nI 22).toInt64) (C := C) (S := S) (SA := SA) (F := F) (T := T) (A := A) (by omega) (by omega) (sgL l) fS.1 (by omega) hp1 (by rw [fS.2.1]; exact h8)
          rw [h88, r262_4 n (pt + 1) (nI 3) (by omega) hp1 (by omega) (by omega)]
          exact wA_f hT m k 1 (to_w2 n Tp (tw_234 n Tp p2 q2 (pt + 1 + 1) (4 + 8 * q2) (by omega) (by omega) (sgL l) fS.1 hw hM hp hN hO (by omega) (by omega))) (by omega) e4 (by omega) (by omega) (by omega) rfl
      · have hp39 : pt = 39 := by omega
        subst hp39
        have hO := op_3 n 23 os (B := BC) (cs := cs) (tp := l.length) (os := os) (ap := p2) (kd := 3) (fr := q2) (nm := (nI 22).toInt64) (C := C) (S := S) (SA := SA) (F := F) (T := T) (A := A) (by omega) (by omega) (sgL l) fS.1 (by omega)
        rw [show nI (39 + 1) = nI 40 from rfl, r262_3 n (nI 3) (nI 1) (by omega) (by omega) (by omega)]
        exact wA_f hT m k 1 (to_w2 n Tp (tw_234 n Tp p2 q2 41 (3 + 8 * q2) (by omega) (by omega) (sgL l) fS.1 hw hM hp hN hO (by omega) (by omega))) (by omega) e4 (by omega) (by omega) (by omega) rfl
    · obtain ⟨x5, r⟩ := r126_3n n (nI (pt + 1)) (G := df_X15_read_24 n m3) (B := BR) (ap := p2) (tk := τ2) (st := q2) (ts := ts + 1) (op := nOp l) (ft := 0) (tv := w2) (K := upd K ts (nI 8)) (P := (upd P ts (-nI 1))) (OA := OA) (N := (vp_updL N ts w)) (X := X) (fun y => hs (d3 y)) d1
      rw [r, r262_0 n (nI 3) (nI (pt + 1)) (nI 0) x5 (by omega)]
      have tw := tw_231 n Tp p2 κ2 q2 (by omega) (by omega) (sgL l) fS.1 hw hM hp hN (by
        by_cases c3 : κ2 = 3
        · exact Or.inr ⟨s2, d4 c3, hN3 c3, fun y => hs ⟨c3, y⟩⟩
        · exact Or.inl c3) (by omega) (by omega)
      exact wA_f hT m k 1 (to_w2 n Tp tw) (by omega) e4 (by omega) (by omega) (by omega) rfl
  · have hp40 : pt = 40 := by omega
    subst hp40
    rw [r262_3 n (nI 0) (nI 0) (by omega) (by omega) (by omega)]
    exact wA_f hT m k 0 (to_w2 n Tp (tw_233 n Tp (by omega) (by omega) (sgL l) fS.1 hw hM (by omega))) (by omega) pL (by omega) (by omega) (by omega) rfl
theorem sA_w24 {n Tp L : Nat} {z : Nat → Nat} {tpe BC BR : St} {X : St × St} {g : Nat} (hT : txt n Tp L z tpe BC BR) (ihA : wA n Tp L tpe BC BR X g) {p q p' k m m2 pt os cs ts σ : Nat} {l : List Nat} {x w : Int64} {C : Nat → Int32} {A : Nat → Int64} {F T K P : Nat → Int32} {N : Nat → Int64} {pos : Nat → Nat} {S SA OA : Nat → Int32} (hI : iA l L p cs ts os σ pt C A F T K P N pos S SA OA) (hg : L - p < g + 1) (hk : L - p < k + 1) (hk2 : k + 1 ≤ 121) (hm : k + 1 < m + 2) (hm2 : L - p < m2 + 1) (pq : p ≤ q) (qp : q < p') (pL : p' ≤ L) {gg : Nat} (hM' : tkM n Tp q p' 24 gg tpe BC) : wEnd BC BR tpe X (df_X2_read_11 n Tp (m + 2) (nI 1) (nI 1) (nI (k + 1)) (tpe, mC BC cs l.length os p' 2 q 0 pt x C S SA F T A)) (df_X15_read_126 n (df_X15_read_24 n m2) (nI pt) (nI 0) (mR BR p' 9 q ts (nOp l) 0 w K P OA N, X)) := by
  obtain ⟨T1, T2, T3, T4, T5, T6, T7, T8, T9⟩ := id hT
  have i3 := hI.2.2.1
  have i4 := hI.2.2.2.1
  have i5 := hI.2.2.2.2.1
  have i7 := hI.2.2.2.2.2.2.1
  have i8 := hI.2.2.2.2.2.2.2.1
  have fS := frs_S l cs ts os σ hI.1
  obtain ⟨y, hM, _⟩ := hM' cs l.length os 2 0 pt x C S SA F T A
  have re := re_R n (by omega) (B := BR) (ap := p') (tk := 9) (st := q) (ts := ts) (ft := 0) (tv := w) (K := K) (P := P) (OA := OA) (N := N) (X := X) hI.1 hI.2.1 (by omega)
  rw [r126_r n (nI pt) (hOb l) (by omega) re]
  by_cases hob : hOb l = true
  · rw [hob, if_pos rfl, r262_0 n (nI 0) (nI pt) (nI 0) (nI 0) (by omega)]
    have hw : 0 < cN (fun i => decide (23 ≤ sgL l i ∧ sgL l i ≤ 24)) l.length := by
      rcases Nat.eq_zero_or_pos (cN (fun i => decide (23 ≤ sgL l i ∧ sgL l i ≤ 24)) l.length) with y0 | y0
      · rw [fS.2.2.1.mp y0] at hob
        exact absurd hob (by decide)
      · exact y0
    exact wA_f hT m k 0 (to_w2 n Tp (tw_24n n Tp (by omega) (by omega) (sgL l) fS.1 hw hM)) (by omega) pL (by omega) (by omega) (by omega) rfl
  have hob : hOb l = false := Bool.eq_false_iff.mpr hob
  have hw := fS.2.2.1.mpr hob
  rw [hob, if_neg (show ¬ false = true by decide)]
  by_cases hp : pt < 40
  · rw [r262_t n pt (nI 0) hp (by omega) (by omega), r397 n _ (by omega) (by omega), show stT 9 = 3 from rfl]
    obtain ⟨m3, rfl⟩ : ∃ m3 : Nat, m2 = m3 + 1 := ⟨m2 - 1, by omega⟩
    obtain ⟨q2, p2, κ2, s2, τ2, μ2, g2, v2, e1, e2, e3, e4, e5, e6⟩ := tk_all n Tp L p' T1 T2 T3 T4 T5 T6 T7 T8 T9 pL
    obtain ⟨y2, hN, hN1, hN3⟩ := e5 cs l.length os 2 q 0 (pt + 1) y C S SA F T A
    rcases e6 with ⟨z1, z2, z3⟩ | ⟨hqL2, hqp2, h322, hR2, hd⟩
    · subst z1
      subst z3
      rw [go_E n m3 p2 p' _ (nI 3) T3 T4 T5 T6 T9 pL (e1.symm.trans z2), r463_e n p2 3 _ T3 (by omega) (by have := hI.2.1; omega) (Or.inl (by omega))]
      have tw := tw_241 n Tp p2 0 q2 (by omega) (by omega) (sgL l) fS.1 hw hM hp hN (Or.inl (by omega)) (by omega) (by omega)
      rw [z2] at tw
      exact wA_f hT m k 1 (to_w2 n Tp tw) (by omega) (Nat.le_refl _) (by omega) (by omega) (by omega) rfl
    obtain ⟨d1, d2, d3, d4, d5, d6, d7, d8⟩ := tk_v hd
    obtain ⟨w2, hR, _⟩ := hR2 9 q (ts + 1) (nOp l) 0 w (upd K ts (nI 9)) (upd P ts (-nI 1)) OA (vp_updL N ts w) X
    rw [go_0 n m3 L p' q2 p2 τ2 w2 _ (nI 3) T3 T4 T5 T6 T9 pL e1.symm hqL2 h322 hR (by decide)]
    by_cases hs : κ2 = 3 ∧ s2 = 22
    · have hτ2 := d8 hs
      obtain ⟨hs1, hs2⟩ := hs
      subst hs1
      subst hs2
      subst hτ2
      have hy2 : y2 = (nI 22).toInt64 := hN3 rfl
      subst hy2
      rw [r126_3]
      by_cases hp1 : pt + 1 < 40
      · by_cases h8 : nOp l < 8
        · rw [r262_o n (pt + 1) (nI 3) hp1 (by omega) (by omega) h8, r397 n _ (by omega) (by omega), show stT 30 = 0 from rfl]
          have hO := op_1 n 24 os (B := BC) (cs := cs) (tp := l.length) (os := os) (ap := p2) (kd := 3) (fr := q2) (pt := pt + 1) (nm := (nI 22).toInt64) (C := C) (S := S) (SA := SA) (F := F) (T := T) (A := A) (by omega) (by omega) (sgL l) fS.1 hp1 (by rw [fS.2.1]; exact h8)
          have tw := tw_24o n Tp p2 q2 (by omega) (by omega) (sgL l) fS.1 hw hM hp hN (by omega) (by omega) hO
          obtain ⟨p3, κ3, q3, x3, e⟩ := nx_e hT e4 cs (l.length + 1) (os + 1) 3 q2 0 (pt + 1 + 1) (nI 22).toInt64 C (upd S l.length (nI 24)) (upd SA l.length (nI os)) (upd F os (nI cs)) T A
          rw [lpt_1 n Tp (m + 1) k (by omega) ((to_w2 n Tp tw).trans (t169 n Tp 1 (by omega) e))]
          have f := ihA p2 k (m + 1) m3 (pt + 2) (os + 1) cs (ts + 2) σ 30 q2 3 q2 (24 :: l) (nI 22).toInt64 w2 C (upd S l.length (nI 24)) (upd SA l.length (nI os)) (upd F os (nI cs)) T (upd (upd K ts (nI 9)) (ts + 1) (nI 30)) (upd (upd P ts (-nI 1)) (ts + 1) (-nI 1)) (upd OA (nOp l) (nI (ts + 1))) A (vp_updL (vp_updL N ts w) (ts + 1) w2) (fun i => if i = os then ts else pos i) _ (by omega) (by omega) (by omega) (by omega) (by omega) (iA_24 hI (by omega) h8 hob (by omega) e4) e
          rw [nOp_o (by omega)] at f
          exact f
        · have h88 : nOp l = 8 := by have := hI.2.1; omega
          have hO := op_4 n 24 os (B := BC) (cs := cs) (tp := l.length) (os := os) (ap := p2) (kd := 3) (fr := q2) (pt := pt + 1) (nm := (nI 22).toInt64) (C := C) (S := S) (SA := SA) (F := F) (T := T) (A := A) (by omega) (by omega) (sgL l) fS.1 (by omega) hp1 (by rw [fS.2.1]; exact h8)
          rw [h88, r262_4 n (pt + 1) (nI 3) (by omega) hp1 (by omega) (by omega)]
          exact wA_f hT m k 1 (to_w2 n Tp (tw_244 n Tp p2 q2 (pt + 1 + 1) (4 + 8 * q2) (by omega) (by omega) (sgL l) fS.1 hw hM hp hN hO (by omega) (by omega))) (by omega) e4 (by omega) (by omega) (by omega) rfl
      · have hp39 : pt = 39 := by omega
        subst hp39
        have hO := op_3 n 24 os (B := BC) (cs := cs) (tp := l.length) (os := os) (ap := p2) (kd := 3) (fr := q2) (nm := (nI 22).toInt64) (C := C) (S := S) (SA := SA) (F := F) (T := T) (A := A) (by omega) (by omega) (sgL l) fS.1 (by omega)
        rw [show nI (39 + 1) = nI 40 from rfl, r262_3 n (nI 3) (nI 1) (by omega) (by omega) (by omega)]
        exact wA_f hT m k 1 (to_w2 n Tp (tw_244 n Tp p2 q2 41 (3 + 8 * q2) (by omega) (by omega) (sgL l) fS.1 hw hM hp hN hO (by omega) (by omega))) (by omega) e4 (by omega) (by omega) (by omega) rfl
    · obtain ⟨x5, r⟩ := r126_3n n (nI (pt + 1)) (G := df_X15_read_24 n m3) (B := BR) (ap := p2) (tk := τ2) (st := q2) (ts := ts + 1) (op := nOp l) (ft := 0) (tv := w2) (K := upd K ts (nI 9)) (P := (upd P ts (-nI 1))) (OA := OA) (N := (vp_updL N ts w)) (X := X) (fun y => hs (d3 y)) d1
      rw [r, r262_0 n (nI 3) (nI (pt + 1)) (nI 0) x5 (by omega)]
      have tw := tw_241 n Tp p2 κ2 q2 (by omega) (by omega) (sgL l) fS.1 hw hM hp hN (by
        by_cases c3 : κ2 = 3
        · exact Or.inr ⟨s2, d4 c3, hN3 c3, fun y => hs ⟨c3, y⟩⟩
        · exact Or.inl c3) (by omega) (by omega)
      exact wA_f hT m k 1 (to_w2 n Tp tw) (by omega) e4 (by omega) (by omega) (by omega) rfl
  · have hp40 : pt = 40 := by omega
    subst hp40
    rw [r262_3 n (nI 0) (nI 0) (by omega) (by omega) (by omega)]
    exact wA_f hT m k 0 (to_w2 n Tp (tw_243 n Tp (by omega) (by omega) (sgL l) fS.1 hw hM (by omega))) (by omega) pL (by omega) (by omega) (by omega) rfl
theorem sA_all {n Tp L : Nat} {z : Nat → Nat} {tpe BC BR : St} {X : St × St} {g : Nat} (hT : txt n Tp L z tpe BC BR) (ihA : wA n Tp L tpe BC BR X g) (ihB : wB n Tp L tpe BC BR X g) : wA n Tp L tpe BC BR X (g + 1) := by
  intro p k m m2 pt os cs ts σ tk st kd fr l nm tv C S SA F T K P OA A N pos u hg hk hk2 hm hm2 hI hu
  obtain ⟨T1, T2, T3, T4, T5, T6, T7, T8, T9⟩ := id hT
  have i4 := hI.2.2.2.1
  have i9 := hI.2.2.2.2.2.2.2.2
  have i2 := hI.2.1
  have i3 := hI.2.2.1
  obtain ⟨k, rfl⟩ : ∃ j : Nat, k = j + 1 := ⟨k - 1, by omega⟩
  obtain ⟨m, rfl⟩ : ∃ j : Nat, m = j + 2 := ⟨m - 2, by omega⟩
  obtain ⟨m2, rfl⟩ : ∃ j : Nat, m2 = j + 1 := ⟨m2 - 1, by omega⟩
  obtain ⟨q, p', κ, s, τ, μ, gg, v, e1, e2, e3, e4, e5, e6⟩ := tk_all n Tp L p T1 T2 T3 T4 T5 T6 T7 T8 T9 i9
  obtain ⟨x, hN, hN1, hN3⟩ := e5 cs l.length os kd fr 0 pt nm C S SA F T A
  rw [hN] at hu
  obtain rfl := Option.some.inj hu
  rcases e6 with ⟨z1, z2, z3⟩ | ⟨hqL, hqp, h32, hR2, hd⟩
  · subst z1
    subst z3
    rw [go_E n m2 p' p _ (nI 0) T3 T4 T5 T6 T9 i9 (e1.symm.trans z2), r463_e n p' 0 _ T3 (by omega) (by omega) (Or.inl (by omega))]
    have tw := to_b n Tp (tpe := tpe) (B := BC) (cs := cs) (tp := l.length) (os := os) (ap := p') (kd := 0) (fr := q) (pt := pt) (nm := x) (C := C) (S := S) (SA := SA) (F := F) (T := T) (A := A) (Or.inl rfl)
    rw [z2] at tw ⊢
    exact wA_f hT m k 0 tw (by omega) (Nat.le_refl _) (by omega) (by omega) (by omega) rfl
  obtain ⟨d1, d2, d3, d4, d5, d6, d7, d8⟩ := tk_v hd
  obtain ⟨w, hR, hR1, hR22⟩ := hR2 tk st ts (nOp l) 0 tv K P OA N X
  rw [go_0 n m2 L p q p' τ w _ (nI 0) T3 T4 T5 T6 T9 i9 e1.symm hqL h32 hR (by decide)]
  rcases hd with ⟨rfl, rfl⟩ | ⟨rfl, ht, hM⟩ | ⟨rfl, h1, h2, h3⟩ | ⟨rfl, rfl⟩
  · have hx : x = w := (hN1 rfl).trans (hR1 rfl).symm
    subst hx
    exact sA_leaf hT ihB hI hg hk hk2 hm hm2 e2 hqp e4 (fun hp => to_1 n Tp hp (by omega)) (fun hp => by subst hp; exact to_1f n Tp (by omega)) (Or.inl ⟨rfl, rfl, rfl⟩)
  · rcases ht with ⟨rfl, rfl⟩ | ⟨rfl, rfl, hgg⟩ | ⟨rfl, rfl, hgg⟩ | ⟨rfl, rfl⟩ | ⟨rfl, rfl⟩ | ⟨rfl, rfl⟩ | ⟨rfl, rfl⟩ | ⟨rfl, rfl⟩ | ⟨rfl, rfl⟩
    · exact sA_w0 hT hI hg hk hk2 hm hm2 e2 hqp e4 hM
    · exact sA_w31 hT ihB hI hg hk hk2 hm hm2 e2 hqp e4 hM (Or.inl ⟨rfl, hgg, hR22 rfl⟩)
    · exact sA_w31 hT ihB hI hg hk hk2 hm hm2 e2 hqp e4 hM (Or.inr ⟨rfl, hgg⟩)
    · exact sA_w32 hT ihB hI hg hk hk2 hm hm2 e2 hqp e4 hM
    · exact sA_w33 hT ihB hI hg hk hk2 hm hm2 e2 hqp e4 hM
    · exact sA_w27 hT ihA hI hg hk hk2 hm hm2 e2 hqp e4 hM
    · exact sA_w26 hT ihA hI hg hk hk2 hm hm2 e2 hqp e4 hM
    · exact sA_w23 hT ihA hI hg hk hk2 hm hm2 e2 hqp e4 hM
    · exact sA_w24 hT ihA hI hg hk hk2 hm hm2 e2 hqp e4 hM
  · have hx : x = (nI s).toInt64 := hN3 rfl
    subst hx
    by_cases c1 : s = 15 ∨ s = 19 ∨ s = 21 ∨ s = 22 ∨ s = 25
    · rcases c1 with rfl | rfl | rfl | rfl | rfl
      · rw [show τ = 24 from h3]
        exact sA_u15 (x := 0) hT ihA hI hg hk hk2 hm hm2 e2 hqp e4
      · rw [show τ = 28 from h3]
        exact sA_u19 (x := 0) hT ihA hI hg hk hk2 hm hm2 e2 hqp e4
      · rw [show τ = 29 from h3]
        exact sA_u21 (x := 0) hT ihA hI hg hk hk2 hm hm2 e2 hqp e4
      · rw [show τ = 30 from h3]
        exact sA_o22 (x := 0) hT ihA hI hg hk hk2 hm hm2 e2 hqp e4
      · rw [show τ = 32 from h3]
        exact sA_o25 (x := 0) hT ihA hI hg hk hk2 hm hm2 e2 hqp e4
    · have e := tS_v h1 h2
      rw [← h3] at e
      exact sA_b hT hI hg hk hk2 hm hm2 e2 hqp e4 (to_bs n Tp s c1 (by omega)) (by omega) d1
  · exact sA_b hT hI hg hk hk2 hm hm2 e2 hqp e4 (to_b n Tp (Or.inr rfl)) (by omega) (by omega)
