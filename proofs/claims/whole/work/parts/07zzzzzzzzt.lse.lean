/-- readList in the class: the whole of it -/
theorem lst_C {n L e : Nat} {c : Nat → Nat} {BC BR0 : St} (hT0 : atx n L e c BC BR0) {B : St} {sn lu ln se co : Nat} {od : Int32} {SW LW : Nat → Int32} (hsn : sn < 8194) (each : Int32) (cs tp st ns : Nat) (fx : Bool) (C A S NM BK : Nat → Int32) (bs ws : Nat → Nat) (p q p' κ τ v : Nat) (x : Int32) (hT : TS n L e c BC p q p' κ τ v x) (hH : HT L c ns NM BK bs ws) (hp0 : 0 < p) (hcs : cs ≤ p) (hns : 2 * ns ≤ p) : ∃ (ys : List (Nat × (Nat → Tp))) (f p2 : Nat) (cs' tp' st' ns' : Nat) (fx' : Bool) (C' A' S' NM' BK' : Nat → Int32) (bs' ws' : Nat → Nat) (q2 p2' κ2 τ2 v2 : Nat) (x2 : Int32), LTr n L e c BC ys p f p2 ∧ ys.length ≤ 32768 ∧ ((f = 1 ∧ df_X1_readList n each (qC B sn lu 0 ln se od co SW LW, uC (xC BC cs tp st ns fx C A S NM BK) p' κ q x) = some (qC B sn lu (nI 1) ln se od co SW LW, uC (xC BC cs' tp' st' ns' fx' C' A' S' NM' BK') p2' κ2 q2 x2)) ∨ (df_X1_readList n each (qC B sn lu 0 ln se od co SW LW, uC (xC BC cs tp st ns fx C A S NM BK) p' κ q x) = some (qC B (sn + 1) lu 0 ln se od co (rowU SW sn ln se (nI ys.length * each) 5 each (nI cs) (nI 0)) LW, uC (xC BC cs' tp' st' ns' fx' C' A' S' NM' BK') p2' κ2 q2 x2) ∧ (f = if τ2 = 0 then 0 else 1) ∧ TS n L e c BC p2 q2 p2' κ2 τ2 v2 x2 ∧ p ≤ p2 ∧ PS ns NM bs ws ns' NM' bs' ws' ∧ HT L c ns' NM' BK' bs' ws' ∧ cs' ≤ p2 + 1 ∧ 2 * ns' ≤ p2 + 1 ∧ (∀ i : Nat, i < cs → C' i = C i ∧ A' i = A i) ∧ CDS (sR BC 5) c e ns' bs' ws' C' A' cs ys cs')) := by
  obtain ⟨hn, hL, heL, h127, hend, hce, hO, hst, htC, h0, htR, hch⟩ := id hT0
  have h := lsc_C hT0 (B := B) (sn := sn) (lu := lu) (ln := ln) (se := se) (co := co) (od := od) (SW := SW) (LW := LW) hsn each (nI cs) 32768 0 n cs tp st ns fx C A S NM BK bs ws p q p' κ τ v x (by omega) (by omega) (by omega) hT hH hp0 hcs hns
  have r : df_X1_readList n each (qC B sn lu 0 ln se od co SW LW, uC (xC BC cs tp st ns fx C A S NM BK) p' κ q x) = df_X1_readList_20 n n each (nI cs) (nI 0) (nI (32768 - 0)) (qC B sn lu 0 ln se od co SW LW, uC (xC BC cs tp st ns fx C A S NM BK) p' κ q x) := by
    unfold df_X1_readList df_X1_readList_0
    show nd_let (sI (uC (xC BC cs tp st ns fx C A S NM BK) p' κ q x) 5) _ = _
    rw [xC_u5, nb_let]
    show nd_o (sO (uC (xC BC cs tp st ns fx C A S NM BK) p' κ q x) 0) 8 _ = _
    rw [uC_o, xC_o0, o8S hO]
    rfl
  rw [r]
  simp only [Nat.zero_add] at h
  exact h
