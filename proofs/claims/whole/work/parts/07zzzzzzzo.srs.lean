/-- the reference while a statement is read: what a statement changes, and the rest left open -/
def yR (B : St) (ct : Nat) (gr : Bool) (PA BY OU : Nat → Int32) : St := (fun j => if j = 18 then nI ct else if j = 20 then bI gr else B.1 j, B.2.1, fun j => if j = 3 then PA else if j = 5 then BY else if j = 9 then OU else B.2.2.1 j, B.2.2.2)
def SR (B : St) (ct : Nat) (gr : Bool) (PA BY OU : Nat → Int32) (ft : Int32) (ap : Nat) (S : St) : Prop := ∃ (ms dv ls : Bool) (sg vl : Nat) (PL : Nat → Int32) (tk fr to : Nat) (nm : Int32), S = uR (xR (yR B ct gr PA BY OU) ft ms dv ls sg vl PL) ap tk fr to nm
/-- a state with a fault -/
def FL (e : Nat) (B : St) (ft : Int32) (S : St) : Prop := ∃ (ct : Nat) (gr : Bool) (PA BY OU : Nat → Int32) (ap : Nat), ap ≤ e ∧ SR B ct gr PA BY OU ft ap S
def FN (c : Nat → Nat) (e : Nat) (B : St) (ft : Int32) (S : St) : Prop := ∃ (ct : Nat) (gr : Bool) (PA BY OU : Nat → Int32) (ap : Nat), ap ≤ e ∧ (∀ i : Nat, ap ≤ i → i < e → ¬ c i = 10) ∧ SR B ct gr PA BY OU ft ap S
theorem FN_L {c : Nat → Nat} {e : Nat} {B : St} {ft : Int32} {S : St} (h : FN c e B ft S) : FL e B ft S := by
  obtain ⟨ct, gr, PA, BY, OU, ap, h1, h2, h⟩ := h
  exact ⟨ct, gr, PA, BY, OU, ap, h1, h⟩
theorem yR_u0 {B : St} {ct : Nat} {gr : Bool} {PA BY OU : Nat → Int32} {ft : Int32} {ms dv ls : Bool} {sg vl : Nat} {PL : Nat → Int32} {ap tk fr to : Nat} {nm : Int32} : sI (uR (xR (yR B ct gr PA BY OU) ft ms dv ls sg vl PL) ap tk fr to nm) 0 = sI B 0 := rfl
theorem yR_u1 {B : St} {ct : Nat} {gr : Bool} {PA BY OU : Nat → Int32} {ft : Int32} {ms dv ls : Bool} {sg vl : Nat} {PL : Nat → Int32} {ap tk fr to : Nat} {nm : Int32} : sI (uR (xR (yR B ct gr PA BY OU) ft ms dv ls sg vl PL) ap tk fr to nm) 1 = sI B 1 := rfl
theorem yR_u2 {B : St} {ct : Nat} {gr : Bool} {PA BY OU : Nat → Int32} {ft : Int32} {ms dv ls : Bool} {sg vl : Nat} {PL : Nat → Int32} {ap tk fr to : Nat} {nm : Int32} : sI (uR (xR (yR B ct gr PA BY OU) ft ms dv ls sg vl PL) ap tk fr to nm) 2 = sI B 2 := rfl
theorem yR_u3 {B : St} {ct : Nat} {gr : Bool} {PA BY OU : Nat → Int32} {ft : Int32} {ms dv ls : Bool} {sg vl : Nat} {PL : Nat → Int32} {ap tk fr to : Nat} {nm : Int32} : sI (uR (xR (yR B ct gr PA BY OU) ft ms dv ls sg vl PL) ap tk fr to nm) 3 = sI B 3 := rfl
theorem yR_u4 {B : St} {ct : Nat} {gr : Bool} {PA BY OU : Nat → Int32} {ft : Int32} {ms dv ls : Bool} {sg vl : Nat} {PL : Nat → Int32} {ap tk fr to : Nat} {nm : Int32} : sI (uR (xR (yR B ct gr PA BY OU) ft ms dv ls sg vl PL) ap tk fr to nm) 4 = sI B 4 := rfl
theorem yR_u5 {B : St} {ct : Nat} {gr : Bool} {PA BY OU : Nat → Int32} {ft : Int32} {ms dv ls : Bool} {sg vl : Nat} {PL : Nat → Int32} {ap tk fr to : Nat} {nm : Int32} : sI (uR (xR (yR B ct gr PA BY OU) ft ms dv ls sg vl PL) ap tk fr to nm) 5 = sI B 5 := rfl
theorem yR_u6 {B : St} {ct : Nat} {gr : Bool} {PA BY OU : Nat → Int32} {ft : Int32} {ms dv ls : Bool} {sg vl : Nat} {PL : Nat → Int32} {ap tk fr to : Nat} {nm : Int32} : sI (uR (xR (yR B ct gr PA BY OU) ft ms dv ls sg vl PL) ap tk fr to nm) 6 = sI B 6 := rfl
theorem yR_u13 {B : St} {ct : Nat} {gr : Bool} {PA BY OU : Nat → Int32} {ft : Int32} {ms dv ls : Bool} {sg vl : Nat} {PL : Nat → Int32} {ap tk fr to : Nat} {nm : Int32} : sI (uR (xR (yR B ct gr PA BY OU) ft ms dv ls sg vl PL) ap tk fr to nm) 13 = sI B 13 := rfl
theorem yR_u14 {B : St} {ct : Nat} {gr : Bool} {PA BY OU : Nat → Int32} {ft : Int32} {ms dv ls : Bool} {sg vl : Nat} {PL : Nat → Int32} {ap tk fr to : Nat} {nm : Int32} : sI (uR (xR (yR B ct gr PA BY OU) ft ms dv ls sg vl PL) ap tk fr to nm) 14 = sI B 14 := rfl
theorem yR_u15 {B : St} {ct : Nat} {gr : Bool} {PA BY OU : Nat → Int32} {ft : Int32} {ms dv ls : Bool} {sg vl : Nat} {PL : Nat → Int32} {ap tk fr to : Nat} {nm : Int32} : sI (uR (xR (yR B ct gr PA BY OU) ft ms dv ls sg vl PL) ap tk fr to nm) 15 = sI B 15 := rfl
theorem yR_u16 {B : St} {ct : Nat} {gr : Bool} {PA BY OU : Nat → Int32} {ft : Int32} {ms dv ls : Bool} {sg vl : Nat} {PL : Nat → Int32} {ap tk fr to : Nat} {nm : Int32} : sI (uR (xR (yR B ct gr PA BY OU) ft ms dv ls sg vl PL) ap tk fr to nm) 16 = sI B 16 := rfl
theorem yR_u17 {B : St} {ct : Nat} {gr : Bool} {PA BY OU : Nat → Int32} {ft : Int32} {ms dv ls : Bool} {sg vl : Nat} {PL : Nat → Int32} {ap tk fr to : Nat} {nm : Int32} : sI (uR (xR (yR B ct gr PA BY OU) ft ms dv ls sg vl PL) ap tk fr to nm) 17 = sI B 17 := rfl
theorem yR_u19 {B : St} {ct : Nat} {gr : Bool} {PA BY OU : Nat → Int32} {ft : Int32} {ms dv ls : Bool} {sg vl : Nat} {PL : Nat → Int32} {ap tk fr to : Nat} {nm : Int32} : sI (uR (xR (yR B ct gr PA BY OU) ft ms dv ls sg vl PL) ap tk fr to nm) 19 = sI B 19 := rfl
theorem yR_u18 {B : St} {ct : Nat} {gr : Bool} {PA BY OU : Nat → Int32} {ft : Int32} {ms dv ls : Bool} {sg vl : Nat} {PL : Nat → Int32} {ap tk fr to : Nat} {nm : Int32} : sI (uR (xR (yR B ct gr PA BY OU) ft ms dv ls sg vl PL) ap tk fr to nm) 18 = nI ct := rfl
theorem yR_u20 {B : St} {ct : Nat} {gr : Bool} {PA BY OU : Nat → Int32} {ft : Int32} {ms dv ls : Bool} {sg vl : Nat} {PL : Nat → Int32} {ap tk fr to : Nat} {nm : Int32} : sI (uR (xR (yR B ct gr PA BY OU) ft ms dv ls sg vl PL) ap tk fr to nm) 20 = bI gr := rfl
theorem yR_r0 {B : St} {ct : Nat} {gr : Bool} {PA BY OU : Nat → Int32} {ft : Int32} {ms dv ls : Bool} {sg vl : Nat} {PL : Nat → Int32} {ap tk fr to : Nat} {nm : Int32} : sR (uR (xR (yR B ct gr PA BY OU) ft ms dv ls sg vl PL) ap tk fr to nm) 0 = sR B 0 := rfl
theorem yR_r1 {B : St} {ct : Nat} {gr : Bool} {PA BY OU : Nat → Int32} {ft : Int32} {ms dv ls : Bool} {sg vl : Nat} {PL : Nat → Int32} {ap tk fr to : Nat} {nm : Int32} : sR (uR (xR (yR B ct gr PA BY OU) ft ms dv ls sg vl PL) ap tk fr to nm) 1 = sR B 1 := rfl
theorem yR_r2 {B : St} {ct : Nat} {gr : Bool} {PA BY OU : Nat → Int32} {ft : Int32} {ms dv ls : Bool} {sg vl : Nat} {PL : Nat → Int32} {ap tk fr to : Nat} {nm : Int32} : sR (uR (xR (yR B ct gr PA BY OU) ft ms dv ls sg vl PL) ap tk fr to nm) 2 = sR B 2 := rfl
theorem yR_r4 {B : St} {ct : Nat} {gr : Bool} {PA BY OU : Nat → Int32} {ft : Int32} {ms dv ls : Bool} {sg vl : Nat} {PL : Nat → Int32} {ap tk fr to : Nat} {nm : Int32} : sR (uR (xR (yR B ct gr PA BY OU) ft ms dv ls sg vl PL) ap tk fr to nm) 4 = sR B 4 := rfl
theorem yR_r6 {B : St} {ct : Nat} {gr : Bool} {PA BY OU : Nat → Int32} {ft : Int32} {ms dv ls : Bool} {sg vl : Nat} {PL : Nat → Int32} {ap tk fr to : Nat} {nm : Int32} : sR (uR (xR (yR B ct gr PA BY OU) ft ms dv ls sg vl PL) ap tk fr to nm) 6 = sR B 6 := rfl
theorem yR_r7 {B : St} {ct : Nat} {gr : Bool} {PA BY OU : Nat → Int32} {ft : Int32} {ms dv ls : Bool} {sg vl : Nat} {PL : Nat → Int32} {ap tk fr to : Nat} {nm : Int32} : sR (uR (xR (yR B ct gr PA BY OU) ft ms dv ls sg vl PL) ap tk fr to nm) 7 = sR B 7 := rfl
theorem yR_r3 {B : St} {ct : Nat} {gr : Bool} {PA BY OU : Nat → Int32} {ft : Int32} {ms dv ls : Bool} {sg vl : Nat} {PL : Nat → Int32} {ap tk fr to : Nat} {nm : Int32} : sR (uR (xR (yR B ct gr PA BY OU) ft ms dv ls sg vl PL) ap tk fr to nm) 3 = PA := rfl
theorem yR_r5 {B : St} {ct : Nat} {gr : Bool} {PA BY OU : Nat → Int32} {ft : Int32} {ms dv ls : Bool} {sg vl : Nat} {PL : Nat → Int32} {ap tk fr to : Nat} {nm : Int32} : sR (uR (xR (yR B ct gr PA BY OU) ft ms dv ls sg vl PL) ap tk fr to nm) 5 = BY := rfl
theorem yR_r9 {B : St} {ct : Nat} {gr : Bool} {PA BY OU : Nat → Int32} {ft : Int32} {ms dv ls : Bool} {sg vl : Nat} {PL : Nat → Int32} {ap tk fr to : Nat} {nm : Int32} : sR (uR (xR (yR B ct gr PA BY OU) ft ms dv ls sg vl PL) ap tk fr to nm) 9 = OU := rfl
theorem yR_o {B : St} {ct : Nat} {gr : Bool} {PA BY OU : Nat → Int32} {ft : Int32} {ms dv ls : Bool} {sg vl : Nat} {PL : Nat → Int32} {ap tk fr to : Nat} {nm : Int32} {j : Nat} : sO (uR (xR (yR B ct gr PA BY OU) ft ms dv ls sg vl PL) ap tk fr to nm) j = sO B j := rfl
theorem yR_w18 {B : St} {ct : Nat} {gr : Bool} {PA BY OU : Nat → Int32} {ft : Int32} {ms dv ls : Bool} {sg vl : Nat} {PL : Nat → Int32} {ap tk fr to : Nat} {nm : Int32} {v : Nat} : pI (uR (xR (yR B ct gr PA BY OU) ft ms dv ls sg vl PL) ap tk fr to nm) 18 (nI v) = uR (xR (yR B v gr PA BY OU) ft ms dv ls sg vl PL) ap tk fr to nm := Prod.ext (funext fun j => by
  show (if j = 18 then nI v else _) = _
  by_cases h : j = 18
  · subst h; rfl
  · unfold uR xR yR
    simp only [if_neg h]) rfl
theorem yR_w20 {B : St} {ct : Nat} {gr : Bool} {PA BY OU : Nat → Int32} {ft : Int32} {ms dv ls : Bool} {sg vl : Nat} {PL : Nat → Int32} {ap tk fr to : Nat} {nm : Int32} {v : Bool} : pI (uR (xR (yR B ct gr PA BY OU) ft ms dv ls sg vl PL) ap tk fr to nm) 20 (bI v) = uR (xR (yR B ct v PA BY OU) ft ms dv ls sg vl PL) ap tk fr to nm := Prod.ext (funext fun j => by
  show (if j = 20 then bI v else _) = _
  by_cases h : j = 20
  · subst h; rfl
  · unfold uR xR yR
    simp only [if_neg h]) rfl
theorem yR_y3 {B : St} {ct : Nat} {gr : Bool} {PA BY OU : Nat → Int32} {ft : Int32} {ms dv ls : Bool} {sg vl : Nat} {PL : Nat → Int32} {ap tk fr to : Nat} {nm : Int32} {v : Nat → Int32} : pR (uR (xR (yR B ct gr PA BY OU) ft ms dv ls sg vl PL) ap tk fr to nm) 3 v = uR (xR (yR B ct gr v BY OU) ft ms dv ls sg vl PL) ap tk fr to nm := Prod.ext rfl (Prod.ext rfl (Prod.ext (funext fun j => by
  show (if j = 3 then v else _) = _
  by_cases h : j = 3
  · subst h; rfl
  · unfold uR xR yR
    simp only [if_neg h]) rfl))
theorem yR_y5 {B : St} {ct : Nat} {gr : Bool} {PA BY OU : Nat → Int32} {ft : Int32} {ms dv ls : Bool} {sg vl : Nat} {PL : Nat → Int32} {ap tk fr to : Nat} {nm : Int32} {v : Nat → Int32} : pR (uR (xR (yR B ct gr PA BY OU) ft ms dv ls sg vl PL) ap tk fr to nm) 5 v = uR (xR (yR B ct gr PA v OU) ft ms dv ls sg vl PL) ap tk fr to nm := Prod.ext rfl (Prod.ext rfl (Prod.ext (funext fun j => by
  show (if j = 5 then v else _) = _
  by_cases h : j = 5
  · subst h; rfl
  · unfold uR xR yR
    simp only [if_neg h]) rfl))
theorem yR_y9 {B : St} {ct : Nat} {gr : Bool} {PA BY OU : Nat → Int32} {ft : Int32} {ms dv ls : Bool} {sg vl : Nat} {PL : Nat → Int32} {ap tk fr to : Nat} {nm : Int32} {v : Nat → Int32} : pR (uR (xR (yR B ct gr PA BY OU) ft ms dv ls sg vl PL) ap tk fr to nm) 9 v = uR (xR (yR B ct gr PA BY v) ft ms dv ls sg vl PL) ap tk fr to nm := Prod.ext rfl (Prod.ext rfl (Prod.ext (funext fun j => by
  show (if j = 9 then v else _) = _
  by_cases h : j = 9
  · subst h; rfl
  · unfold uR xR yR
    simp only [if_neg h]) rfl))
theorem SR_0 {B : St} {ct : Nat} {gr : Bool} {PA BY OU : Nat → Int32} {ft : Int32} {ap : Nat} {S : St} (h : SR B ct gr PA BY OU ft ap S) : sI S 0 = sI B 0 := by
  obtain ⟨ms, dv, ls, sg, vl, PL, tk, fr, to, nm, rfl⟩ := h
  rfl
theorem SR_1 {B : St} {ct : Nat} {gr : Bool} {PA BY OU : Nat → Int32} {ft : Int32} {ap : Nat} {S : St} (h : SR B ct gr PA BY OU ft ap S) : sI S 1 = sI B 1 := by
  obtain ⟨ms, dv, ls, sg, vl, PL, tk, fr, to, nm, rfl⟩ := h
  rfl
theorem SR_2 {B : St} {ct : Nat} {gr : Bool} {PA BY OU : Nat → Int32} {ft : Int32} {ap : Nat} {S : St} (h : SR B ct gr PA BY OU ft ap S) : sI S 2 = sI B 2 := by
  obtain ⟨ms, dv, ls, sg, vl, PL, tk, fr, to, nm, rfl⟩ := h
  rfl
theorem SR_3 {B : St} {ct : Nat} {gr : Bool} {PA BY OU : Nat → Int32} {ft : Int32} {ap : Nat} {S : St} (h : SR B ct gr PA BY OU ft ap S) : sI S 3 = sI B 3 := by
  obtain ⟨ms, dv, ls, sg, vl, PL, tk, fr, to, nm, rfl⟩ := h
  rfl
theorem SR_4 {B : St} {ct : Nat} {gr : Bool} {PA BY OU : Nat → Int32} {ft : Int32} {ap : Nat} {S : St} (h : SR B ct gr PA BY OU ft ap S) : sI S 4 = sI B 4 := by
  obtain ⟨ms, dv, ls, sg, vl, PL, tk, fr, to, nm, rfl⟩ := h
  rfl
theorem SR_5 {B : St} {ct : Nat} {gr : Bool} {PA BY OU : Nat → Int32} {ft : Int32} {ap : Nat} {S : St} (h : SR B ct gr PA BY OU ft ap S) : sI S 5 = sI B 5 := by
  obtain ⟨ms, dv, ls, sg, vl, PL, tk, fr, to, nm, rfl⟩ := h
  rfl
theorem SR_13 {B : St} {ct : Nat} {gr : Bool} {PA BY OU : Nat → Int32} {ft : Int32} {ap : Nat} {S : St} (h : SR B ct gr PA BY OU ft ap S) : sI S 13 = sI B 13 := by
  obtain ⟨ms, dv, ls, sg, vl, PL, tk, fr, to, nm, rfl⟩ := h
  rfl
theorem SR_14 {B : St} {ct : Nat} {gr : Bool} {PA BY OU : Nat → Int32} {ft : Int32} {ap : Nat} {S : St} (h : SR B ct gr PA BY OU ft ap S) : sI S 14 = sI B 14 := by
  obtain ⟨ms, dv, ls, sg, vl, PL, tk, fr, to, nm, rfl⟩ := h
  rfl
theorem SR_15 {B : St} {ct : Nat} {gr : Bool} {PA BY OU : Nat → Int32} {ft : Int32} {ap : Nat} {S : St} (h : SR B ct gr PA BY OU ft ap S) : sI S 15 = sI B 15 := by
  obtain ⟨ms, dv, ls, sg, vl, PL, tk, fr, to, nm, rfl⟩ := h
  rfl
theorem SR_16 {B : St} {ct : Nat} {gr : Bool} {PA BY OU : Nat → Int32} {ft : Int32} {ap : Nat} {S : St} (h : SR B ct gr PA BY OU ft ap S) : sI S 16 = sI B 16 := by
  obtain ⟨ms, dv, ls, sg, vl, PL, tk, fr, to, nm, rfl⟩ := h
  rfl
theorem SR_17 {B : St} {ct : Nat} {gr : Bool} {PA BY OU : Nat → Int32} {ft : Int32} {ap : Nat} {S : St} (h : SR B ct gr PA BY OU ft ap S) : sI S 17 = sI B 17 := by
  obtain ⟨ms, dv, ls, sg, vl, PL, tk, fr, to, nm, rfl⟩ := h
  rfl
theorem SR_19 {B : St} {ct : Nat} {gr : Bool} {PA BY OU : Nat → Int32} {ft : Int32} {ap : Nat} {S : St} (h : SR B ct gr PA BY OU ft ap S) : sI S 19 = sI B 19 := by
  obtain ⟨ms, dv, ls, sg, vl, PL, tk, fr, to, nm, rfl⟩ := h
  rfl
theorem SR_7 {B : St} {ct : Nat} {gr : Bool} {PA BY OU : Nat → Int32} {ft : Int32} {ap : Nat} {S : St} (h : SR B ct gr PA BY OU ft ap S) : sI S 7 = nI ap := by
  obtain ⟨ms, dv, ls, sg, vl, PL, tk, fr, to, nm, rfl⟩ := h
  rfl
theorem SR_12 {B : St} {ct : Nat} {gr : Bool} {PA BY OU : Nat → Int32} {ft : Int32} {ap : Nat} {S : St} (h : SR B ct gr PA BY OU ft ap S) : sI S 12 = ft := by
  obtain ⟨ms, dv, ls, sg, vl, PL, tk, fr, to, nm, rfl⟩ := h
  rfl
theorem SR_18 {B : St} {ct : Nat} {gr : Bool} {PA BY OU : Nat → Int32} {ft : Int32} {ap : Nat} {S : St} (h : SR B ct gr PA BY OU ft ap S) : sI S 18 = nI ct := by
  obtain ⟨ms, dv, ls, sg, vl, PL, tk, fr, to, nm, rfl⟩ := h
  rfl
theorem SR_20 {B : St} {ct : Nat} {gr : Bool} {PA BY OU : Nat → Int32} {ft : Int32} {ap : Nat} {S : St} (h : SR B ct gr PA BY OU ft ap S) : sI S 20 = bI gr := by
  obtain ⟨ms, dv, ls, sg, vl, PL, tk, fr, to, nm, rfl⟩ := h
  rfl
theorem SR_r0 {B : St} {ct : Nat} {gr : Bool} {PA BY OU : Nat → Int32} {ft : Int32} {ap : Nat} {S : St} (h : SR B ct gr PA BY OU ft ap S) : sR S 0 = sR B 0 := by
  obtain ⟨ms, dv, ls, sg, vl, PL, tk, fr, to, nm, rfl⟩ := h
  rfl
theorem SR_r1 {B : St} {ct : Nat} {gr : Bool} {PA BY OU : Nat → Int32} {ft : Int32} {ap : Nat} {S : St} (h : SR B ct gr PA BY OU ft ap S) : sR S 1 = sR B 1 := by
  obtain ⟨ms, dv, ls, sg, vl, PL, tk, fr, to, nm, rfl⟩ := h
  rfl
theorem SR_r2 {B : St} {ct : Nat} {gr : Bool} {PA BY OU : Nat → Int32} {ft : Int32} {ap : Nat} {S : St} (h : SR B ct gr PA BY OU ft ap S) : sR S 2 = sR B 2 := by
  obtain ⟨ms, dv, ls, sg, vl, PL, tk, fr, to, nm, rfl⟩ := h
  rfl
theorem SR_r3 {B : St} {ct : Nat} {gr : Bool} {PA BY OU : Nat → Int32} {ft : Int32} {ap : Nat} {S : St} (h : SR B ct gr PA BY OU ft ap S) : sR S 3 = PA := by
  obtain ⟨ms, dv, ls, sg, vl, PL, tk, fr, to, nm, rfl⟩ := h
  rfl
theorem SR_r4 {B : St} {ct : Nat} {gr : Bool} {PA BY OU : Nat → Int32} {ft : Int32} {ap : Nat} {S : St} (h : SR B ct gr PA BY OU ft ap S) : sR S 4 = sR B 4 := by
  obtain ⟨ms, dv, ls, sg, vl, PL, tk, fr, to, nm, rfl⟩ := h
  rfl
theorem SR_r5 {B : St} {ct : Nat} {gr : Bool} {PA BY OU : Nat → Int32} {ft : Int32} {ap : Nat} {S : St} (h : SR B ct gr PA BY OU ft ap S) : sR S 5 = BY := by
  obtain ⟨ms, dv, ls, sg, vl, PL, tk, fr, to, nm, rfl⟩ := h
  rfl
theorem SR_r6 {B : St} {ct : Nat} {gr : Bool} {PA BY OU : Nat → Int32} {ft : Int32} {ap : Nat} {S : St} (h : SR B ct gr PA BY OU ft ap S) : sR S 6 = sR B 6 := by
  obtain ⟨ms, dv, ls, sg, vl, PL, tk, fr, to, nm, rfl⟩ := h
  rfl
theorem SR_r7 {B : St} {ct : Nat} {gr : Bool} {PA BY OU : Nat → Int32} {ft : Int32} {ap : Nat} {S : St} (h : SR B ct gr PA BY OU ft ap S) : sR S 7 = sR B 7 := by
  obtain ⟨ms, dv, ls, sg, vl, PL, tk, fr, to, nm, rfl⟩ := h
  rfl
theorem SR_r9 {B : St} {ct : Nat} {gr : Bool} {PA BY OU : Nat → Int32} {ft : Int32} {ap : Nat} {S : St} (h : SR B ct gr PA BY OU ft ap S) : sR S 9 = OU := by
  obtain ⟨ms, dv, ls, sg, vl, PL, tk, fr, to, nm, rfl⟩ := h
  rfl
theorem FL_f {e : Nat} {B : St} {ft : Int32} {S : St} (h : FL e B ft S) : sI S 12 = ft ∧ sI S 15 = sI B 15 ∧ sI S 13 = sI B 13 ∧ sI S 17 = sI B 17 ∧ sI S 16 = sI B 16 := by
  obtain ⟨ct, gr, PA, BY, OU, ap, h1, h⟩ := h
  exact ⟨SR_12 h, SR_15 h, SR_13 h, SR_17 h, SR_16 h⟩
/-- bytes that are put -/
def wrL : (Nat → Int32) → Nat → List Int32 → (Nat → Int32)
  | OU, _, [] => OU
  | OU, k, b :: bs => wrL (upd OU k (b &&& 255)) (k + 1) bs
def pt (B : St) (ct : Nat) (OU : Nat → Int32) (bs : List Int32) : Nat → Int32 := if sI B 15 = 3 then wrL OU ((sI B 19).toNatClampNeg + ct) bs else OU
theorem wrL_a : ∀ (as bs : List Int32) (OU : Nat → Int32) (k : Nat), wrL OU k (as ++ bs) = wrL (wrL OU k as) (k + as.length) bs := fun as => by
  induction as with
  | nil => intro bs OU k; rfl
  | cons x xs ih =>
    intro bs OU k
    show wrL (upd OU k (x &&& 255)) (k + 1) (xs ++ bs) = wrL (wrL (upd OU k (x &&& 255)) (k + 1) xs) (k + (xs.length + 1)) bs
    rw [ih, show k + 1 + xs.length = k + (xs.length + 1) by omega]
theorem pt_a {B : St} {ct : Nat} {OU : Nat → Int32} (as bs : List Int32) : pt B (ct + as.length) (pt B ct OU as) bs = pt B ct OU (as ++ bs) := by
  unfold pt
  by_cases y : sI B 15 = 3
  · rw [if_pos y, if_pos y, if_pos y, wrL_a, Nat.add_assoc]
  · rw [if_neg y, if_neg y, if_neg y]
def OKW (B : St) (m : Nat) : Prop := sI B 15 = 3 → sO B 0 = some 11 ∧ ∃ bg : Nat, sI B 19 = nI bg ∧ bg + m ≤ 131072
theorem OKW_m {B : St} {m k : Nat} (h : OKW B m) (hk : k ≤ m) : OKW B k := fun z => by
  obtain ⟨h1, bg, h2, h3⟩ := h z
  exact ⟨h1, bg, h2, by omega⟩
theorem o11 {α : Type} {x : Option α} : nd_o (some 11) 11 x = x := if_pos rfl
def by2 (w : Int32) : List Int32 := [w, w >>> ((8 : Int32) &&& 31)]
def by4 (w : Int32) : List Int32 := by2 w ++ by2 (w >>> ((16 : Int32) &&& 31))
theorem put_S {n : Nat} {B : St} {ct : Nat} {gr : Bool} {PA BY OU : Nat → Int32} {ft : Int32} {ap : Nat} {S : St} (h : SR B ct gr PA BY OU ft ap S) (hw : OKW B (ct + 1)) (v : Int32) : ∃ S' : St, df_X13_put n v S = some S' ∧ SR B (ct + 1) gr PA BY (pt B ct OU [v]) ft ap S' := by
  obtain ⟨ms, dv, ls, sg, vl, PL, tk, fr, to, nm, rfl⟩ := h
  unfold df_X13_put df_X13_put_0 df_X13_put_27
  rw [yR_u15]
  by_cases y : sI B 15 = 3
  · obtain ⟨o1, bg, o2, o3⟩ := hw y
    rw [if_pos y, yR_o, o1, o11, yR_u19, yR_u18, o2, nI_add, nm_ck (by omega) (by omega), nI_clamp (by omega), yR_r9, yR_y9, nb_let, yR_u18, show nI ct + (1 : Int32) = nI (ct + 1) from nI_add ct 1, yR_w18, nb_let]
    refine ⟨_, rfl, ms, dv, ls, sg, vl, PL, tk, fr, to, nm, ?_⟩
    rw [show pt B ct OU [v] = upd OU (bg + ct) (v &&& 255) by
      unfold pt
      rw [if_pos y, o2, nI_clamp (by omega)]
      rfl]
  · rw [if_neg y, yR_u18, show nI ct + (1 : Int32) = nI (ct + 1) from nI_add ct 1, yR_w18, nb_let]
    refine ⟨_, rfl, ms, dv, ls, sg, vl, PL, tk, fr, to, nm, ?_⟩
    rw [show pt B ct OU [v] = OU from if_neg y]
theorem hal_S {n : Nat} {B : St} {ct : Nat} {gr : Bool} {PA BY OU : Nat → Int32} {ft : Int32} {ap : Nat} {S : St} (h : SR B ct gr PA BY OU ft ap S) (hw : OKW B (ct + 2)) (v : Int32) : ∃ S' : St, df_X13_half n v S = some S' ∧ SR B (ct + 2) gr PA BY (pt B ct OU (by2 v)) ft ap S' := by
  obtain ⟨S1, e1, h1⟩ := put_S (n := n) h (OKW_m hw (by omega)) v
  obtain ⟨S2, e2, h2⟩ := put_S (n := n) h1 hw (v >>> ((8 : Int32) &&& 31))
  refine ⟨S2, ?_, ?_⟩
  · unfold df_X13_half df_X13_half_0
    rw [e1, nb_b1, e2, nb_b1]
  · rw [show pt B (ct + 1) (pt B ct OU [v]) [v >>> ((8 : Int32) &&& 31)] = pt B ct OU (by2 v) from pt_a [v] _] at h2
    exact h2
theorem wor_S {n : Nat} {B : St} {ct : Nat} {gr : Bool} {PA BY OU : Nat → Int32} {ft : Int32} {ap : Nat} {S : St} (h : SR B ct gr PA BY OU ft ap S) (hw : OKW B (ct + 4)) (v : Int32) : ∃ S' : St, df_X13_word n v S = some S' ∧ SR B (ct + 4) gr PA BY (pt B ct OU (by4 v)) ft ap S' := by
  obtain ⟨S1, e1, h1⟩ := hal_S (n := n) h (OKW_m hw (by omega)) v
  obtain ⟨S2, e2, h2⟩ := hal_S (n := n) h1 hw (v >>> ((16 : Int32) &&& 31))
  refine ⟨S2, ?_, ?_⟩
  · unfold df_X13_word df_X13_word_0
    rw [e1, nb_b1, e2, nb_b1]
  · rw [show pt B (ct + 2) (pt B ct OU (by2 v)) (by2 (v >>> ((16 : Int32) &&& 31))) = pt B ct OU (by4 v) from pt_a (by2 v) _] at h2
    exact h2
/-- with a fault -/
theorem put_F {n : Nat} {e : Nat} {B : St} {ft : Int32} {S : St} (h : FL e B ft S) (h3 : ¬ sI B 15 = 3) (v : Int32) : ∃ S' : St, df_X13_put n v S = some S' ∧ FL e B ft S' := by
  obtain ⟨ct, gr, PA, BY, OU, ap, h1, h⟩ := h
  obtain ⟨S', e1, h'⟩ := put_S (n := n) h (fun z => absurd z h3) v
  exact ⟨S', e1, _, _, _, _, _, _, h1, h'⟩
theorem hal_F {n : Nat} {e : Nat} {B : St} {ft : Int32} {S : St} (h : FL e B ft S) (h3 : ¬ sI B 15 = 3) (v : Int32) : ∃ S' : St, df_X13_half n v S = some S' ∧ FL e B ft S' := by
  obtain ⟨ct, gr, PA, BY, OU, ap, h1, h⟩ := h
  obtain ⟨S', e1, h'⟩ := hal_S (n := n) h (fun z => absurd z h3) v
  exact ⟨S', e1, _, _, _, _, _, _, h1, h'⟩
theorem wor_F {n : Nat} {e : Nat} {B : St} {ft : Int32} {S : St} (h : FL e B ft S) (h3 : ¬ sI B 15 = 3) (v : Int32) : ∃ S' : St, df_X13_word n v S = some S' ∧ FL e B ft S' := by
  obtain ⟨ct, gr, PA, BY, OU, ap, h1, h⟩ := h
  obtain ⟨S', e1, h'⟩ := wor_S (n := n) h (fun z => absurd z h3) v
  exact ⟨S', e1, _, _, _, _, _, _, h1, h'⟩
theorem blm_F {n : Nat} {e : Nat} {B : St} {ft : Int32} {S : St} (h : FL e B ft S) (hf : ¬ ft = 0) (v : Int32) : df_X13_blame n v S = some S := by
  unfold df_X13_blame df_X13_blame_0 df_X13_blame_20
  rw [if_neg (by rw [(FL_f h).1]; exact hf)]
theorem com_F {n : Nat} {e : Nat} {B : St} {ft : Int32} {S : St} (h : FL e B ft S) (hf : ¬ ft = 0) : df_X13_comma n S = some (0, S) := by
  unfold df_X13_comma df_X13_comma_0 df_X13_comma_20 df_X13_comma_21
  rw [if_neg (by rw [(FL_f h).1]; exact hf)]
  exact nar_z (by decide)
theorem not_F {n : Nat} {e : Nat} {B : St} {ft : Int32} {S : St} (h : FL e B ft S) (hf : ¬ ft = 0) (v w : Int32) : df_X13_not n v w S = some (v, S) := by
  unfold df_X13_not df_X13_not_0 df_X13_not_10
  rw [blm_F h hf, nb_b1]
  split <;> rfl
theorem nz_F {n : Nat} {e : Nat} {B : St} {ft : Int32} {S : St} (h : FL e B ft S) (hf : ¬ ft = 0) (v : Int32) : df_X13_notZero n v S = some S := by
  unfold df_X13_notZero df_X13_notZero_0 df_X13_notZero_18
  rw [blm_F h hf, nb_b1]
  split
  · split <;> rfl
  · rfl
theorem fit_F {n : Nat} {e : Nat} {B : St} {ft : Int32} {S : St} (h : FL e B ft S) (hf : ¬ ft = 0) (v lo hi k : Int32) (hk : ¬ k = 0) : df_X13_fits n v lo hi k S = some S := by
  unfold df_X13_fits df_X13_fits_0 df_X13_fits_25 df_X13_fits_31 nd_nz
  rw [blm_F h hf, nb_b1, decide_eq_false hk, if_neg Bool.false_ne_true]
  split
  · split
    · rfl
    · split
      · rfl
      · split <;> rfl
  · rfl
theorem blm_S {n : Nat} {B : St} {ct : Nat} {gr : Bool} {PA BY OU : Nat → Int32} {ap : Nat} {S : St} (h : SR B ct gr PA BY OU 0 ap S) (v : Int32) : ∃ S' : St, df_X13_blame n v S = some S' ∧ SR B ct gr PA BY OU (v + 16 * sI B 13) ap S' := by
  obtain ⟨ms, dv, ls, sg, vl, PL, tk, fr, to, nm, rfl⟩ := h
  refine ⟨_, rbl_1 v, ms, dv, ls, sg, vl, PL, tk, fr, to, nm, ?_⟩
  rw [if_pos rfl]
  rfl
/-- tokens -/
theorem ts_300 {n L e : Nat} {c : Nat → Nat} {BC : St} {p q p' κ τ v : Nat} {x : Int32} (T : TS n L e c BC p q p' κ τ v x) : τ < 300 := by
  obtain ⟨t1, t2, t3, t4, t5, t6, t7, t8, t9⟩ := T
  by_cases y : κ = 5
  · subst y
    have := tk_5 t7
    omega
  · have := tk_n t7 y
    omega
theorem ts_w {n L e : Nat} {c : Nat → Nat} {BC : St} {p q p' κ τ v : Nat} {x : Int32} (T : TS n L e c BC p q p' κ τ v x) (h : τ = 1) : q < e ∧ p' = eT c e q ∧ κ = 1 ∧ aP (c q) = true ∧ aD (c q) = false ∧ p' - q ≤ 31 := by
  obtain ⟨t1, t2, t3, t4, t5, t6, t7, t8, t9⟩ := T
  by_cases y : κ = 5
  · subst y
    have := tk_5 t7
    omega
  · have k1 := ((tk_n t7 y).2.1.mp h)
    unfold tkK at t7
    rcases t7 with z | z | z | z | z | z | z
    · omega
    · exact ⟨z.2.2.1, z.2.2.2.2.2.1, k1, z.2.2.2.1, z.2.2.2.2.1, z.2.2.2.2.2.2⟩
    all_goals omega
theorem ts_ex {n L e : Nat} {c : Nat → Nat} {BC BR : St} (hT : atx n L e c BC BR) (p : Nat) (hp : p ≤ e) (hl : ∀ i : Nat, p ≤ i → i < e → ¬ c i = 10) : ∃ (q p' κ τ v : Nat) (x : Int32), TS n L e c BC p q p' κ τ v x := by
  obtain ⟨q, p', κ, τ, v, x, _, h⟩ := nx_1 hT (cs := 0) (tp := 0) (st := 0) (ns := 0) (fx := true) (C := fun _ => 0) (A := fun _ => 0) (S := fun _ => 0) (NM := fun _ => 0) (BK := fun _ => 0) p 0 0 0 hp hl
  exact ⟨q, p', κ, τ, v, x, h⟩
theorem tkG_e {n L e : Nat} {c : Nat → Nat} {BC : St} {p q p' κ τ v p2 : Nat} {x : Int32} (_ : TS n L e c BC p q p' κ τ v x) (h : p2 = p' ∨ (τ = 5 ∧ p2 = q)) : tkG c τ q p2 = tkG c τ q p' := by
  rcases h with h | h
  · rw [h]
  · unfold tkG
    rw [if_pos (Or.inr h.1), if_pos (Or.inr h.1)]
/-- a token is read -/
theorem scn_S {n L e : Nat} {c : Nat → Nat} {BC B : St} (hT : atx n L e c BC B) {ct : Nat} {gr : Bool} {PA BY OU : Nat → Int32} {p : Nat} {S : St} {ft : Int32} (h : SR B ct gr PA BY OU ft p S) {q p' κ τ v : Nat} {x : Int32} (T : TS n L e c BC p q p' κ τ v x) : ∃ (S' : St) (p2 : Nat), df_X13_scan n S = some S' ∧ SR B ct gr PA BY OU ft p2 S' ∧ sI S' 8 = nI τ ∧ sI S' 9 = nI q ∧ sI S' 10 = nI p2 ∧ p ≤ p2 ∧ p2 ≤ e ∧ (¬ τ = 5 → p2 = p') := by
  obtain ⟨ms, dv, ls, sg, vl, PL, tk, fr, to, nm, rfl⟩ := h
  obtain ⟨t1, t2, t3, t4, t5, t6, t7, t8, t9⟩ := T
  obtain ⟨x2, p2, e1, e2, e3⟩ := t9 (xR (yR B ct gr PA BY OU) ft ms dv ls sg vl PL) hT tk fr to nm
  exact ⟨_, p2, e1, ⟨ms, dv, ls, sg, vl, PL, τ, q, p2, x2, rfl⟩, rfl, rfl, rfl, by omega, by omega, fun z => by omega⟩
theorem tak_S {n L e : Nat} {c : Nat → Nat} {BC B : St} (hT : atx n L e c BC B) {ct : Nat} {gr : Bool} {PA BY OU : Nat → Int32} {p : Nat} {S : St} {ft : Int32} (h : SR B ct gr PA BY OU ft p S) {q p' κ τ v : Nat} {x : Int32} (T : TS n L e c BC p q p' κ τ v x) : ∃ (S' : St) (p2 : Nat), df_X13_taken n S = some (if tkG c τ q p' < 32 then nI (tkG c τ q p') else 0, S') ∧ SR B ct gr PA BY OU (if tkG c τ q p' < 32 then ft else if tkG c τ q p' = 33 then (if ft = 0 then 1 + 16 * sI B 13 else ft) else (if ft = 0 then 3 + 16 * sI B 13 else ft)) p2 S' ∧ p ≤ p2 ∧ p2 ≤ e ∧ (¬ τ = 5 → p2 = p') := by
  obtain ⟨ms, dv, ls, sg, vl, PL, tk, fr, to, nm, rfl⟩ := h
  have τ3 := ts_300 T
  have tw := ts_w T
  have hg := fun p2 h => tkG_e (p2 := p2) T h
  obtain ⟨t1, t2, t3, t4, t5, t6, t7, t8, t9⟩ := T
  obtain ⟨x2, p2, e1, e2, e3⟩ := t9 (xR (yR B ct gr PA BY OU) ft ms dv ls sg vl PL) hT tk fr to nm
  have r := take_R (B := yR B ct gr PA BY OU) (e := e) (BC := BC) (L := L) (c := c) hT (ft := ft) (ms := ms) (dv := dv) (ls := ls) (sg := sg) (vl := vl) (PL := PL) (ap := p) (tk := tk) (fr := fr) (to := to) (nm := nm) (p2 := p2) (τ := τ) (q := q) (x := x2) τ3 (fun z => by
    obtain ⟨w1, w2, w3⟩ := tw z
    exact ⟨by omega, by omega, fun i i1 i2 => (eT_1 c (show q ≤ e by omega)).2.2.2 i i1 (by omega)⟩) e1
  rw [hg p2 e2] at r
  exact ⟨_, p2, r, ⟨ms, dv, ls, sg, vl, PL, τ, q, p2, x2, rfl⟩, by omega, by omega, fun z => by omega⟩
theorem ned_S {n L e : Nat} {c : Nat → Nat} {BC B : St} (hT : atx n L e c BC B) {ct : Nat} {gr : Bool} {PA BY OU : Nat → Int32} {p : Nat} {S : St} {ft : Int32} (h : SR B ct gr PA BY OU ft p S) {q p' κ τ v : Nat} {x : Int32} (T : TS n L e c BC p q p' κ τ v x) (y : Nat) (hy : y < 300) : ∃ (S' : St) (p2 : Nat), df_X13_needs n (nI y) S = some (bI (decide (τ = y)), S') ∧ SR B ct gr PA BY OU (if τ = y then ft else (if ft = 0 then 1 + 16 * sI B 13 else ft)) p2 S' ∧ sI S' 9 = nI q ∧ sI S' 10 = nI p2 ∧ p ≤ p2 ∧ p2 ≤ e ∧ (¬ τ = 5 → p2 = p') := by
  obtain ⟨ms, dv, ls, sg, vl, PL, tk, fr, to, nm, rfl⟩ := h
  have τ3 := ts_300 T
  obtain ⟨t1, t2, t3, t4, t5, t6, t7, t8, t9⟩ := T
  obtain ⟨x2, p2, e1, e2, e3⟩ := t9 (xR (yR B ct gr PA BY OU) ft ms dv ls sg vl PL) hT tk fr to nm
  exact ⟨_, p2, need_R y hy τ3 e1, ⟨ms, dv, ls, sg, vl, PL, τ, q, p2, x2, rfl⟩, rfl, rfl, by omega, by omega, fun z => by omega⟩
/-- a register that is there, or isn't -/
theorem tak_y {n L e : Nat} {c : Nat → Nat} {BC B : St} (hT : atx n L e c BC B) {ct : Nat} {gr : Bool} {PA BY OU : Nat → Int32} {p : Nat} {S : St} (h : SR B ct gr PA BY OU 0 p S) {q p' κ τ v : Nat} {x : Int32} (T : TS n L e c BC p q p' κ τ v x) (hg : tkG c τ q p' < 32) : ∃ S' : St, df_X13_taken n S = some (nI (tkG c τ q p'), S') ∧ SR B ct gr PA BY OU 0 p' S' := by
  obtain ⟨S', p2, e1, h1, h2, h3, h4⟩ := tak_S hT h T
  rw [if_pos hg] at e1 h1
  have n5 : ¬ τ = 5 := fun z => by
    unfold tkG at hg
    rw [if_pos (Or.inr z)] at hg
    omega
  rw [h4 n5] at h1
  exact ⟨S', e1, h1⟩
theorem tak_n {n L e : Nat} {c : Nat → Nat} {BC B : St} (hT : atx n L e c BC B) {ct : Nat} {gr : Bool} {PA BY OU : Nat → Int32} {p : Nat} {S : St} (h : SR B ct gr PA BY OU 0 p S) {q p' κ τ v : Nat} {x : Int32} (T : TS n L e c BC p q p' κ τ v x) (hg : ¬ tkG c τ q p' < 32) : ∃ S' : St, df_X13_taken n S = some (0, S') ∧ FN c e B ((if tkG c τ q p' = 33 then 1 else 3) + 16 * sI B 13) S' := by
  obtain ⟨S', p2, e1, h1, h2, h3, h4⟩ := tak_S hT h T
  rw [if_neg hg] at e1 h1
  refine ⟨S', e1, ct, gr, PA, BY, OU, p2, h3, fun i i1 i2 => T.2.1 i (by omega) i2, ?_⟩
  by_cases y : tkG c τ q p' = 33
  · rw [if_pos y] at h1 ⊢
    rw [if_pos rfl] at h1
    exact h1
  · rw [if_neg y] at h1 ⊢
    rw [if_pos rfl] at h1
    exact h1
theorem ned_y {n L e : Nat} {c : Nat → Nat} {BC B : St} (hT : atx n L e c BC B) {ct : Nat} {gr : Bool} {PA BY OU : Nat → Int32} {p : Nat} {S : St} (h : SR B ct gr PA BY OU 0 p S) {q p' κ τ v : Nat} {x : Int32} (T : TS n L e c BC p q p' κ τ v x) (y : Nat) (hy : y < 300) (h5 : ¬ y = 5) (ht : τ = y) : ∃ S' : St, df_X13_needs n (nI y) S = some (1, S') ∧ SR B ct gr PA BY OU 0 p' S' ∧ sI S' 9 = nI q ∧ sI S' 10 = nI p' := by
  obtain ⟨S', p2, e1, h1, h9, h10, h2, h3, h4⟩ := ned_S hT h T y hy
  rw [decide_eq_true ht] at e1
  rw [if_pos ht, h4 (by omega)] at h1
  rw [h4 (by omega)] at h10
  exact ⟨S', e1, h1, h9, h10⟩
theorem ned_n {n L e : Nat} {c : Nat → Nat} {BC B : St} (hT : atx n L e c BC B) {ct : Nat} {gr : Bool} {PA BY OU : Nat → Int32} {p : Nat} {S : St} (h : SR B ct gr PA BY OU 0 p S) {q p' κ τ v : Nat} {x : Int32} (T : TS n L e c BC p q p' κ τ v x) (y : Nat) (hy : y < 300) (ht : ¬ τ = y) : ∃ S' : St, df_X13_needs n (nI y) S = some (0, S') ∧ FN c e B (1 + 16 * sI B 13) S' := by
  obtain ⟨S', p2, e1, h1, h9, h10, h2, h3, h4⟩ := ned_S hT h T y hy
  rw [decide_eq_false ht] at e1
  rw [if_neg ht, if_pos rfl] at h1
  exact ⟨S', e1, ct, gr, PA, BY, OU, p2, h3, fun i i1 i2 => T.2.1 i (by omega) i2, h1⟩
theorem com_y {n L e : Nat} {c : Nat → Nat} {BC B : St} (hT : atx n L e c BC B) {ct : Nat} {gr : Bool} {PA BY OU : Nat → Int32} {p : Nat} {S : St} (h : SR B ct gr PA BY OU 0 p S) {q p' κ τ v : Nat} {x : Int32} (T : TS n L e c BC p q p' κ τ v x) (ht : τ = 44) : ∃ S' : St, df_X13_comma n S = some (1, S') ∧ SR B ct gr PA BY OU 0 p' S' := by
  obtain ⟨S', e1, h1, _⟩ := ned_y hT h T 44 (by omega) (by omega) ht
  refine ⟨S', ?_, h1⟩
  unfold df_X13_comma df_X13_comma_0 df_X13_comma_21
  rw [if_pos (SR_12 h), show (44 : Int32) = nI 44 from rfl, e1, nb_b2, if_neg (by decide)]
  exact nar_z (by decide)
theorem com_n {n L e : Nat} {c : Nat → Nat} {BC B : St} (hT : atx n L e c BC B) {ct : Nat} {gr : Bool} {PA BY OU : Nat → Int32} {p : Nat} {S : St} (h : SR B ct gr PA BY OU 0 p S) {q p' κ τ v : Nat} {x : Int32} (T : TS n L e c BC p q p' κ τ v x) (ht : ¬ τ = 44) : ∃ S' : St, df_X13_comma n S = some (0, S') ∧ FN c e B (1 + 16 * sI B 13) S' := by
  obtain ⟨S', e1, h1⟩ := ned_n hT h T 44 (by omega) ht
  refine ⟨S', ?_, h1⟩
  unfold df_X13_comma df_X13_comma_0 df_X13_comma_20 df_X13_comma_21
  rw [if_pos (SR_12 h), show (44 : Int32) = nI 44 from rfl, e1, nb_b2, if_pos rfl]
  exact nar_z (by decide)
/-- with a fault: tokens that don't matter -/
theorem tak_F {n L e : Nat} {c : Nat → Nat} {BC B : St} (hT : atx n L e c BC B) {ft : Int32} {S : St} (h : FN c e B ft S) (hf : ¬ ft = 0) : ∃ (r : Int32) (S' : St), df_X13_taken n S = some (r, S') ∧ FN c e B ft S' := by
  obtain ⟨ct, gr, PA, BY, OU, p, h1, h2, h⟩ := h
  obtain ⟨q, p', κ, τ, v, x, T⟩ := ts_ex hT p h1 h2
  obtain ⟨S', p2, e1, g1, g2, g3, g4⟩ := tak_S hT h T
  refine ⟨_, S', e1, ct, gr, PA, BY, OU, p2, g3, fun i i1 i2 => h2 i (by omega) i2, ?_⟩
  rw [if_neg hf, if_neg hf] at g1
  split at g1
  · exact g1
  · split at g1 <;> exact g1
theorem ned_F {n L e : Nat} {c : Nat → Nat} {BC B : St} (hT : atx n L e c BC B) {ft : Int32} {S : St} (h : FN c e B ft S) (hf : ¬ ft = 0) (y : Nat) (hy : y < 300) : ∃ (b : Bool) (S' : St), df_X13_needs n (nI y) S = some (bI b, S') ∧ FN c e B ft S' := by
  obtain ⟨ct, gr, PA, BY, OU, p, h1, h2, h⟩ := h
  obtain ⟨q, p', κ, τ, v, x, T⟩ := ts_ex hT p h1 h2
  obtain ⟨S', p2, e1, g1, _, _, g2, g3, g4⟩ := ned_S hT h T y hy
  refine ⟨_, S', e1, ct, gr, PA, BY, OU, p2, g3, fun i i1 i2 => h2 i (by omega) i2, ?_⟩
  rw [if_neg hf] at g1
  split at g1 <;> exact g1
