/-- both states while a condition is read: one term each -/
def mC (B : St) (cs tp os ap kd fr ft pt : Nat) (nm : Int64) (C S SA F T : Nat → Int32) (A : Nat → Int64) : St := (fun j => if j = 0 then nI cs else if j = 1 then nI tp else if j = 2 then nI os else if j = 5 then nI ap else if j = 6 then nI kd else if j = 7 then nI fr else if j = 8 then nI ft else if j = 9 then nI pt else B.1 j, fun j => if j = 0 then nm else B.2.1 j, fun j => if j = 0 then C else if j = 1 then S else if j = 2 then SA else if j = 3 then F else if j = 4 then T else B.2.2.1 j, fun j => if j = 0 then A else B.2.2.2.1 j, B.2.2.2.2)
theorem mC_i0 {B : St} {cs tp os ap kd fr ft pt : Nat} {nm : Int64} {C S SA F T : Nat → Int32} {A : Nat → Int64} : sI (mC B cs tp os ap kd fr ft pt nm C S SA F T A) 0 = nI cs := rfl
theorem mC_i1 {B : St} {cs tp os ap kd fr ft pt : Nat} {nm : Int64} {C S SA F T : Nat → Int32} {A : Nat → Int64} : sI (mC B cs tp os ap kd fr ft pt nm C S SA F T A) 1 = nI tp := rfl
theorem mC_i2 {B : St} {cs tp os ap kd fr ft pt : Nat} {nm : Int64} {C S SA F T : Nat → Int32} {A : Nat → Int64} : sI (mC B cs tp os ap kd fr ft pt nm C S SA F T A) 2 = nI os := rfl
theorem mC_i5 {B : St} {cs tp os ap kd fr ft pt : Nat} {nm : Int64} {C S SA F T : Nat → Int32} {A : Nat → Int64} : sI (mC B cs tp os ap kd fr ft pt nm C S SA F T A) 5 = nI ap := rfl
theorem mC_i6 {B : St} {cs tp os ap kd fr ft pt : Nat} {nm : Int64} {C S SA F T : Nat → Int32} {A : Nat → Int64} : sI (mC B cs tp os ap kd fr ft pt nm C S SA F T A) 6 = nI kd := rfl
theorem mC_i7 {B : St} {cs tp os ap kd fr ft pt : Nat} {nm : Int64} {C S SA F T : Nat → Int32} {A : Nat → Int64} : sI (mC B cs tp os ap kd fr ft pt nm C S SA F T A) 7 = nI fr := rfl
theorem mC_i8 {B : St} {cs tp os ap kd fr ft pt : Nat} {nm : Int64} {C S SA F T : Nat → Int32} {A : Nat → Int64} : sI (mC B cs tp os ap kd fr ft pt nm C S SA F T A) 8 = nI ft := rfl
theorem mC_i9 {B : St} {cs tp os ap kd fr ft pt : Nat} {nm : Int64} {C S SA F T : Nat → Int32} {A : Nat → Int64} : sI (mC B cs tp os ap kd fr ft pt nm C S SA F T A) 9 = nI pt := rfl
theorem mC_l {B : St} {cs tp os ap kd fr ft pt : Nat} {nm : Int64} {C S SA F T : Nat → Int32} {A : Nat → Int64} : sL (mC B cs tp os ap kd fr ft pt nm C S SA F T A) 0 = nm := rfl
theorem mC_r0 {B : St} {cs tp os ap kd fr ft pt : Nat} {nm : Int64} {C S SA F T : Nat → Int32} {A : Nat → Int64} : sR (mC B cs tp os ap kd fr ft pt nm C S SA F T A) 0 = C := rfl
theorem mC_r1 {B : St} {cs tp os ap kd fr ft pt : Nat} {nm : Int64} {C S SA F T : Nat → Int32} {A : Nat → Int64} : sR (mC B cs tp os ap kd fr ft pt nm C S SA F T A) 1 = S := rfl
theorem mC_r2 {B : St} {cs tp os ap kd fr ft pt : Nat} {nm : Int64} {C S SA F T : Nat → Int32} {A : Nat → Int64} : sR (mC B cs tp os ap kd fr ft pt nm C S SA F T A) 2 = SA := rfl
theorem mC_r3 {B : St} {cs tp os ap kd fr ft pt : Nat} {nm : Int64} {C S SA F T : Nat → Int32} {A : Nat → Int64} : sR (mC B cs tp os ap kd fr ft pt nm C S SA F T A) 3 = F := rfl
theorem mC_r4 {B : St} {cs tp os ap kd fr ft pt : Nat} {nm : Int64} {C S SA F T : Nat → Int32} {A : Nat → Int64} : sR (mC B cs tp os ap kd fr ft pt nm C S SA F T A) 4 = T := rfl
theorem mC_q {B : St} {cs tp os ap kd fr ft pt : Nat} {nm : Int64} {C S SA F T : Nat → Int32} {A : Nat → Int64} : sQ (mC B cs tp os ap kd fr ft pt nm C S SA F T A) 0 = A := rfl
theorem mC_o {B : St} {cs tp os ap kd fr ft pt : Nat} {nm : Int64} {C S SA F T : Nat → Int32} {A : Nat → Int64} : sO (mC B cs tp os ap kd fr ft pt nm C S SA F T A) 0 = sO B 0 := rfl
theorem mC_i4 {B : St} {cs tp os ap kd fr ft pt : Nat} {nm : Int64} {C S SA F T : Nat → Int32} {A : Nat → Int64} : sI (mC B cs tp os ap kd fr ft pt nm C S SA F T A) 4 = sI B 4 := rfl
theorem mC_wi0 {B : St} {cs tp os ap kd fr ft pt : Nat} {nm : Int64} {C S SA F T : Nat → Int32} {A : Nat → Int64} {v : Nat} : pI (mC B cs tp os ap kd fr ft pt nm C S SA F T A) 0 (nI v) = mC B v tp os ap kd fr ft pt nm C S SA F T A := Prod.ext (funext fun j => by
  show (if j = 0 then nI v else _) = _
  by_cases h : j = 0
  · subst h; rfl
  · unfold mC
    simp only [if_neg h]) rfl
theorem mC_wi1 {B : St} {cs tp os ap kd fr ft pt : Nat} {nm : Int64} {C S SA F T : Nat → Int32} {A : Nat → Int64} {v : Nat} : pI (mC B cs tp os ap kd fr ft pt nm C S SA F T A) 1 (nI v) = mC B cs v os ap kd fr ft pt nm C S SA F T A := Prod.ext (funext fun j => by
  show (if j = 1 then nI v else _) = _
  by_cases h : j = 1
  · subst h; rfl
  · unfold mC
    simp only [if_neg h]) rfl
theorem mC_wi2 {B : St} {cs tp os ap kd fr ft pt : Nat} {nm : Int64} {C S SA F T : Nat → Int32} {A : Nat → Int64} {v : Nat} : pI (mC B cs tp os ap kd fr ft pt nm C S SA F T A) 2 (nI v) = mC B cs tp v ap kd fr ft pt nm C S SA F T A := Prod.ext (funext fun j => by
  show (if j = 2 then nI v else _) = _
  by_cases h : j = 2
  · subst h; rfl
  · unfold mC
    simp only [if_neg h]) rfl
theorem mC_wi5 {B : St} {cs tp os ap kd fr ft pt : Nat} {nm : Int64} {C S SA F T : Nat → Int32} {A : Nat → Int64} {v : Nat} : pI (mC B cs tp os ap kd fr ft pt nm C S SA F T A) 5 (nI v) = mC B cs tp os v kd fr ft pt nm C S SA F T A := Prod.ext (funext fun j => by
  show (if j = 5 then nI v else _) = _
  by_cases h : j = 5
  · subst h; rfl
  · unfold mC
    simp only [if_neg h]) rfl
theorem mC_wi6 {B : St} {cs tp os ap kd fr ft pt : Nat} {nm : Int64} {C S SA F T : Nat → Int32} {A : Nat → Int64} {v : Nat} : pI (mC B cs tp os ap kd fr ft pt nm C S SA F T A) 6 (nI v) = mC B cs tp os ap v fr ft pt nm C S SA F T A := Prod.ext (funext fun j => by
  show (if j = 6 then nI v else _) = _
  by_cases h : j = 6
  · subst h; rfl
  · unfold mC
    simp only [if_neg h]) rfl
theorem mC_wi7 {B : St} {cs tp os ap kd fr ft pt : Nat} {nm : Int64} {C S SA F T : Nat → Int32} {A : Nat → Int64} {v : Nat} : pI (mC B cs tp os ap kd fr ft pt nm C S SA F T A) 7 (nI v) = mC B cs tp os ap kd v ft pt nm C S SA F T A := Prod.ext (funext fun j => by
  show (if j = 7 then nI v else _) = _
  by_cases h : j = 7
  · subst h; rfl
  · unfold mC
    simp only [if_neg h]) rfl
theorem mC_wi8 {B : St} {cs tp os ap kd fr ft pt : Nat} {nm : Int64} {C S SA F T : Nat → Int32} {A : Nat → Int64} {v : Nat} : pI (mC B cs tp os ap kd fr ft pt nm C S SA F T A) 8 (nI v) = mC B cs tp os ap kd fr v pt nm C S SA F T A := Prod.ext (funext fun j => by
  show (if j = 8 then nI v else _) = _
  by_cases h : j = 8
  · subst h; rfl
  · unfold mC
    simp only [if_neg h]) rfl
theorem mC_wi9 {B : St} {cs tp os ap kd fr ft pt : Nat} {nm : Int64} {C S SA F T : Nat → Int32} {A : Nat → Int64} {v : Nat} : pI (mC B cs tp os ap kd fr ft pt nm C S SA F T A) 9 (nI v) = mC B cs tp os ap kd fr ft v nm C S SA F T A := Prod.ext (funext fun j => by
  show (if j = 9 then nI v else _) = _
  by_cases h : j = 9
  · subst h; rfl
  · unfold mC
    simp only [if_neg h]) rfl
theorem mC_wl {B : St} {cs tp os ap kd fr ft pt : Nat} {nm : Int64} {C S SA F T : Nat → Int32} {A : Nat → Int64} {v : Int64} : pL (mC B cs tp os ap kd fr ft pt nm C S SA F T A) 0 v = mC B cs tp os ap kd fr ft pt v C S SA F T A := Prod.ext rfl (Prod.ext (funext fun j => by
  show (if j = 0 then v else _) = _
  by_cases h : j = 0
  · subst h; rfl
  · unfold mC
    simp only [if_neg h]) rfl)
theorem mC_wr0 {B : St} {cs tp os ap kd fr ft pt : Nat} {nm : Int64} {C S SA F T : Nat → Int32} {A : Nat → Int64} {v : Nat → Int32} : pR (mC B cs tp os ap kd fr ft pt nm C S SA F T A) 0 v = mC B cs tp os ap kd fr ft pt nm v S SA F T A := Prod.ext rfl (Prod.ext rfl (Prod.ext (funext fun j => by
  show (if j = 0 then v else _) = _
  by_cases h : j = 0
  · subst h; rfl
  · unfold mC
    simp only [if_neg h]) rfl))
theorem mC_wr1 {B : St} {cs tp os ap kd fr ft pt : Nat} {nm : Int64} {C S SA F T : Nat → Int32} {A : Nat → Int64} {v : Nat → Int32} : pR (mC B cs tp os ap kd fr ft pt nm C S SA F T A) 1 v = mC B cs tp os ap kd fr ft pt nm C v SA F T A := Prod.ext rfl (Prod.ext rfl (Prod.ext (funext fun j => by
  show (if j = 1 then v else _) = _
  by_cases h : j = 1
  · subst h; rfl
  · unfold mC
    simp only [if_neg h]) rfl))
theorem mC_wr2 {B : St} {cs tp os ap kd fr ft pt : Nat} {nm : Int64} {C S SA F T : Nat → Int32} {A : Nat → Int64} {v : Nat → Int32} : pR (mC B cs tp os ap kd fr ft pt nm C S SA F T A) 2 v = mC B cs tp os ap kd fr ft pt nm C S v F T A := Prod.ext rfl (Prod.ext rfl (Prod.ext (funext fun j => by
  show (if j = 2 then v else _) = _
  by_cases h : j = 2
  · subst h; rfl
  · unfold mC
    simp only [if_neg h]) rfl))
theorem mC_wr3 {B : St} {cs tp os ap kd fr ft pt : Nat} {nm : Int64} {C S SA F T : Nat → Int32} {A : Nat → Int64} {v : Nat → Int32} : pR (mC B cs tp os ap kd fr ft pt nm C S SA F T A) 3 v = mC B cs tp os ap kd fr ft pt nm C S SA v T A := Prod.ext rfl (Prod.ext rfl (Prod.ext (funext fun j => by
  show (if j = 3 then v else _) = _
  by_cases h : j = 3
  · subst h; rfl
  · unfold mC
    simp only [if_neg h]) rfl))
theorem mC_wr4 {B : St} {cs tp os ap kd fr ft pt : Nat} {nm : Int64} {C S SA F T : Nat → Int32} {A : Nat → Int64} {v : Nat → Int32} : pR (mC B cs tp os ap kd fr ft pt nm C S SA F T A) 4 v = mC B cs tp os ap kd fr ft pt nm C S SA F v A := Prod.ext rfl (Prod.ext rfl (Prod.ext (funext fun j => by
  show (if j = 4 then v else _) = _
  by_cases h : j = 4
  · subst h; rfl
  · unfold mC
    simp only [if_neg h]) rfl))
theorem mC_wq {B : St} {cs tp os ap kd fr ft pt : Nat} {nm : Int64} {C S SA F T : Nat → Int32} {A : Nat → Int64} {v : Nat → Int64} : pQ (mC B cs tp os ap kd fr ft pt nm C S SA F T A) 0 v = mC B cs tp os ap kd fr ft pt nm C S SA F T v := Prod.ext rfl (Prod.ext rfl (Prod.ext rfl (Prod.ext (funext fun j => by
  show (if j = 0 then v else _) = _
  by_cases h : j = 0
  · subst h; rfl
  · unfold mC
    simp only [if_neg h]) rfl)))
def mR (B : St) (ap tk st ts op ft : Nat) (tv : Int64) (K P OA : Nat → Int32) (N : Nat → Int64) : St := (fun j => if j = 1 then nI ap else if j = 2 then nI tk else if j = 3 then nI st else if j = 4 then nI ts else if j = 5 then nI op else if j = 6 then nI ft else B.1 j, fun j => if j = 0 then tv else B.2.1 j, fun j => if j = 5 then K else if j = 6 then P else if j = 7 then OA else B.2.2.1 j, fun j => if j = 2 then N else B.2.2.2.1 j, B.2.2.2.2)
theorem mR_i1 {B : St} {ap tk st ts op ft : Nat} {tv : Int64} {K P OA : Nat → Int32} {N : Nat → Int64} : sI (mR B ap tk st ts op ft tv K P OA N) 1 = nI ap := rfl
theorem mR_i2 {B : St} {ap tk st ts op ft : Nat} {tv : Int64} {K P OA : Nat → Int32} {N : Nat → Int64} : sI (mR B ap tk st ts op ft tv K P OA N) 2 = nI tk := rfl
theorem mR_i3 {B : St} {ap tk st ts op ft : Nat} {tv : Int64} {K P OA : Nat → Int32} {N : Nat → Int64} : sI (mR B ap tk st ts op ft tv K P OA N) 3 = nI st := rfl
theorem mR_i4 {B : St} {ap tk st ts op ft : Nat} {tv : Int64} {K P OA : Nat → Int32} {N : Nat → Int64} : sI (mR B ap tk st ts op ft tv K P OA N) 4 = nI ts := rfl
theorem mR_i5 {B : St} {ap tk st ts op ft : Nat} {tv : Int64} {K P OA : Nat → Int32} {N : Nat → Int64} : sI (mR B ap tk st ts op ft tv K P OA N) 5 = nI op := rfl
theorem mR_i6 {B : St} {ap tk st ts op ft : Nat} {tv : Int64} {K P OA : Nat → Int32} {N : Nat → Int64} : sI (mR B ap tk st ts op ft tv K P OA N) 6 = nI ft := rfl
theorem mR_l {B : St} {ap tk st ts op ft : Nat} {tv : Int64} {K P OA : Nat → Int32} {N : Nat → Int64} : sL (mR B ap tk st ts op ft tv K P OA N) 0 = tv := rfl
theorem mR_r5 {B : St} {ap tk st ts op ft : Nat} {tv : Int64} {K P OA : Nat → Int32} {N : Nat → Int64} : sR (mR B ap tk st ts op ft tv K P OA N) 5 = K := rfl
theorem mR_r6 {B : St} {ap tk st ts op ft : Nat} {tv : Int64} {K P OA : Nat → Int32} {N : Nat → Int64} : sR (mR B ap tk st ts op ft tv K P OA N) 6 = P := rfl
theorem mR_r7 {B : St} {ap tk st ts op ft : Nat} {tv : Int64} {K P OA : Nat → Int32} {N : Nat → Int64} : sR (mR B ap tk st ts op ft tv K P OA N) 7 = OA := rfl
theorem mR_q {B : St} {ap tk st ts op ft : Nat} {tv : Int64} {K P OA : Nat → Int32} {N : Nat → Int64} : sQ (mR B ap tk st ts op ft tv K P OA N) 2 = N := rfl
theorem mR_o {B : St} {ap tk st ts op ft : Nat} {tv : Int64} {K P OA : Nat → Int32} {N : Nat → Int64} : sO (mR B ap tk st ts op ft tv K P OA N) 0 = sO B 0 := rfl
theorem mR_i0 {B : St} {ap tk st ts op ft : Nat} {tv : Int64} {K P OA : Nat → Int32} {N : Nat → Int64} : sI (mR B ap tk st ts op ft tv K P OA N) 0 = sI B 0 := rfl
theorem mR_r0 {B : St} {ap tk st ts op ft : Nat} {tv : Int64} {K P OA : Nat → Int32} {N : Nat → Int64} : sR (mR B ap tk st ts op ft tv K P OA N) 0 = sR B 0 := rfl
theorem mR_wi1 {B : St} {ap tk st ts op ft : Nat} {tv : Int64} {K P OA : Nat → Int32} {N : Nat → Int64} {v : Nat} : pI (mR B ap tk st ts op ft tv K P OA N) 1 (nI v) = mR B v tk st ts op ft tv K P OA N := Prod.ext (funext fun j => by
  show (if j = 1 then nI v else _) = _
  by_cases h : j = 1
  · subst h; rfl
  · unfold mR
    simp only [if_neg h]) rfl
theorem mR_wi2 {B : St} {ap tk st ts op ft : Nat} {tv : Int64} {K P OA : Nat → Int32} {N : Nat → Int64} {v : Nat} : pI (mR B ap tk st ts op ft tv K P OA N) 2 (nI v) = mR B ap v st ts op ft tv K P OA N := Prod.ext (funext fun j => by
  show (if j = 2 then nI v else _) = _
  by_cases h : j = 2
  · subst h; rfl
  · unfold mR
    simp only [if_neg h]) rfl
theorem mR_wi3 {B : St} {ap tk st ts op ft : Nat} {tv : Int64} {K P OA : Nat → Int32} {N : Nat → Int64} {v : Nat} : pI (mR B ap tk st ts op ft tv K P OA N) 3 (nI v) = mR B ap tk v ts op ft tv K P OA N := Prod.ext (funext fun j => by
  show (if j = 3 then nI v else _) = _
  by_cases h : j = 3
  · subst h; rfl
  · unfold mR
    simp only [if_neg h]) rfl
theorem mR_wi4 {B : St} {ap tk st ts op ft : Nat} {tv : Int64} {K P OA : Nat → Int32} {N : Nat → Int64} {v : Nat} : pI (mR B ap tk st ts op ft tv K P OA N) 4 (nI v) = mR B ap tk st v op ft tv K P OA N := Prod.ext (funext fun j => by
  show (if j = 4 then nI v else _) = _
  by_cases h : j = 4
  · subst h; rfl
  · unfold mR
    simp only [if_neg h]) rfl
theorem mR_wi5 {B : St} {ap tk st ts op ft : Nat} {tv : Int64} {K P OA : Nat → Int32} {N : Nat → Int64} {v : Nat} : pI (mR B ap tk st ts op ft tv K P OA N) 5 (nI v) = mR B ap tk st ts v ft tv K P OA N := Prod.ext (funext fun j => by
  show (if j = 5 then nI v else _) = _
  by_cases h : j = 5
  · subst h; rfl
  · unfold mR
    simp only [if_neg h]) rfl
theorem mR_wi6 {B : St} {ap tk st ts op ft : Nat} {tv : Int64} {K P OA : Nat → Int32} {N : Nat → Int64} {v : Nat} : pI (mR B ap tk st ts op ft tv K P OA N) 6 (nI v) = mR B ap tk st ts op v tv K P OA N := Prod.ext (funext fun j => by
  show (if j = 6 then nI v else _) = _
  by_cases h : j = 6
  · subst h; rfl
  · unfold mR
    simp only [if_neg h]) rfl
theorem mR_wl {B : St} {ap tk st ts op ft : Nat} {tv : Int64} {K P OA : Nat → Int32} {N : Nat → Int64} {v : Int64} : pL (mR B ap tk st ts op ft tv K P OA N) 0 v = mR B ap tk st ts op ft v K P OA N := Prod.ext rfl (Prod.ext (funext fun j => by
  show (if j = 0 then v else _) = _
  by_cases h : j = 0
  · subst h; rfl
  · unfold mR
    simp only [if_neg h]) rfl)
theorem mR_wr5 {B : St} {ap tk st ts op ft : Nat} {tv : Int64} {K P OA : Nat → Int32} {N : Nat → Int64} {v : Nat → Int32} : pR (mR B ap tk st ts op ft tv K P OA N) 5 v = mR B ap tk st ts op ft tv v P OA N := Prod.ext rfl (Prod.ext rfl (Prod.ext (funext fun j => by
  show (if j = 5 then v else _) = _
  by_cases h : j = 5
  · subst h; rfl
  · unfold mR
    simp only [if_neg h]) rfl))
theorem mR_wr6 {B : St} {ap tk st ts op ft : Nat} {tv : Int64} {K P OA : Nat → Int32} {N : Nat → Int64} {v : Nat → Int32} : pR (mR B ap tk st ts op ft tv K P OA N) 6 v = mR B ap tk st ts op ft tv K v OA N := Prod.ext rfl (Prod.ext rfl (Prod.ext (funext fun j => by
  show (if j = 6 then v else _) = _
  by_cases h : j = 6
  · subst h; rfl
  · unfold mR
    simp only [if_neg h]) rfl))
theorem mR_wr7 {B : St} {ap tk st ts op ft : Nat} {tv : Int64} {K P OA : Nat → Int32} {N : Nat → Int64} {v : Nat → Int32} : pR (mR B ap tk st ts op ft tv K P OA N) 7 v = mR B ap tk st ts op ft tv K P v N := Prod.ext rfl (Prod.ext rfl (Prod.ext (funext fun j => by
  show (if j = 7 then v else _) = _
  by_cases h : j = 7
  · subst h; rfl
  · unfold mR
    simp only [if_neg h]) rfl))
theorem mR_wq {B : St} {ap tk st ts op ft : Nat} {tv : Int64} {K P OA : Nat → Int32} {N : Nat → Int64} {v : Nat → Int64} : pQ (mR B ap tk st ts op ft tv K P OA N) 2 v = mR B ap tk st ts op ft tv K P OA v := Prod.ext rfl (Prod.ext rfl (Prod.ext rfl (Prod.ext (funext fun j => by
  show (if j = 2 then v else _) = _
  by_cases h : j = 2
  · subst h; rfl
  · unfold mR
    simp only [if_neg h]) rfl)))
/-- what any state is -/
theorem mC_of (Cd : St) {cs tp os ap ft pt : Nat} (h0 : sI Cd 0 = nI cs) (h1 : sI Cd 1 = nI tp) (h2 : sI Cd 2 = nI os) (h5 : sI Cd 5 = nI ap) (h8 : sI Cd 8 = nI ft) (h9 : sI Cd 9 = nI pt) : ∃ kd fr : Nat, Cd = mC Cd cs tp os ap kd fr ft pt (sL Cd 0) (sR Cd 0) (sR Cd 1) (sR Cd 2) (sR Cd 3) (sR Cd 4) (sQ Cd 0) := by
  obtain ⟨kd, _, e6⟩ := nI_ex (sI Cd 6)
  obtain ⟨fr, _, e7⟩ := nI_ex (sI Cd 7)
  refine ⟨kd, fr, Prod.ext (funext fun j => ?_) (Prod.ext (funext fun j => ?_) (Prod.ext (funext fun j => ?_) (Prod.ext (funext fun j => ?_) rfl)))⟩
  · show sI Cd j = if j = 0 then nI cs else if j = 1 then nI tp else if j = 2 then nI os else if j = 5 then nI ap else if j = 6 then nI kd else if j = 7 then nI fr else if j = 8 then nI ft else if j = 9 then nI pt else sI Cd j
    repeat (split; · rename_i h; rw [h]; assumption)
    rfl
  · show sL Cd j = if j = 0 then sL Cd 0 else sL Cd j
    split
    · rename_i h; rw [h]
    · rfl
  · show sR Cd j = if j = 0 then sR Cd 0 else if j = 1 then sR Cd 1 else if j = 2 then sR Cd 2 else if j = 3 then sR Cd 3 else if j = 4 then sR Cd 4 else sR Cd j
    repeat (split; · rename_i h; rw [h])
    rfl
  · show sQ Cd j = if j = 0 then sQ Cd 0 else sQ Cd j
    split
    · rename_i h; rw [h]
    · rfl
theorem mR_of (Y : St) {ap ts op ft : Nat} (h1 : sI Y 1 = nI ap) (h4 : sI Y 4 = nI ts) (h5 : sI Y 5 = nI op) (h6 : sI Y 6 = nI ft) : ∃ tk st : Nat, Y = mR Y ap tk st ts op ft (sL Y 0) (sR Y 5) (sR Y 6) (sR Y 7) (sQ Y 2) := by
  obtain ⟨tk, _, e2⟩ := nI_ex (sI Y 2)
  obtain ⟨st, _, e3⟩ := nI_ex (sI Y 3)
  refine ⟨tk, st, Prod.ext (funext fun j => ?_) (Prod.ext (funext fun j => ?_) (Prod.ext (funext fun j => ?_) (Prod.ext (funext fun j => ?_) rfl)))⟩
  · show sI Y j = if j = 1 then nI ap else if j = 2 then nI tk else if j = 3 then nI st else if j = 4 then nI ts else if j = 5 then nI op else if j = 6 then nI ft else sI Y j
    repeat (split; · rename_i h; rw [h]; assumption)
    rfl
  · show sL Y j = if j = 0 then sL Y 0 else sL Y j
    split
    · rename_i h; rw [h]
    · rfl
  · show sR Y j = if j = 5 then sR Y 5 else if j = 6 then sR Y 6 else if j = 7 then sR Y 7 else sR Y j
    repeat (split; · rename_i h; rw [h])
    rfl
  · show sQ Y j = if j = 2 then sQ Y 2 else sQ Y j
    split
    · rename_i h; rw [h]
    · rfl
/-- the class: emit, push, blame, part -/
theorem em_1 (n v : Nat) (w : Int64) {B : St} {cs tp os ap kd fr pt : Nat} {nm : Int64} {C S SA F T : Nat → Int32} {A : Nat → Int64} (hc : cs < 160) : df_X2_emit n (nI v) w (mC B cs tp os ap kd fr 0 pt nm C S SA F T A) = some (mC B (cs + 1) tp os ap kd fr 0 pt nm (upd C cs (nI v)) S SA F T (vp_updL A cs w)) := by
  simp (disch := (first | assumption | decide | omega)) only [df_X2_emit_49, df_X2_emit_0, df_X2_emit, mC_i0, mC_i1, mC_i2, mC_i5, mC_i6, mC_i7, mC_i8, mC_i9, mC_l, mC_r0, mC_r1, mC_r2, mC_r3, mC_r4, mC_q, mC_o, mC_i4, mC_wi0, mC_wi1, mC_wi2, mC_wi5, mC_wi6, mC_wi7, mC_wi8, mC_wi9, mC_wl, mC_wr0, mC_wr1, mC_wr2, mC_wr3, mC_wr4, mC_wq, eq_self, Nat.reduceEqDiff, Nat.reduceLeDiff, nl_0, nl_1, nl_8, nl_160, no_1, no_1024, pk_mul, nI_add, nm_ck, nI_clamp, nI_ltI, nI_leI, nI_eq, nb_b2, nb_b1, ↓nb_let, nm_z0, nm_z1, nb_II, nb_IR, nb_RI, nb_RR, nm_IL, nm_IQ, nm_RL, nm_RQ, nm_LI, nm_LR, nm_LL, nm_LQ, nm_QI, nm_QR, nm_QL, nm_QQ, nm_rr, nm_ii, nm_eqm, not_false_eq_true, pk_sub, nm_div, nm_shl, nm_shr, nm_ush, nm_or8, nm_or64, nm_or256, nm_m1, nm_m3, nm_m7, nm_m15, nm_m31, nm_m63, nm_m255, nm_m511, nm_m1023, nm_m2047, nm_m65535, Nat.reduceMod, Nat.reducePow, Nat.reduceAdd, Nat.reduceSub, Nat.reduceMul, nm_bo, nm_bi, nm_rc, nm_ic, nm_ri, nm_rl, nm_rq, nm_ql, nm_qi, nm_li, nm_us, nm_uu, nm_cp, nm_sa31, nm_sa7, nm_m127, nm_m2, nm_nz, nm_nzk, nm_eq32, nm_nzf, if_true, if_false, ↓reduceIte, if_pos, if_neg]
theorem em_0 (n v : Nat) (w : Int64) {B : St} {cs tp os ap kd fr ft pt : Nat} {nm : Int64} {C S SA F T : Nat → Int32} {A : Nat → Int64} (h : 0 < ft) (h2 : ft < 2 ^ 31) : df_X2_emit n (nI v) w (mC B cs tp os ap kd fr ft pt nm C S SA F T A) = some (mC B cs tp os ap kd fr ft pt nm C S SA F T A) := by
  simp (disch := (first | assumption | decide | omega)) only [df_X2_emit_49, df_X2_emit_0, df_X2_emit, mC_i0, mC_i1, mC_i2, mC_i5, mC_i6, mC_i7, mC_i8, mC_i9, mC_l, mC_r0, mC_r1, mC_r2, mC_r3, mC_r4, mC_q, mC_o, mC_i4, mC_wi0, mC_wi1, mC_wi2, mC_wi5, mC_wi6, mC_wi7, mC_wi8, mC_wi9, mC_wl, mC_wr0, mC_wr1, mC_wr2, mC_wr3, mC_wr4, mC_wq, eq_self, Nat.reduceEqDiff, Nat.reduceLeDiff, nl_0, nl_1, nl_8, nl_160, no_1, no_1024, pk_mul, nI_add, nm_ck, nI_clamp, nI_ltI, nI_leI, nI_eq, nb_b2, nb_b1, ↓nb_let, nm_z0, nm_z1, nb_II, nb_IR, nb_RI, nb_RR, nm_IL, nm_IQ, nm_RL, nm_RQ, nm_LI, nm_LR, nm_LL, nm_LQ, nm_QI, nm_QR, nm_QL, nm_QQ, nm_rr, nm_ii, nm_eqm, not_false_eq_true, pk_sub, nm_div, nm_shl, nm_shr, nm_ush, nm_or8, nm_or64, nm_or256, nm_m1, nm_m3, nm_m7, nm_m15, nm_m31, nm_m63, nm_m255, nm_m511, nm_m1023, nm_m2047, nm_m65535, Nat.reduceMod, Nat.reducePow, Nat.reduceAdd, Nat.reduceSub, Nat.reduceMul, nm_bo, nm_bi, nm_rc, nm_ic, nm_ri, nm_rl, nm_rq, nm_ql, nm_qi, nm_li, nm_us, nm_uu, nm_cp, nm_sa31, nm_sa7, nm_m127, nm_m2, nm_nz, nm_nzk, nm_eq32, nm_nzf, if_true, if_false, ↓reduceIte, if_pos, if_neg]
theorem pu_1c (n v w : Nat) {B : St} {cs tp os ap kd fr pt : Nat} {nm : Int64} {C S SA F T : Nat → Int32} {A : Nat → Int64} (hc : tp < 41) : df_X2_push n (nI v) (nI w) (mC B cs tp os ap kd fr 0 pt nm C S SA F T A) = some (mC B cs (tp + 1) os ap kd fr 0 pt nm C (upd S tp (nI v)) (upd SA tp (nI w)) F T A) := by
  simp (disch := (first | assumption | decide | omega)) only [df_X2_push_49, df_X2_push_0, df_X2_push, mC_i0, mC_i1, mC_i2, mC_i5, mC_i6, mC_i7, mC_i8, mC_i9, mC_l, mC_r0, mC_r1, mC_r2, mC_r3, mC_r4, mC_q, mC_o, mC_i4, mC_wi0, mC_wi1, mC_wi2, mC_wi5, mC_wi6, mC_wi7, mC_wi8, mC_wi9, mC_wl, mC_wr0, mC_wr1, mC_wr2, mC_wr3, mC_wr4, mC_wq, eq_self, Nat.reduceEqDiff, Nat.reduceLeDiff, nl_0, nl_1, nl_2, nl_8, nl_41, no_1, no_1024, pk_mul, nI_add, nm_ck, nI_clamp, nI_ltI, nI_leI, nI_eq, nb_b2, nb_b1, ↓nb_let, nm_z0, nm_z1, nb_II, nb_IR, nb_RI, nb_RR, nm_IL, nm_IQ, nm_RL, nm_RQ, nm_LI, nm_LR, nm_LL, nm_LQ, nm_QI, nm_QR, nm_QL, nm_QQ, nm_rr, nm_ii, nm_eqm, not_false_eq_true, pk_sub, nm_div, nm_shl, nm_shr, nm_ush, nm_or8, nm_or64, nm_or256, nm_m1, nm_m3, nm_m7, nm_m15, nm_m31, nm_m63, nm_m255, nm_m511, nm_m1023, nm_m2047, nm_m65535, Nat.reduceMod, Nat.reducePow, Nat.reduceAdd, Nat.reduceSub, Nat.reduceMul, nm_bo, nm_bi, nm_rc, nm_ic, nm_ri, nm_rl, nm_rq, nm_ql, nm_qi, nm_li, nm_us, nm_uu, nm_cp, nm_sa31, nm_sa7, nm_m127, nm_m2, nm_nz, nm_nzk, nm_eq32, nm_nzf, if_true, if_false, ↓reduceIte, if_pos, if_neg]
theorem pu_0c (n v w : Nat) {B : St} {cs tp os ap kd fr ft pt : Nat} {nm : Int64} {C S SA F T : Nat → Int32} {A : Nat → Int64} (h : 0 < ft) (h2 : ft < 2 ^ 31) : df_X2_push n (nI v) (nI w) (mC B cs tp os ap kd fr ft pt nm C S SA F T A) = some (mC B cs tp os ap kd fr ft pt nm C S SA F T A) := by
  simp (disch := (first | assumption | decide | omega)) only [df_X2_push_49, df_X2_push_0, df_X2_push, mC_i0, mC_i1, mC_i2, mC_i5, mC_i6, mC_i7, mC_i8, mC_i9, mC_l, mC_r0, mC_r1, mC_r2, mC_r3, mC_r4, mC_q, mC_o, mC_i4, mC_wi0, mC_wi1, mC_wi2, mC_wi5, mC_wi6, mC_wi7, mC_wi8, mC_wi9, mC_wl, mC_wr0, mC_wr1, mC_wr2, mC_wr3, mC_wr4, mC_wq, eq_self, Nat.reduceEqDiff, Nat.reduceLeDiff, nl_0, nl_1, nl_2, nl_8, nl_41, no_1, no_1024, pk_mul, nI_add, nm_ck, nI_clamp, nI_ltI, nI_leI, nI_eq, nb_b2, nb_b1, ↓nb_let, nm_z0, nm_z1, nb_II, nb_IR, nb_RI, nb_RR, nm_IL, nm_IQ, nm_RL, nm_RQ, nm_LI, nm_LR, nm_LL, nm_LQ, nm_QI, nm_QR, nm_QL, nm_QQ, nm_rr, nm_ii, nm_eqm, not_false_eq_true, pk_sub, nm_div, nm_shl, nm_shr, nm_ush, nm_or8, nm_or64, nm_or256, nm_m1, nm_m3, nm_m7, nm_m15, nm_m31, nm_m63, nm_m255, nm_m511, nm_m1023, nm_m2047, nm_m65535, Nat.reduceMod, Nat.reducePow, Nat.reduceAdd, Nat.reduceSub, Nat.reduceMul, nm_bo, nm_bi, nm_rc, nm_ic, nm_ri, nm_rl, nm_rq, nm_ql, nm_qi, nm_li, nm_us, nm_uu, nm_cp, nm_sa31, nm_sa7, nm_m127, nm_m2, nm_nz, nm_nzk, nm_eq32, nm_nzf, if_true, if_false, ↓reduceIte, if_pos, if_neg]
theorem bl_1 (n v : Nat) {B : St} {cs tp os ap kd fr pt : Nat} {nm : Int64} {C S SA F T : Nat → Int32} {A : Nat → Int64} : df_X2_blame n (nI v) (mC B cs tp os ap kd fr 0 pt nm C S SA F T A) = some (mC B cs tp os ap kd fr (v + 8 * fr) pt nm C S SA F T A) := by
  simp (disch := (first | assumption | decide | omega)) only [df_X2_blame_20, df_X2_blame_0, df_X2_blame, mC_i0, mC_i1, mC_i2, mC_i5, mC_i6, mC_i7, mC_i8, mC_i9, mC_l, mC_r0, mC_r1, mC_r2, mC_r3, mC_r4, mC_q, mC_o, mC_i4, mC_wi0, mC_wi1, mC_wi2, mC_wi5, mC_wi6, mC_wi7, mC_wi8, mC_wi9, mC_wl, mC_wr0, mC_wr1, mC_wr2, mC_wr3, mC_wr4, mC_wq, eq_self, Nat.reduceEqDiff, Nat.reduceLeDiff, nl_0, nl_7, nl_8, no_1, no_1024, pk_mul, nI_add, nm_ck, nI_clamp, nI_ltI, nI_leI, nI_eq, nb_b2, nb_b1, ↓nb_let, nm_z0, nm_z1, nb_II, nb_IR, nb_RI, nb_RR, nm_IL, nm_IQ, nm_RL, nm_RQ, nm_LI, nm_LR, nm_LL, nm_LQ, nm_QI, nm_QR, nm_QL, nm_QQ, nm_rr, nm_ii, nm_eqm, not_false_eq_true, pk_sub, nm_div, nm_shl, nm_shr, nm_ush, nm_or8, nm_or64, nm_or256, nm_m1, nm_m3, nm_m7, nm_m15, nm_m31, nm_m63, nm_m255, nm_m511, nm_m1023, nm_m2047, nm_m65535, Nat.reduceMod, Nat.reducePow, Nat.reduceAdd, Nat.reduceSub, Nat.reduceMul, nm_bo, nm_bi, nm_rc, nm_ic, nm_ri, nm_rl, nm_rq, nm_ql, nm_qi, nm_li, nm_us, nm_uu, nm_cp, nm_sa31, nm_sa7, nm_m127, nm_m2, nm_nz, nm_nzk, nm_eq32, nm_nzf, if_true, if_false, ↓reduceIte, if_pos, if_neg]
theorem bl_0 (n v : Nat) {B : St} {cs tp os ap kd fr ft pt : Nat} {nm : Int64} {C S SA F T : Nat → Int32} {A : Nat → Int64} (h : 0 < ft) (h2 : ft < 2 ^ 31) : df_X2_blame n (nI v) (mC B cs tp os ap kd fr ft pt nm C S SA F T A) = some (mC B cs tp os ap kd fr ft pt nm C S SA F T A) := by
  simp (disch := (first | assumption | decide | omega)) only [df_X2_blame_20, df_X2_blame_0, df_X2_blame, mC_i0, mC_i1, mC_i2, mC_i5, mC_i6, mC_i7, mC_i8, mC_i9, mC_l, mC_r0, mC_r1, mC_r2, mC_r3, mC_r4, mC_q, mC_o, mC_i4, mC_wi0, mC_wi1, mC_wi2, mC_wi5, mC_wi6, mC_wi7, mC_wi8, mC_wi9, mC_wl, mC_wr0, mC_wr1, mC_wr2, mC_wr3, mC_wr4, mC_wq, eq_self, Nat.reduceEqDiff, Nat.reduceLeDiff, nl_0, nl_7, nl_8, no_1, no_1024, pk_mul, nI_add, nm_ck, nI_clamp, nI_ltI, nI_leI, nI_eq, nb_b2, nb_b1, ↓nb_let, nm_z0, nm_z1, nb_II, nb_IR, nb_RI, nb_RR, nm_IL, nm_IQ, nm_RL, nm_RQ, nm_LI, nm_LR, nm_LL, nm_LQ, nm_QI, nm_QR, nm_QL, nm_QQ, nm_rr, nm_ii, nm_eqm, not_false_eq_true, pk_sub, nm_div, nm_shl, nm_shr, nm_ush, nm_or8, nm_or64, nm_or256, nm_m1, nm_m3, nm_m7, nm_m15, nm_m31, nm_m63, nm_m255, nm_m511, nm_m1023, nm_m2047, nm_m65535, Nat.reduceMod, Nat.reducePow, Nat.reduceAdd, Nat.reduceSub, Nat.reduceMul, nm_bo, nm_bi, nm_rc, nm_ic, nm_ri, nm_rl, nm_rq, nm_ql, nm_qi, nm_li, nm_us, nm_uu, nm_cp, nm_sa31, nm_sa7, nm_m127, nm_m2, nm_nz, nm_nzk, nm_eq32, nm_nzf, if_true, if_false, ↓reduceIte, if_pos, if_neg]
theorem pt_1 (n : Nat) {B : St} {cs tp os ap kd fr ft pt : Nat} {nm : Int64} {C S SA F T : Nat → Int32} {A : Nat → Int64} (h : pt < 40) : df_X2_part n (mC B cs tp os ap kd fr ft pt nm C S SA F T A) = some (mC B cs tp os ap kd fr ft (pt + 1) nm C S SA F T A) := by
  simp (disch := (first | assumption | decide | omega)) only [df_X2_part_24, df_X2_part_0, df_X2_part, mC_i0, mC_i1, mC_i2, mC_i5, mC_i6, mC_i7, mC_i8, mC_i9, mC_l, mC_r0, mC_r1, mC_r2, mC_r3, mC_r4, mC_q, mC_o, mC_i4, mC_wi0, mC_wi1, mC_wi2, mC_wi5, mC_wi6, mC_wi7, mC_wi8, mC_wi9, mC_wl, mC_wr0, mC_wr1, mC_wr2, mC_wr3, mC_wr4, mC_wq, eq_self, Nat.reduceEqDiff, Nat.reduceLeDiff, nl_1, nl_3, nl_9, nl_40, no_1, no_1024, pk_mul, nI_add, nm_ck, nI_clamp, nI_ltI, nI_leI, nI_eq, nb_b2, nb_b1, ↓nb_let, nm_z0, nm_z1, nb_II, nb_IR, nb_RI, nb_RR, nm_IL, nm_IQ, nm_RL, nm_RQ, nm_LI, nm_LR, nm_LL, nm_LQ, nm_QI, nm_QR, nm_QL, nm_QQ, nm_rr, nm_ii, nm_eqm, not_false_eq_true, pk_sub, nm_div, nm_shl, nm_shr, nm_ush, nm_or8, nm_or64, nm_or256, nm_m1, nm_m3, nm_m7, nm_m15, nm_m31, nm_m63, nm_m255, nm_m511, nm_m1023, nm_m2047, nm_m65535, Nat.reduceMod, Nat.reducePow, Nat.reduceAdd, Nat.reduceSub, Nat.reduceMul, nm_bo, nm_bi, nm_rc, nm_ic, nm_ri, nm_rl, nm_rq, nm_ql, nm_qi, nm_li, nm_us, nm_uu, nm_cp, nm_sa31, nm_sa7, nm_m127, nm_m2, nm_nz, nm_nzk, nm_eq32, nm_nzf, if_true, if_false, ↓reduceIte, if_pos, if_neg]
theorem pt_0 (n : Nat) {B : St} {cs tp os ap kd fr : Nat} {nm : Int64} {C S SA F T : Nat → Int32} {A : Nat → Int64} : df_X2_part n (mC B cs tp os ap kd fr 0 40 nm C S SA F T A) = some (mC B cs tp os ap kd fr (3 + 8 * fr) 41 nm C S SA F T A) := by
  have b := bl_1 n 3 (B := B) (cs := cs) (tp := tp) (os := os) (ap := ap) (kd := kd) (fr := fr) (nm := nm) (C := C) (S := S) (SA := SA) (F := F) (T := T) (A := A) (pt := 41)
  simp (disch := (first | assumption | decide | omega)) only [df_X2_part_24, df_X2_part_0, df_X2_part, mC_i0, mC_i1, mC_i2, mC_i5, mC_i6, mC_i7, mC_i8, mC_i9, mC_l, mC_r0, mC_r1, mC_r2, mC_r3, mC_r4, mC_q, mC_o, mC_i4, mC_wi0, mC_wi1, mC_wi2, mC_wi5, mC_wi6, mC_wi7, mC_wi8, mC_wi9, mC_wl, mC_wr0, mC_wr1, mC_wr2, mC_wr3, mC_wr4, mC_wq, b, eq_self, Nat.reduceEqDiff, Nat.reduceLeDiff, nl_1, nl_3, nl_9, nl_40, no_1, no_1024, pk_mul, nI_add, nm_ck, nI_clamp, nI_ltI, nI_leI, nI_eq, nb_b2, nb_b1, ↓nb_let, nm_z0, nm_z1, nb_II, nb_IR, nb_RI, nb_RR, nm_IL, nm_IQ, nm_RL, nm_RQ, nm_LI, nm_LR, nm_LL, nm_LQ, nm_QI, nm_QR, nm_QL, nm_QQ, nm_rr, nm_ii, nm_eqm, not_false_eq_true, pk_sub, nm_div, nm_shl, nm_shr, nm_ush, nm_or8, nm_or64, nm_or256, nm_m1, nm_m3, nm_m7, nm_m15, nm_m31, nm_m63, nm_m255, nm_m511, nm_m1023, nm_m2047, nm_m65535, Nat.reduceMod, Nat.reducePow, Nat.reduceAdd, Nat.reduceSub, Nat.reduceMul, nm_bo, nm_bi, nm_rc, nm_ic, nm_ri, nm_rl, nm_rq, nm_ql, nm_qi, nm_li, nm_us, nm_uu, nm_cp, nm_sa31, nm_sa7, nm_m127, nm_m2, nm_nz, nm_nzk, nm_eq32, nm_nzf, if_true, if_false, ↓reduceIte, if_pos, if_neg]
/-- how many wait -/
theorem wa_1 (n a b : Nat) (ha : a < 100) (hb : b < 100) {B : St} {cs tp os ap kd fr ft pt : Nat} {nm : Int64} {C S SA F T : Nat → Int32} {A : Nat → Int64} (ht : tp ≤ 41) (hn : 41 < n) (s : Nat → Nat) (hs : ∀ i : Nat, i < tp → S i = nI (s i) ∧ s i < 100) : df_X2_waiting n (nI a) (nI b) (mC B cs tp os ap kd fr ft pt nm C S SA F T A) = some (nI (cN (fun i => decide (a ≤ s i ∧ s i ≤ b)) tp), mC B cs tp os ap kd fr ft pt nm C S SA F T A) := by
  obtain ⟨m, e⟩ := nm_lq (fun m k => df_X2_waiting_5 n m (nI a) (nI b) (nI (cN (fun i => decide (a ≤ s i ∧ s i ≤ b)) k)) (nI k) (mC B cs tp os ap kd fr ft pt nm C S SA F T A)) tp n (by omega) (fun k m hk => by
    have q := hs k hk
    have cl := cN_le (fun i => decide (a ≤ s i ∧ s i ≤ b)) k
    show df_X2_waiting_5 n (m + 1) (nI a) (nI b) (nI (cN (fun i => decide (a ≤ s i ∧ s i ≤ b)) k)) (nI k) (mC B cs tp os ap kd fr ft pt nm C S SA F T A) = df_X2_waiting_5 n m (nI a) (nI b) (nI (cN (fun i => decide (a ≤ s i ∧ s i ≤ b)) (k + 1))) (nI (k + 1)) (mC B cs tp os ap kd fr ft pt nm C S SA F T A)
    rw [cN_s]
    generalize cN (fun i => decide (a ≤ s i ∧ s i ≤ b)) k = x at cl
    by_cases y1 : s k < a
    · rw [nm_df (show ¬ (a ≤ s k ∧ s k ≤ b) by omega)]
      simp (disch := (first | assumption | decide | omega)) only [(show df_X2_waiting_5 n (m + 1) = dF_X2_waiting_5 n (df_X2_waiting_5 n m) from rfl), dF_X2_waiting_5, df_X2_waiting_39, df_X2_waiting_0, df_X2_waiting, mC_i0, mC_i1, mC_i2, mC_i5, mC_i6, mC_i7, mC_i8, mC_i9, mC_l, mC_r0, mC_r1, mC_r2, mC_r3, mC_r4, mC_q, mC_o, mC_i4, mC_wi0, mC_wi1, mC_wi2, mC_wi5, mC_wi6, mC_wi7, mC_wi8, mC_wi9, mC_wl, mC_wr0, mC_wr1, mC_wr2, mC_wr3, mC_wr4, mC_wq, q.1, Nat.add_zero, eq_self, Nat.reduceEqDiff, Nat.reduceLeDiff, nl_0, nl_1, nl_41, no_1, no_1024, pk_mul, nI_add, nm_ck, nI_clamp, nI_ltI, nI_leI, nI_eq, nb_b2, nb_b1, ↓nb_let, nm_z0, nm_z1, nb_II, nb_IR, nb_RI, nb_RR, nm_IL, nm_IQ, nm_RL, nm_RQ, nm_LI, nm_LR, nm_LL, nm_LQ, nm_QI, nm_QR, nm_QL, nm_QQ, nm_rr, nm_ii, nm_eqm, not_false_eq_true, pk_sub, nm_div, nm_shl, nm_shr, nm_ush, nm_or8, nm_or64, nm_or256, nm_m1, nm_m3, nm_m7, nm_m15, nm_m31, nm_m63, nm_m255, nm_m511, nm_m1023, nm_m2047, nm_m65535, Nat.reduceMod, Nat.reducePow, Nat.reduceAdd, Nat.reduceSub, Nat.reduceMul, nm_bo, nm_bi, nm_rc, nm_ic, nm_ri, nm_rl, nm_rq, nm_ql, nm_qi, nm_li, nm_us, nm_uu, nm_cp, nm_sa31, nm_sa7, nm_m127, nm_m2, nm_nz, nm_nzk, nm_eq32, nm_nzf, if_true, if_false, ↓reduceIte, if_pos, if_neg]
    · by_cases y2 : b < s k
      · rw [nm_df (show ¬ (a ≤ s k ∧ s k ≤ b) by omega)]
        simp (disch := (first | assumption | decide | omega)) only [(show df_X2_waiting_5 n (m + 1) = dF_X2_waiting_5 n (df_X2_waiting_5 n m) from rfl), dF_X2_waiting_5, df_X2_waiting_39, df_X2_waiting_0, df_X2_waiting, mC_i0, mC_i1, mC_i2, mC_i5, mC_i6, mC_i7, mC_i8, mC_i9, mC_l, mC_r0, mC_r1, mC_r2, mC_r3, mC_r4, mC_q, mC_o, mC_i4, mC_wi0, mC_wi1, mC_wi2, mC_wi5, mC_wi6, mC_wi7, mC_wi8, mC_wi9, mC_wl, mC_wr0, mC_wr1, mC_wr2, mC_wr3, mC_wr4, mC_wq, q.1, Nat.add_zero, eq_self, Nat.reduceEqDiff, Nat.reduceLeDiff, nl_0, nl_1, nl_41, no_1, no_1024, pk_mul, nI_add, nm_ck, nI_clamp, nI_ltI, nI_leI, nI_eq, nb_b2, nb_b1, ↓nb_let, nm_z0, nm_z1, nb_II, nb_IR, nb_RI, nb_RR, nm_IL, nm_IQ, nm_RL, nm_RQ, nm_LI, nm_LR, nm_LL, nm_LQ, nm_QI, nm_QR, nm_QL, nm_QQ, nm_rr, nm_ii, nm_eqm, not_false_eq_true, pk_sub, nm_div, nm_shl, nm_shr, nm_ush, nm_or8, nm_or64, nm_or256, nm_m1, nm_m3, nm_m7, nm_m15, nm_m31, nm_m63, nm_m255, nm_m511, nm_m1023, nm_m2047, nm_m65535, Nat.reduceMod, Nat.reducePow, Nat.reduceAdd, Nat.reduceSub, Nat.reduceMul, nm_bo, nm_bi, nm_rc, nm_ic, nm_ri, nm_rl, nm_rq, nm_ql, nm_qi, nm_li, nm_us, nm_uu, nm_cp, nm_sa31, nm_sa7, nm_m127, nm_m2, nm_nz, nm_nzk, nm_eq32, nm_nzf, if_true, if_false, ↓reduceIte, if_pos, if_neg]
      · rw [nm_dt (show a ≤ s k ∧ s k ≤ b by omega)]
        simp (disch := (first | assumption | decide | omega)) only [(show df_X2_waiting_5 n (m + 1) = dF_X2_waiting_5 n (df_X2_waiting_5 n m) from rfl), dF_X2_waiting_5, df_X2_waiting_39, df_X2_waiting_0, df_X2_waiting, mC_i0, mC_i1, mC_i2, mC_i5, mC_i6, mC_i7, mC_i8, mC_i9, mC_l, mC_r0, mC_r1, mC_r2, mC_r3, mC_r4, mC_q, mC_o, mC_i4, mC_wi0, mC_wi1, mC_wi2, mC_wi5, mC_wi6, mC_wi7, mC_wi8, mC_wi9, mC_wl, mC_wr0, mC_wr1, mC_wr2, mC_wr3, mC_wr4, mC_wq, q.1, eq_self, Nat.reduceEqDiff, Nat.reduceLeDiff, nl_0, nl_1, nl_41, no_1, no_1024, pk_mul, nI_add, nm_ck, nI_clamp, nI_ltI, nI_leI, nI_eq, nb_b2, nb_b1, ↓nb_let, nm_z0, nm_z1, nb_II, nb_IR, nb_RI, nb_RR, nm_IL, nm_IQ, nm_RL, nm_RQ, nm_LI, nm_LR, nm_LL, nm_LQ, nm_QI, nm_QR, nm_QL, nm_QQ, nm_rr, nm_ii, nm_eqm, not_false_eq_true, pk_sub, nm_div, nm_shl, nm_shr, nm_ush, nm_or8, nm_or64, nm_or256, nm_m1, nm_m3, nm_m7, nm_m15, nm_m31, nm_m63, nm_m255, nm_m511, nm_m1023, nm_m2047, nm_m65535, Nat.reduceMod, Nat.reducePow, Nat.reduceAdd, Nat.reduceSub, Nat.reduceMul, nm_bo, nm_bi, nm_rc, nm_ic, nm_ri, nm_rl, nm_rq, nm_ql, nm_qi, nm_li, nm_us, nm_uu, nm_cp, nm_sa31, nm_sa7, nm_m127, nm_m2, nm_nz, nm_nzk, nm_eq32, nm_nzf, if_true, if_false, ↓reduceIte, if_pos, if_neg])
  refine Eq.trans (show _ = df_X2_waiting_5 n n (nI a) (nI b) (nI 0) (nI 0) (mC B cs tp os ap kd fr ft pt nm C S SA F T A) from rfl) (Eq.trans e ?_)
  show df_X2_waiting_5 n (m + 1) (nI a) (nI b) (nI (cN (fun i => decide (a ≤ s i ∧ s i ≤ b)) tp)) (nI tp) (mC B cs tp os ap kd fr ft pt nm C S SA F T A) = _
  generalize cN (fun i => decide (a ≤ s i ∧ s i ≤ b)) tp = x
  simp (disch := (first | assumption | decide | omega)) only [(show df_X2_waiting_5 n (m + 1) = dF_X2_waiting_5 n (df_X2_waiting_5 n m) from rfl), dF_X2_waiting_5, df_X2_waiting_39, df_X2_waiting_0, df_X2_waiting, mC_i0, mC_i1, mC_i2, mC_i5, mC_i6, mC_i7, mC_i8, mC_i9, mC_l, mC_r0, mC_r1, mC_r2, mC_r3, mC_r4, mC_q, mC_o, mC_i4, mC_wi0, mC_wi1, mC_wi2, mC_wi5, mC_wi6, mC_wi7, mC_wi8, mC_wi9, mC_wl, mC_wr0, mC_wr1, mC_wr2, mC_wr3, mC_wr4, mC_wq, eq_self, Nat.reduceEqDiff, Nat.reduceLeDiff, nl_0, nl_1, nl_41, no_1, no_1024, pk_mul, nI_add, nm_ck, nI_clamp, nI_ltI, nI_leI, nI_eq, nb_b2, nb_b1, ↓nb_let, nm_z0, nm_z1, nb_II, nb_IR, nb_RI, nb_RR, nm_IL, nm_IQ, nm_RL, nm_RQ, nm_LI, nm_LR, nm_LL, nm_LQ, nm_QI, nm_QR, nm_QL, nm_QQ, nm_rr, nm_ii, nm_eqm, not_false_eq_true, pk_sub, nm_div, nm_shl, nm_shr, nm_ush, nm_or8, nm_or64, nm_or256, nm_m1, nm_m3, nm_m7, nm_m15, nm_m31, nm_m63, nm_m255, nm_m511, nm_m1023, nm_m2047, nm_m65535, Nat.reduceMod, Nat.reducePow, Nat.reduceAdd, Nat.reduceSub, Nat.reduceMul, nm_bo, nm_bi, nm_rc, nm_ic, nm_ri, nm_rl, nm_rq, nm_ql, nm_qi, nm_li, nm_us, nm_uu, nm_cp, nm_sa31, nm_sa7, nm_m127, nm_m2, nm_nz, nm_nzk, nm_eq32, nm_nzf, if_true, if_false, ↓reduceIte, if_pos, if_neg]
/-- the reference: meet, take, shut -/
theorem me_1 (n v w : Nat) {B : St} {ap tk st ts op : Nat} {tv : Int64} {K P OA : Nat → Int32} {N : Nat → Int64} {X : St × St} : df_X15_meet n (nI v) (nI w) (mR B ap tk st ts op 0 tv K P OA N, X) = some (mR B ap tk st ts op (v + 8 * w) tv K P OA N, X) := by
  simp (disch := (first | assumption | decide | omega)) only [df_X15_meet_17, df_X15_meet_0, df_X15_meet, mR_i1, mR_i2, mR_i3, mR_i4, mR_i5, mR_i6, mR_l, mR_r5, mR_r6, mR_r7, mR_q, mR_o, mR_i0, mR_r0, mR_wi1, mR_wi2, mR_wi3, mR_wi4, mR_wi5, mR_wi6, mR_wl, mR_wr5, mR_wr6, mR_wr7, mR_wq, eq_self, Nat.reduceEqDiff, Nat.reduceLeDiff, nl_0, nl_6, nl_8, no_1, no_1024, pk_mul, nI_add, nm_ck, nI_clamp, nI_ltI, nI_leI, nI_eq, nb_b2, nb_b1, ↓nb_let, nm_z0, nm_z1, nb_II, nb_IR, nb_RI, nb_RR, nm_IL, nm_IQ, nm_RL, nm_RQ, nm_LI, nm_LR, nm_LL, nm_LQ, nm_QI, nm_QR, nm_QL, nm_QQ, nm_rr, nm_ii, nm_eqm, not_false_eq_true, pk_sub, nm_div, nm_shl, nm_shr, nm_ush, nm_or8, nm_or64, nm_or256, nm_m1, nm_m3, nm_m7, nm_m15, nm_m31, nm_m63, nm_m255, nm_m511, nm_m1023, nm_m2047, nm_m65535, Nat.reduceMod, Nat.reducePow, Nat.reduceAdd, Nat.reduceSub, Nat.reduceMul, nm_bo, nm_bi, nm_rc, nm_ic, nm_ri, nm_rl, nm_rq, nm_ql, nm_qi, nm_li, nm_us, nm_uu, nm_cp, nm_sa31, nm_sa7, nm_m127, nm_m2, nm_nz, nm_nzk, nm_eq32, nm_nzf, if_true, if_false, ↓reduceIte, if_pos, if_neg]
theorem ta_1 (n : Nat) {B : St} {ap tk st ts op ft : Nat} {tv : Int64} {K P OA : Nat → Int32} {N : Nat → Int64} {X : St × St} (h : ts < 120) : df_X15_take n (mR B ap tk st ts op ft tv K P OA N, X) = some (mR B ap tk st (ts + 1) op ft tv (upd K ts (nI tk)) (upd P ts (-nI 1)) OA (vp_updL N ts tv), X) := by
  simp (disch := (first | assumption | decide | omega)) only [df_X15_take_0, df_X15_take, mR_i1, mR_i2, mR_i3, mR_i4, mR_i5, mR_i6, mR_l, mR_r5, mR_r6, mR_r7, mR_q, mR_o, mR_i0, mR_r0, mR_wi1, mR_wi2, mR_wi3, mR_wi4, mR_wi5, mR_wi6, mR_wl, mR_wr5, mR_wr6, mR_wr7, mR_wq, eq_self, Nat.reduceEqDiff, Nat.reduceLeDiff, nl_0, nl_1, nl_2, nl_4, nl_5, nl_6, nl_120, no_1, no_1024, pk_mul, nI_add, nm_ck, nI_clamp, nI_ltI, nI_leI, nI_eq, nb_b2, nb_b1, ↓nb_let, nm_z0, nm_z1, nb_II, nb_IR, nb_RI, nb_RR, nm_IL, nm_IQ, nm_RL, nm_RQ, nm_LI, nm_LR, nm_LL, nm_LQ, nm_QI, nm_QR, nm_QL, nm_QQ, nm_rr, nm_ii, nm_eqm, not_false_eq_true, pk_sub, nm_div, nm_shl, nm_shr, nm_ush, nm_or8, nm_or64, nm_or256, nm_m1, nm_m3, nm_m7, nm_m15, nm_m31, nm_m63, nm_m255, nm_m511, nm_m1023, nm_m2047, nm_m65535, Nat.reduceMod, Nat.reducePow, Nat.reduceAdd, Nat.reduceSub, Nat.reduceMul, nm_bo, nm_bi, nm_rc, nm_ic, nm_ri, nm_rl, nm_rq, nm_ql, nm_qi, nm_li, nm_us, nm_uu, nm_cp, nm_sa31, nm_sa7, nm_m127, nm_m2, nm_nz, nm_nzk, nm_eq32, nm_nzf, if_true, if_false, ↓reduceIte, if_pos, if_neg]
theorem sh_1 (n y : Nat) {B : St} {ap tk st ts op ft : Nat} {tv : Int64} {K P OA : Nat → Int32} {N : Nat → Int64} {X : St × St} (h : ts < 120) (ho : op < 10) (hy : OA op = nI y) (hy2 : y < ts) : df_X15_shut n (mR B ap tk st ts (op + 1) ft tv K P OA N, X) = some (mR B ap tk st (ts + 1) op ft tv (upd K ts (nI tk)) (upd (upd P y (nI ts)) ts (nI y)) OA (vp_updL N ts tv), X) := by
  have w1 : nI (op + 1) - nI 1 = nI op := by rw [pk_sub (by omega)]; rfl
  have w2 : nI (ts + 1) - nI 1 = nI ts := by rw [pk_sub (by omega)]; rfl
  have t := ta_1 n (B := B) (ap := ap) (tk := tk) (st := st) (ts := ts) (op := op) (ft := ft) (tv := tv) (K := K) (P := upd P y (nI ts)) (OA := OA) (N := N) (X := X) h
  simp (disch := (first | assumption | decide | omega)) only [df_X15_shut_0, df_X15_shut, mR_i1, mR_i2, mR_i3, mR_i4, mR_i5, mR_i6, mR_l, mR_r5, mR_r6, mR_r7, mR_q, mR_o, mR_i0, mR_r0, mR_wi1, mR_wi2, mR_wi3, mR_wi4, mR_wi5, mR_wi6, mR_wl, mR_wr5, mR_wr6, mR_wr7, mR_wq, w1, hy, t, w2, nm_uu, eq_self, Nat.reduceEqDiff, Nat.reduceLeDiff, nl_1, nl_4, nl_5, nl_6, nl_7, nl_10, nl_120, no_1, no_1024, pk_mul, nI_add, nm_ck, nI_clamp, nI_ltI, nI_leI, nI_eq, nb_b2, nb_b1, ↓nb_let, nm_z0, nm_z1, nb_II, nb_IR, nb_RI, nb_RR, nm_IL, nm_IQ, nm_RL, nm_RQ, nm_LI, nm_LR, nm_LL, nm_LQ, nm_QI, nm_QR, nm_QL, nm_QQ, nm_rr, nm_ii, nm_eqm, not_false_eq_true, pk_sub, nm_div, nm_shl, nm_shr, nm_ush, nm_or8, nm_or64, nm_or256, nm_m1, nm_m3, nm_m7, nm_m15, nm_m31, nm_m63, nm_m255, nm_m511, nm_m1023, nm_m2047, nm_m65535, Nat.reduceMod, Nat.reducePow, Nat.reduceAdd, Nat.reduceSub, Nat.reduceMul, nm_bo, nm_bi, nm_rc, nm_ic, nm_ri, nm_rl, nm_rq, nm_ql, nm_qi, nm_li, nm_us, nm_uu, nm_cp, nm_sa31, nm_sa7, nm_m127, nm_m2, nm_nz, nm_nzk, nm_eq32, nm_nzf, if_true, if_false, ↓reduceIte, if_pos, if_neg]
