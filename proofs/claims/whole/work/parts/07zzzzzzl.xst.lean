/-- both states while an expression is read: around uC, uR -/
def xC (B : St) (cs : Nat) (tp : Nat) (st : Nat) (ns : Nat) (fx : Bool) (C : Nat → Int32) (A : Nat → Int32) (S : Nat → Int32) (NM : Nat → Int32) (BK : Nat → Int32) : St := (fun j => if j = 5 then nI cs else if j = 6 then nI tp else if j = 7 then nI st else if j = 8 then nI ns else if j = 10 then bI fx else B.1 j, B.2.1, fun j => if j = 0 then C else if j = 1 then A else if j = 2 then S else if j = 3 then NM else if j = 4 then BK else B.2.2.1 j, B.2.2.2)
theorem xC_i5 {B : St} {cs : Nat} {tp : Nat} {st : Nat} {ns : Nat} {fx : Bool} {C : Nat → Int32} {A : Nat → Int32} {S : Nat → Int32} {NM : Nat → Int32} {BK : Nat → Int32} : sI (xC B cs tp st ns fx C A S NM BK) 5 = nI cs := rfl
theorem xC_u5 {B : St} {cs : Nat} {tp : Nat} {st : Nat} {ns : Nat} {fx : Bool} {C : Nat → Int32} {A : Nat → Int32} {S : Nat → Int32} {NM : Nat → Int32} {BK : Nat → Int32} {ap kd fr : Nat} {nm : Int32} : sI (uC (xC B cs tp st ns fx C A S NM BK) ap kd fr nm) 5 = nI cs := rfl
theorem xC_i6 {B : St} {cs : Nat} {tp : Nat} {st : Nat} {ns : Nat} {fx : Bool} {C : Nat → Int32} {A : Nat → Int32} {S : Nat → Int32} {NM : Nat → Int32} {BK : Nat → Int32} : sI (xC B cs tp st ns fx C A S NM BK) 6 = nI tp := rfl
theorem xC_u6 {B : St} {cs : Nat} {tp : Nat} {st : Nat} {ns : Nat} {fx : Bool} {C : Nat → Int32} {A : Nat → Int32} {S : Nat → Int32} {NM : Nat → Int32} {BK : Nat → Int32} {ap kd fr : Nat} {nm : Int32} : sI (uC (xC B cs tp st ns fx C A S NM BK) ap kd fr nm) 6 = nI tp := rfl
theorem xC_i7 {B : St} {cs : Nat} {tp : Nat} {st : Nat} {ns : Nat} {fx : Bool} {C : Nat → Int32} {A : Nat → Int32} {S : Nat → Int32} {NM : Nat → Int32} {BK : Nat → Int32} : sI (xC B cs tp st ns fx C A S NM BK) 7 = nI st := rfl
theorem xC_u7 {B : St} {cs : Nat} {tp : Nat} {st : Nat} {ns : Nat} {fx : Bool} {C : Nat → Int32} {A : Nat → Int32} {S : Nat → Int32} {NM : Nat → Int32} {BK : Nat → Int32} {ap kd fr : Nat} {nm : Int32} : sI (uC (xC B cs tp st ns fx C A S NM BK) ap kd fr nm) 7 = nI st := rfl
theorem xC_i8 {B : St} {cs : Nat} {tp : Nat} {st : Nat} {ns : Nat} {fx : Bool} {C : Nat → Int32} {A : Nat → Int32} {S : Nat → Int32} {NM : Nat → Int32} {BK : Nat → Int32} : sI (xC B cs tp st ns fx C A S NM BK) 8 = nI ns := rfl
theorem xC_u8 {B : St} {cs : Nat} {tp : Nat} {st : Nat} {ns : Nat} {fx : Bool} {C : Nat → Int32} {A : Nat → Int32} {S : Nat → Int32} {NM : Nat → Int32} {BK : Nat → Int32} {ap kd fr : Nat} {nm : Int32} : sI (uC (xC B cs tp st ns fx C A S NM BK) ap kd fr nm) 8 = nI ns := rfl
theorem xC_i10 {B : St} {cs : Nat} {tp : Nat} {st : Nat} {ns : Nat} {fx : Bool} {C : Nat → Int32} {A : Nat → Int32} {S : Nat → Int32} {NM : Nat → Int32} {BK : Nat → Int32} : sI (xC B cs tp st ns fx C A S NM BK) 10 = bI fx := rfl
theorem xC_u10 {B : St} {cs : Nat} {tp : Nat} {st : Nat} {ns : Nat} {fx : Bool} {C : Nat → Int32} {A : Nat → Int32} {S : Nat → Int32} {NM : Nat → Int32} {BK : Nat → Int32} {ap kd fr : Nat} {nm : Int32} : sI (uC (xC B cs tp st ns fx C A S NM BK) ap kd fr nm) 10 = bI fx := rfl
theorem xC_r0 {B : St} {cs : Nat} {tp : Nat} {st : Nat} {ns : Nat} {fx : Bool} {C : Nat → Int32} {A : Nat → Int32} {S : Nat → Int32} {NM : Nat → Int32} {BK : Nat → Int32} : sR (xC B cs tp st ns fx C A S NM BK) 0 = C := rfl
theorem xC_r1 {B : St} {cs : Nat} {tp : Nat} {st : Nat} {ns : Nat} {fx : Bool} {C : Nat → Int32} {A : Nat → Int32} {S : Nat → Int32} {NM : Nat → Int32} {BK : Nat → Int32} : sR (xC B cs tp st ns fx C A S NM BK) 1 = A := rfl
theorem xC_r2 {B : St} {cs : Nat} {tp : Nat} {st : Nat} {ns : Nat} {fx : Bool} {C : Nat → Int32} {A : Nat → Int32} {S : Nat → Int32} {NM : Nat → Int32} {BK : Nat → Int32} : sR (xC B cs tp st ns fx C A S NM BK) 2 = S := rfl
theorem xC_r3 {B : St} {cs : Nat} {tp : Nat} {st : Nat} {ns : Nat} {fx : Bool} {C : Nat → Int32} {A : Nat → Int32} {S : Nat → Int32} {NM : Nat → Int32} {BK : Nat → Int32} : sR (xC B cs tp st ns fx C A S NM BK) 3 = NM := rfl
theorem xC_r4 {B : St} {cs : Nat} {tp : Nat} {st : Nat} {ns : Nat} {fx : Bool} {C : Nat → Int32} {A : Nat → Int32} {S : Nat → Int32} {NM : Nat → Int32} {BK : Nat → Int32} : sR (xC B cs tp st ns fx C A S NM BK) 4 = BK := rfl
theorem xC_i1 {B : St} {cs : Nat} {tp : Nat} {st : Nat} {ns : Nat} {fx : Bool} {C : Nat → Int32} {A : Nat → Int32} {S : Nat → Int32} {NM : Nat → Int32} {BK : Nat → Int32} : sI (xC B cs tp st ns fx C A S NM BK) 1 = sI B 1 := rfl
theorem xC_u1 {B : St} {cs : Nat} {tp : Nat} {st : Nat} {ns : Nat} {fx : Bool} {C : Nat → Int32} {A : Nat → Int32} {S : Nat → Int32} {NM : Nat → Int32} {BK : Nat → Int32} {ap kd fr : Nat} {nm : Int32} : sI (uC (xC B cs tp st ns fx C A S NM BK) ap kd fr nm) 1 = sI B 1 := rfl
theorem xC_i9 {B : St} {cs : Nat} {tp : Nat} {st : Nat} {ns : Nat} {fx : Bool} {C : Nat → Int32} {A : Nat → Int32} {S : Nat → Int32} {NM : Nat → Int32} {BK : Nat → Int32} : sI (xC B cs tp st ns fx C A S NM BK) 9 = sI B 9 := rfl
theorem xC_u9 {B : St} {cs : Nat} {tp : Nat} {st : Nat} {ns : Nat} {fx : Bool} {C : Nat → Int32} {A : Nat → Int32} {S : Nat → Int32} {NM : Nat → Int32} {BK : Nat → Int32} {ap kd fr : Nat} {nm : Int32} : sI (uC (xC B cs tp st ns fx C A S NM BK) ap kd fr nm) 9 = sI B 9 := rfl
theorem xC_i11 {B : St} {cs : Nat} {tp : Nat} {st : Nat} {ns : Nat} {fx : Bool} {C : Nat → Int32} {A : Nat → Int32} {S : Nat → Int32} {NM : Nat → Int32} {BK : Nat → Int32} : sI (xC B cs tp st ns fx C A S NM BK) 11 = sI B 11 := rfl
theorem xC_u11 {B : St} {cs : Nat} {tp : Nat} {st : Nat} {ns : Nat} {fx : Bool} {C : Nat → Int32} {A : Nat → Int32} {S : Nat → Int32} {NM : Nat → Int32} {BK : Nat → Int32} {ap kd fr : Nat} {nm : Int32} : sI (uC (xC B cs tp st ns fx C A S NM BK) ap kd fr nm) 11 = sI B 11 := rfl
theorem xC_r5 {B : St} {cs : Nat} {tp : Nat} {st : Nat} {ns : Nat} {fx : Bool} {C : Nat → Int32} {A : Nat → Int32} {S : Nat → Int32} {NM : Nat → Int32} {BK : Nat → Int32} : sR (xC B cs tp st ns fx C A S NM BK) 5 = sR B 5 := rfl
theorem xC_r6 {B : St} {cs : Nat} {tp : Nat} {st : Nat} {ns : Nat} {fx : Bool} {C : Nat → Int32} {A : Nat → Int32} {S : Nat → Int32} {NM : Nat → Int32} {BK : Nat → Int32} : sR (xC B cs tp st ns fx C A S NM BK) 6 = sR B 6 := rfl
theorem xC_r7 {B : St} {cs : Nat} {tp : Nat} {st : Nat} {ns : Nat} {fx : Bool} {C : Nat → Int32} {A : Nat → Int32} {S : Nat → Int32} {NM : Nat → Int32} {BK : Nat → Int32} : sR (xC B cs tp st ns fx C A S NM BK) 7 = sR B 7 := rfl
theorem xC_o0 {B : St} {cs : Nat} {tp : Nat} {st : Nat} {ns : Nat} {fx : Bool} {C : Nat → Int32} {A : Nat → Int32} {S : Nat → Int32} {NM : Nat → Int32} {BK : Nat → Int32} : sO (xC B cs tp st ns fx C A S NM BK) 0 = sO B 0 := rfl
theorem xC_w5 {B : St} {cs : Nat} {tp : Nat} {st : Nat} {ns : Nat} {fx : Bool} {C : Nat → Int32} {A : Nat → Int32} {S : Nat → Int32} {NM : Nat → Int32} {BK : Nat → Int32} {ap kd fr : Nat} {nm : Int32} {v : Nat} : pI (uC (xC B cs tp st ns fx C A S NM BK) ap kd fr nm) 5 (nI v) = uC (xC B v tp st ns fx C A S NM BK) ap kd fr nm := Prod.ext (funext fun j => by
  show (if j = 5 then nI v else _) = _
  by_cases h : j = 5
  · subst h; rfl
  · unfold uC xC
    simp only [if_neg h]) rfl
theorem xC_w6 {B : St} {cs : Nat} {tp : Nat} {st : Nat} {ns : Nat} {fx : Bool} {C : Nat → Int32} {A : Nat → Int32} {S : Nat → Int32} {NM : Nat → Int32} {BK : Nat → Int32} {ap kd fr : Nat} {nm : Int32} {v : Nat} : pI (uC (xC B cs tp st ns fx C A S NM BK) ap kd fr nm) 6 (nI v) = uC (xC B cs v st ns fx C A S NM BK) ap kd fr nm := Prod.ext (funext fun j => by
  show (if j = 6 then nI v else _) = _
  by_cases h : j = 6
  · subst h; rfl
  · unfold uC xC
    simp only [if_neg h]) rfl
theorem xC_w7 {B : St} {cs : Nat} {tp : Nat} {st : Nat} {ns : Nat} {fx : Bool} {C : Nat → Int32} {A : Nat → Int32} {S : Nat → Int32} {NM : Nat → Int32} {BK : Nat → Int32} {ap kd fr : Nat} {nm : Int32} {v : Nat} : pI (uC (xC B cs tp st ns fx C A S NM BK) ap kd fr nm) 7 (nI v) = uC (xC B cs tp v ns fx C A S NM BK) ap kd fr nm := Prod.ext (funext fun j => by
  show (if j = 7 then nI v else _) = _
  by_cases h : j = 7
  · subst h; rfl
  · unfold uC xC
    simp only [if_neg h]) rfl
theorem xC_w8 {B : St} {cs : Nat} {tp : Nat} {st : Nat} {ns : Nat} {fx : Bool} {C : Nat → Int32} {A : Nat → Int32} {S : Nat → Int32} {NM : Nat → Int32} {BK : Nat → Int32} {ap kd fr : Nat} {nm : Int32} {v : Nat} : pI (uC (xC B cs tp st ns fx C A S NM BK) ap kd fr nm) 8 (nI v) = uC (xC B cs tp st v fx C A S NM BK) ap kd fr nm := Prod.ext (funext fun j => by
  show (if j = 8 then nI v else _) = _
  by_cases h : j = 8
  · subst h; rfl
  · unfold uC xC
    simp only [if_neg h]) rfl
theorem xC_w10 {B : St} {cs : Nat} {tp : Nat} {st : Nat} {ns : Nat} {fx : Bool} {C : Nat → Int32} {A : Nat → Int32} {S : Nat → Int32} {NM : Nat → Int32} {BK : Nat → Int32} {ap kd fr : Nat} {nm : Int32} {v : Bool} : pI (uC (xC B cs tp st ns fx C A S NM BK) ap kd fr nm) 10 (bI v) = uC (xC B cs tp st ns v C A S NM BK) ap kd fr nm := Prod.ext (funext fun j => by
  show (if j = 10 then bI v else _) = _
  by_cases h : j = 10
  · subst h; rfl
  · unfold uC xC
    simp only [if_neg h]) rfl
theorem xC_y0 {B : St} {cs : Nat} {tp : Nat} {st : Nat} {ns : Nat} {fx : Bool} {C : Nat → Int32} {A : Nat → Int32} {S : Nat → Int32} {NM : Nat → Int32} {BK : Nat → Int32} {ap kd fr : Nat} {nm : Int32} {v : Nat → Int32} : pR (uC (xC B cs tp st ns fx C A S NM BK) ap kd fr nm) 0 v = uC (xC B cs tp st ns fx v A S NM BK) ap kd fr nm := Prod.ext rfl (Prod.ext rfl (Prod.ext (funext fun j => by
  show (if j = 0 then v else _) = _
  by_cases h : j = 0
  · subst h; rfl
  · unfold uC xC
    simp only [if_neg h]) rfl))
theorem xC_y1 {B : St} {cs : Nat} {tp : Nat} {st : Nat} {ns : Nat} {fx : Bool} {C : Nat → Int32} {A : Nat → Int32} {S : Nat → Int32} {NM : Nat → Int32} {BK : Nat → Int32} {ap kd fr : Nat} {nm : Int32} {v : Nat → Int32} : pR (uC (xC B cs tp st ns fx C A S NM BK) ap kd fr nm) 1 v = uC (xC B cs tp st ns fx C v S NM BK) ap kd fr nm := Prod.ext rfl (Prod.ext rfl (Prod.ext (funext fun j => by
  show (if j = 1 then v else _) = _
  by_cases h : j = 1
  · subst h; rfl
  · unfold uC xC
    simp only [if_neg h]) rfl))
theorem xC_y2 {B : St} {cs : Nat} {tp : Nat} {st : Nat} {ns : Nat} {fx : Bool} {C : Nat → Int32} {A : Nat → Int32} {S : Nat → Int32} {NM : Nat → Int32} {BK : Nat → Int32} {ap kd fr : Nat} {nm : Int32} {v : Nat → Int32} : pR (uC (xC B cs tp st ns fx C A S NM BK) ap kd fr nm) 2 v = uC (xC B cs tp st ns fx C A v NM BK) ap kd fr nm := Prod.ext rfl (Prod.ext rfl (Prod.ext (funext fun j => by
  show (if j = 2 then v else _) = _
  by_cases h : j = 2
  · subst h; rfl
  · unfold uC xC
    simp only [if_neg h]) rfl))
theorem xC_y3 {B : St} {cs : Nat} {tp : Nat} {st : Nat} {ns : Nat} {fx : Bool} {C : Nat → Int32} {A : Nat → Int32} {S : Nat → Int32} {NM : Nat → Int32} {BK : Nat → Int32} {ap kd fr : Nat} {nm : Int32} {v : Nat → Int32} : pR (uC (xC B cs tp st ns fx C A S NM BK) ap kd fr nm) 3 v = uC (xC B cs tp st ns fx C A S v BK) ap kd fr nm := Prod.ext rfl (Prod.ext rfl (Prod.ext (funext fun j => by
  show (if j = 3 then v else _) = _
  by_cases h : j = 3
  · subst h; rfl
  · unfold uC xC
    simp only [if_neg h]) rfl))
theorem xC_y4 {B : St} {cs : Nat} {tp : Nat} {st : Nat} {ns : Nat} {fx : Bool} {C : Nat → Int32} {A : Nat → Int32} {S : Nat → Int32} {NM : Nat → Int32} {BK : Nat → Int32} {ap kd fr : Nat} {nm : Int32} {v : Nat → Int32} : pR (uC (xC B cs tp st ns fx C A S NM BK) ap kd fr nm) 4 v = uC (xC B cs tp st ns fx C A S NM v) ap kd fr nm := Prod.ext rfl (Prod.ext rfl (Prod.ext (funext fun j => by
  show (if j = 4 then v else _) = _
  by_cases h : j = 4
  · subst h; rfl
  · unfold uC xC
    simp only [if_neg h]) rfl))
def xR (B : St) (ft : Int32) (ms : Bool) (dv : Bool) (ls : Bool) (sg : Nat) (vl : Nat) (PL : Nat → Int32) : St := (fun j => if j = 12 then ft else if j = 21 then bI ms else if j = 22 then bI dv else if j = 23 then bI ls else if j = 24 then nI sg else if j = 25 then nI vl else B.1 j, B.2.1, fun j => if j = 8 then PL else B.2.2.1 j, B.2.2.2)
theorem xR_i12 {B : St} {ft : Int32} {ms : Bool} {dv : Bool} {ls : Bool} {sg : Nat} {vl : Nat} {PL : Nat → Int32} : sI (xR B ft ms dv ls sg vl PL) 12 = ft := rfl
theorem xR_u12 {B : St} {ft : Int32} {ms : Bool} {dv : Bool} {ls : Bool} {sg : Nat} {vl : Nat} {PL : Nat → Int32} {ap tk fr to : Nat} {nm : Int32} : sI (uR (xR B ft ms dv ls sg vl PL) ap tk fr to nm) 12 = ft := rfl
theorem xR_i21 {B : St} {ft : Int32} {ms : Bool} {dv : Bool} {ls : Bool} {sg : Nat} {vl : Nat} {PL : Nat → Int32} : sI (xR B ft ms dv ls sg vl PL) 21 = bI ms := rfl
theorem xR_u21 {B : St} {ft : Int32} {ms : Bool} {dv : Bool} {ls : Bool} {sg : Nat} {vl : Nat} {PL : Nat → Int32} {ap tk fr to : Nat} {nm : Int32} : sI (uR (xR B ft ms dv ls sg vl PL) ap tk fr to nm) 21 = bI ms := rfl
theorem xR_i22 {B : St} {ft : Int32} {ms : Bool} {dv : Bool} {ls : Bool} {sg : Nat} {vl : Nat} {PL : Nat → Int32} : sI (xR B ft ms dv ls sg vl PL) 22 = bI dv := rfl
theorem xR_u22 {B : St} {ft : Int32} {ms : Bool} {dv : Bool} {ls : Bool} {sg : Nat} {vl : Nat} {PL : Nat → Int32} {ap tk fr to : Nat} {nm : Int32} : sI (uR (xR B ft ms dv ls sg vl PL) ap tk fr to nm) 22 = bI dv := rfl
theorem xR_i23 {B : St} {ft : Int32} {ms : Bool} {dv : Bool} {ls : Bool} {sg : Nat} {vl : Nat} {PL : Nat → Int32} : sI (xR B ft ms dv ls sg vl PL) 23 = bI ls := rfl
theorem xR_u23 {B : St} {ft : Int32} {ms : Bool} {dv : Bool} {ls : Bool} {sg : Nat} {vl : Nat} {PL : Nat → Int32} {ap tk fr to : Nat} {nm : Int32} : sI (uR (xR B ft ms dv ls sg vl PL) ap tk fr to nm) 23 = bI ls := rfl
theorem xR_i24 {B : St} {ft : Int32} {ms : Bool} {dv : Bool} {ls : Bool} {sg : Nat} {vl : Nat} {PL : Nat → Int32} : sI (xR B ft ms dv ls sg vl PL) 24 = nI sg := rfl
theorem xR_u24 {B : St} {ft : Int32} {ms : Bool} {dv : Bool} {ls : Bool} {sg : Nat} {vl : Nat} {PL : Nat → Int32} {ap tk fr to : Nat} {nm : Int32} : sI (uR (xR B ft ms dv ls sg vl PL) ap tk fr to nm) 24 = nI sg := rfl
theorem xR_i25 {B : St} {ft : Int32} {ms : Bool} {dv : Bool} {ls : Bool} {sg : Nat} {vl : Nat} {PL : Nat → Int32} : sI (xR B ft ms dv ls sg vl PL) 25 = nI vl := rfl
theorem xR_u25 {B : St} {ft : Int32} {ms : Bool} {dv : Bool} {ls : Bool} {sg : Nat} {vl : Nat} {PL : Nat → Int32} {ap tk fr to : Nat} {nm : Int32} : sI (uR (xR B ft ms dv ls sg vl PL) ap tk fr to nm) 25 = nI vl := rfl
theorem xR_r8 {B : St} {ft : Int32} {ms : Bool} {dv : Bool} {ls : Bool} {sg : Nat} {vl : Nat} {PL : Nat → Int32} : sR (xR B ft ms dv ls sg vl PL) 8 = PL := rfl
theorem xR_i0 {B : St} {ft : Int32} {ms : Bool} {dv : Bool} {ls : Bool} {sg : Nat} {vl : Nat} {PL : Nat → Int32} : sI (xR B ft ms dv ls sg vl PL) 0 = sI B 0 := rfl
theorem xR_u0 {B : St} {ft : Int32} {ms : Bool} {dv : Bool} {ls : Bool} {sg : Nat} {vl : Nat} {PL : Nat → Int32} {ap tk fr to : Nat} {nm : Int32} : sI (uR (xR B ft ms dv ls sg vl PL) ap tk fr to nm) 0 = sI B 0 := rfl
theorem xR_i2 {B : St} {ft : Int32} {ms : Bool} {dv : Bool} {ls : Bool} {sg : Nat} {vl : Nat} {PL : Nat → Int32} : sI (xR B ft ms dv ls sg vl PL) 2 = sI B 2 := rfl
theorem xR_u2 {B : St} {ft : Int32} {ms : Bool} {dv : Bool} {ls : Bool} {sg : Nat} {vl : Nat} {PL : Nat → Int32} {ap tk fr to : Nat} {nm : Int32} : sI (uR (xR B ft ms dv ls sg vl PL) ap tk fr to nm) 2 = sI B 2 := rfl
theorem xR_i3 {B : St} {ft : Int32} {ms : Bool} {dv : Bool} {ls : Bool} {sg : Nat} {vl : Nat} {PL : Nat → Int32} : sI (xR B ft ms dv ls sg vl PL) 3 = sI B 3 := rfl
theorem xR_u3 {B : St} {ft : Int32} {ms : Bool} {dv : Bool} {ls : Bool} {sg : Nat} {vl : Nat} {PL : Nat → Int32} {ap tk fr to : Nat} {nm : Int32} : sI (uR (xR B ft ms dv ls sg vl PL) ap tk fr to nm) 3 = sI B 3 := rfl
theorem xR_i4 {B : St} {ft : Int32} {ms : Bool} {dv : Bool} {ls : Bool} {sg : Nat} {vl : Nat} {PL : Nat → Int32} : sI (xR B ft ms dv ls sg vl PL) 4 = sI B 4 := rfl
theorem xR_u4 {B : St} {ft : Int32} {ms : Bool} {dv : Bool} {ls : Bool} {sg : Nat} {vl : Nat} {PL : Nat → Int32} {ap tk fr to : Nat} {nm : Int32} : sI (uR (xR B ft ms dv ls sg vl PL) ap tk fr to nm) 4 = sI B 4 := rfl
theorem xR_i5 {B : St} {ft : Int32} {ms : Bool} {dv : Bool} {ls : Bool} {sg : Nat} {vl : Nat} {PL : Nat → Int32} : sI (xR B ft ms dv ls sg vl PL) 5 = sI B 5 := rfl
theorem xR_u5 {B : St} {ft : Int32} {ms : Bool} {dv : Bool} {ls : Bool} {sg : Nat} {vl : Nat} {PL : Nat → Int32} {ap tk fr to : Nat} {nm : Int32} : sI (uR (xR B ft ms dv ls sg vl PL) ap tk fr to nm) 5 = sI B 5 := rfl
theorem xR_i13 {B : St} {ft : Int32} {ms : Bool} {dv : Bool} {ls : Bool} {sg : Nat} {vl : Nat} {PL : Nat → Int32} : sI (xR B ft ms dv ls sg vl PL) 13 = sI B 13 := rfl
theorem xR_u13 {B : St} {ft : Int32} {ms : Bool} {dv : Bool} {ls : Bool} {sg : Nat} {vl : Nat} {PL : Nat → Int32} {ap tk fr to : Nat} {nm : Int32} : sI (uR (xR B ft ms dv ls sg vl PL) ap tk fr to nm) 13 = sI B 13 := rfl
theorem xR_i14 {B : St} {ft : Int32} {ms : Bool} {dv : Bool} {ls : Bool} {sg : Nat} {vl : Nat} {PL : Nat → Int32} : sI (xR B ft ms dv ls sg vl PL) 14 = sI B 14 := rfl
theorem xR_u14 {B : St} {ft : Int32} {ms : Bool} {dv : Bool} {ls : Bool} {sg : Nat} {vl : Nat} {PL : Nat → Int32} {ap tk fr to : Nat} {nm : Int32} : sI (uR (xR B ft ms dv ls sg vl PL) ap tk fr to nm) 14 = sI B 14 := rfl
theorem xR_i15 {B : St} {ft : Int32} {ms : Bool} {dv : Bool} {ls : Bool} {sg : Nat} {vl : Nat} {PL : Nat → Int32} : sI (xR B ft ms dv ls sg vl PL) 15 = sI B 15 := rfl
theorem xR_u15 {B : St} {ft : Int32} {ms : Bool} {dv : Bool} {ls : Bool} {sg : Nat} {vl : Nat} {PL : Nat → Int32} {ap tk fr to : Nat} {nm : Int32} : sI (uR (xR B ft ms dv ls sg vl PL) ap tk fr to nm) 15 = sI B 15 := rfl
theorem xR_i16 {B : St} {ft : Int32} {ms : Bool} {dv : Bool} {ls : Bool} {sg : Nat} {vl : Nat} {PL : Nat → Int32} : sI (xR B ft ms dv ls sg vl PL) 16 = sI B 16 := rfl
theorem xR_u16 {B : St} {ft : Int32} {ms : Bool} {dv : Bool} {ls : Bool} {sg : Nat} {vl : Nat} {PL : Nat → Int32} {ap tk fr to : Nat} {nm : Int32} : sI (uR (xR B ft ms dv ls sg vl PL) ap tk fr to nm) 16 = sI B 16 := rfl
theorem xR_i17 {B : St} {ft : Int32} {ms : Bool} {dv : Bool} {ls : Bool} {sg : Nat} {vl : Nat} {PL : Nat → Int32} : sI (xR B ft ms dv ls sg vl PL) 17 = sI B 17 := rfl
theorem xR_u17 {B : St} {ft : Int32} {ms : Bool} {dv : Bool} {ls : Bool} {sg : Nat} {vl : Nat} {PL : Nat → Int32} {ap tk fr to : Nat} {nm : Int32} : sI (uR (xR B ft ms dv ls sg vl PL) ap tk fr to nm) 17 = sI B 17 := rfl
theorem xR_i18 {B : St} {ft : Int32} {ms : Bool} {dv : Bool} {ls : Bool} {sg : Nat} {vl : Nat} {PL : Nat → Int32} : sI (xR B ft ms dv ls sg vl PL) 18 = sI B 18 := rfl
theorem xR_u18 {B : St} {ft : Int32} {ms : Bool} {dv : Bool} {ls : Bool} {sg : Nat} {vl : Nat} {PL : Nat → Int32} {ap tk fr to : Nat} {nm : Int32} : sI (uR (xR B ft ms dv ls sg vl PL) ap tk fr to nm) 18 = sI B 18 := rfl
theorem xR_i19 {B : St} {ft : Int32} {ms : Bool} {dv : Bool} {ls : Bool} {sg : Nat} {vl : Nat} {PL : Nat → Int32} : sI (xR B ft ms dv ls sg vl PL) 19 = sI B 19 := rfl
theorem xR_u19 {B : St} {ft : Int32} {ms : Bool} {dv : Bool} {ls : Bool} {sg : Nat} {vl : Nat} {PL : Nat → Int32} {ap tk fr to : Nat} {nm : Int32} : sI (uR (xR B ft ms dv ls sg vl PL) ap tk fr to nm) 19 = sI B 19 := rfl
theorem xR_i20 {B : St} {ft : Int32} {ms : Bool} {dv : Bool} {ls : Bool} {sg : Nat} {vl : Nat} {PL : Nat → Int32} : sI (xR B ft ms dv ls sg vl PL) 20 = sI B 20 := rfl
theorem xR_u20 {B : St} {ft : Int32} {ms : Bool} {dv : Bool} {ls : Bool} {sg : Nat} {vl : Nat} {PL : Nat → Int32} {ap tk fr to : Nat} {nm : Int32} : sI (uR (xR B ft ms dv ls sg vl PL) ap tk fr to nm) 20 = sI B 20 := rfl
theorem xR_r0 {B : St} {ft : Int32} {ms : Bool} {dv : Bool} {ls : Bool} {sg : Nat} {vl : Nat} {PL : Nat → Int32} : sR (xR B ft ms dv ls sg vl PL) 0 = sR B 0 := rfl
theorem xR_r1 {B : St} {ft : Int32} {ms : Bool} {dv : Bool} {ls : Bool} {sg : Nat} {vl : Nat} {PL : Nat → Int32} : sR (xR B ft ms dv ls sg vl PL) 1 = sR B 1 := rfl
theorem xR_r2 {B : St} {ft : Int32} {ms : Bool} {dv : Bool} {ls : Bool} {sg : Nat} {vl : Nat} {PL : Nat → Int32} : sR (xR B ft ms dv ls sg vl PL) 2 = sR B 2 := rfl
theorem xR_r3 {B : St} {ft : Int32} {ms : Bool} {dv : Bool} {ls : Bool} {sg : Nat} {vl : Nat} {PL : Nat → Int32} : sR (xR B ft ms dv ls sg vl PL) 3 = sR B 3 := rfl
theorem xR_r4 {B : St} {ft : Int32} {ms : Bool} {dv : Bool} {ls : Bool} {sg : Nat} {vl : Nat} {PL : Nat → Int32} : sR (xR B ft ms dv ls sg vl PL) 4 = sR B 4 := rfl
theorem xR_r5 {B : St} {ft : Int32} {ms : Bool} {dv : Bool} {ls : Bool} {sg : Nat} {vl : Nat} {PL : Nat → Int32} : sR (xR B ft ms dv ls sg vl PL) 5 = sR B 5 := rfl
theorem xR_r6 {B : St} {ft : Int32} {ms : Bool} {dv : Bool} {ls : Bool} {sg : Nat} {vl : Nat} {PL : Nat → Int32} : sR (xR B ft ms dv ls sg vl PL) 6 = sR B 6 := rfl
theorem xR_r7 {B : St} {ft : Int32} {ms : Bool} {dv : Bool} {ls : Bool} {sg : Nat} {vl : Nat} {PL : Nat → Int32} : sR (xR B ft ms dv ls sg vl PL) 7 = sR B 7 := rfl
theorem xR_r9 {B : St} {ft : Int32} {ms : Bool} {dv : Bool} {ls : Bool} {sg : Nat} {vl : Nat} {PL : Nat → Int32} : sR (xR B ft ms dv ls sg vl PL) 9 = sR B 9 := rfl
theorem xR_w12 {B : St} {ft : Int32} {ms : Bool} {dv : Bool} {ls : Bool} {sg : Nat} {vl : Nat} {PL : Nat → Int32} {ap tk fr to : Nat} {nm : Int32} {v : Int32} : pI (uR (xR B ft ms dv ls sg vl PL) ap tk fr to nm) 12 (v) = uR (xR B v ms dv ls sg vl PL) ap tk fr to nm := Prod.ext (funext fun j => by
  show (if j = 12 then v else _) = _
  by_cases h : j = 12
  · subst h; rfl
  · unfold uR xR
    simp only [if_neg h]) rfl
theorem xR_w21 {B : St} {ft : Int32} {ms : Bool} {dv : Bool} {ls : Bool} {sg : Nat} {vl : Nat} {PL : Nat → Int32} {ap tk fr to : Nat} {nm : Int32} {v : Bool} : pI (uR (xR B ft ms dv ls sg vl PL) ap tk fr to nm) 21 (bI v) = uR (xR B ft v dv ls sg vl PL) ap tk fr to nm := Prod.ext (funext fun j => by
  show (if j = 21 then bI v else _) = _
  by_cases h : j = 21
  · subst h; rfl
  · unfold uR xR
    simp only [if_neg h]) rfl
theorem xR_w22 {B : St} {ft : Int32} {ms : Bool} {dv : Bool} {ls : Bool} {sg : Nat} {vl : Nat} {PL : Nat → Int32} {ap tk fr to : Nat} {nm : Int32} {v : Bool} : pI (uR (xR B ft ms dv ls sg vl PL) ap tk fr to nm) 22 (bI v) = uR (xR B ft ms v ls sg vl PL) ap tk fr to nm := Prod.ext (funext fun j => by
  show (if j = 22 then bI v else _) = _
  by_cases h : j = 22
  · subst h; rfl
  · unfold uR xR
    simp only [if_neg h]) rfl
theorem xR_w23 {B : St} {ft : Int32} {ms : Bool} {dv : Bool} {ls : Bool} {sg : Nat} {vl : Nat} {PL : Nat → Int32} {ap tk fr to : Nat} {nm : Int32} {v : Bool} : pI (uR (xR B ft ms dv ls sg vl PL) ap tk fr to nm) 23 (bI v) = uR (xR B ft ms dv v sg vl PL) ap tk fr to nm := Prod.ext (funext fun j => by
  show (if j = 23 then bI v else _) = _
  by_cases h : j = 23
  · subst h; rfl
  · unfold uR xR
    simp only [if_neg h]) rfl
theorem xR_w24 {B : St} {ft : Int32} {ms : Bool} {dv : Bool} {ls : Bool} {sg : Nat} {vl : Nat} {PL : Nat → Int32} {ap tk fr to : Nat} {nm : Int32} {v : Nat} : pI (uR (xR B ft ms dv ls sg vl PL) ap tk fr to nm) 24 (nI v) = uR (xR B ft ms dv ls v vl PL) ap tk fr to nm := Prod.ext (funext fun j => by
  show (if j = 24 then nI v else _) = _
  by_cases h : j = 24
  · subst h; rfl
  · unfold uR xR
    simp only [if_neg h]) rfl
theorem xR_w25 {B : St} {ft : Int32} {ms : Bool} {dv : Bool} {ls : Bool} {sg : Nat} {vl : Nat} {PL : Nat → Int32} {ap tk fr to : Nat} {nm : Int32} {v : Nat} : pI (uR (xR B ft ms dv ls sg vl PL) ap tk fr to nm) 25 (nI v) = uR (xR B ft ms dv ls sg v PL) ap tk fr to nm := Prod.ext (funext fun j => by
  show (if j = 25 then nI v else _) = _
  by_cases h : j = 25
  · subst h; rfl
  · unfold uR xR
    simp only [if_neg h]) rfl
theorem xR_y8 {B : St} {ft : Int32} {ms : Bool} {dv : Bool} {ls : Bool} {sg : Nat} {vl : Nat} {PL : Nat → Int32} {ap tk fr to : Nat} {nm : Int32} {v : Nat → Int32} : pR (uR (xR B ft ms dv ls sg vl PL) ap tk fr to nm) 8 v = uR (xR B ft ms dv ls sg vl v) ap tk fr to nm := Prod.ext rfl (Prod.ext rfl (Prod.ext (funext fun j => by
  show (if j = 8 then v else _) = _
  by_cases h : j = 8
  · subst h; rfl
  · unfold uR xR
    simp only [if_neg h]) rfl))
theorem uC_i5 {B : St} {ap kd fr : Nat} {nm : Int32} : sI (uC B ap kd fr nm) 5 = sI B 5 := rfl
theorem uC_i6 {B : St} {ap kd fr : Nat} {nm : Int32} : sI (uC B ap kd fr nm) 6 = sI B 6 := rfl
theorem uC_i7 {B : St} {ap kd fr : Nat} {nm : Int32} : sI (uC B ap kd fr nm) 7 = sI B 7 := rfl
theorem uC_i8 {B : St} {ap kd fr : Nat} {nm : Int32} : sI (uC B ap kd fr nm) 8 = sI B 8 := rfl
theorem uC_i9 {B : St} {ap kd fr : Nat} {nm : Int32} : sI (uC B ap kd fr nm) 9 = sI B 9 := rfl
theorem uC_i10 {B : St} {ap kd fr : Nat} {nm : Int32} : sI (uC B ap kd fr nm) 10 = sI B 10 := rfl
theorem uC_i11 {B : St} {ap kd fr : Nat} {nm : Int32} : sI (uC B ap kd fr nm) 11 = sI B 11 := rfl
theorem uR_i2 {B : St} {ap tk fr to : Nat} {nm : Int32} : sI (uR B ap tk fr to nm) 2 = sI B 2 := rfl
theorem uR_i3 {B : St} {ap tk fr to : Nat} {nm : Int32} : sI (uR B ap tk fr to nm) 3 = sI B 3 := rfl
theorem uR_i4 {B : St} {ap tk fr to : Nat} {nm : Int32} : sI (uR B ap tk fr to nm) 4 = sI B 4 := rfl
theorem uR_i5 {B : St} {ap tk fr to : Nat} {nm : Int32} : sI (uR B ap tk fr to nm) 5 = sI B 5 := rfl
theorem uR_i12 {B : St} {ap tk fr to : Nat} {nm : Int32} : sI (uR B ap tk fr to nm) 12 = sI B 12 := rfl
theorem uR_i13 {B : St} {ap tk fr to : Nat} {nm : Int32} : sI (uR B ap tk fr to nm) 13 = sI B 13 := rfl
theorem uR_i14 {B : St} {ap tk fr to : Nat} {nm : Int32} : sI (uR B ap tk fr to nm) 14 = sI B 14 := rfl
theorem uR_i15 {B : St} {ap tk fr to : Nat} {nm : Int32} : sI (uR B ap tk fr to nm) 15 = sI B 15 := rfl
theorem uR_i16 {B : St} {ap tk fr to : Nat} {nm : Int32} : sI (uR B ap tk fr to nm) 16 = sI B 16 := rfl
theorem uR_i17 {B : St} {ap tk fr to : Nat} {nm : Int32} : sI (uR B ap tk fr to nm) 17 = sI B 17 := rfl
theorem uR_i18 {B : St} {ap tk fr to : Nat} {nm : Int32} : sI (uR B ap tk fr to nm) 18 = sI B 18 := rfl
theorem uR_i19 {B : St} {ap tk fr to : Nat} {nm : Int32} : sI (uR B ap tk fr to nm) 19 = sI B 19 := rfl
theorem uR_i20 {B : St} {ap tk fr to : Nat} {nm : Int32} : sI (uR B ap tk fr to nm) 20 = sI B 20 := rfl
theorem uR_i21 {B : St} {ap tk fr to : Nat} {nm : Int32} : sI (uR B ap tk fr to nm) 21 = sI B 21 := rfl
theorem uR_i22 {B : St} {ap tk fr to : Nat} {nm : Int32} : sI (uR B ap tk fr to nm) 22 = sI B 22 := rfl
theorem uR_i23 {B : St} {ap tk fr to : Nat} {nm : Int32} : sI (uR B ap tk fr to nm) 23 = sI B 23 := rfl
theorem uR_i24 {B : St} {ap tk fr to : Nat} {nm : Int32} : sI (uR B ap tk fr to nm) 24 = sI B 24 := rfl
theorem uR_i25 {B : St} {ap tk fr to : Nat} {nm : Int32} : sI (uR B ap tk fr to nm) 25 = sI B 25 := rfl
theorem at_C {n L e : Nat} {c : Nat → Nat} {B : St} {cs tp st ns : Nat} {fx : Bool} {C A S NM BK : Nat → Int32} {BR : St} (h : atx n L e c B BR) : atx n L e c (xC B cs tp st ns fx C A S NM BK) BR := h
theorem at_R {n L e : Nat} {c : Nat → Nat} {BC : St} {B : St} {ft : Int32} {ms dv ls : Bool} {sg vl : Nat} {PL : Nat → Int32} (h : atx n L e c BC B) : atx n L e c BC (xR B ft ms dv ls sg vl PL) := h
theorem sgA_l {v : Nat} (h : sgA v = true) : 37 ≤ v ∧ v ≤ 126 := by
  have h := of_decide_eq_true h
  omega
theorem tkK_b {c : Nat → Nat} {e q p' κ τ v : Nat} (h : tkK c e q p' κ τ v) (z : κ = 2 ∨ κ = 3 ∨ κ = 5) : v < 2 ^ 32 := by
  rcases h with y | y | y | y | y | y | y
  · omega
  · omega
  · omega
  · have := aD_v.mp y.2.2.2.1
    omega
  · omega
  · rcases y.2.2 with w | w | w
    · omega
    · omega
    · have := sgA_l w.1
      omega
  · omega
/-- a token, the same for every state of the reference -/
theorem tok2 {n L e : Nat} {c : Nat → Nat} {BC : St} (p : Nat) (hp : p ≤ e) (hl : ∀ i : Nat, p ≤ i → i < e → ¬ c i = 10) {BR0 : St} (hT0 : atx n L e c BC BR0) : ∃ p' κ τ v : Nat, qT c e p ≤ p' ∧ p' ≤ e ∧ (¬ κ = 0 → qT c e p < e ∧ qT c e p < p') ∧ tkK c e (qT c e p) p' κ τ v ∧ ∀ BR : St, atx n L e c BC BR → tkJ n p (qT c e p) p' κ τ v BC BR := by
  obtain ⟨q, p', κ, τ, v, h1, h2, h3, h4, h5, h6, h7⟩ := tok_all hT0 p hp hl
  subst h2
  refine ⟨p', κ, τ, v, h3, h4, h5, h7, fun BR hT => ?_⟩
  obtain ⟨q, p2, κ2, τ2, v2, g1, g2, g3, g4, g5, g6, g7⟩ := tok_all hT p hp hl
  subst g2
  obtain ⟨hn, hL, heL, _⟩ := id hT
  obtain ⟨x, ex, vx⟩ := h6.1 0 0 0
  obtain ⟨y, ey, vy⟩ := g6.1 0 0 0
  rw [ex] at ey
  have ey := Option.some.inj ey
  have q1 : nI p' = nI p2 := congrArg (fun s => sI s 0) ey
  have q2 : nI κ = nI κ2 := congrArg (fun s => sI s 2) ey
  have q4 : x = y := congrArg (fun s => sI s 4) ey
  have k1 : κ ≤ 6 := by unfold tkK at h7; omega
  have k2 : κ2 ≤ 6 := by unfold tkK at g7; omega
  rw [nI_eq (by omega) (by omega)] at q1 q2
  subst q1; subst q2; subst q4
  have vb : κ = 2 ∨ κ = 3 ∨ κ = 5 → v = v2 := fun z => by
    have e := (vx z).symm.trans (vy z)
    have b1 : v < 2 ^ 32 := tkK_b h7 z
    have b2 : v2 < 2 ^ 32 := tkK_b g7 z
    rw [nm_eq32 b1 b2] at e
    exact e
  have tt : τ = τ2 := by
    unfold tkK at h7 g7
    by_cases z : κ = 5
    · have := vb (Or.inr (Or.inr z))
      subst this
      have A : sgA 256 = false := rfl
      have B : sgA 257 = false := rfl
      rcases h7 with y | y | y | y | y | y | y
      iterate 5 omega
      · rcases g7 with w | w | w | w | w | w | w
        iterate 5 omega
        · obtain ⟨_, _, y⟩ := y
          obtain ⟨_, _, w⟩ := w
          rcases y with y | y | y <;> rcases w with w | w | w
          · omega
          · omega
          · rw [y.1, A] at w; exact absurd w.1 (by decide)
          · omega
          · omega
          · rw [y.1, B] at w; exact absurd w.1 (by decide)
          · rw [w.1, A] at y; exact absurd y.1 (by decide)
          · rw [w.1, B] at y; exact absurd y.1 (by decide)
          · omega
        · omega
      · omega
    · omega
  subst tt
  refine ⟨fun kd fr nm => ?_, fun tk fr to nm => ?_⟩
  · obtain ⟨x, ex, vx⟩ := h6.1 kd fr nm
    exact ⟨x, ex, vx⟩
  · obtain ⟨x, p3, ex, hp3, vx⟩ := g6.2 tk fr to nm
    refine ⟨x, p3, ex, hp3, fun z => ?_⟩
    rw [vx z, vb (by unfold tkK at h7; omega)]
