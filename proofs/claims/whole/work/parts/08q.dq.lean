theorem dq_u1 {c : ByteArray} {pc : Nat} {b : UInt8} (h : c.data.toList[pc]? = some b) : (Jvm.ClassFile.Reader.u1 : Jvm.ClassFile.Decoder Nat) c pc = .ok (b.toNat, pc + 1) := by
  obtain ⟨h1, h2⟩ := List.getElem?_eq_some_iff.mp h
  have hs : pc < c.size := by
    show pc < c.data.size
    rw [← Array.length_toList]
    exact h1
  have hv : c[pc] = b := by
    rw [← h2]
    rfl
  show (dite (pc < c.size) (fun _ => (do set (pc + 1); pure c[pc].toNat : Jvm.ClassFile.Decoder Nat)) (fun _ => throw (Jvm.ClassFile.HasTruncated.truncated pc))) c pc = _
  rw [dif_pos hs]
  show Except.ok (c[pc].toNat, pc + 1) = _
  rw [hv]
theorem dq_u2 {c : ByteArray} {pc : Nat} {a b : UInt8} (h : c.data.toList[pc]? = some a) (g : c.data.toList[pc + 1]? = some b) : (Jvm.ClassFile.Reader.u2 : Jvm.ClassFile.Decoder Nat) c pc = .ok (a.toNat * 256 + b.toNat, pc + 1 + 1) := by
  show Except.bind ((Jvm.ClassFile.Reader.u1 : Jvm.ClassFile.Decoder Nat) c pc) _ = _
  rw [dq_u1 h]
  show Except.bind ((Jvm.ClassFile.Reader.u1 : Jvm.ClassFile.Decoder Nat) c (pc + 1)) _ = _
  rw [dq_u1 g]
  rfl
theorem dq_b {l D : List UInt8} {m j : Nat} {b : UInt8} (h : l.drop m = D) (e : D[j]? = some b) : l[m + j]? = some b := by
  rw [← List.getElem?_drop, h]
  exact e
theorem dq_n {l s D : List UInt8} {m : Nat} (k : Nat) (h : l.drop m = s ++ D) (hk : s.length = k) : l.drop (m + k) = D := by
  rw [← List.drop_drop, h, ← hk]
  exact List.drop_left
theorem dq_0 {c : ByteArray} {pc : Nat} (h0 : c.data.toList[pc]? = some 0) : decode c pc = .ok (.nop, pc + 1 - pc) := by
  show Except.bind (Except.bind ((Jvm.ClassFile.Reader.u1 : Jvm.ClassFile.Decoder Nat) c pc) _) _ = _
  rw [dq_u1 h0]
  rfl
theorem dq_1 {c : ByteArray} {pc : Nat} (h0 : c.data.toList[pc]? = some 1) : decode c pc = .ok (.aconst_null, pc + 1 - pc) := by
  show Except.bind (Except.bind ((Jvm.ClassFile.Reader.u1 : Jvm.ClassFile.Decoder Nat) c pc) _) _ = _
  rw [dq_u1 h0]
  rfl
theorem dq_2 {c : ByteArray} {pc : Nat} (h0 : c.data.toList[pc]? = some 2) : decode c pc = .ok (.iconst (-1), pc + 1 - pc) := by
  show Except.bind (Except.bind ((Jvm.ClassFile.Reader.u1 : Jvm.ClassFile.Decoder Nat) c pc) _) _ = _
  rw [dq_u1 h0]
  rfl
theorem dq_3 {c : ByteArray} {pc : Nat} (h0 : c.data.toList[pc]? = some 3) : decode c pc = .ok (.iconst 0, pc + 1 - pc) := by
  show Except.bind (Except.bind ((Jvm.ClassFile.Reader.u1 : Jvm.ClassFile.Decoder Nat) c pc) _) _ = _
  rw [dq_u1 h0]
  rfl
theorem dq_4 {c : ByteArray} {pc : Nat} (h0 : c.data.toList[pc]? = some 4) : decode c pc = .ok (.iconst 1, pc + 1 - pc) := by
  show Except.bind (Except.bind ((Jvm.ClassFile.Reader.u1 : Jvm.ClassFile.Decoder Nat) c pc) _) _ = _
  rw [dq_u1 h0]
  rfl
theorem dq_5 {c : ByteArray} {pc : Nat} (h0 : c.data.toList[pc]? = some 5) : decode c pc = .ok (.iconst 2, pc + 1 - pc) := by
  show Except.bind (Except.bind ((Jvm.ClassFile.Reader.u1 : Jvm.ClassFile.Decoder Nat) c pc) _) _ = _
  rw [dq_u1 h0]
  rfl
theorem dq_6 {c : ByteArray} {pc : Nat} (h0 : c.data.toList[pc]? = some 6) : decode c pc = .ok (.iconst 3, pc + 1 - pc) := by
  show Except.bind (Except.bind ((Jvm.ClassFile.Reader.u1 : Jvm.ClassFile.Decoder Nat) c pc) _) _ = _
  rw [dq_u1 h0]
  rfl
theorem dq_7 {c : ByteArray} {pc : Nat} (h0 : c.data.toList[pc]? = some 7) : decode c pc = .ok (.iconst 4, pc + 1 - pc) := by
  show Except.bind (Except.bind ((Jvm.ClassFile.Reader.u1 : Jvm.ClassFile.Decoder Nat) c pc) _) _ = _
  rw [dq_u1 h0]
  rfl
theorem dq_8 {c : ByteArray} {pc : Nat} (h0 : c.data.toList[pc]? = some 8) : decode c pc = .ok (.iconst 5, pc + 1 - pc) := by
  show Except.bind (Except.bind ((Jvm.ClassFile.Reader.u1 : Jvm.ClassFile.Decoder Nat) c pc) _) _ = _
  rw [dq_u1 h0]
  rfl
theorem dq_9 {c : ByteArray} {pc : Nat} (h0 : c.data.toList[pc]? = some 9) : decode c pc = .ok (.lconst 0, pc + 1 - pc) := by
  show Except.bind (Except.bind ((Jvm.ClassFile.Reader.u1 : Jvm.ClassFile.Decoder Nat) c pc) _) _ = _
  rw [dq_u1 h0]
  rfl
theorem dq_10 {c : ByteArray} {pc : Nat} (h0 : c.data.toList[pc]? = some 10) : decode c pc = .ok (.lconst 1, pc + 1 - pc) := by
  show Except.bind (Except.bind ((Jvm.ClassFile.Reader.u1 : Jvm.ClassFile.Decoder Nat) c pc) _) _ = _
  rw [dq_u1 h0]
  rfl
theorem dq_11 {c : ByteArray} {pc : Nat} (h0 : c.data.toList[pc]? = some 11) : decode c pc = .ok (.fconst 0, pc + 1 - pc) := by
  show Except.bind (Except.bind ((Jvm.ClassFile.Reader.u1 : Jvm.ClassFile.Decoder Nat) c pc) _) _ = _
  rw [dq_u1 h0]
  rfl
theorem dq_12 {c : ByteArray} {pc : Nat} (h0 : c.data.toList[pc]? = some 12) : decode c pc = .ok (.fconst 1, pc + 1 - pc) := by
  show Except.bind (Except.bind ((Jvm.ClassFile.Reader.u1 : Jvm.ClassFile.Decoder Nat) c pc) _) _ = _
  rw [dq_u1 h0]
  rfl
theorem dq_13 {c : ByteArray} {pc : Nat} (h0 : c.data.toList[pc]? = some 13) : decode c pc = .ok (.fconst 2, pc + 1 - pc) := by
  show Except.bind (Except.bind ((Jvm.ClassFile.Reader.u1 : Jvm.ClassFile.Decoder Nat) c pc) _) _ = _
  rw [dq_u1 h0]
  rfl
theorem dq_14 {c : ByteArray} {pc : Nat} (h0 : c.data.toList[pc]? = some 14) : decode c pc = .ok (.dconst 0, pc + 1 - pc) := by
  show Except.bind (Except.bind ((Jvm.ClassFile.Reader.u1 : Jvm.ClassFile.Decoder Nat) c pc) _) _ = _
  rw [dq_u1 h0]
  rfl
theorem dq_15 {c : ByteArray} {pc : Nat} (h0 : c.data.toList[pc]? = some 15) : decode c pc = .ok (.dconst 1, pc + 1 - pc) := by
  show Except.bind (Except.bind ((Jvm.ClassFile.Reader.u1 : Jvm.ClassFile.Decoder Nat) c pc) _) _ = _
  rw [dq_u1 h0]
  rfl
theorem dq_16 {c : ByteArray} {pc : Nat} {a : UInt8} (h0 : c.data.toList[pc]? = some 16) (h1 : c.data.toList[pc + 1]? = some a) : decode c pc = .ok (.bipush (Jvm.ClassFile.Reader.signed 8 a.toNat), pc + 1 + 1 - pc) := by
  show Except.bind (Except.bind ((Jvm.ClassFile.Reader.u1 : Jvm.ClassFile.Decoder Nat) c pc) _) _ = _
  rw [dq_u1 h0]
  show Except.bind (Except.bind (Except.bind ((Jvm.ClassFile.Reader.u1 : Jvm.ClassFile.Decoder Nat) c (pc + 1)) _) _) _ = _
  rw [dq_u1 h1]
  rfl
theorem dq_17 {c : ByteArray} {pc : Nat} {a b : UInt8} {v : Int} (h0 : c.data.toList[pc]? = some 17) (h1 : c.data.toList[pc + 1]? = some a) (h2 : c.data.toList[pc + 1 + 1]? = some b) (hv : (Jvm.ClassFile.Reader.signed 16 (a.toNat * 256 + b.toNat)) = v) : decode c pc = .ok (.sipush v, pc + 1 + 1 + 1 - pc) := by
  subst hv
  show Except.bind (Except.bind ((Jvm.ClassFile.Reader.u1 : Jvm.ClassFile.Decoder Nat) c pc) _) _ = _
  rw [dq_u1 h0]
  show Except.bind (Except.bind (Except.bind ((Jvm.ClassFile.Reader.u2 : Jvm.ClassFile.Decoder Nat) c (pc + 1)) _) _) _ = _
  rw [dq_u2 h1 h2]
  rfl
theorem dq_18 {c : ByteArray} {pc : Nat} {a : UInt8} (h0 : c.data.toList[pc]? = some 18) (h1 : c.data.toList[pc + 1]? = some a) : decode c pc = .ok (.ldc a.toNat, pc + 1 + 1 - pc) := by
  show Except.bind (Except.bind ((Jvm.ClassFile.Reader.u1 : Jvm.ClassFile.Decoder Nat) c pc) _) _ = _
  rw [dq_u1 h0]
  show Except.bind (Except.bind ((Jvm.ClassFile.Reader.u1 : Jvm.ClassFile.Decoder Nat) c (pc + 1)) _) _ = _
  rw [dq_u1 h1]
  rfl
theorem dq_19 {c : ByteArray} {pc : Nat} {a b : UInt8} (h0 : c.data.toList[pc]? = some 19) (h1 : c.data.toList[pc + 1]? = some a) (h2 : c.data.toList[pc + 1 + 1]? = some b) : decode c pc = .ok (.ldc_w (a.toNat * 256 + b.toNat), pc + 1 + 1 + 1 - pc) := by
  show Except.bind (Except.bind ((Jvm.ClassFile.Reader.u1 : Jvm.ClassFile.Decoder Nat) c pc) _) _ = _
  rw [dq_u1 h0]
  show Except.bind (Except.bind ((Jvm.ClassFile.Reader.u2 : Jvm.ClassFile.Decoder Nat) c (pc + 1)) _) _ = _
  rw [dq_u2 h1 h2]
  rfl
theorem dq_20 {c : ByteArray} {pc : Nat} {a b : UInt8} (h0 : c.data.toList[pc]? = some 20) (h1 : c.data.toList[pc + 1]? = some a) (h2 : c.data.toList[pc + 1 + 1]? = some b) : decode c pc = .ok (.ldc2_w (a.toNat * 256 + b.toNat), pc + 1 + 1 + 1 - pc) := by
  show Except.bind (Except.bind ((Jvm.ClassFile.Reader.u1 : Jvm.ClassFile.Decoder Nat) c pc) _) _ = _
  rw [dq_u1 h0]
  show Except.bind (Except.bind ((Jvm.ClassFile.Reader.u2 : Jvm.ClassFile.Decoder Nat) c (pc + 1)) _) _ = _
  rw [dq_u2 h1 h2]
  rfl
theorem dq_21 {c : ByteArray} {pc : Nat} {a : UInt8} (h0 : c.data.toList[pc]? = some 21) (h1 : c.data.toList[pc + 1]? = some a) : decode c pc = .ok (.iload a.toNat, pc + 1 + 1 - pc) := by
  show Except.bind (Except.bind ((Jvm.ClassFile.Reader.u1 : Jvm.ClassFile.Decoder Nat) c pc) _) _ = _
  rw [dq_u1 h0]
  show Except.bind (Except.bind ((Jvm.ClassFile.Reader.u1 : Jvm.ClassFile.Decoder Nat) c (pc + 1)) _) _ = _
  rw [dq_u1 h1]
  rfl
theorem dq_22 {c : ByteArray} {pc : Nat} {a : UInt8} (h0 : c.data.toList[pc]? = some 22) (h1 : c.data.toList[pc + 1]? = some a) : decode c pc = .ok (.lload a.toNat, pc + 1 + 1 - pc) := by
  show Except.bind (Except.bind ((Jvm.ClassFile.Reader.u1 : Jvm.ClassFile.Decoder Nat) c pc) _) _ = _
  rw [dq_u1 h0]
  show Except.bind (Except.bind ((Jvm.ClassFile.Reader.u1 : Jvm.ClassFile.Decoder Nat) c (pc + 1)) _) _ = _
  rw [dq_u1 h1]
  rfl
theorem dq_23 {c : ByteArray} {pc : Nat} {a : UInt8} (h0 : c.data.toList[pc]? = some 23) (h1 : c.data.toList[pc + 1]? = some a) : decode c pc = .ok (.fload a.toNat, pc + 1 + 1 - pc) := by
  show Except.bind (Except.bind ((Jvm.ClassFile.Reader.u1 : Jvm.ClassFile.Decoder Nat) c pc) _) _ = _
  rw [dq_u1 h0]
  show Except.bind (Except.bind ((Jvm.ClassFile.Reader.u1 : Jvm.ClassFile.Decoder Nat) c (pc + 1)) _) _ = _
  rw [dq_u1 h1]
  rfl
theorem dq_24 {c : ByteArray} {pc : Nat} {a : UInt8} (h0 : c.data.toList[pc]? = some 24) (h1 : c.data.toList[pc + 1]? = some a) : decode c pc = .ok (.dload a.toNat, pc + 1 + 1 - pc) := by
  show Except.bind (Except.bind ((Jvm.ClassFile.Reader.u1 : Jvm.ClassFile.Decoder Nat) c pc) _) _ = _
  rw [dq_u1 h0]
  show Except.bind (Except.bind ((Jvm.ClassFile.Reader.u1 : Jvm.ClassFile.Decoder Nat) c (pc + 1)) _) _ = _
  rw [dq_u1 h1]
  rfl
theorem dq_25 {c : ByteArray} {pc : Nat} {a : UInt8} (h0 : c.data.toList[pc]? = some 25) (h1 : c.data.toList[pc + 1]? = some a) : decode c pc = .ok (.aload a.toNat, pc + 1 + 1 - pc) := by
  show Except.bind (Except.bind ((Jvm.ClassFile.Reader.u1 : Jvm.ClassFile.Decoder Nat) c pc) _) _ = _
  rw [dq_u1 h0]
  show Except.bind (Except.bind ((Jvm.ClassFile.Reader.u1 : Jvm.ClassFile.Decoder Nat) c (pc + 1)) _) _ = _
  rw [dq_u1 h1]
  rfl
theorem dq_26 {c : ByteArray} {pc : Nat} (h0 : c.data.toList[pc]? = some 26) : decode c pc = .ok (.iload_n 0, pc + 1 - pc) := by
  show Except.bind (Except.bind ((Jvm.ClassFile.Reader.u1 : Jvm.ClassFile.Decoder Nat) c pc) _) _ = _
  rw [dq_u1 h0]
  rfl
theorem dq_27 {c : ByteArray} {pc : Nat} (h0 : c.data.toList[pc]? = some 27) : decode c pc = .ok (.iload_n 1, pc + 1 - pc) := by
  show Except.bind (Except.bind ((Jvm.ClassFile.Reader.u1 : Jvm.ClassFile.Decoder Nat) c pc) _) _ = _
  rw [dq_u1 h0]
  rfl
theorem dq_28 {c : ByteArray} {pc : Nat} (h0 : c.data.toList[pc]? = some 28) : decode c pc = .ok (.iload_n 2, pc + 1 - pc) := by
  show Except.bind (Except.bind ((Jvm.ClassFile.Reader.u1 : Jvm.ClassFile.Decoder Nat) c pc) _) _ = _
  rw [dq_u1 h0]
  rfl
theorem dq_29 {c : ByteArray} {pc : Nat} (h0 : c.data.toList[pc]? = some 29) : decode c pc = .ok (.iload_n 3, pc + 1 - pc) := by
  show Except.bind (Except.bind ((Jvm.ClassFile.Reader.u1 : Jvm.ClassFile.Decoder Nat) c pc) _) _ = _
  rw [dq_u1 h0]
  rfl
theorem dq_30 {c : ByteArray} {pc : Nat} (h0 : c.data.toList[pc]? = some 30) : decode c pc = .ok (.lload_n 0, pc + 1 - pc) := by
  show Except.bind (Except.bind ((Jvm.ClassFile.Reader.u1 : Jvm.ClassFile.Decoder Nat) c pc) _) _ = _
  rw [dq_u1 h0]
  rfl
theorem dq_31 {c : ByteArray} {pc : Nat} (h0 : c.data.toList[pc]? = some 31) : decode c pc = .ok (.lload_n 1, pc + 1 - pc) := by
  show Except.bind (Except.bind ((Jvm.ClassFile.Reader.u1 : Jvm.ClassFile.Decoder Nat) c pc) _) _ = _
  rw [dq_u1 h0]
  rfl
theorem dq_32 {c : ByteArray} {pc : Nat} (h0 : c.data.toList[pc]? = some 32) : decode c pc = .ok (.lload_n 2, pc + 1 - pc) := by
  show Except.bind (Except.bind ((Jvm.ClassFile.Reader.u1 : Jvm.ClassFile.Decoder Nat) c pc) _) _ = _
  rw [dq_u1 h0]
  rfl
theorem dq_33 {c : ByteArray} {pc : Nat} (h0 : c.data.toList[pc]? = some 33) : decode c pc = .ok (.lload_n 3, pc + 1 - pc) := by
  show Except.bind (Except.bind ((Jvm.ClassFile.Reader.u1 : Jvm.ClassFile.Decoder Nat) c pc) _) _ = _
  rw [dq_u1 h0]
  rfl
theorem dq_34 {c : ByteArray} {pc : Nat} (h0 : c.data.toList[pc]? = some 34) : decode c pc = .ok (.fload_n 0, pc + 1 - pc) := by
  show Except.bind (Except.bind ((Jvm.ClassFile.Reader.u1 : Jvm.ClassFile.Decoder Nat) c pc) _) _ = _
  rw [dq_u1 h0]
  rfl
theorem dq_35 {c : ByteArray} {pc : Nat} (h0 : c.data.toList[pc]? = some 35) : decode c pc = .ok (.fload_n 1, pc + 1 - pc) := by
  show Except.bind (Except.bind ((Jvm.ClassFile.Reader.u1 : Jvm.ClassFile.Decoder Nat) c pc) _) _ = _
  rw [dq_u1 h0]
  rfl
theorem dq_36 {c : ByteArray} {pc : Nat} (h0 : c.data.toList[pc]? = some 36) : decode c pc = .ok (.fload_n 2, pc + 1 - pc) := by
  show Except.bind (Except.bind ((Jvm.ClassFile.Reader.u1 : Jvm.ClassFile.Decoder Nat) c pc) _) _ = _
  rw [dq_u1 h0]
  rfl
theorem dq_37 {c : ByteArray} {pc : Nat} (h0 : c.data.toList[pc]? = some 37) : decode c pc = .ok (.fload_n 3, pc + 1 - pc) := by
  show Except.bind (Except.bind ((Jvm.ClassFile.Reader.u1 : Jvm.ClassFile.Decoder Nat) c pc) _) _ = _
  rw [dq_u1 h0]
  rfl
theorem dq_38 {c : ByteArray} {pc : Nat} (h0 : c.data.toList[pc]? = some 38) : decode c pc = .ok (.dload_n 0, pc + 1 - pc) := by
  show Except.bind (Except.bind ((Jvm.ClassFile.Reader.u1 : Jvm.ClassFile.Decoder Nat) c pc) _) _ = _
  rw [dq_u1 h0]
  rfl
theorem dq_39 {c : ByteArray} {pc : Nat} (h0 : c.data.toList[pc]? = some 39) : decode c pc = .ok (.dload_n 1, pc + 1 - pc) := by
  show Except.bind (Except.bind ((Jvm.ClassFile.Reader.u1 : Jvm.ClassFile.Decoder Nat) c pc) _) _ = _
  rw [dq_u1 h0]
  rfl
theorem dq_40 {c : ByteArray} {pc : Nat} (h0 : c.data.toList[pc]? = some 40) : decode c pc = .ok (.dload_n 2, pc + 1 - pc) := by
  show Except.bind (Except.bind ((Jvm.ClassFile.Reader.u1 : Jvm.ClassFile.Decoder Nat) c pc) _) _ = _
  rw [dq_u1 h0]
  rfl
theorem dq_41 {c : ByteArray} {pc : Nat} (h0 : c.data.toList[pc]? = some 41) : decode c pc = .ok (.dload_n 3, pc + 1 - pc) := by
  show Except.bind (Except.bind ((Jvm.ClassFile.Reader.u1 : Jvm.ClassFile.Decoder Nat) c pc) _) _ = _
  rw [dq_u1 h0]
  rfl
theorem dq_42 {c : ByteArray} {pc : Nat} (h0 : c.data.toList[pc]? = some 42) : decode c pc = .ok (.aload_n 0, pc + 1 - pc) := by
  show Except.bind (Except.bind ((Jvm.ClassFile.Reader.u1 : Jvm.ClassFile.Decoder Nat) c pc) _) _ = _
  rw [dq_u1 h0]
  rfl
theorem dq_43 {c : ByteArray} {pc : Nat} (h0 : c.data.toList[pc]? = some 43) : decode c pc = .ok (.aload_n 1, pc + 1 - pc) := by
  show Except.bind (Except.bind ((Jvm.ClassFile.Reader.u1 : Jvm.ClassFile.Decoder Nat) c pc) _) _ = _
  rw [dq_u1 h0]
  rfl
theorem dq_44 {c : ByteArray} {pc : Nat} (h0 : c.data.toList[pc]? = some 44) : decode c pc = .ok (.aload_n 2, pc + 1 - pc) := by
  show Except.bind (Except.bind ((Jvm.ClassFile.Reader.u1 : Jvm.ClassFile.Decoder Nat) c pc) _) _ = _
  rw [dq_u1 h0]
  rfl
theorem dq_45 {c : ByteArray} {pc : Nat} (h0 : c.data.toList[pc]? = some 45) : decode c pc = .ok (.aload_n 3, pc + 1 - pc) := by
  show Except.bind (Except.bind ((Jvm.ClassFile.Reader.u1 : Jvm.ClassFile.Decoder Nat) c pc) _) _ = _
  rw [dq_u1 h0]
  rfl
theorem dq_46 {c : ByteArray} {pc : Nat} (h0 : c.data.toList[pc]? = some 46) : decode c pc = .ok (.iaload, pc + 1 - pc) := by
  show Except.bind (Except.bind ((Jvm.ClassFile.Reader.u1 : Jvm.ClassFile.Decoder Nat) c pc) _) _ = _
  rw [dq_u1 h0]
  rfl
theorem dq_47 {c : ByteArray} {pc : Nat} (h0 : c.data.toList[pc]? = some 47) : decode c pc = .ok (.laload, pc + 1 - pc) := by
  show Except.bind (Except.bind ((Jvm.ClassFile.Reader.u1 : Jvm.ClassFile.Decoder Nat) c pc) _) _ = _
  rw [dq_u1 h0]
  rfl
theorem dq_48 {c : ByteArray} {pc : Nat} (h0 : c.data.toList[pc]? = some 48) : decode c pc = .ok (.faload, pc + 1 - pc) := by
  show Except.bind (Except.bind ((Jvm.ClassFile.Reader.u1 : Jvm.ClassFile.Decoder Nat) c pc) _) _ = _
  rw [dq_u1 h0]
  rfl
theorem dq_49 {c : ByteArray} {pc : Nat} (h0 : c.data.toList[pc]? = some 49) : decode c pc = .ok (.daload, pc + 1 - pc) := by
  show Except.bind (Except.bind ((Jvm.ClassFile.Reader.u1 : Jvm.ClassFile.Decoder Nat) c pc) _) _ = _
  rw [dq_u1 h0]
  rfl
theorem dq_50 {c : ByteArray} {pc : Nat} (h0 : c.data.toList[pc]? = some 50) : decode c pc = .ok (.aaload, pc + 1 - pc) := by
  show Except.bind (Except.bind ((Jvm.ClassFile.Reader.u1 : Jvm.ClassFile.Decoder Nat) c pc) _) _ = _
  rw [dq_u1 h0]
  rfl
theorem dq_51 {c : ByteArray} {pc : Nat} (h0 : c.data.toList[pc]? = some 51) : decode c pc = .ok (.baload, pc + 1 - pc) := by
  show Except.bind (Except.bind ((Jvm.ClassFile.Reader.u1 : Jvm.ClassFile.Decoder Nat) c pc) _) _ = _
  rw [dq_u1 h0]
  rfl
theorem dq_52 {c : ByteArray} {pc : Nat} (h0 : c.data.toList[pc]? = some 52) : decode c pc = .ok (.caload, pc + 1 - pc) := by
  show Except.bind (Except.bind ((Jvm.ClassFile.Reader.u1 : Jvm.ClassFile.Decoder Nat) c pc) _) _ = _
  rw [dq_u1 h0]
  rfl
theorem dq_53 {c : ByteArray} {pc : Nat} (h0 : c.data.toList[pc]? = some 53) : decode c pc = .ok (.saload, pc + 1 - pc) := by
  show Except.bind (Except.bind ((Jvm.ClassFile.Reader.u1 : Jvm.ClassFile.Decoder Nat) c pc) _) _ = _
  rw [dq_u1 h0]
  rfl
theorem dq_54 {c : ByteArray} {pc : Nat} {a : UInt8} (h0 : c.data.toList[pc]? = some 54) (h1 : c.data.toList[pc + 1]? = some a) : decode c pc = .ok (.istore a.toNat, pc + 1 + 1 - pc) := by
  show Except.bind (Except.bind ((Jvm.ClassFile.Reader.u1 : Jvm.ClassFile.Decoder Nat) c pc) _) _ = _
  rw [dq_u1 h0]
  show Except.bind (Except.bind ((Jvm.ClassFile.Reader.u1 : Jvm.ClassFile.Decoder Nat) c (pc + 1)) _) _ = _
  rw [dq_u1 h1]
  rfl
theorem dq_55 {c : ByteArray} {pc : Nat} {a : UInt8} (h0 : c.data.toList[pc]? = some 55) (h1 : c.data.toList[pc + 1]? = some a) : decode c pc = .ok (.lstore a.toNat, pc + 1 + 1 - pc) := by
  show Except.bind (Except.bind ((Jvm.ClassFile.Reader.u1 : Jvm.ClassFile.Decoder Nat) c pc) _) _ = _
  rw [dq_u1 h0]
  show Except.bind (Except.bind ((Jvm.ClassFile.Reader.u1 : Jvm.ClassFile.Decoder Nat) c (pc + 1)) _) _ = _
  rw [dq_u1 h1]
  rfl
theorem dq_56 {c : ByteArray} {pc : Nat} {a : UInt8} (h0 : c.data.toList[pc]? = some 56) (h1 : c.data.toList[pc + 1]? = some a) : decode c pc = .ok (.fstore a.toNat, pc + 1 + 1 - pc) := by
  show Except.bind (Except.bind ((Jvm.ClassFile.Reader.u1 : Jvm.ClassFile.Decoder Nat) c pc) _) _ = _
  rw [dq_u1 h0]
  show Except.bind (Except.bind ((Jvm.ClassFile.Reader.u1 : Jvm.ClassFile.Decoder Nat) c (pc + 1)) _) _ = _
  rw [dq_u1 h1]
  rfl
theorem dq_57 {c : ByteArray} {pc : Nat} {a : UInt8} (h0 : c.data.toList[pc]? = some 57) (h1 : c.data.toList[pc + 1]? = some a) : decode c pc = .ok (.dstore a.toNat, pc + 1 + 1 - pc) := by
  show Except.bind (Except.bind ((Jvm.ClassFile.Reader.u1 : Jvm.ClassFile.Decoder Nat) c pc) _) _ = _
  rw [dq_u1 h0]
  show Except.bind (Except.bind ((Jvm.ClassFile.Reader.u1 : Jvm.ClassFile.Decoder Nat) c (pc + 1)) _) _ = _
  rw [dq_u1 h1]
  rfl
theorem dq_58 {c : ByteArray} {pc : Nat} {a : UInt8} (h0 : c.data.toList[pc]? = some 58) (h1 : c.data.toList[pc + 1]? = some a) : decode c pc = .ok (.astore a.toNat, pc + 1 + 1 - pc) := by
  show Except.bind (Except.bind ((Jvm.ClassFile.Reader.u1 : Jvm.ClassFile.Decoder Nat) c pc) _) _ = _
  rw [dq_u1 h0]
  show Except.bind (Except.bind ((Jvm.ClassFile.Reader.u1 : Jvm.ClassFile.Decoder Nat) c (pc + 1)) _) _ = _
  rw [dq_u1 h1]
  rfl
theorem dq_59 {c : ByteArray} {pc : Nat} (h0 : c.data.toList[pc]? = some 59) : decode c pc = .ok (.istore_n 0, pc + 1 - pc) := by
  show Except.bind (Except.bind ((Jvm.ClassFile.Reader.u1 : Jvm.ClassFile.Decoder Nat) c pc) _) _ = _
  rw [dq_u1 h0]
  rfl
theorem dq_60 {c : ByteArray} {pc : Nat} (h0 : c.data.toList[pc]? = some 60) : decode c pc = .ok (.istore_n 1, pc + 1 - pc) := by
  show Except.bind (Except.bind ((Jvm.ClassFile.Reader.u1 : Jvm.ClassFile.Decoder Nat) c pc) _) _ = _
  rw [dq_u1 h0]
  rfl
theorem dq_61 {c : ByteArray} {pc : Nat} (h0 : c.data.toList[pc]? = some 61) : decode c pc = .ok (.istore_n 2, pc + 1 - pc) := by
  show Except.bind (Except.bind ((Jvm.ClassFile.Reader.u1 : Jvm.ClassFile.Decoder Nat) c pc) _) _ = _
  rw [dq_u1 h0]
  rfl
theorem dq_62 {c : ByteArray} {pc : Nat} (h0 : c.data.toList[pc]? = some 62) : decode c pc = .ok (.istore_n 3, pc + 1 - pc) := by
  show Except.bind (Except.bind ((Jvm.ClassFile.Reader.u1 : Jvm.ClassFile.Decoder Nat) c pc) _) _ = _
  rw [dq_u1 h0]
  rfl
theorem dq_63 {c : ByteArray} {pc : Nat} (h0 : c.data.toList[pc]? = some 63) : decode c pc = .ok (.lstore_n 0, pc + 1 - pc) := by
  show Except.bind (Except.bind ((Jvm.ClassFile.Reader.u1 : Jvm.ClassFile.Decoder Nat) c pc) _) _ = _
  rw [dq_u1 h0]
  rfl
theorem dq_64 {c : ByteArray} {pc : Nat} (h0 : c.data.toList[pc]? = some 64) : decode c pc = .ok (.lstore_n 1, pc + 1 - pc) := by
  show Except.bind (Except.bind ((Jvm.ClassFile.Reader.u1 : Jvm.ClassFile.Decoder Nat) c pc) _) _ = _
  rw [dq_u1 h0]
  rfl
theorem dq_65 {c : ByteArray} {pc : Nat} (h0 : c.data.toList[pc]? = some 65) : decode c pc = .ok (.lstore_n 2, pc + 1 - pc) := by
  show Except.bind (Except.bind ((Jvm.ClassFile.Reader.u1 : Jvm.ClassFile.Decoder Nat) c pc) _) _ = _
  rw [dq_u1 h0]
  rfl
theorem dq_66 {c : ByteArray} {pc : Nat} (h0 : c.data.toList[pc]? = some 66) : decode c pc = .ok (.lstore_n 3, pc + 1 - pc) := by
  show Except.bind (Except.bind ((Jvm.ClassFile.Reader.u1 : Jvm.ClassFile.Decoder Nat) c pc) _) _ = _
  rw [dq_u1 h0]
  rfl
theorem dq_67 {c : ByteArray} {pc : Nat} (h0 : c.data.toList[pc]? = some 67) : decode c pc = .ok (.fstore_n 0, pc + 1 - pc) := by
  show Except.bind (Except.bind ((Jvm.ClassFile.Reader.u1 : Jvm.ClassFile.Decoder Nat) c pc) _) _ = _
  rw [dq_u1 h0]
  rfl
theorem dq_68 {c : ByteArray} {pc : Nat} (h0 : c.data.toList[pc]? = some 68) : decode c pc = .ok (.fstore_n 1, pc + 1 - pc) := by
  show Except.bind (Except.bind ((Jvm.ClassFile.Reader.u1 : Jvm.ClassFile.Decoder Nat) c pc) _) _ = _
  rw [dq_u1 h0]
  rfl
theorem dq_69 {c : ByteArray} {pc : Nat} (h0 : c.data.toList[pc]? = some 69) : decode c pc = .ok (.fstore_n 2, pc + 1 - pc) := by
  show Except.bind (Except.bind ((Jvm.ClassFile.Reader.u1 : Jvm.ClassFile.Decoder Nat) c pc) _) _ = _
  rw [dq_u1 h0]
  rfl
theorem dq_70 {c : ByteArray} {pc : Nat} (h0 : c.data.toList[pc]? = some 70) : decode c pc = .ok (.fstore_n 3, pc + 1 - pc) := by
  show Except.bind (Except.bind ((Jvm.ClassFile.Reader.u1 : Jvm.ClassFile.Decoder Nat) c pc) _) _ = _
  rw [dq_u1 h0]
  rfl
theorem dq_71 {c : ByteArray} {pc : Nat} (h0 : c.data.toList[pc]? = some 71) : decode c pc = .ok (.dstore_n 0, pc + 1 - pc) := by
  show Except.bind (Except.bind ((Jvm.ClassFile.Reader.u1 : Jvm.ClassFile.Decoder Nat) c pc) _) _ = _
  rw [dq_u1 h0]
  rfl
theorem dq_72 {c : ByteArray} {pc : Nat} (h0 : c.data.toList[pc]? = some 72) : decode c pc = .ok (.dstore_n 1, pc + 1 - pc) := by
  show Except.bind (Except.bind ((Jvm.ClassFile.Reader.u1 : Jvm.ClassFile.Decoder Nat) c pc) _) _ = _
  rw [dq_u1 h0]
  rfl
theorem dq_73 {c : ByteArray} {pc : Nat} (h0 : c.data.toList[pc]? = some 73) : decode c pc = .ok (.dstore_n 2, pc + 1 - pc) := by
  show Except.bind (Except.bind ((Jvm.ClassFile.Reader.u1 : Jvm.ClassFile.Decoder Nat) c pc) _) _ = _
  rw [dq_u1 h0]
  rfl
theorem dq_74 {c : ByteArray} {pc : Nat} (h0 : c.data.toList[pc]? = some 74) : decode c pc = .ok (.dstore_n 3, pc + 1 - pc) := by
  show Except.bind (Except.bind ((Jvm.ClassFile.Reader.u1 : Jvm.ClassFile.Decoder Nat) c pc) _) _ = _
  rw [dq_u1 h0]
  rfl
theorem dq_75 {c : ByteArray} {pc : Nat} (h0 : c.data.toList[pc]? = some 75) : decode c pc = .ok (.astore_n 0, pc + 1 - pc) := by
  show Except.bind (Except.bind ((Jvm.ClassFile.Reader.u1 : Jvm.ClassFile.Decoder Nat) c pc) _) _ = _
  rw [dq_u1 h0]
  rfl
theorem dq_76 {c : ByteArray} {pc : Nat} (h0 : c.data.toList[pc]? = some 76) : decode c pc = .ok (.astore_n 1, pc + 1 - pc) := by
  show Except.bind (Except.bind ((Jvm.ClassFile.Reader.u1 : Jvm.ClassFile.Decoder Nat) c pc) _) _ = _
  rw [dq_u1 h0]
  rfl
theorem dq_77 {c : ByteArray} {pc : Nat} (h0 : c.data.toList[pc]? = some 77) : decode c pc = .ok (.astore_n 2, pc + 1 - pc) := by
  show Except.bind (Except.bind ((Jvm.ClassFile.Reader.u1 : Jvm.ClassFile.Decoder Nat) c pc) _) _ = _
  rw [dq_u1 h0]
  rfl
theorem dq_78 {c : ByteArray} {pc : Nat} (h0 : c.data.toList[pc]? = some 78) : decode c pc = .ok (.astore_n 3, pc + 1 - pc) := by
  show Except.bind (Except.bind ((Jvm.ClassFile.Reader.u1 : Jvm.ClassFile.Decoder Nat) c pc) _) _ = _
  rw [dq_u1 h0]
  rfl
theorem dq_79 {c : ByteArray} {pc : Nat} (h0 : c.data.toList[pc]? = some 79) : decode c pc = .ok (.iastore, pc + 1 - pc) := by
  show Except.bind (Except.bind ((Jvm.ClassFile.Reader.u1 : Jvm.ClassFile.Decoder Nat) c pc) _) _ = _
  rw [dq_u1 h0]
  rfl
theorem dq_80 {c : ByteArray} {pc : Nat} (h0 : c.data.toList[pc]? = some 80) : decode c pc = .ok (.lastore, pc + 1 - pc) := by
  show Except.bind (Except.bind ((Jvm.ClassFile.Reader.u1 : Jvm.ClassFile.Decoder Nat) c pc) _) _ = _
  rw [dq_u1 h0]
  rfl
theorem dq_81 {c : ByteArray} {pc : Nat} (h0 : c.data.toList[pc]? = some 81) : decode c pc = .ok (.fastore, pc + 1 - pc) := by
  show Except.bind (Except.bind ((Jvm.ClassFile.Reader.u1 : Jvm.ClassFile.Decoder Nat) c pc) _) _ = _
  rw [dq_u1 h0]
  rfl
theorem dq_82 {c : ByteArray} {pc : Nat} (h0 : c.data.toList[pc]? = some 82) : decode c pc = .ok (.dastore, pc + 1 - pc) := by
  show Except.bind (Except.bind ((Jvm.ClassFile.Reader.u1 : Jvm.ClassFile.Decoder Nat) c pc) _) _ = _
  rw [dq_u1 h0]
  rfl
theorem dq_83 {c : ByteArray} {pc : Nat} (h0 : c.data.toList[pc]? = some 83) : decode c pc = .ok (.aastore, pc + 1 - pc) := by
  show Except.bind (Except.bind ((Jvm.ClassFile.Reader.u1 : Jvm.ClassFile.Decoder Nat) c pc) _) _ = _
  rw [dq_u1 h0]
  rfl
theorem dq_84 {c : ByteArray} {pc : Nat} (h0 : c.data.toList[pc]? = some 84) : decode c pc = .ok (.bastore, pc + 1 - pc) := by
  show Except.bind (Except.bind ((Jvm.ClassFile.Reader.u1 : Jvm.ClassFile.Decoder Nat) c pc) _) _ = _
  rw [dq_u1 h0]
  rfl
theorem dq_85 {c : ByteArray} {pc : Nat} (h0 : c.data.toList[pc]? = some 85) : decode c pc = .ok (.castore, pc + 1 - pc) := by
  show Except.bind (Except.bind ((Jvm.ClassFile.Reader.u1 : Jvm.ClassFile.Decoder Nat) c pc) _) _ = _
  rw [dq_u1 h0]
  rfl
theorem dq_86 {c : ByteArray} {pc : Nat} (h0 : c.data.toList[pc]? = some 86) : decode c pc = .ok (.sastore, pc + 1 - pc) := by
  show Except.bind (Except.bind ((Jvm.ClassFile.Reader.u1 : Jvm.ClassFile.Decoder Nat) c pc) _) _ = _
  rw [dq_u1 h0]
  rfl
theorem dq_87 {c : ByteArray} {pc : Nat} (h0 : c.data.toList[pc]? = some 87) : decode c pc = .ok (.pop, pc + 1 - pc) := by
  show Except.bind (Except.bind ((Jvm.ClassFile.Reader.u1 : Jvm.ClassFile.Decoder Nat) c pc) _) _ = _
  rw [dq_u1 h0]
  rfl
theorem dq_88 {c : ByteArray} {pc : Nat} (h0 : c.data.toList[pc]? = some 88) : decode c pc = .ok (.pop2, pc + 1 - pc) := by
  show Except.bind (Except.bind ((Jvm.ClassFile.Reader.u1 : Jvm.ClassFile.Decoder Nat) c pc) _) _ = _
  rw [dq_u1 h0]
  rfl
theorem dq_89 {c : ByteArray} {pc : Nat} (h0 : c.data.toList[pc]? = some 89) : decode c pc = .ok (.dup, pc + 1 - pc) := by
  show Except.bind (Except.bind ((Jvm.ClassFile.Reader.u1 : Jvm.ClassFile.Decoder Nat) c pc) _) _ = _
  rw [dq_u1 h0]
  rfl
theorem dq_90 {c : ByteArray} {pc : Nat} (h0 : c.data.toList[pc]? = some 90) : decode c pc = .ok (.dup_x1, pc + 1 - pc) := by
  show Except.bind (Except.bind ((Jvm.ClassFile.Reader.u1 : Jvm.ClassFile.Decoder Nat) c pc) _) _ = _
  rw [dq_u1 h0]
  rfl
theorem dq_91 {c : ByteArray} {pc : Nat} (h0 : c.data.toList[pc]? = some 91) : decode c pc = .ok (.dup_x2, pc + 1 - pc) := by
  show Except.bind (Except.bind ((Jvm.ClassFile.Reader.u1 : Jvm.ClassFile.Decoder Nat) c pc) _) _ = _
  rw [dq_u1 h0]
  rfl
theorem dq_92 {c : ByteArray} {pc : Nat} (h0 : c.data.toList[pc]? = some 92) : decode c pc = .ok (.dup2, pc + 1 - pc) := by
  show Except.bind (Except.bind ((Jvm.ClassFile.Reader.u1 : Jvm.ClassFile.Decoder Nat) c pc) _) _ = _
  rw [dq_u1 h0]
  rfl
theorem dq_93 {c : ByteArray} {pc : Nat} (h0 : c.data.toList[pc]? = some 93) : decode c pc = .ok (.dup2_x1, pc + 1 - pc) := by
  show Except.bind (Except.bind ((Jvm.ClassFile.Reader.u1 : Jvm.ClassFile.Decoder Nat) c pc) _) _ = _
  rw [dq_u1 h0]
  rfl
theorem dq_94 {c : ByteArray} {pc : Nat} (h0 : c.data.toList[pc]? = some 94) : decode c pc = .ok (.dup2_x2, pc + 1 - pc) := by
  show Except.bind (Except.bind ((Jvm.ClassFile.Reader.u1 : Jvm.ClassFile.Decoder Nat) c pc) _) _ = _
  rw [dq_u1 h0]
  rfl
theorem dq_95 {c : ByteArray} {pc : Nat} (h0 : c.data.toList[pc]? = some 95) : decode c pc = .ok (.swap, pc + 1 - pc) := by
  show Except.bind (Except.bind ((Jvm.ClassFile.Reader.u1 : Jvm.ClassFile.Decoder Nat) c pc) _) _ = _
  rw [dq_u1 h0]
  rfl
theorem dq_96 {c : ByteArray} {pc : Nat} (h0 : c.data.toList[pc]? = some 96) : decode c pc = .ok (.iadd, pc + 1 - pc) := by
  show Except.bind (Except.bind ((Jvm.ClassFile.Reader.u1 : Jvm.ClassFile.Decoder Nat) c pc) _) _ = _
  rw [dq_u1 h0]
  rfl
theorem dq_97 {c : ByteArray} {pc : Nat} (h0 : c.data.toList[pc]? = some 97) : decode c pc = .ok (.ladd, pc + 1 - pc) := by
  show Except.bind (Except.bind ((Jvm.ClassFile.Reader.u1 : Jvm.ClassFile.Decoder Nat) c pc) _) _ = _
  rw [dq_u1 h0]
  rfl
theorem dq_98 {c : ByteArray} {pc : Nat} (h0 : c.data.toList[pc]? = some 98) : decode c pc = .ok (.fadd, pc + 1 - pc) := by
  show Except.bind (Except.bind ((Jvm.ClassFile.Reader.u1 : Jvm.ClassFile.Decoder Nat) c pc) _) _ = _
  rw [dq_u1 h0]
  rfl
theorem dq_99 {c : ByteArray} {pc : Nat} (h0 : c.data.toList[pc]? = some 99) : decode c pc = .ok (.dadd, pc + 1 - pc) := by
  show Except.bind (Except.bind ((Jvm.ClassFile.Reader.u1 : Jvm.ClassFile.Decoder Nat) c pc) _) _ = _
  rw [dq_u1 h0]
  rfl
theorem dq_100 {c : ByteArray} {pc : Nat} (h0 : c.data.toList[pc]? = some 100) : decode c pc = .ok (.isub, pc + 1 - pc) := by
  show Except.bind (Except.bind ((Jvm.ClassFile.Reader.u1 : Jvm.ClassFile.Decoder Nat) c pc) _) _ = _
  rw [dq_u1 h0]
  rfl
theorem dq_101 {c : ByteArray} {pc : Nat} (h0 : c.data.toList[pc]? = some 101) : decode c pc = .ok (.lsub, pc + 1 - pc) := by
  show Except.bind (Except.bind ((Jvm.ClassFile.Reader.u1 : Jvm.ClassFile.Decoder Nat) c pc) _) _ = _
  rw [dq_u1 h0]
  rfl
theorem dq_102 {c : ByteArray} {pc : Nat} (h0 : c.data.toList[pc]? = some 102) : decode c pc = .ok (.fsub, pc + 1 - pc) := by
  show Except.bind (Except.bind ((Jvm.ClassFile.Reader.u1 : Jvm.ClassFile.Decoder Nat) c pc) _) _ = _
  rw [dq_u1 h0]
  rfl
theorem dq_103 {c : ByteArray} {pc : Nat} (h0 : c.data.toList[pc]? = some 103) : decode c pc = .ok (.dsub, pc + 1 - pc) := by
  show Except.bind (Except.bind ((Jvm.ClassFile.Reader.u1 : Jvm.ClassFile.Decoder Nat) c pc) _) _ = _
  rw [dq_u1 h0]
  rfl
theorem dq_104 {c : ByteArray} {pc : Nat} (h0 : c.data.toList[pc]? = some 104) : decode c pc = .ok (.imul, pc + 1 - pc) := by
  show Except.bind (Except.bind ((Jvm.ClassFile.Reader.u1 : Jvm.ClassFile.Decoder Nat) c pc) _) _ = _
  rw [dq_u1 h0]
  rfl
theorem dq_105 {c : ByteArray} {pc : Nat} (h0 : c.data.toList[pc]? = some 105) : decode c pc = .ok (.lmul, pc + 1 - pc) := by
  show Except.bind (Except.bind ((Jvm.ClassFile.Reader.u1 : Jvm.ClassFile.Decoder Nat) c pc) _) _ = _
  rw [dq_u1 h0]
  rfl
theorem dq_106 {c : ByteArray} {pc : Nat} (h0 : c.data.toList[pc]? = some 106) : decode c pc = .ok (.fmul, pc + 1 - pc) := by
  show Except.bind (Except.bind ((Jvm.ClassFile.Reader.u1 : Jvm.ClassFile.Decoder Nat) c pc) _) _ = _
  rw [dq_u1 h0]
  rfl
theorem dq_107 {c : ByteArray} {pc : Nat} (h0 : c.data.toList[pc]? = some 107) : decode c pc = .ok (.dmul, pc + 1 - pc) := by
  show Except.bind (Except.bind ((Jvm.ClassFile.Reader.u1 : Jvm.ClassFile.Decoder Nat) c pc) _) _ = _
  rw [dq_u1 h0]
  rfl
theorem dq_108 {c : ByteArray} {pc : Nat} (h0 : c.data.toList[pc]? = some 108) : decode c pc = .ok (.idiv, pc + 1 - pc) := by
  show Except.bind (Except.bind ((Jvm.ClassFile.Reader.u1 : Jvm.ClassFile.Decoder Nat) c pc) _) _ = _
  rw [dq_u1 h0]
  rfl
theorem dq_109 {c : ByteArray} {pc : Nat} (h0 : c.data.toList[pc]? = some 109) : decode c pc = .ok (.ldiv, pc + 1 - pc) := by
  show Except.bind (Except.bind ((Jvm.ClassFile.Reader.u1 : Jvm.ClassFile.Decoder Nat) c pc) _) _ = _
  rw [dq_u1 h0]
  rfl
theorem dq_110 {c : ByteArray} {pc : Nat} (h0 : c.data.toList[pc]? = some 110) : decode c pc = .ok (.fdiv, pc + 1 - pc) := by
  show Except.bind (Except.bind ((Jvm.ClassFile.Reader.u1 : Jvm.ClassFile.Decoder Nat) c pc) _) _ = _
  rw [dq_u1 h0]
  rfl
theorem dq_111 {c : ByteArray} {pc : Nat} (h0 : c.data.toList[pc]? = some 111) : decode c pc = .ok (.ddiv, pc + 1 - pc) := by
  show Except.bind (Except.bind ((Jvm.ClassFile.Reader.u1 : Jvm.ClassFile.Decoder Nat) c pc) _) _ = _
  rw [dq_u1 h0]
  rfl
theorem dq_112 {c : ByteArray} {pc : Nat} (h0 : c.data.toList[pc]? = some 112) : decode c pc = .ok (.irem, pc + 1 - pc) := by
  show Except.bind (Except.bind ((Jvm.ClassFile.Reader.u1 : Jvm.ClassFile.Decoder Nat) c pc) _) _ = _
  rw [dq_u1 h0]
  rfl
theorem dq_113 {c : ByteArray} {pc : Nat} (h0 : c.data.toList[pc]? = some 113) : decode c pc = .ok (.lrem, pc + 1 - pc) := by
  show Except.bind (Except.bind ((Jvm.ClassFile.Reader.u1 : Jvm.ClassFile.Decoder Nat) c pc) _) _ = _
  rw [dq_u1 h0]
  rfl
theorem dq_114 {c : ByteArray} {pc : Nat} (h0 : c.data.toList[pc]? = some 114) : decode c pc = .ok (.frem, pc + 1 - pc) := by
  show Except.bind (Except.bind ((Jvm.ClassFile.Reader.u1 : Jvm.ClassFile.Decoder Nat) c pc) _) _ = _
  rw [dq_u1 h0]
  rfl
theorem dq_115 {c : ByteArray} {pc : Nat} (h0 : c.data.toList[pc]? = some 115) : decode c pc = .ok (.drem, pc + 1 - pc) := by
  show Except.bind (Except.bind ((Jvm.ClassFile.Reader.u1 : Jvm.ClassFile.Decoder Nat) c pc) _) _ = _
  rw [dq_u1 h0]
  rfl
theorem dq_116 {c : ByteArray} {pc : Nat} (h0 : c.data.toList[pc]? = some 116) : decode c pc = .ok (.ineg, pc + 1 - pc) := by
  show Except.bind (Except.bind ((Jvm.ClassFile.Reader.u1 : Jvm.ClassFile.Decoder Nat) c pc) _) _ = _
  rw [dq_u1 h0]
  rfl
theorem dq_117 {c : ByteArray} {pc : Nat} (h0 : c.data.toList[pc]? = some 117) : decode c pc = .ok (.lneg, pc + 1 - pc) := by
  show Except.bind (Except.bind ((Jvm.ClassFile.Reader.u1 : Jvm.ClassFile.Decoder Nat) c pc) _) _ = _
  rw [dq_u1 h0]
  rfl
theorem dq_118 {c : ByteArray} {pc : Nat} (h0 : c.data.toList[pc]? = some 118) : decode c pc = .ok (.fneg, pc + 1 - pc) := by
  show Except.bind (Except.bind ((Jvm.ClassFile.Reader.u1 : Jvm.ClassFile.Decoder Nat) c pc) _) _ = _
  rw [dq_u1 h0]
  rfl
theorem dq_119 {c : ByteArray} {pc : Nat} (h0 : c.data.toList[pc]? = some 119) : decode c pc = .ok (.dneg, pc + 1 - pc) := by
  show Except.bind (Except.bind ((Jvm.ClassFile.Reader.u1 : Jvm.ClassFile.Decoder Nat) c pc) _) _ = _
  rw [dq_u1 h0]
  rfl
theorem dq_120 {c : ByteArray} {pc : Nat} (h0 : c.data.toList[pc]? = some 120) : decode c pc = .ok (.ishl, pc + 1 - pc) := by
  show Except.bind (Except.bind ((Jvm.ClassFile.Reader.u1 : Jvm.ClassFile.Decoder Nat) c pc) _) _ = _
  rw [dq_u1 h0]
  rfl
theorem dq_121 {c : ByteArray} {pc : Nat} (h0 : c.data.toList[pc]? = some 121) : decode c pc = .ok (.lshl, pc + 1 - pc) := by
  show Except.bind (Except.bind ((Jvm.ClassFile.Reader.u1 : Jvm.ClassFile.Decoder Nat) c pc) _) _ = _
  rw [dq_u1 h0]
  rfl
theorem dq_122 {c : ByteArray} {pc : Nat} (h0 : c.data.toList[pc]? = some 122) : decode c pc = .ok (.ishr, pc + 1 - pc) := by
  show Except.bind (Except.bind ((Jvm.ClassFile.Reader.u1 : Jvm.ClassFile.Decoder Nat) c pc) _) _ = _
  rw [dq_u1 h0]
  rfl
theorem dq_123 {c : ByteArray} {pc : Nat} (h0 : c.data.toList[pc]? = some 123) : decode c pc = .ok (.lshr, pc + 1 - pc) := by
  show Except.bind (Except.bind ((Jvm.ClassFile.Reader.u1 : Jvm.ClassFile.Decoder Nat) c pc) _) _ = _
  rw [dq_u1 h0]
  rfl
theorem dq_124 {c : ByteArray} {pc : Nat} (h0 : c.data.toList[pc]? = some 124) : decode c pc = .ok (.iushr, pc + 1 - pc) := by
  show Except.bind (Except.bind ((Jvm.ClassFile.Reader.u1 : Jvm.ClassFile.Decoder Nat) c pc) _) _ = _
  rw [dq_u1 h0]
  rfl
theorem dq_125 {c : ByteArray} {pc : Nat} (h0 : c.data.toList[pc]? = some 125) : decode c pc = .ok (.lushr, pc + 1 - pc) := by
  show Except.bind (Except.bind ((Jvm.ClassFile.Reader.u1 : Jvm.ClassFile.Decoder Nat) c pc) _) _ = _
  rw [dq_u1 h0]
  rfl
theorem dq_126 {c : ByteArray} {pc : Nat} (h0 : c.data.toList[pc]? = some 126) : decode c pc = .ok (.iand, pc + 1 - pc) := by
  show Except.bind (Except.bind ((Jvm.ClassFile.Reader.u1 : Jvm.ClassFile.Decoder Nat) c pc) _) _ = _
  rw [dq_u1 h0]
  rfl
theorem dq_127 {c : ByteArray} {pc : Nat} (h0 : c.data.toList[pc]? = some 127) : decode c pc = .ok (.land, pc + 1 - pc) := by
  show Except.bind (Except.bind ((Jvm.ClassFile.Reader.u1 : Jvm.ClassFile.Decoder Nat) c pc) _) _ = _
  rw [dq_u1 h0]
  rfl
theorem dq_128 {c : ByteArray} {pc : Nat} (h0 : c.data.toList[pc]? = some 128) : decode c pc = .ok (.ior, pc + 1 - pc) := by
  show Except.bind (Except.bind ((Jvm.ClassFile.Reader.u1 : Jvm.ClassFile.Decoder Nat) c pc) _) _ = _
  rw [dq_u1 h0]
  rfl
theorem dq_129 {c : ByteArray} {pc : Nat} (h0 : c.data.toList[pc]? = some 129) : decode c pc = .ok (.lor, pc + 1 - pc) := by
  show Except.bind (Except.bind ((Jvm.ClassFile.Reader.u1 : Jvm.ClassFile.Decoder Nat) c pc) _) _ = _
  rw [dq_u1 h0]
  rfl
theorem dq_130 {c : ByteArray} {pc : Nat} (h0 : c.data.toList[pc]? = some 130) : decode c pc = .ok (.ixor, pc + 1 - pc) := by
  show Except.bind (Except.bind ((Jvm.ClassFile.Reader.u1 : Jvm.ClassFile.Decoder Nat) c pc) _) _ = _
  rw [dq_u1 h0]
  rfl
theorem dq_131 {c : ByteArray} {pc : Nat} (h0 : c.data.toList[pc]? = some 131) : decode c pc = .ok (.lxor, pc + 1 - pc) := by
  show Except.bind (Except.bind ((Jvm.ClassFile.Reader.u1 : Jvm.ClassFile.Decoder Nat) c pc) _) _ = _
  rw [dq_u1 h0]
  rfl
theorem dq_132 {c : ByteArray} {pc : Nat} {a b : UInt8} (h0 : c.data.toList[pc]? = some 132) (h1 : c.data.toList[pc + 1]? = some a) (h2 : c.data.toList[pc + 1 + 1]? = some b) : decode c pc = .ok (.iinc a.toNat (Jvm.ClassFile.Reader.signed 8 b.toNat), pc + 1 + 1 + 1 - pc) := by
  show Except.bind (Except.bind ((Jvm.ClassFile.Reader.u1 : Jvm.ClassFile.Decoder Nat) c pc) _) _ = _
  rw [dq_u1 h0]
  show Except.bind (Except.bind ((Jvm.ClassFile.Reader.u1 : Jvm.ClassFile.Decoder Nat) c (pc + 1)) _) _ = _
  rw [dq_u1 h1]
  show Except.bind (Except.bind (Except.bind ((Jvm.ClassFile.Reader.u1 : Jvm.ClassFile.Decoder Nat) c (pc + 1 + 1)) _) _) _ = _
  rw [dq_u1 h2]
  rfl
theorem dq_133 {c : ByteArray} {pc : Nat} (h0 : c.data.toList[pc]? = some 133) : decode c pc = .ok (.i2l, pc + 1 - pc) := by
  show Except.bind (Except.bind ((Jvm.ClassFile.Reader.u1 : Jvm.ClassFile.Decoder Nat) c pc) _) _ = _
  rw [dq_u1 h0]
  rfl
theorem dq_134 {c : ByteArray} {pc : Nat} (h0 : c.data.toList[pc]? = some 134) : decode c pc = .ok (.i2f, pc + 1 - pc) := by
  show Except.bind (Except.bind ((Jvm.ClassFile.Reader.u1 : Jvm.ClassFile.Decoder Nat) c pc) _) _ = _
  rw [dq_u1 h0]
  rfl
theorem dq_135 {c : ByteArray} {pc : Nat} (h0 : c.data.toList[pc]? = some 135) : decode c pc = .ok (.i2d, pc + 1 - pc) := by
  show Except.bind (Except.bind ((Jvm.ClassFile.Reader.u1 : Jvm.ClassFile.Decoder Nat) c pc) _) _ = _
  rw [dq_u1 h0]
  rfl
theorem dq_136 {c : ByteArray} {pc : Nat} (h0 : c.data.toList[pc]? = some 136) : decode c pc = .ok (.l2i, pc + 1 - pc) := by
  show Except.bind (Except.bind ((Jvm.ClassFile.Reader.u1 : Jvm.ClassFile.Decoder Nat) c pc) _) _ = _
  rw [dq_u1 h0]
  rfl
theorem dq_137 {c : ByteArray} {pc : Nat} (h0 : c.data.toList[pc]? = some 137) : decode c pc = .ok (.l2f, pc + 1 - pc) := by
  show Except.bind (Except.bind ((Jvm.ClassFile.Reader.u1 : Jvm.ClassFile.Decoder Nat) c pc) _) _ = _
  rw [dq_u1 h0]
  rfl
theorem dq_138 {c : ByteArray} {pc : Nat} (h0 : c.data.toList[pc]? = some 138) : decode c pc = .ok (.l2d, pc + 1 - pc) := by
  show Except.bind (Except.bind ((Jvm.ClassFile.Reader.u1 : Jvm.ClassFile.Decoder Nat) c pc) _) _ = _
  rw [dq_u1 h0]
  rfl
theorem dq_139 {c : ByteArray} {pc : Nat} (h0 : c.data.toList[pc]? = some 139) : decode c pc = .ok (.f2i, pc + 1 - pc) := by
  show Except.bind (Except.bind ((Jvm.ClassFile.Reader.u1 : Jvm.ClassFile.Decoder Nat) c pc) _) _ = _
  rw [dq_u1 h0]
  rfl
theorem dq_140 {c : ByteArray} {pc : Nat} (h0 : c.data.toList[pc]? = some 140) : decode c pc = .ok (.f2l, pc + 1 - pc) := by
  show Except.bind (Except.bind ((Jvm.ClassFile.Reader.u1 : Jvm.ClassFile.Decoder Nat) c pc) _) _ = _
  rw [dq_u1 h0]
  rfl
theorem dq_141 {c : ByteArray} {pc : Nat} (h0 : c.data.toList[pc]? = some 141) : decode c pc = .ok (.f2d, pc + 1 - pc) := by
  show Except.bind (Except.bind ((Jvm.ClassFile.Reader.u1 : Jvm.ClassFile.Decoder Nat) c pc) _) _ = _
  rw [dq_u1 h0]
  rfl
theorem dq_142 {c : ByteArray} {pc : Nat} (h0 : c.data.toList[pc]? = some 142) : decode c pc = .ok (.d2i, pc + 1 - pc) := by
  show Except.bind (Except.bind ((Jvm.ClassFile.Reader.u1 : Jvm.ClassFile.Decoder Nat) c pc) _) _ = _
  rw [dq_u1 h0]
  rfl
theorem dq_143 {c : ByteArray} {pc : Nat} (h0 : c.data.toList[pc]? = some 143) : decode c pc = .ok (.d2l, pc + 1 - pc) := by
  show Except.bind (Except.bind ((Jvm.ClassFile.Reader.u1 : Jvm.ClassFile.Decoder Nat) c pc) _) _ = _
  rw [dq_u1 h0]
  rfl
theorem dq_144 {c : ByteArray} {pc : Nat} (h0 : c.data.toList[pc]? = some 144) : decode c pc = .ok (.d2f, pc + 1 - pc) := by
  show Except.bind (Except.bind ((Jvm.ClassFile.Reader.u1 : Jvm.ClassFile.Decoder Nat) c pc) _) _ = _
  rw [dq_u1 h0]
  rfl
theorem dq_145 {c : ByteArray} {pc : Nat} (h0 : c.data.toList[pc]? = some 145) : decode c pc = .ok (.i2b, pc + 1 - pc) := by
  show Except.bind (Except.bind ((Jvm.ClassFile.Reader.u1 : Jvm.ClassFile.Decoder Nat) c pc) _) _ = _
  rw [dq_u1 h0]
  rfl
theorem dq_146 {c : ByteArray} {pc : Nat} (h0 : c.data.toList[pc]? = some 146) : decode c pc = .ok (.i2c, pc + 1 - pc) := by
  show Except.bind (Except.bind ((Jvm.ClassFile.Reader.u1 : Jvm.ClassFile.Decoder Nat) c pc) _) _ = _
  rw [dq_u1 h0]
  rfl
theorem dq_147 {c : ByteArray} {pc : Nat} (h0 : c.data.toList[pc]? = some 147) : decode c pc = .ok (.i2s, pc + 1 - pc) := by
  show Except.bind (Except.bind ((Jvm.ClassFile.Reader.u1 : Jvm.ClassFile.Decoder Nat) c pc) _) _ = _
  rw [dq_u1 h0]
  rfl
theorem dq_148 {c : ByteArray} {pc : Nat} (h0 : c.data.toList[pc]? = some 148) : decode c pc = .ok (.lcmp, pc + 1 - pc) := by
  show Except.bind (Except.bind ((Jvm.ClassFile.Reader.u1 : Jvm.ClassFile.Decoder Nat) c pc) _) _ = _
  rw [dq_u1 h0]
  rfl
theorem dq_149 {c : ByteArray} {pc : Nat} (h0 : c.data.toList[pc]? = some 149) : decode c pc = .ok (.fcmp .l, pc + 1 - pc) := by
  show Except.bind (Except.bind ((Jvm.ClassFile.Reader.u1 : Jvm.ClassFile.Decoder Nat) c pc) _) _ = _
  rw [dq_u1 h0]
  rfl
theorem dq_150 {c : ByteArray} {pc : Nat} (h0 : c.data.toList[pc]? = some 150) : decode c pc = .ok (.fcmp .g, pc + 1 - pc) := by
  show Except.bind (Except.bind ((Jvm.ClassFile.Reader.u1 : Jvm.ClassFile.Decoder Nat) c pc) _) _ = _
  rw [dq_u1 h0]
  rfl
theorem dq_151 {c : ByteArray} {pc : Nat} (h0 : c.data.toList[pc]? = some 151) : decode c pc = .ok (.dcmp .l, pc + 1 - pc) := by
  show Except.bind (Except.bind ((Jvm.ClassFile.Reader.u1 : Jvm.ClassFile.Decoder Nat) c pc) _) _ = _
  rw [dq_u1 h0]
  rfl
theorem dq_152 {c : ByteArray} {pc : Nat} (h0 : c.data.toList[pc]? = some 152) : decode c pc = .ok (.dcmp .g, pc + 1 - pc) := by
  show Except.bind (Except.bind ((Jvm.ClassFile.Reader.u1 : Jvm.ClassFile.Decoder Nat) c pc) _) _ = _
  rw [dq_u1 h0]
  rfl
theorem dq_153 {c : ByteArray} {pc : Nat} {a b : UInt8} {v : Int} (h0 : c.data.toList[pc]? = some 153) (h1 : c.data.toList[pc + 1]? = some a) (h2 : c.data.toList[pc + 1 + 1]? = some b) (hv : (Jvm.ClassFile.Reader.signed 16 (a.toNat * 256 + b.toNat)) = v) : decode c pc = .ok (.ifCond .eq v, pc + 1 + 1 + 1 - pc) := by
  subst hv
  show Except.bind (Except.bind ((Jvm.ClassFile.Reader.u1 : Jvm.ClassFile.Decoder Nat) c pc) _) _ = _
  rw [dq_u1 h0]
  show Except.bind (Except.bind (Except.bind ((Jvm.ClassFile.Reader.u2 : Jvm.ClassFile.Decoder Nat) c (pc + 1)) _) _) _ = _
  rw [dq_u2 h1 h2]
  rfl
theorem dq_154 {c : ByteArray} {pc : Nat} {a b : UInt8} {v : Int} (h0 : c.data.toList[pc]? = some 154) (h1 : c.data.toList[pc + 1]? = some a) (h2 : c.data.toList[pc + 1 + 1]? = some b) (hv : (Jvm.ClassFile.Reader.signed 16 (a.toNat * 256 + b.toNat)) = v) : decode c pc = .ok (.ifCond .ne v, pc + 1 + 1 + 1 - pc) := by
  subst hv
  show Except.bind (Except.bind ((Jvm.ClassFile.Reader.u1 : Jvm.ClassFile.Decoder Nat) c pc) _) _ = _
  rw [dq_u1 h0]
  show Except.bind (Except.bind (Except.bind ((Jvm.ClassFile.Reader.u2 : Jvm.ClassFile.Decoder Nat) c (pc + 1)) _) _) _ = _
  rw [dq_u2 h1 h2]
  rfl
theorem dq_155 {c : ByteArray} {pc : Nat} {a b : UInt8} {v : Int} (h0 : c.data.toList[pc]? = some 155) (h1 : c.data.toList[pc + 1]? = some a) (h2 : c.data.toList[pc + 1 + 1]? = some b) (hv : (Jvm.ClassFile.Reader.signed 16 (a.toNat * 256 + b.toNat)) = v) : decode c pc = .ok (.ifCond .lt v, pc + 1 + 1 + 1 - pc) := by
  subst hv
  show Except.bind (Except.bind ((Jvm.ClassFile.Reader.u1 : Jvm.ClassFile.Decoder Nat) c pc) _) _ = _
  rw [dq_u1 h0]
  show Except.bind (Except.bind (Except.bind ((Jvm.ClassFile.Reader.u2 : Jvm.ClassFile.Decoder Nat) c (pc + 1)) _) _) _ = _
  rw [dq_u2 h1 h2]
  rfl
theorem dq_156 {c : ByteArray} {pc : Nat} {a b : UInt8} {v : Int} (h0 : c.data.toList[pc]? = some 156) (h1 : c.data.toList[pc + 1]? = some a) (h2 : c.data.toList[pc + 1 + 1]? = some b) (hv : (Jvm.ClassFile.Reader.signed 16 (a.toNat * 256 + b.toNat)) = v) : decode c pc = .ok (.ifCond .ge v, pc + 1 + 1 + 1 - pc) := by
  subst hv
  show Except.bind (Except.bind ((Jvm.ClassFile.Reader.u1 : Jvm.ClassFile.Decoder Nat) c pc) _) _ = _
  rw [dq_u1 h0]
  show Except.bind (Except.bind (Except.bind ((Jvm.ClassFile.Reader.u2 : Jvm.ClassFile.Decoder Nat) c (pc + 1)) _) _) _ = _
  rw [dq_u2 h1 h2]
  rfl
theorem dq_157 {c : ByteArray} {pc : Nat} {a b : UInt8} {v : Int} (h0 : c.data.toList[pc]? = some 157) (h1 : c.data.toList[pc + 1]? = some a) (h2 : c.data.toList[pc + 1 + 1]? = some b) (hv : (Jvm.ClassFile.Reader.signed 16 (a.toNat * 256 + b.toNat)) = v) : decode c pc = .ok (.ifCond .gt v, pc + 1 + 1 + 1 - pc) := by
  subst hv
  show Except.bind (Except.bind ((Jvm.ClassFile.Reader.u1 : Jvm.ClassFile.Decoder Nat) c pc) _) _ = _
  rw [dq_u1 h0]
  show Except.bind (Except.bind (Except.bind ((Jvm.ClassFile.Reader.u2 : Jvm.ClassFile.Decoder Nat) c (pc + 1)) _) _) _ = _
  rw [dq_u2 h1 h2]
  rfl
theorem dq_158 {c : ByteArray} {pc : Nat} {a b : UInt8} {v : Int} (h0 : c.data.toList[pc]? = some 158) (h1 : c.data.toList[pc + 1]? = some a) (h2 : c.data.toList[pc + 1 + 1]? = some b) (hv : (Jvm.ClassFile.Reader.signed 16 (a.toNat * 256 + b.toNat)) = v) : decode c pc = .ok (.ifCond .le v, pc + 1 + 1 + 1 - pc) := by
  subst hv
  show Except.bind (Except.bind ((Jvm.ClassFile.Reader.u1 : Jvm.ClassFile.Decoder Nat) c pc) _) _ = _
  rw [dq_u1 h0]
  show Except.bind (Except.bind (Except.bind ((Jvm.ClassFile.Reader.u2 : Jvm.ClassFile.Decoder Nat) c (pc + 1)) _) _) _ = _
  rw [dq_u2 h1 h2]
  rfl
theorem dq_159 {c : ByteArray} {pc : Nat} {a b : UInt8} {v : Int} (h0 : c.data.toList[pc]? = some 159) (h1 : c.data.toList[pc + 1]? = some a) (h2 : c.data.toList[pc + 1 + 1]? = some b) (hv : (Jvm.ClassFile.Reader.signed 16 (a.toNat * 256 + b.toNat)) = v) : decode c pc = .ok (.if_icmp .eq v, pc + 1 + 1 + 1 - pc) := by
  subst hv
  show Except.bind (Except.bind ((Jvm.ClassFile.Reader.u1 : Jvm.ClassFile.Decoder Nat) c pc) _) _ = _
  rw [dq_u1 h0]
  show Except.bind (Except.bind (Except.bind ((Jvm.ClassFile.Reader.u2 : Jvm.ClassFile.Decoder Nat) c (pc + 1)) _) _) _ = _
  rw [dq_u2 h1 h2]
  rfl
theorem dq_160 {c : ByteArray} {pc : Nat} {a b : UInt8} {v : Int} (h0 : c.data.toList[pc]? = some 160) (h1 : c.data.toList[pc + 1]? = some a) (h2 : c.data.toList[pc + 1 + 1]? = some b) (hv : (Jvm.ClassFile.Reader.signed 16 (a.toNat * 256 + b.toNat)) = v) : decode c pc = .ok (.if_icmp .ne v, pc + 1 + 1 + 1 - pc) := by
  subst hv
  show Except.bind (Except.bind ((Jvm.ClassFile.Reader.u1 : Jvm.ClassFile.Decoder Nat) c pc) _) _ = _
  rw [dq_u1 h0]
  show Except.bind (Except.bind (Except.bind ((Jvm.ClassFile.Reader.u2 : Jvm.ClassFile.Decoder Nat) c (pc + 1)) _) _) _ = _
  rw [dq_u2 h1 h2]
  rfl
theorem dq_161 {c : ByteArray} {pc : Nat} {a b : UInt8} {v : Int} (h0 : c.data.toList[pc]? = some 161) (h1 : c.data.toList[pc + 1]? = some a) (h2 : c.data.toList[pc + 1 + 1]? = some b) (hv : (Jvm.ClassFile.Reader.signed 16 (a.toNat * 256 + b.toNat)) = v) : decode c pc = .ok (.if_icmp .lt v, pc + 1 + 1 + 1 - pc) := by
  subst hv
  show Except.bind (Except.bind ((Jvm.ClassFile.Reader.u1 : Jvm.ClassFile.Decoder Nat) c pc) _) _ = _
  rw [dq_u1 h0]
  show Except.bind (Except.bind (Except.bind ((Jvm.ClassFile.Reader.u2 : Jvm.ClassFile.Decoder Nat) c (pc + 1)) _) _) _ = _
  rw [dq_u2 h1 h2]
  rfl
theorem dq_162 {c : ByteArray} {pc : Nat} {a b : UInt8} {v : Int} (h0 : c.data.toList[pc]? = some 162) (h1 : c.data.toList[pc + 1]? = some a) (h2 : c.data.toList[pc + 1 + 1]? = some b) (hv : (Jvm.ClassFile.Reader.signed 16 (a.toNat * 256 + b.toNat)) = v) : decode c pc = .ok (.if_icmp .ge v, pc + 1 + 1 + 1 - pc) := by
  subst hv
  show Except.bind (Except.bind ((Jvm.ClassFile.Reader.u1 : Jvm.ClassFile.Decoder Nat) c pc) _) _ = _
  rw [dq_u1 h0]
  show Except.bind (Except.bind (Except.bind ((Jvm.ClassFile.Reader.u2 : Jvm.ClassFile.Decoder Nat) c (pc + 1)) _) _) _ = _
  rw [dq_u2 h1 h2]
  rfl
theorem dq_163 {c : ByteArray} {pc : Nat} {a b : UInt8} {v : Int} (h0 : c.data.toList[pc]? = some 163) (h1 : c.data.toList[pc + 1]? = some a) (h2 : c.data.toList[pc + 1 + 1]? = some b) (hv : (Jvm.ClassFile.Reader.signed 16 (a.toNat * 256 + b.toNat)) = v) : decode c pc = .ok (.if_icmp .gt v, pc + 1 + 1 + 1 - pc) := by
  subst hv
  show Except.bind (Except.bind ((Jvm.ClassFile.Reader.u1 : Jvm.ClassFile.Decoder Nat) c pc) _) _ = _
  rw [dq_u1 h0]
  show Except.bind (Except.bind (Except.bind ((Jvm.ClassFile.Reader.u2 : Jvm.ClassFile.Decoder Nat) c (pc + 1)) _) _) _ = _
  rw [dq_u2 h1 h2]
  rfl
theorem dq_164 {c : ByteArray} {pc : Nat} {a b : UInt8} {v : Int} (h0 : c.data.toList[pc]? = some 164) (h1 : c.data.toList[pc + 1]? = some a) (h2 : c.data.toList[pc + 1 + 1]? = some b) (hv : (Jvm.ClassFile.Reader.signed 16 (a.toNat * 256 + b.toNat)) = v) : decode c pc = .ok (.if_icmp .le v, pc + 1 + 1 + 1 - pc) := by
  subst hv
  show Except.bind (Except.bind ((Jvm.ClassFile.Reader.u1 : Jvm.ClassFile.Decoder Nat) c pc) _) _ = _
  rw [dq_u1 h0]
  show Except.bind (Except.bind (Except.bind ((Jvm.ClassFile.Reader.u2 : Jvm.ClassFile.Decoder Nat) c (pc + 1)) _) _) _ = _
  rw [dq_u2 h1 h2]
  rfl
theorem dq_165 {c : ByteArray} {pc : Nat} {a b : UInt8} {v : Int} (h0 : c.data.toList[pc]? = some 165) (h1 : c.data.toList[pc + 1]? = some a) (h2 : c.data.toList[pc + 1 + 1]? = some b) (hv : (Jvm.ClassFile.Reader.signed 16 (a.toNat * 256 + b.toNat)) = v) : decode c pc = .ok (.if_acmp .eq v, pc + 1 + 1 + 1 - pc) := by
  subst hv
  show Except.bind (Except.bind ((Jvm.ClassFile.Reader.u1 : Jvm.ClassFile.Decoder Nat) c pc) _) _ = _
  rw [dq_u1 h0]
  show Except.bind (Except.bind (Except.bind ((Jvm.ClassFile.Reader.u2 : Jvm.ClassFile.Decoder Nat) c (pc + 1)) _) _) _ = _
  rw [dq_u2 h1 h2]
  rfl
theorem dq_166 {c : ByteArray} {pc : Nat} {a b : UInt8} {v : Int} (h0 : c.data.toList[pc]? = some 166) (h1 : c.data.toList[pc + 1]? = some a) (h2 : c.data.toList[pc + 1 + 1]? = some b) (hv : (Jvm.ClassFile.Reader.signed 16 (a.toNat * 256 + b.toNat)) = v) : decode c pc = .ok (.if_acmp .ne v, pc + 1 + 1 + 1 - pc) := by
  subst hv
  show Except.bind (Except.bind ((Jvm.ClassFile.Reader.u1 : Jvm.ClassFile.Decoder Nat) c pc) _) _ = _
  rw [dq_u1 h0]
  show Except.bind (Except.bind (Except.bind ((Jvm.ClassFile.Reader.u2 : Jvm.ClassFile.Decoder Nat) c (pc + 1)) _) _) _ = _
  rw [dq_u2 h1 h2]
  rfl
theorem dq_167 {c : ByteArray} {pc : Nat} {a b : UInt8} {v : Int} (h0 : c.data.toList[pc]? = some 167) (h1 : c.data.toList[pc + 1]? = some a) (h2 : c.data.toList[pc + 1 + 1]? = some b) (hv : (Jvm.ClassFile.Reader.signed 16 (a.toNat * 256 + b.toNat)) = v) : decode c pc = .ok (.goto v, pc + 1 + 1 + 1 - pc) := by
  subst hv
  show Except.bind (Except.bind ((Jvm.ClassFile.Reader.u1 : Jvm.ClassFile.Decoder Nat) c pc) _) _ = _
  rw [dq_u1 h0]
  show Except.bind (Except.bind (Except.bind ((Jvm.ClassFile.Reader.u2 : Jvm.ClassFile.Decoder Nat) c (pc + 1)) _) _) _ = _
  rw [dq_u2 h1 h2]
  rfl
theorem dq_168 {c : ByteArray} {pc : Nat} {a b : UInt8} {v : Int} (h0 : c.data.toList[pc]? = some 168) (h1 : c.data.toList[pc + 1]? = some a) (h2 : c.data.toList[pc + 1 + 1]? = some b) (hv : (Jvm.ClassFile.Reader.signed 16 (a.toNat * 256 + b.toNat)) = v) : decode c pc = .ok (.jsr v, pc + 1 + 1 + 1 - pc) := by
  subst hv
  show Except.bind (Except.bind ((Jvm.ClassFile.Reader.u1 : Jvm.ClassFile.Decoder Nat) c pc) _) _ = _
  rw [dq_u1 h0]
  show Except.bind (Except.bind (Except.bind ((Jvm.ClassFile.Reader.u2 : Jvm.ClassFile.Decoder Nat) c (pc + 1)) _) _) _ = _
  rw [dq_u2 h1 h2]
  rfl
theorem dq_169 {c : ByteArray} {pc : Nat} {a : UInt8} (h0 : c.data.toList[pc]? = some 169) (h1 : c.data.toList[pc + 1]? = some a) : decode c pc = .ok (.ret a.toNat, pc + 1 + 1 - pc) := by
  show Except.bind (Except.bind ((Jvm.ClassFile.Reader.u1 : Jvm.ClassFile.Decoder Nat) c pc) _) _ = _
  rw [dq_u1 h0]
  show Except.bind (Except.bind ((Jvm.ClassFile.Reader.u1 : Jvm.ClassFile.Decoder Nat) c (pc + 1)) _) _ = _
  rw [dq_u1 h1]
  rfl
theorem dq_172 {c : ByteArray} {pc : Nat} (h0 : c.data.toList[pc]? = some 172) : decode c pc = .ok (.ireturn, pc + 1 - pc) := by
  show Except.bind (Except.bind ((Jvm.ClassFile.Reader.u1 : Jvm.ClassFile.Decoder Nat) c pc) _) _ = _
  rw [dq_u1 h0]
  rfl
theorem dq_173 {c : ByteArray} {pc : Nat} (h0 : c.data.toList[pc]? = some 173) : decode c pc = .ok (.lreturn, pc + 1 - pc) := by
  show Except.bind (Except.bind ((Jvm.ClassFile.Reader.u1 : Jvm.ClassFile.Decoder Nat) c pc) _) _ = _
  rw [dq_u1 h0]
  rfl
theorem dq_174 {c : ByteArray} {pc : Nat} (h0 : c.data.toList[pc]? = some 174) : decode c pc = .ok (.freturn, pc + 1 - pc) := by
  show Except.bind (Except.bind ((Jvm.ClassFile.Reader.u1 : Jvm.ClassFile.Decoder Nat) c pc) _) _ = _
  rw [dq_u1 h0]
  rfl
theorem dq_175 {c : ByteArray} {pc : Nat} (h0 : c.data.toList[pc]? = some 175) : decode c pc = .ok (.dreturn, pc + 1 - pc) := by
  show Except.bind (Except.bind ((Jvm.ClassFile.Reader.u1 : Jvm.ClassFile.Decoder Nat) c pc) _) _ = _
  rw [dq_u1 h0]
  rfl
theorem dq_176 {c : ByteArray} {pc : Nat} (h0 : c.data.toList[pc]? = some 176) : decode c pc = .ok (.areturn, pc + 1 - pc) := by
  show Except.bind (Except.bind ((Jvm.ClassFile.Reader.u1 : Jvm.ClassFile.Decoder Nat) c pc) _) _ = _
  rw [dq_u1 h0]
  rfl
theorem dq_177 {c : ByteArray} {pc : Nat} (h0 : c.data.toList[pc]? = some 177) : decode c pc = .ok (.return_, pc + 1 - pc) := by
  show Except.bind (Except.bind ((Jvm.ClassFile.Reader.u1 : Jvm.ClassFile.Decoder Nat) c pc) _) _ = _
  rw [dq_u1 h0]
  rfl
theorem dq_178 {c : ByteArray} {pc : Nat} {a b : UInt8} (h0 : c.data.toList[pc]? = some 178) (h1 : c.data.toList[pc + 1]? = some a) (h2 : c.data.toList[pc + 1 + 1]? = some b) : decode c pc = .ok (.getstatic (a.toNat * 256 + b.toNat), pc + 1 + 1 + 1 - pc) := by
  show Except.bind (Except.bind ((Jvm.ClassFile.Reader.u1 : Jvm.ClassFile.Decoder Nat) c pc) _) _ = _
  rw [dq_u1 h0]
  show Except.bind (Except.bind ((Jvm.ClassFile.Reader.u2 : Jvm.ClassFile.Decoder Nat) c (pc + 1)) _) _ = _
  rw [dq_u2 h1 h2]
  rfl
theorem dq_179 {c : ByteArray} {pc : Nat} {a b : UInt8} (h0 : c.data.toList[pc]? = some 179) (h1 : c.data.toList[pc + 1]? = some a) (h2 : c.data.toList[pc + 1 + 1]? = some b) : decode c pc = .ok (.putstatic (a.toNat * 256 + b.toNat), pc + 1 + 1 + 1 - pc) := by
  show Except.bind (Except.bind ((Jvm.ClassFile.Reader.u1 : Jvm.ClassFile.Decoder Nat) c pc) _) _ = _
  rw [dq_u1 h0]
  show Except.bind (Except.bind ((Jvm.ClassFile.Reader.u2 : Jvm.ClassFile.Decoder Nat) c (pc + 1)) _) _ = _
  rw [dq_u2 h1 h2]
  rfl
theorem dq_180 {c : ByteArray} {pc : Nat} {a b : UInt8} (h0 : c.data.toList[pc]? = some 180) (h1 : c.data.toList[pc + 1]? = some a) (h2 : c.data.toList[pc + 1 + 1]? = some b) : decode c pc = .ok (.getfield (a.toNat * 256 + b.toNat), pc + 1 + 1 + 1 - pc) := by
  show Except.bind (Except.bind ((Jvm.ClassFile.Reader.u1 : Jvm.ClassFile.Decoder Nat) c pc) _) _ = _
  rw [dq_u1 h0]
  show Except.bind (Except.bind ((Jvm.ClassFile.Reader.u2 : Jvm.ClassFile.Decoder Nat) c (pc + 1)) _) _ = _
  rw [dq_u2 h1 h2]
  rfl
theorem dq_181 {c : ByteArray} {pc : Nat} {a b : UInt8} (h0 : c.data.toList[pc]? = some 181) (h1 : c.data.toList[pc + 1]? = some a) (h2 : c.data.toList[pc + 1 + 1]? = some b) : decode c pc = .ok (.putfield (a.toNat * 256 + b.toNat), pc + 1 + 1 + 1 - pc) := by
  show Except.bind (Except.bind ((Jvm.ClassFile.Reader.u1 : Jvm.ClassFile.Decoder Nat) c pc) _) _ = _
  rw [dq_u1 h0]
  show Except.bind (Except.bind ((Jvm.ClassFile.Reader.u2 : Jvm.ClassFile.Decoder Nat) c (pc + 1)) _) _ = _
  rw [dq_u2 h1 h2]
  rfl
theorem dq_182 {c : ByteArray} {pc : Nat} {a b : UInt8} (h0 : c.data.toList[pc]? = some 182) (h1 : c.data.toList[pc + 1]? = some a) (h2 : c.data.toList[pc + 1 + 1]? = some b) : decode c pc = .ok (.invokevirtual (a.toNat * 256 + b.toNat), pc + 1 + 1 + 1 - pc) := by
  show Except.bind (Except.bind ((Jvm.ClassFile.Reader.u1 : Jvm.ClassFile.Decoder Nat) c pc) _) _ = _
  rw [dq_u1 h0]
  show Except.bind (Except.bind ((Jvm.ClassFile.Reader.u2 : Jvm.ClassFile.Decoder Nat) c (pc + 1)) _) _ = _
  rw [dq_u2 h1 h2]
  rfl
theorem dq_183 {c : ByteArray} {pc : Nat} {a b : UInt8} (h0 : c.data.toList[pc]? = some 183) (h1 : c.data.toList[pc + 1]? = some a) (h2 : c.data.toList[pc + 1 + 1]? = some b) : decode c pc = .ok (.invokespecial (a.toNat * 256 + b.toNat), pc + 1 + 1 + 1 - pc) := by
  show Except.bind (Except.bind ((Jvm.ClassFile.Reader.u1 : Jvm.ClassFile.Decoder Nat) c pc) _) _ = _
  rw [dq_u1 h0]
  show Except.bind (Except.bind ((Jvm.ClassFile.Reader.u2 : Jvm.ClassFile.Decoder Nat) c (pc + 1)) _) _ = _
  rw [dq_u2 h1 h2]
  rfl
theorem dq_184 {c : ByteArray} {pc : Nat} {a b : UInt8} (h0 : c.data.toList[pc]? = some 184) (h1 : c.data.toList[pc + 1]? = some a) (h2 : c.data.toList[pc + 1 + 1]? = some b) : decode c pc = .ok (.invokestatic (a.toNat * 256 + b.toNat), pc + 1 + 1 + 1 - pc) := by
  show Except.bind (Except.bind ((Jvm.ClassFile.Reader.u1 : Jvm.ClassFile.Decoder Nat) c pc) _) _ = _
  rw [dq_u1 h0]
  show Except.bind (Except.bind ((Jvm.ClassFile.Reader.u2 : Jvm.ClassFile.Decoder Nat) c (pc + 1)) _) _ = _
  rw [dq_u2 h1 h2]
  rfl
theorem dq_187 {c : ByteArray} {pc : Nat} {a b : UInt8} (h0 : c.data.toList[pc]? = some 187) (h1 : c.data.toList[pc + 1]? = some a) (h2 : c.data.toList[pc + 1 + 1]? = some b) : decode c pc = .ok (.new (a.toNat * 256 + b.toNat), pc + 1 + 1 + 1 - pc) := by
  show Except.bind (Except.bind ((Jvm.ClassFile.Reader.u1 : Jvm.ClassFile.Decoder Nat) c pc) _) _ = _
  rw [dq_u1 h0]
  show Except.bind (Except.bind ((Jvm.ClassFile.Reader.u2 : Jvm.ClassFile.Decoder Nat) c (pc + 1)) _) _ = _
  rw [dq_u2 h1 h2]
  rfl
theorem dq_189 {c : ByteArray} {pc : Nat} {a b : UInt8} (h0 : c.data.toList[pc]? = some 189) (h1 : c.data.toList[pc + 1]? = some a) (h2 : c.data.toList[pc + 1 + 1]? = some b) : decode c pc = .ok (.anewarray (a.toNat * 256 + b.toNat), pc + 1 + 1 + 1 - pc) := by
  show Except.bind (Except.bind ((Jvm.ClassFile.Reader.u1 : Jvm.ClassFile.Decoder Nat) c pc) _) _ = _
  rw [dq_u1 h0]
  show Except.bind (Except.bind ((Jvm.ClassFile.Reader.u2 : Jvm.ClassFile.Decoder Nat) c (pc + 1)) _) _ = _
  rw [dq_u2 h1 h2]
  rfl
theorem dq_190 {c : ByteArray} {pc : Nat} (h0 : c.data.toList[pc]? = some 190) : decode c pc = .ok (.arraylength, pc + 1 - pc) := by
  show Except.bind (Except.bind ((Jvm.ClassFile.Reader.u1 : Jvm.ClassFile.Decoder Nat) c pc) _) _ = _
  rw [dq_u1 h0]
  rfl
theorem dq_191 {c : ByteArray} {pc : Nat} (h0 : c.data.toList[pc]? = some 191) : decode c pc = .ok (.athrow, pc + 1 - pc) := by
  show Except.bind (Except.bind ((Jvm.ClassFile.Reader.u1 : Jvm.ClassFile.Decoder Nat) c pc) _) _ = _
  rw [dq_u1 h0]
  rfl
theorem dq_192 {c : ByteArray} {pc : Nat} {a b : UInt8} (h0 : c.data.toList[pc]? = some 192) (h1 : c.data.toList[pc + 1]? = some a) (h2 : c.data.toList[pc + 1 + 1]? = some b) : decode c pc = .ok (.checkcast (a.toNat * 256 + b.toNat), pc + 1 + 1 + 1 - pc) := by
  show Except.bind (Except.bind ((Jvm.ClassFile.Reader.u1 : Jvm.ClassFile.Decoder Nat) c pc) _) _ = _
  rw [dq_u1 h0]
  show Except.bind (Except.bind ((Jvm.ClassFile.Reader.u2 : Jvm.ClassFile.Decoder Nat) c (pc + 1)) _) _ = _
  rw [dq_u2 h1 h2]
  rfl

