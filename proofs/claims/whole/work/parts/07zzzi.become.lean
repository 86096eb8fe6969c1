theorem va_0 {f g : Nat → Int32} {k i : Nat} (h : i < k) : va_cpy f g 0 0 k i = f i := by
  rw [va_i (by omega), Nat.sub_zero, Nat.zero_add]
theorem fa_id {α : Type} {f : Nat → Int32} {k : Nat} {x : Option α} (h : ∀ i : Nat, i < k → fb8 (f i)) : nd_fa .byte f 0 k x = x := if_pos (fun i hi => by rw [Nat.zero_add]; exact h i hi)
/-- things become others: row by row -/
def bcD (A B : St) : St := pL (pR (pI (pR (pR (pR (pR (pR (pR (pR (pR A 0 (va_cpy (sR B 0) (sR A 0) 0 0 256)) 1 (va_cpy (sR B 1) (sR A 1) 0 0 240)) 2 (va_cpy (sR B 2) (sR A 2) 0 0 32)) 3 (va_cpy (sR B 3) (sR A 3) 0 0 4096)) 4 (va_cpy (sR B 4) (sR A 4) 0 0 48)) 5 (va_cpy (sR B 5) (sR A 5) 0 0 8192)) 6 (va_cpy (sR B 6) (sR A 6) 0 0 256)) 7 (va_cpy (sR B 7) (sR A 7) 0 0 512)) 0 (sI B 0)) 8 (va_cpy (sR B 8) (sR A 8) 0 0 2048)) 0 (sL B 0)
theorem cp_id {α : Type} {a b k n m : Nat} {x : Option α} (h1 : a + k ≤ n) (h2 : b + k ≤ m) (h3 : n < 2 ^ 31) (h4 : m < 2 ^ 31) : nd_cp (nI a) (nI b) (nI k) n m x = x := nm_cp h1 h2 h3 h4
theorem tn_k {k : Nat} (h : k < 2 ^ 31) : Int32.toNatClampNeg (nI k) = k := nI_clamp h
theorem bc_D (n : Nat) {A B s0 : St} (h : okY B) : df_X10_become n (s0, (A, B)) = some (s0, (bcD A B, B)) := by
  obtain ⟨h3, h5, h6, h7, h8⟩ := h
  have z0 : Int32.toNatClampNeg (0 : Int32) = 0 := tn_k (k := 0) (by omega)
  have z256 : Int32.toNatClampNeg (256 : Int32) = 256 := tn_k (k := 256) (by omega)
  have z240 : Int32.toNatClampNeg (240 : Int32) = 240 := tn_k (k := 240) (by omega)
  have z32 : Int32.toNatClampNeg (32 : Int32) = 32 := tn_k (k := 32) (by omega)
  have z4096 : Int32.toNatClampNeg (4096 : Int32) = 4096 := tn_k (k := 4096) (by omega)
  have z48 : Int32.toNatClampNeg (48 : Int32) = 48 := tn_k (k := 48) (by omega)
  have z8192 : Int32.toNatClampNeg (8192 : Int32) = 8192 := tn_k (k := 8192) (by omega)
  have z512 : Int32.toNatClampNeg (512 : Int32) = 512 := tn_k (k := 512) (by omega)
  have z2048 : Int32.toNatClampNeg (2048 : Int32) = 2048 := tn_k (k := 2048) (by omega)
  have c256 : ∀ {α : Type} (x : Option α), nd_cp 0 0 256 256 256 x = x := fun x => cp_id (a := 0) (b := 0) (k := 256) (by omega) (by omega) (by omega) (by omega)
  have c240 : ∀ {α : Type} (x : Option α), nd_cp 0 0 240 240 240 x = x := fun x => cp_id (a := 0) (b := 0) (k := 240) (by omega) (by omega) (by omega) (by omega)
  have c32 : ∀ {α : Type} (x : Option α), nd_cp 0 0 32 32 32 x = x := fun x => cp_id (a := 0) (b := 0) (k := 32) (by omega) (by omega) (by omega) (by omega)
  have c4096 : ∀ {α : Type} (x : Option α), nd_cp 0 0 4096 4096 4096 x = x := fun x => cp_id (a := 0) (b := 0) (k := 4096) (by omega) (by omega) (by omega) (by omega)
  have c48 : ∀ {α : Type} (x : Option α), nd_cp 0 0 48 48 48 x = x := fun x => cp_id (a := 0) (b := 0) (k := 48) (by omega) (by omega) (by omega) (by omega)
  have c8192 : ∀ {α : Type} (x : Option α), nd_cp 0 0 8192 8192 8192 x = x := fun x => cp_id (a := 0) (b := 0) (k := 8192) (by omega) (by omega) (by omega) (by omega)
  have c512 : ∀ {α : Type} (x : Option α), nd_cp 0 0 512 512 512 x = x := fun x => cp_id (a := 0) (b := 0) (k := 512) (by omega) (by omega) (by omega) (by omega)
  have c2048 : ∀ {α : Type} (x : Option α), nd_cp 0 0 2048 2048 2048 x = x := fun x => cp_id (a := 0) (b := 0) (k := 2048) (by omega) (by omega) (by omega) (by omega)
  have f3 : ∀ {α : Type} (x : Option α), nd_fa .byte (sR B 3) 0 4096 x = x := fun x => fa_id h3
  have f5 : ∀ {α : Type} (x : Option α), nd_fa .byte (sR B 5) 0 8192 x = x := fun x => fa_id h5
  have f6 : ∀ {α : Type} (x : Option α), nd_fa .byte (sR B 6) 0 256 x = x := fun x => fa_id h6
  have f7 : ∀ {α : Type} (x : Option α), nd_fa .byte (sR B 7) 0 512 x = x := fun x => fa_id h7
  have f8 : ∀ {α : Type} (x : Option α), nd_fa .byte (sR B 8) 0 2048 x = x := fun x => fa_id h8
  unfold df_X10_become df_X10_become_0
  rw [z0, z256, z240, z32, z4096, z48, z8192, z512, z2048]
  rw [c256, nb_let, c240, nb_let, c32, nb_let, c4096, f3, nb_let, c48, nb_let, c8192, f5, nb_let, c256, f6, nb_let, c512, f7, nb_let, nb_let, c2048, f8, nb_let, nb_let]
  rfl
