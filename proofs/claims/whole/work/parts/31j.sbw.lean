def dw_J4 (a : Nat → Nat) (ac : Nat → ClassId) (σ : St) : va_W := [(a 0, .inr (1, [.ref (a 1), .int (sI σ 0), .int (sI σ 1), .int (sI σ 2)])), (a 1, .inl (ac 1, a 2, .inl (sR σ 0)))]
def dk_J4 (ac : Nat → ClassId) : List (ClassId × FieldType) := [(ac 1, .byte)]
def nd_bv (b v m : Nat) : Nat → Nat
  | 0 => b
  | 1 => v
  | _ => m
def dw_SB (a : Nat → Nat) (ac : Nat → ClassId) (v : Nat) (τ : Sb) : va_W := dw_J4 (nd_bv (a 0) v τ.1) ac τ.2.2

