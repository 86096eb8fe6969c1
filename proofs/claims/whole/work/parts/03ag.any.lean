set_option maxHeartbeats 40000000 in
set_option maxRecDepth 100000 in
theorem g_X4_changed (l : Launch) (hlt : l.stackTraces = false) (dC : Nat → ClassId) (dI : Nat → Nat → Nat) (v0 : Int32) (v1 : Int32) (v2 : Int32) (sz : Nat) : Met l yX4_changed ow_g_X4_changed ({ frames := 2, cells := 0, slots := 0, locals := 42 }) (va_Pc [.int v0, .int v1, .int v2] (fun U => U.heap.size = sz ∧ va_P (dC, dI) vwCl [] U.heap ∧ va_K (dC, dI) vwCl [] U ∧ va_D (fun _ => True) [] ∧ nv_E (va_A [] sz) U)) (va_Qi (fun r _ => ((v0 = 0) ∧ r = (v1 + v2)) ∨ ((¬ v0 = 0) ∧ (v0 = 1) ∧ r = v2) ∨ ((¬ v0 = 0) ∧ (¬ v0 = 1) ∧ (v0 = 2) ∧ ((v2 + (-2147483648)) ≤ (v1 + (-2147483648))) ∧ (¬ (v1 + (-2147483648)) = (v2 + (-2147483648))) ∧ r = v1) ∨ ((¬ v0 = 0) ∧ (¬ v0 = 1) ∧ (v0 = 2) ∧ ((v2 + (-2147483648)) ≤ (v1 + (-2147483648))) ∧ ((v1 + (-2147483648)) = (v2 + (-2147483648))) ∧ r = v2) ∨ ((¬ v0 = 0) ∧ (¬ v0 = 1) ∧ (v0 = 2) ∧ (¬ (v2 + (-2147483648)) ≤ (v1 + (-2147483648))) ∧ r = v2) ∨ ((¬ v0 = 0) ∧ (¬ v0 = 1) ∧ (¬ v0 = 2) ∧ (v0 = 3) ∧ ((v2 + (-2147483648)) ≤ (v1 + (-2147483648))) ∧ (¬ (v1 + (-2147483648)) = (v2 + (-2147483648))) ∧ r = v1) ∨ ((¬ v0 = 0) ∧ (¬ v0 = 1) ∧ (¬ v0 = 2) ∧ (v0 = 3) ∧ ((v2 + (-2147483648)) ≤ (v1 + (-2147483648))) ∧ ((v1 + (-2147483648)) = (v2 + (-2147483648))) ∧ r = v2) ∨ ((¬ v0 = 0) ∧ (¬ v0 = 1) ∧ (¬ v0 = 2) ∧ (v0 = 3) ∧ (¬ (v2 + (-2147483648)) ≤ (v1 + (-2147483648))) ∧ r = v2) ∨ ((¬ v0 = 0) ∧ (¬ v0 = 1) ∧ (¬ v0 = 2) ∧ (¬ v0 = 3) ∧ (v0 = 4) ∧ r = (v1 ^^^ v2)) ∨ ((¬ v0 = 0) ∧ (¬ v0 = 1) ∧ (¬ v0 = 2) ∧ (¬ v0 = 3) ∧ (¬ v0 = 4) ∧ (v0 = 5) ∧ ((v2 + (-2147483648)) ≤ (v1 + (-2147483648))) ∧ (¬ (v1 + (-2147483648)) = (v2 + (-2147483648))) ∧ r = v1) ∨ ((¬ v0 = 0) ∧ (¬ v0 = 1) ∧ (¬ v0 = 2) ∧ (¬ v0 = 3) ∧ (¬ v0 = 4) ∧ (v0 = 5) ∧ ((v2 + (-2147483648)) ≤ (v1 + (-2147483648))) ∧ ((v1 + (-2147483648)) = (v2 + (-2147483648))) ∧ r = v2) ∨ ((¬ v0 = 0) ∧ (¬ v0 = 1) ∧ (¬ v0 = 2) ∧ (¬ v0 = 3) ∧ (¬ v0 = 4) ∧ (v0 = 5) ∧ (¬ (v2 + (-2147483648)) ≤ (v1 + (-2147483648))) ∧ r = v2) ∨ ((¬ v0 = 0) ∧ (¬ v0 = 1) ∧ (¬ v0 = 2) ∧ (¬ v0 = 3) ∧ (¬ v0 = 4) ∧ (¬ v0 = 5) ∧ (v0 = 6) ∧ ((v2 + (-2147483648)) ≤ (v1 + (-2147483648))) ∧ (¬ (v1 + (-2147483648)) = (v2 + (-2147483648))) ∧ r = v1) ∨ ((¬ v0 = 0) ∧ (¬ v0 = 1) ∧ (¬ v0 = 2) ∧ (¬ v0 = 3) ∧ (¬ v0 = 4) ∧ (¬ v0 = 5) ∧ (v0 = 6) ∧ ((v2 + (-2147483648)) ≤ (v1 + (-2147483648))) ∧ ((v1 + (-2147483648)) = (v2 + (-2147483648))) ∧ r = v2) ∨ ((¬ v0 = 0) ∧ (¬ v0 = 1) ∧ (¬ v0 = 2) ∧ (¬ v0 = 3) ∧ (¬ v0 = 4) ∧ (¬ v0 = 5) ∧ (v0 = 6) ∧ (¬ (v2 + (-2147483648)) ≤ (v1 + (-2147483648))) ∧ r = v2) ∨ ((¬ v0 = 0) ∧ (¬ v0 = 1) ∧ (¬ v0 = 2) ∧ (¬ v0 = 3) ∧ (¬ v0 = 4) ∧ (¬ v0 = 5) ∧ (¬ v0 = 6) ∧ (v0 = 7) ∧ ((v2 + (-2147483648)) ≤ (v1 + (-2147483648))) ∧ (¬ (v1 + (-2147483648)) = (v2 + (-2147483648))) ∧ r = v1) ∨ ((¬ v0 = 0) ∧ (¬ v0 = 1) ∧ (¬ v0 = 2) ∧ (¬ v0 = 3) ∧ (¬ v0 = 4) ∧ (¬ v0 = 5) ∧ (¬ v0 = 6) ∧ (v0 = 7) ∧ ((v2 + (-2147483648)) ≤ (v1 + (-2147483648))) ∧ ((v1 + (-2147483648)) = (v2 + (-2147483648))) ∧ r = v2) ∨ ((¬ v0 = 0) ∧ (¬ v0 = 1) ∧ (¬ v0 = 2) ∧ (¬ v0 = 3) ∧ (¬ v0 = 4) ∧ (¬ v0 = 5) ∧ (¬ v0 = 6) ∧ (v0 = 7) ∧ (¬ (v2 + (-2147483648)) ≤ (v1 + (-2147483648))) ∧ r = v2) ∨ ((¬ v0 = 0) ∧ (¬ v0 = 1) ∧ (¬ v0 = 2) ∧ (¬ v0 = 3) ∧ (¬ v0 = 4) ∧ (¬ v0 = 5) ∧ (¬ v0 = 6) ∧ (¬ v0 = 7) ∧ (v0 = 8) ∧ r = (v1 ||| v2)) ∨ ((¬ v0 = 0) ∧ (¬ v0 = 1) ∧ (¬ v0 = 2) ∧ (¬ v0 = 3) ∧ (¬ v0 = 4) ∧ (¬ v0 = 5) ∧ (¬ v0 = 6) ∧ (¬ v0 = 7) ∧ (¬ v0 = 8) ∧ (v0 = 9) ∧ ((v2 + (-2147483648)) ≤ (v1 + (-2147483648))) ∧ (¬ (v1 + (-2147483648)) = (v2 + (-2147483648))) ∧ r = v1) ∨ ((¬ v0 = 0) ∧ (¬ v0 = 1) ∧ (¬ v0 = 2) ∧ (¬ v0 = 3) ∧ (¬ v0 = 4) ∧ (¬ v0 = 5) ∧ (¬ v0 = 6) ∧ (¬ v0 = 7) ∧ (¬ v0 = 8) ∧ (v0 = 9) ∧ ((v2 + (-2147483648)) ≤ (v1 + (-2147483648))) ∧ ((v1 + (-2147483648)) = (v2 + (-2147483648))) ∧ r = v2) ∨ ((¬ v0 = 0) ∧ (¬ v0 = 1) ∧ (¬ v0 = 2) ∧ (¬ v0 = 3) ∧ (¬ v0 = 4) ∧ (¬ v0 = 5) ∧ (¬ v0 = 6) ∧ (¬ v0 = 7) ∧ (¬ v0 = 8) ∧ (v0 = 9) ∧ (¬ (v2 + (-2147483648)) ≤ (v1 + (-2147483648))) ∧ r = v2) ∨ ((¬ v0 = 0) ∧ (¬ v0 = 1) ∧ (¬ v0 = 2) ∧ (¬ v0 = 3) ∧ (¬ v0 = 4) ∧ (¬ v0 = 5) ∧ (¬ v0 = 6) ∧ (¬ v0 = 7) ∧ (¬ v0 = 8) ∧ (¬ v0 = 9) ∧ (v0 = 10) ∧ ((v2 + (-2147483648)) ≤ (v1 + (-2147483648))) ∧ (¬ (v1 + (-2147483648)) = (v2 + (-2147483648))) ∧ r = v1) ∨ ((¬ v0 = 0) ∧ (¬ v0 = 1) ∧ (¬ v0 = 2) ∧ (¬ v0 = 3) ∧ (¬ v0 = 4) ∧ (¬ v0 = 5) ∧ (¬ v0 = 6) ∧ (¬ v0 = 7) ∧ (¬ v0 = 8) ∧ (¬ v0 = 9) ∧ (v0 = 10) ∧ ((v2 + (-2147483648)) ≤ (v1 + (-2147483648))) ∧ ((v1 + (-2147483648)) = (v2 + (-2147483648))) ∧ r = v2) ∨ ((¬ v0 = 0) ∧ (¬ v0 = 1) ∧ (¬ v0 = 2) ∧ (¬ v0 = 3) ∧ (¬ v0 = 4) ∧ (¬ v0 = 5) ∧ (¬ v0 = 6) ∧ (¬ v0 = 7) ∧ (¬ v0 = 8) ∧ (¬ v0 = 9) ∧ (v0 = 10) ∧ (¬ (v2 + (-2147483648)) ≤ (v1 + (-2147483648))) ∧ r = v2) ∨ ((¬ v0 = 0) ∧ (¬ v0 = 1) ∧ (¬ v0 = 2) ∧ (¬ v0 = 3) ∧ (¬ v0 = 4) ∧ (¬ v0 = 5) ∧ (¬ v0 = 6) ∧ (¬ v0 = 7) ∧ (¬ v0 = 8) ∧ (¬ v0 = 9) ∧ (¬ v0 = 10) ∧ (v0 = 11) ∧ ((v2 + (-2147483648)) ≤ (v1 + (-2147483648))) ∧ (¬ (v1 + (-2147483648)) = (v2 + (-2147483648))) ∧ r = v1) ∨ ((¬ v0 = 0) ∧ (¬ v0 = 1) ∧ (¬ v0 = 2) ∧ (¬ v0 = 3) ∧ (¬ v0 = 4) ∧ (¬ v0 = 5) ∧ (¬ v0 = 6) ∧ (¬ v0 = 7) ∧ (¬ v0 = 8) ∧ (¬ v0 = 9) ∧ (¬ v0 = 10) ∧ (v0 = 11) ∧ ((v2 + (-2147483648)) ≤ (v1 + (-2147483648))) ∧ ((v1 + (-2147483648)) = (v2 + (-2147483648))) ∧ r = v2) ∨ ((¬ v0 = 0) ∧ (¬ v0 = 1) ∧ (¬ v0 = 2) ∧ (¬ v0 = 3) ∧ (¬ v0 = 4) ∧ (¬ v0 = 5) ∧ (¬ v0 = 6) ∧ (¬ v0 = 7) ∧ (¬ v0 = 8) ∧ (¬ v0 = 9) ∧ (¬ v0 = 10) ∧ (v0 = 11) ∧ (¬ (v2 + (-2147483648)) ≤ (v1 + (-2147483648))) ∧ r = v2) ∨ ((¬ v0 = 0) ∧ (¬ v0 = 1) ∧ (¬ v0 = 2) ∧ (¬ v0 = 3) ∧ (¬ v0 = 4) ∧ (¬ v0 = 5) ∧ (¬ v0 = 6) ∧ (¬ v0 = 7) ∧ (¬ v0 = 8) ∧ (¬ v0 = 9) ∧ (¬ v0 = 10) ∧ (¬ v0 = 11) ∧ (v0 = 12) ∧ r = (v1 &&& v2)) ∨ ((¬ v0 = 0) ∧ (¬ v0 = 1) ∧ (¬ v0 = 2) ∧ (¬ v0 = 3) ∧ (¬ v0 = 4) ∧ (¬ v0 = 5) ∧ (¬ v0 = 6) ∧ (¬ v0 = 7) ∧ (¬ v0 = 8) ∧ (¬ v0 = 9) ∧ (¬ v0 = 10) ∧ (¬ v0 = 11) ∧ (¬ v0 = 12) ∧ (v0 = 13) ∧ ((v2 + (-2147483648)) ≤ (v1 + (-2147483648))) ∧ (¬ (v1 + (-2147483648)) = (v2 + (-2147483648))) ∧ r = v1) ∨ ((¬ v0 = 0) ∧ (¬ v0 = 1) ∧ (¬ v0 = 2) ∧ (¬ v0 = 3) ∧ (¬ v0 = 4) ∧ (¬ v0 = 5) ∧ (¬ v0 = 6) ∧ (¬ v0 = 7) ∧ (¬ v0 = 8) ∧ (¬ v0 = 9) ∧ (¬ v0 = 10) ∧ (¬ v0 = 11) ∧ (¬ v0 = 12) ∧ (v0 = 13) ∧ ((v2 + (-2147483648)) ≤ (v1 + (-2147483648))) ∧ ((v1 + (-2147483648)) = (v2 + (-2147483648))) ∧ r = v2) ∨ ((¬ v0 = 0) ∧ (¬ v0 = 1) ∧ (¬ v0 = 2) ∧ (¬ v0 = 3) ∧ (¬ v0 = 4) ∧ (¬ v0 = 5) ∧ (¬ v0 = 6) ∧ (¬ v0 = 7) ∧ (¬ v0 = 8) ∧ (¬ v0 = 9) ∧ (¬ v0 = 10) ∧ (¬ v0 = 11) ∧ (¬ v0 = 12) ∧ (v0 = 13) ∧ (¬ (v2 + (-2147483648)) ≤ (v1 + (-2147483648))) ∧ r = v2) ∨ ((¬ v0 = 0) ∧ (¬ v0 = 1) ∧ (¬ v0 = 2) ∧ (¬ v0 = 3) ∧ (¬ v0 = 4) ∧ (¬ v0 = 5) ∧ (¬ v0 = 6) ∧ (¬ v0 = 7) ∧ (¬ v0 = 8) ∧ (¬ v0 = 9) ∧ (¬ v0 = 10) ∧ (¬ v0 = 11) ∧ (¬ v0 = 12) ∧ (¬ v0 = 13) ∧ (v0 = 14) ∧ ((v2 + (-2147483648)) ≤ (v1 + (-2147483648))) ∧ (¬ (v1 + (-2147483648)) = (v2 + (-2147483648))) ∧ r = v1) ∨ ((¬ v0 = 0) ∧ (¬ v0 = 1) ∧ (¬ v0 = 2) ∧ (¬ v0 = 3) ∧ (¬ v0 = 4) ∧ (¬ v0 = 5) ∧ (¬ v0 = 6) ∧ (¬ v0 = 7) ∧ (¬ v0 = 8) ∧ (¬ v0 = 9) ∧ (¬ v0 = 10) ∧ (¬ v0 = 11) ∧ (¬ v0 = 12) ∧ (¬ v0 = 13) ∧ (v0 = 14) ∧ ((v2 + (-2147483648)) ≤ (v1 + (-2147483648))) ∧ ((v1 + (-2147483648)) = (v2 + (-2147483648))) ∧ r = v2) ∨ ((¬ v0 = 0) ∧ (¬ v0 = 1) ∧ (¬ v0 = 2) ∧ (¬ v0 = 3) ∧ (¬ v0 = 4) ∧ (¬ v0 = 5) ∧ (¬ v0 = 6) ∧ (¬ v0 = 7) ∧ (¬ v0 = 8) ∧ (¬ v0 = 9) ∧ (¬ v0 = 10) ∧ (¬ v0 = 11) ∧ (¬ v0 = 12) ∧ (¬ v0 = 13) ∧ (v0 = 14) ∧ (¬ (v2 + (-2147483648)) ≤ (v1 + (-2147483648))) ∧ r = v2) ∨ ((¬ v0 = 0) ∧ (¬ v0 = 1) ∧ (¬ v0 = 2) ∧ (¬ v0 = 3) ∧ (¬ v0 = 4) ∧ (¬ v0 = 5) ∧ (¬ v0 = 6) ∧ (¬ v0 = 7) ∧ (¬ v0 = 8) ∧ (¬ v0 = 9) ∧ (¬ v0 = 10) ∧ (¬ v0 = 11) ∧ (¬ v0 = 12) ∧ (¬ v0 = 13) ∧ (¬ v0 = 14) ∧ (v0 = 15) ∧ ((v2 + (-2147483648)) ≤ (v1 + (-2147483648))) ∧ (¬ (v1 + (-2147483648)) = (v2 + (-2147483648))) ∧ r = v1) ∨ ((¬ v0 = 0) ∧ (¬ v0 = 1) ∧ (¬ v0 = 2) ∧ (¬ v0 = 3) ∧ (¬ v0 = 4) ∧ (¬ v0 = 5) ∧ (¬ v0 = 6) ∧ (¬ v0 = 7) ∧ (¬ v0 = 8) ∧ (¬ v0 = 9) ∧ (¬ v0 = 10) ∧ (¬ v0 = 11) ∧ (¬ v0 = 12) ∧ (¬ v0 = 13) ∧ (¬ v0 = 14) ∧ (v0 = 15) ∧ ((v2 + (-2147483648)) ≤ (v1 + (-2147483648))) ∧ ((v1 + (-2147483648)) = (v2 + (-2147483648))) ∧ r = v2) ∨ ((¬ v0 = 0) ∧ (¬ v0 = 1) ∧ (¬ v0 = 2) ∧ (¬ v0 = 3) ∧ (¬ v0 = 4) ∧ (¬ v0 = 5) ∧ (¬ v0 = 6) ∧ (¬ v0 = 7) ∧ (¬ v0 = 8) ∧ (¬ v0 = 9) ∧ (¬ v0 = 10) ∧ (¬ v0 = 11) ∧ (¬ v0 = 12) ∧ (¬ v0 = 13) ∧ (¬ v0 = 14) ∧ (v0 = 15) ∧ (¬ (v2 + (-2147483648)) ≤ (v1 + (-2147483648))) ∧ r = v2) ∨ ((¬ v0 = 0) ∧ (¬ v0 = 1) ∧ (¬ v0 = 2) ∧ (¬ v0 = 3) ∧ (¬ v0 = 4) ∧ (¬ v0 = 5) ∧ (¬ v0 = 6) ∧ (¬ v0 = 7) ∧ (¬ v0 = 8) ∧ (¬ v0 = 9) ∧ (¬ v0 = 10) ∧ (¬ v0 = 11) ∧ (¬ v0 = 12) ∧ (¬ v0 = 13) ∧ (¬ v0 = 14) ∧ (¬ v0 = 15) ∧ (v0 = 16) ∧ r = (if (v2 : Int32) < v1 then v2 else v1)) ∨ ((¬ v0 = 0) ∧ (¬ v0 = 1) ∧ (¬ v0 = 2) ∧ (¬ v0 = 3) ∧ (¬ v0 = 4) ∧ (¬ v0 = 5) ∧ (¬ v0 = 6) ∧ (¬ v0 = 7) ∧ (¬ v0 = 8) ∧ (¬ v0 = 9) ∧ (¬ v0 = 10) ∧ (¬ v0 = 11) ∧ (¬ v0 = 12) ∧ (¬ v0 = 13) ∧ (¬ v0 = 14) ∧ (¬ v0 = 15) ∧ (¬ v0 = 16) ∧ (v0 = 17) ∧ ((v2 + (-2147483648)) ≤ (v1 + (-2147483648))) ∧ (¬ (v1 + (-2147483648)) = (v2 + (-2147483648))) ∧ r = v1) ∨ ((¬ v0 = 0) ∧ (¬ v0 = 1) ∧ (¬ v0 = 2) ∧ (¬ v0 = 3) ∧ (¬ v0 = 4) ∧ (¬ v0 = 5) ∧ (¬ v0 = 6) ∧ (¬ v0 = 7) ∧ (¬ v0 = 8) ∧ (¬ v0 = 9) ∧ (¬ v0 = 10) ∧ (¬ v0 = 11) ∧ (¬ v0 = 12) ∧ (¬ v0 = 13) ∧ (¬ v0 = 14) ∧ (¬ v0 = 15) ∧ (¬ v0 = 16) ∧ (v0 = 17) ∧ ((v2 + (-2147483648)) ≤ (v1 + (-2147483648))) ∧ ((v1 + (-2147483648)) = (v2 + (-2147483648))) ∧ r = v2) ∨ ((¬ v0 = 0) ∧ (¬ v0 = 1) ∧ (¬ v0 = 2) ∧ (¬ v0 = 3) ∧ (¬ v0 = 4) ∧ (¬ v0 = 5) ∧ (¬ v0 = 6) ∧ (¬ v0 = 7) ∧ (¬ v0 = 8) ∧ (¬ v0 = 9) ∧ (¬ v0 = 10) ∧ (¬ v0 = 11) ∧ (¬ v0 = 12) ∧ (¬ v0 = 13) ∧ (¬ v0 = 14) ∧ (¬ v0 = 15) ∧ (¬ v0 = 16) ∧ (v0 = 17) ∧ (¬ (v2 + (-2147483648)) ≤ (v1 + (-2147483648))) ∧ r = v2) ∨ ((¬ v0 = 0) ∧ (¬ v0 = 1) ∧ (¬ v0 = 2) ∧ (¬ v0 = 3) ∧ (¬ v0 = 4) ∧ (¬ v0 = 5) ∧ (¬ v0 = 6) ∧ (¬ v0 = 7) ∧ (¬ v0 = 8) ∧ (¬ v0 = 9) ∧ (¬ v0 = 10) ∧ (¬ v0 = 11) ∧ (¬ v0 = 12) ∧ (¬ v0 = 13) ∧ (¬ v0 = 14) ∧ (¬ v0 = 15) ∧ (¬ v0 = 16) ∧ (¬ v0 = 17) ∧ (v0 = 18) ∧ ((v2 + (-2147483648)) ≤ (v1 + (-2147483648))) ∧ (¬ (v1 + (-2147483648)) = (v2 + (-2147483648))) ∧ r = v1) ∨ ((¬ v0 = 0) ∧ (¬ v0 = 1) ∧ (¬ v0 = 2) ∧ (¬ v0 = 3) ∧ (¬ v0 = 4) ∧ (¬ v0 = 5) ∧ (¬ v0 = 6) ∧ (¬ v0 = 7) ∧ (¬ v0 = 8) ∧ (¬ v0 = 9) ∧ (¬ v0 = 10) ∧ (¬ v0 = 11) ∧ (¬ v0 = 12) ∧ (¬ v0 = 13) ∧ (¬ v0 = 14) ∧ (¬ v0 = 15) ∧ (¬ v0 = 16) ∧ (¬ v0 = 17) ∧ (v0 = 18) ∧ ((v2 + (-2147483648)) ≤ (v1 + (-2147483648))) ∧ ((v1 + (-2147483648)) = (v2 + (-2147483648))) ∧ r = v2) ∨ ((¬ v0 = 0) ∧ (¬ v0 = 1) ∧ (¬ v0 = 2) ∧ (¬ v0 = 3) ∧ (¬ v0 = 4) ∧ (¬ v0 = 5) ∧ (¬ v0 = 6) ∧ (¬ v0 = 7) ∧ (¬ v0 = 8) ∧ (¬ v0 = 9) ∧ (¬ v0 = 10) ∧ (¬ v0 = 11) ∧ (¬ v0 = 12) ∧ (¬ v0 = 13) ∧ (¬ v0 = 14) ∧ (¬ v0 = 15) ∧ (¬ v0 = 16) ∧ (¬ v0 = 17) ∧ (v0 = 18) ∧ (¬ (v2 + (-2147483648)) ≤ (v1 + (-2147483648))) ∧ r = v2) ∨ ((¬ v0 = 0) ∧ (¬ v0 = 1) ∧ (¬ v0 = 2) ∧ (¬ v0 = 3) ∧ (¬ v0 = 4) ∧ (¬ v0 = 5) ∧ (¬ v0 = 6) ∧ (¬ v0 = 7) ∧ (¬ v0 = 8) ∧ (¬ v0 = 9) ∧ (¬ v0 = 10) ∧ (¬ v0 = 11) ∧ (¬ v0 = 12) ∧ (¬ v0 = 13) ∧ (¬ v0 = 14) ∧ (¬ v0 = 15) ∧ (¬ v0 = 16) ∧ (¬ v0 = 17) ∧ (¬ v0 = 18) ∧ (v0 = 19) ∧ ((v2 + (-2147483648)) ≤ (v1 + (-2147483648))) ∧ (¬ (v1 + (-2147483648)) = (v2 + (-2147483648))) ∧ r = v1) ∨ ((¬ v0 = 0) ∧ (¬ v0 = 1) ∧ (¬ v0 = 2) ∧ (¬ v0 = 3) ∧ (¬ v0 = 4) ∧ (¬ v0 = 5) ∧ (¬ v0 = 6) ∧ (¬ v0 = 7) ∧ (¬ v0 = 8) ∧ (¬ v0 = 9) ∧ (¬ v0 = 10) ∧ (¬ v0 = 11) ∧ (¬ v0 = 12) ∧ (¬ v0 = 13) ∧ (¬ v0 = 14) ∧ (¬ v0 = 15) ∧ (¬ v0 = 16) ∧ (¬ v0 = 17) ∧ (¬ v0 = 18) ∧ (v0 = 19) ∧ ((v2 + (-2147483648)) ≤ (v1 + (-2147483648))) ∧ ((v1 + (-2147483648)) = (v2 + (-2147483648))) ∧ r = v2) ∨ ((¬ v0 = 0) ∧ (¬ v0 = 1) ∧ (¬ v0 = 2) ∧ (¬ v0 = 3) ∧ (¬ v0 = 4) ∧ (¬ v0 = 5) ∧ (¬ v0 = 6) ∧ (¬ v0 = 7) ∧ (¬ v0 = 8) ∧ (¬ v0 = 9) ∧ (¬ v0 = 10) ∧ (¬ v0 = 11) ∧ (¬ v0 = 12) ∧ (¬ v0 = 13) ∧ (¬ v0 = 14) ∧ (¬ v0 = 15) ∧ (¬ v0 = 16) ∧ (¬ v0 = 17) ∧ (¬ v0 = 18) ∧ (v0 = 19) ∧ (¬ (v2 + (-2147483648)) ≤ (v1 + (-2147483648))) ∧ r = v2) ∨ ((¬ v0 = 0) ∧ (¬ v0 = 1) ∧ (¬ v0 = 2) ∧ (¬ v0 = 3) ∧ (¬ v0 = 4) ∧ (¬ v0 = 5) ∧ (¬ v0 = 6) ∧ (¬ v0 = 7) ∧ (¬ v0 = 8) ∧ (¬ v0 = 9) ∧ (¬ v0 = 10) ∧ (¬ v0 = 11) ∧ (¬ v0 = 12) ∧ (¬ v0 = 13) ∧ (¬ v0 = 14) ∧ (¬ v0 = 15) ∧ (¬ v0 = 16) ∧ (¬ v0 = 17) ∧ (¬ v0 = 18) ∧ (¬ v0 = 19) ∧ (v0 = 20) ∧ r = (if (v1 : Int32) < v2 then v2 else v1)) ∨ ((¬ v0 = 0) ∧ (¬ v0 = 1) ∧ (¬ v0 = 2) ∧ (¬ v0 = 3) ∧ (¬ v0 = 4) ∧ (¬ v0 = 5) ∧ (¬ v0 = 6) ∧ (¬ v0 = 7) ∧ (¬ v0 = 8) ∧ (¬ v0 = 9) ∧ (¬ v0 = 10) ∧ (¬ v0 = 11) ∧ (¬ v0 = 12) ∧ (¬ v0 = 13) ∧ (¬ v0 = 14) ∧ (¬ v0 = 15) ∧ (¬ v0 = 16) ∧ (¬ v0 = 17) ∧ (¬ v0 = 18) ∧ (¬ v0 = 19) ∧ (¬ v0 = 20) ∧ (v0 = 21) ∧ ((v2 + (-2147483648)) ≤ (v1 + (-2147483648))) ∧ (¬ (v1 + (-2147483648)) = (v2 + (-2147483648))) ∧ r = v1) ∨ ((¬ v0 = 0) ∧ (¬ v0 = 1) ∧ (¬ v0 = 2) ∧ (¬ v0 = 3) ∧ (¬ v0 = 4) ∧ (¬ v0 = 5) ∧ (¬ v0 = 6) ∧ (¬ v0 = 7) ∧ (¬ v0 = 8) ∧ (¬ v0 = 9) ∧ (¬ v0 = 10) ∧ (¬ v0 = 11) ∧ (¬ v0 = 12) ∧ (¬ v0 = 13) ∧ (¬ v0 = 14) ∧ (¬ v0 = 15) ∧ (¬ v0 = 16) ∧ (¬ v0 = 17) ∧ (¬ v0 = 18) ∧ (¬ v0 = 19) ∧ (¬ v0 = 20) ∧ (v0 = 21) ∧ ((v2 + (-2147483648)) ≤ (v1 + (-2147483648))) ∧ ((v1 + (-2147483648)) = (v2 + (-2147483648))) ∧ r = v2) ∨ ((¬ v0 = 0) ∧ (¬ v0 = 1) ∧ (¬ v0 = 2) ∧ (¬ v0 = 3) ∧ (¬ v0 = 4) ∧ (¬ v0 = 5) ∧ (¬ v0 = 6) ∧ (¬ v0 = 7) ∧ (¬ v0 = 8) ∧ (¬ v0 = 9) ∧ (¬ v0 = 10) ∧ (¬ v0 = 11) ∧ (¬ v0 = 12) ∧ (¬ v0 = 13) ∧ (¬ v0 = 14) ∧ (¬ v0 = 15) ∧ (¬ v0 = 16) ∧ (¬ v0 = 17) ∧ (¬ v0 = 18) ∧ (¬ v0 = 19) ∧ (¬ v0 = 20) ∧ (v0 = 21) ∧ (¬ (v2 + (-2147483648)) ≤ (v1 + (-2147483648))) ∧ r = v2) ∨ ((¬ v0 = 0) ∧ (¬ v0 = 1) ∧ (¬ v0 = 2) ∧ (¬ v0 = 3) ∧ (¬ v0 = 4) ∧ (¬ v0 = 5) ∧ (¬ v0 = 6) ∧ (¬ v0 = 7) ∧ (¬ v0 = 8) ∧ (¬ v0 = 9) ∧ (¬ v0 = 10) ∧ (¬ v0 = 11) ∧ (¬ v0 = 12) ∧ (¬ v0 = 13) ∧ (¬ v0 = 14) ∧ (¬ v0 = 15) ∧ (¬ v0 = 16) ∧ (¬ v0 = 17) ∧ (¬ v0 = 18) ∧ (¬ v0 = 19) ∧ (¬ v0 = 20) ∧ (¬ v0 = 21) ∧ (v0 = 22) ∧ ((v2 + (-2147483648)) ≤ (v1 + (-2147483648))) ∧ (¬ (v1 + (-2147483648)) = (v2 + (-2147483648))) ∧ r = v1) ∨ ((¬ v0 = 0) ∧ (¬ v0 = 1) ∧ (¬ v0 = 2) ∧ (¬ v0 = 3) ∧ (¬ v0 = 4) ∧ (¬ v0 = 5) ∧ (¬ v0 = 6) ∧ (¬ v0 = 7) ∧ (¬ v0 = 8) ∧ (¬ v0 = 9) ∧ (¬ v0 = 10) ∧ (¬ v0 = 11) ∧ (¬ v0 = 12) ∧ (¬ v0 = 13) ∧ (¬ v0 = 14) ∧ (¬ v0 = 15) ∧ (¬ v0 = 16) ∧ (¬ v0 = 17) ∧ (¬ v0 = 18) ∧ (¬ v0 = 19) ∧ (¬ v0 = 20) ∧ (¬ v0 = 21) ∧ (v0 = 22) ∧ ((v2 + (-2147483648)) ≤ (v1 + (-2147483648))) ∧ ((v1 + (-2147483648)) = (v2 + (-2147483648))) ∧ r = v2) ∨ ((¬ v0 = 0) ∧ (¬ v0 = 1) ∧ (¬ v0 = 2) ∧ (¬ v0 = 3) ∧ (¬ v0 = 4) ∧ (¬ v0 = 5) ∧ (¬ v0 = 6) ∧ (¬ v0 = 7) ∧ (¬ v0 = 8) ∧ (¬ v0 = 9) ∧ (¬ v0 = 10) ∧ (¬ v0 = 11) ∧ (¬ v0 = 12) ∧ (¬ v0 = 13) ∧ (¬ v0 = 14) ∧ (¬ v0 = 15) ∧ (¬ v0 = 16) ∧ (¬ v0 = 17) ∧ (¬ v0 = 18) ∧ (¬ v0 = 19) ∧ (¬ v0 = 20) ∧ (¬ v0 = 21) ∧ (v0 = 22) ∧ (¬ (v2 + (-2147483648)) ≤ (v1 + (-2147483648))) ∧ r = v2) ∨ ((¬ v0 = 0) ∧ (¬ v0 = 1) ∧ (¬ v0 = 2) ∧ (¬ v0 = 3) ∧ (¬ v0 = 4) ∧ (¬ v0 = 5) ∧ (¬ v0 = 6) ∧ (¬ v0 = 7) ∧ (¬ v0 = 8) ∧ (¬ v0 = 9) ∧ (¬ v0 = 10) ∧ (¬ v0 = 11) ∧ (¬ v0 = 12) ∧ (¬ v0 = 13) ∧ (¬ v0 = 14) ∧ (¬ v0 = 15) ∧ (¬ v0 = 16) ∧ (¬ v0 = 17) ∧ (¬ v0 = 18) ∧ (¬ v0 = 19) ∧ (¬ v0 = 20) ∧ (¬ v0 = 21) ∧ (¬ v0 = 22) ∧ (v0 = 23) ∧ ((v2 + (-2147483648)) ≤ (v1 + (-2147483648))) ∧ (¬ (v1 + (-2147483648)) = (v2 + (-2147483648))) ∧ r = v1) ∨ ((¬ v0 = 0) ∧ (¬ v0 = 1) ∧ (¬ v0 = 2) ∧ (¬ v0 = 3) ∧ (¬ v0 = 4) ∧ (¬ v0 = 5) ∧ (¬ v0 = 6) ∧ (¬ v0 = 7) ∧ (¬ v0 = 8) ∧ (¬ v0 = 9) ∧ (¬ v0 = 10) ∧ (¬ v0 = 11) ∧ (¬ v0 = 12) ∧ (¬ v0 = 13) ∧ (¬ v0 = 14) ∧ (¬ v0 = 15) ∧ (¬ v0 = 16) ∧ (¬ v0 = 17) ∧ (¬ v0 = 18) ∧ (¬ v0 = 19) ∧ (¬ v0 = 20) ∧ (¬ v0 = 21) ∧ (¬ v0 = 22) ∧ (v0 = 23) ∧ ((v2 + (-2147483648)) ≤ (v1 + (-2147483648))) ∧ ((v1 + (-2147483648)) = (v2 + (-2147483648))) ∧ r = v2) ∨ ((¬ v0 = 0) ∧ (¬ v0 = 1) ∧ (¬ v0 = 2) ∧ (¬ v0 = 3) ∧ (¬ v0 = 4) ∧ (¬ v0 = 5) ∧ (¬ v0 = 6) ∧ (¬ v0 = 7) ∧ (¬ v0 = 8) ∧ (¬ v0 = 9) ∧ (¬ v0 = 10) ∧ (¬ v0 = 11) ∧ (¬ v0 = 12) ∧ (¬ v0 = 13) ∧ (¬ v0 = 14) ∧ (¬ v0 = 15) ∧ (¬ v0 = 16) ∧ (¬ v0 = 17) ∧ (¬ v0 = 18) ∧ (¬ v0 = 19) ∧ (¬ v0 = 20) ∧ (¬ v0 = 21) ∧ (¬ v0 = 22) ∧ (v0 = 23) ∧ (¬ (v2 + (-2147483648)) ≤ (v1 + (-2147483648))) ∧ r = v2) ∨ ((¬ v0 = 0) ∧ (¬ v0 = 1) ∧ (¬ v0 = 2) ∧ (¬ v0 = 3) ∧ (¬ v0 = 4) ∧ (¬ v0 = 5) ∧ (¬ v0 = 6) ∧ (¬ v0 = 7) ∧ (¬ v0 = 8) ∧ (¬ v0 = 9) ∧ (¬ v0 = 10) ∧ (¬ v0 = 11) ∧ (¬ v0 = 12) ∧ (¬ v0 = 13) ∧ (¬ v0 = 14) ∧ (¬ v0 = 15) ∧ (¬ v0 = 16) ∧ (¬ v0 = 17) ∧ (¬ v0 = 18) ∧ (¬ v0 = 19) ∧ (¬ v0 = 20) ∧ (¬ v0 = 21) ∧ (¬ v0 = 22) ∧ (¬ v0 = 23) ∧ (v0 = 24) ∧ ((v2 + (-2147483648)) ≤ (v1 + (-2147483648))) ∧ (¬ (v1 + (-2147483648)) = (v2 + (-2147483648))) ∧ r = v2) ∨ ((¬ v0 = 0) ∧ (¬ v0 = 1) ∧ (¬ v0 = 2) ∧ (¬ v0 = 3) ∧ (¬ v0 = 4) ∧ (¬ v0 = 5) ∧ (¬ v0 = 6) ∧ (¬ v0 = 7) ∧ (¬ v0 = 8) ∧ (¬ v0 = 9) ∧ (¬ v0 = 10) ∧ (¬ v0 = 11) ∧ (¬ v0 = 12) ∧ (¬ v0 = 13) ∧ (¬ v0 = 14) ∧ (¬ v0 = 15) ∧ (¬ v0 = 16) ∧ (¬ v0 = 17) ∧ (¬ v0 = 18) ∧ (¬ v0 = 19) ∧ (¬ v0 = 20) ∧ (¬ v0 = 21) ∧ (¬ v0 = 22) ∧ (¬ v0 = 23) ∧ (v0 = 24) ∧ ((v2 + (-2147483648)) ≤ (v1 + (-2147483648))) ∧ ((v1 + (-2147483648)) = (v2 + (-2147483648))) ∧ r = v2) ∨ ((¬ v0 = 0) ∧ (¬ v0 = 1) ∧ (¬ v0 = 2) ∧ (¬ v0 = 3) ∧ (¬ v0 = 4) ∧ (¬ v0 = 5) ∧ (¬ v0 = 6) ∧ (¬ v0 = 7) ∧ (¬ v0 = 8) ∧ (¬ v0 = 9) ∧ (¬ v0 = 10) ∧ (¬ v0 = 11) ∧ (¬ v0 = 12) ∧ (¬ v0 = 13) ∧ (¬ v0 = 14) ∧ (¬ v0 = 15) ∧ (¬ v0 = 16) ∧ (¬ v0 = 17) ∧ (¬ v0 = 18) ∧ (¬ v0 = 19) ∧ (¬ v0 = 20) ∧ (¬ v0 = 21) ∧ (¬ v0 = 22) ∧ (¬ v0 = 23) ∧ (v0 = 24) ∧ (¬ (v2 + (-2147483648)) ≤ (v1 + (-2147483648))) ∧ r = v1) ∨ ((¬ v0 = 0) ∧ (¬ v0 = 1) ∧ (¬ v0 = 2) ∧ (¬ v0 = 3) ∧ (¬ v0 = 4) ∧ (¬ v0 = 5) ∧ (¬ v0 = 6) ∧ (¬ v0 = 7) ∧ (¬ v0 = 8) ∧ (¬ v0 = 9) ∧ (¬ v0 = 10) ∧ (¬ v0 = 11) ∧ (¬ v0 = 12) ∧ (¬ v0 = 13) ∧ (¬ v0 = 14) ∧ (¬ v0 = 15) ∧ (¬ v0 = 16) ∧ (¬ v0 = 17) ∧ (¬ v0 = 18) ∧ (¬ v0 = 19) ∧ (¬ v0 = 20) ∧ (¬ v0 = 21) ∧ (¬ v0 = 22) ∧ (¬ v0 = 23) ∧ (¬ v0 = 24) ∧ ((v2 + (-2147483648)) ≤ (v1 + (-2147483648))) ∧ (¬ (v1 + (-2147483648)) = (v2 + (-2147483648))) ∧ r = v1) ∨ ((¬ v0 = 0) ∧ (¬ v0 = 1) ∧ (¬ v0 = 2) ∧ (¬ v0 = 3) ∧ (¬ v0 = 4) ∧ (¬ v0 = 5) ∧ (¬ v0 = 6) ∧ (¬ v0 = 7) ∧ (¬ v0 = 8) ∧ (¬ v0 = 9) ∧ (¬ v0 = 10) ∧ (¬ v0 = 11) ∧ (¬ v0 = 12) ∧ (¬ v0 = 13) ∧ (¬ v0 = 14) ∧ (¬ v0 = 15) ∧ (¬ v0 = 16) ∧ (¬ v0 = 17) ∧ (¬ v0 = 18) ∧ (¬ v0 = 19) ∧ (¬ v0 = 20) ∧ (¬ v0 = 21) ∧ (¬ v0 = 22) ∧ (¬ v0 = 23) ∧ (¬ v0 = 24) ∧ ((v2 + (-2147483648)) ≤ (v1 + (-2147483648))) ∧ ((v1 + (-2147483648)) = (v2 + (-2147483648))) ∧ r = v2) ∨ ((¬ v0 = 0) ∧ (¬ v0 = 1) ∧ (¬ v0 = 2) ∧ (¬ v0 = 3) ∧ (¬ v0 = 4) ∧ (¬ v0 = 5) ∧ (¬ v0 = 6) ∧ (¬ v0 = 7) ∧ (¬ v0 = 8) ∧ (¬ v0 = 9) ∧ (¬ v0 = 10) ∧ (¬ v0 = 11) ∧ (¬ v0 = 12) ∧ (¬ v0 = 13) ∧ (¬ v0 = 14) ∧ (¬ v0 = 15) ∧ (¬ v0 = 16) ∧ (¬ v0 = 17) ∧ (¬ v0 = 18) ∧ (¬ v0 = 19) ∧ (¬ v0 = 20) ∧ (¬ v0 = 21) ∧ (¬ v0 = 22) ∧ (¬ v0 = 23) ∧ (¬ v0 = 24) ∧ (¬ (v2 + (-2147483648)) ≤ (v1 + (-2147483648))) ∧ r = v2) ∨ False) (fun (_ : Unit) t => va_P (dC, dI) vwCl [] t.heap ∧ va_K (dC, dI) vwCl [] t ∧ va_D (va_A [] sz) []) (va_A [] sz)) 0 0 (va_A [] sz) := by
  refine Met.ofW (cc := cX4_changed) (maxL := 3) (ret := (some .int)) (by decide) rfl ?_
  intro p e s m args below meth c s₁ B hml hv
  obtain ⟨rfl, hsz, hP, hK, hD0, hN⟩ := hv
  have hx := B.exec
  have hb := B.bytes
  have hr := B.returns
  have hts := atoms_spec (ws := ow_g_X4_changed) B.pre
  have hown : s.vm.findClass RX4 = some m.cls := findClass_of_methodNamed B.named
  have hlocks := B.notSynchronized
  subst hsz
  have hD := hD0.self (sz := s.heap.size)
  generalize hAe : va_A [] s.heap.size = A at hD hN ⊢
  have hA : ∀ q : Nat, s.heap.size ≤ q → A q := fun q h => by rw [← hAe]; exact Or.inr h
  have hS : va_S A s.heap s.heap [] := va_S.rf
  have hl := lv_entry ([.int v0, .int v1, .int v2]) (n := 3) (Nat.le_of_ble_eq_true rfl)
  rw [lg_entry_eq]
  generalize (lg_sl ([.int v0, .int v1, .int v2]) ++ List.replicate (3 - (lg_sl ([.int v0, .int v1, .int v2])).length) Slot.unset).toArray = ls at hl ⊢
  have hl : lv_has ls 3 [(0, .int v0), (1, .int v1), (2, .int v2)] := hl
  refine lv_iload_n hx hb dX4_changed_0 rfl (lv_at hl 0 rfl) ?_
  by_cases c_1 : v0 = 0
  · refine lv_tableIn (off := 115) (tgt := 116) hx hb dX4_changed_1 (by rw [c_1]; decide) (by rw [c_1]; decide) (by rw [c_1]; decide) (by decide) ?_
    refine lv_iload_n hx hb dX4_changed_116 rfl (lv_at hl 1 rfl) ?_
    refine lv_iload_n hx hb dX4_changed_117 rfl (lv_at hl 2 rfl) ?_
    refine lv_iadd hx hb dX4_changed_118 ?_
    refine W.widen (k := 0) (n := 0) (by decide +kernel) (by decide +kernel) ?_
    exact W.iret (v := (v1 + v2)) hx hb hr (fun t ht hW => ⟨⟨(v1 + v2), (), rfl, Or.inl ⟨c_1, rfl⟩, by rw [ht]; exact hP, va_K.moved hW.alike hK, hD⟩, hS.F ht⟩) hS.2.2 dX4_changed_119
  by_cases c_2 : v0 = 1
  · refine lv_tableIn (off := 119) (tgt := 120) hx hb dX4_changed_1 (by rw [c_2]; decide) (by rw [c_2]; decide) (by rw [c_2]; decide) (by decide) ?_
    refine lv_iload_n hx hb dX4_changed_120 rfl (lv_at hl 2 rfl) ?_
    refine W.widen (k := 0) (n := 0) (by decide +kernel) (by decide +kernel) ?_
    exact W.iret (v := v2) hx hb hr (fun t ht hW => ⟨⟨v2, (), rfl, Or.inr (Or.inl ⟨c_1, c_2, rfl⟩), by rw [ht]; exact hP, va_K.moved hW.alike hK, hD⟩, hS.F ht⟩) hS.2.2 dX4_changed_121
  by_cases c_3 : v0 = 2
  · refine lv_tableIn (off := 159) (tgt := 160) hx hb dX4_changed_1 (by rw [c_3]; decide) (by rw [c_3]; decide) (by rw [c_3]; decide) (by decide) ?_
    refine lv_iload_n hx hb dX4_changed_160 rfl (lv_at hl 1 rfl) ?_
    refine lv_iload_n hx hb dX4_changed_161 rfl (lv_at hl 2 rfl) ?_
    have hPc := hP.sub (ws' := []) [] rfl
    have hDc := hD.sub (ws' := []) [] (by decide) rfl
    have hKc := hK.sub (tys' := []) [] rfl
    have hFc := va_free (wc := []) hD hS hA [] rfl
    refine va_calli (va_runS (As := [.int v1, .int v2]) (rest := []) ⟨hx, hb, hml, hown, hts⟩ (k_J6_compareUnsigned_7cf53 l hlt dC dI v1 v2  s.heap.size) (va_cwS 2 hts gi_g_X4_changed_0 rfl rfl rfl (by decide +kernel) ⟨Nat.le_of_ble_eq_true rfl, Nat.le_of_ble_eq_true rfl⟩) ⟨fun a U g mk q => by obtain ⟨q0, q1, qP, qK, qD, qN⟩ := q; exact ⟨q0, q1, qP, va_K.moved (u := U) (U := U.calling g mk a) (Vm.Alike.refl U.vm) qK, qD, nv_same rfl rfl qN⟩, fun U hU hW => ⟨rfl, by rw [hU], by rw [hU]; exact hPc, va_K.moved hW.alike hKc, hDc.weaken (fun _ _ _ _ => trivial), nv_call hS hFc hU hW hN⟩⟩ rfl rfl hl.1 rfl (lv_room (Nat.le_of_ble_eq_true rfl)) dX4_changed_162 ⟨by decide +kernel, by decide +kernel⟩) hS (fun q _ h => hFc q h) hFc (fun r1 u t H1 locs ht hvm hw hB hz1 hk1 hS => ?_)
    obtain ⟨hP1, hK1, hD1⟩ := hB
    rw [ht] at hP1
    have hK1 := va_K.moved hvm.symm hK1
    obtain ⟨hP, hD⟩ := va_join (wr := []) (w1 := []) hP hD [] [] rfl rfl (by decide) (by decide) hk1 hFc hP1 hD1
    have hK := (hK.sub (tys' := []) [] rfl).app hK1
    generalize H1 = H at hP hS ⊢
    have hP : va_P (dC, dI) vwCl [] H := hP
    have hD : va_D A [] := hD
    have hK : va_K (dC, dI) vwCl [] s := hK
    refine W.widen (k := 0) (n := 0) (by decide +kernel) (by decide +kernel) ?_
    rcases hw with ⟨c_4_0, c_4_1, h9⟩ | ⟨c_4_0, c_4_1, h9⟩ | ⟨c_4_0, h9⟩ | h9
    · subst h9
      refine lv_if_le (tgt := 172) hx hb dX4_changed_165 (by decide) (fun h9 => absurd h9 (by decide)) (fun _ => ?_)
      refine lv_iload_n hx hb dX4_changed_168 rfl (lv_at hl 1 rfl) ?_
      refine lv_goto (tgt := 173) hx hb dX4_changed_169 (by decide) ?_
      refine W.widen (k := 0) (n := 0) (by decide +kernel) (by decide +kernel) ?_
      exact W.iret (v := v1) hx hb hr (fun t ht hW => ⟨⟨v1, (), rfl, Or.inr (Or.inr (Or.inl ⟨c_1, c_2, c_3, c_4_0, c_4_1, rfl⟩)), by rw [ht]; exact hP, va_K.moved hW.alike hK, hD⟩, hS.F ht⟩) hS.2.2 dX4_changed_173
    · subst h9
      refine lv_if_le (tgt := 172) hx hb dX4_changed_165 (by decide) (fun _ => ?_) (fun h9 => absurd (by decide) h9)
      refine lv_iload_n hx hb dX4_changed_172 rfl (lv_at hl 2 rfl) ?_
      refine W.widen (k := 0) (n := 0) (by decide +kernel) (by decide +kernel) ?_
      exact W.iret (v := v2) hx hb hr (fun t ht hW => ⟨⟨v2, (), rfl, Or.inr (Or.inr (Or.inr (Or.inl ⟨c_1, c_2, c_3, c_4_0, c_4_1, rfl⟩))), by rw [ht]; exact hP, va_K.moved hW.alike hK, hD⟩, hS.F ht⟩) hS.2.2 dX4_changed_173
    · subst h9
      refine lv_if_le (tgt := 172) hx hb dX4_changed_165 (by decide) (fun _ => ?_) (fun h9 => absurd (by decide) h9)
      refine lv_iload_n hx hb dX4_changed_172 rfl (lv_at hl 2 rfl) ?_
      refine W.widen (k := 0) (n := 0) (by decide +kernel) (by decide +kernel) ?_
      exact W.iret (v := v2) hx hb hr (fun t ht hW => ⟨⟨v2, (), rfl, Or.inr (Or.inr (Or.inr (Or.inr (Or.inl ⟨c_1, c_2, c_3, c_4_0, rfl⟩)))), by rw [ht]; exact hP, va_K.moved hW.alike hK, hD⟩, hS.F ht⟩) hS.2.2 dX4_changed_173
    · exact h9.elim
  by_cases c_5 : v0 = 3
  · refine lv_tableIn (off := 159) (tgt := 160) hx hb dX4_changed_1 (by rw [c_5]; decide) (by rw [c_5]; decide) (by rw [c_5]; decide) (by decide) ?_
    refine lv_iload_n hx hb dX4_changed_160 rfl (lv_at hl 1 rfl) ?_
    refine lv_iload_n hx hb dX4_changed_161 rfl (lv_at hl 2 rfl) ?_
    have hPc := hP.sub (ws' := []) [] rfl
    have hDc := hD.sub (ws' := []) [] (by decide) rfl
    have hKc := hK.sub (tys' := []) [] rfl
    have hFc := va_free (wc := []) hD hS hA [] rfl
    refine va_calli (va_runS (As := [.int v1, .int v2]) (rest := []) ⟨hx, hb, hml, hown, hts⟩ (k_J6_compareUnsigned_7cf53 l hlt dC dI v1 v2  s.heap.size) (va_cwS 2 hts gi_g_X4_changed_0 rfl rfl rfl (by decide +kernel) ⟨Nat.le_of_ble_eq_true rfl, Nat.le_of_ble_eq_true rfl⟩) ⟨fun a U g mk q => by obtain ⟨q0, q1, qP, qK, qD, qN⟩ := q; exact ⟨q0, q1, qP, va_K.moved (u := U) (U := U.calling g mk a) (Vm.Alike.refl U.vm) qK, qD, nv_same rfl rfl qN⟩, fun U hU hW => ⟨rfl, by rw [hU], by rw [hU]; exact hPc, va_K.moved hW.alike hKc, hDc.weaken (fun _ _ _ _ => trivial), nv_call hS hFc hU hW hN⟩⟩ rfl rfl hl.1 rfl (lv_room (Nat.le_of_ble_eq_true rfl)) dX4_changed_162 ⟨by decide +kernel, by decide +kernel⟩) hS (fun q _ h => hFc q h) hFc (fun r2 u t H1 locs ht hvm hw hB hz1 hk1 hS => ?_)
    obtain ⟨hP1, hK1, hD1⟩ := hB
    rw [ht] at hP1
    have hK1 := va_K.moved hvm.symm hK1
    obtain ⟨hP, hD⟩ := va_join (wr := []) (w1 := []) hP hD [] [] rfl rfl (by decide) (by decide) hk1 hFc hP1 hD1
    have hK := (hK.sub (tys' := []) [] rfl).app hK1
    generalize H1 = H at hP hS ⊢
    have hP : va_P (dC, dI) vwCl [] H := hP
    have hD : va_D A [] := hD
    have hK : va_K (dC, dI) vwCl [] s := hK
    refine W.widen (k := 0) (n := 0) (by decide +kernel) (by decide +kernel) ?_
    rcases hw with ⟨c_6_0, c_6_1, h9⟩ | ⟨c_6_0, c_6_1, h9⟩ | ⟨c_6_0, h9⟩ | h9
    · subst h9
      refine lv_if_le (tgt := 172) hx hb dX4_changed_165 (by decide) (fun h9 => absurd h9 (by decide)) (fun _ => ?_)
      refine lv_iload_n hx hb dX4_changed_168 rfl (lv_at hl 1 rfl) ?_
      refine lv_goto (tgt := 173) hx hb dX4_changed_169 (by decide) ?_
      refine W.widen (k := 0) (n := 0) (by decide +kernel) (by decide +kernel) ?_
      exact W.iret (v := v1) hx hb hr (fun t ht hW => ⟨⟨v1, (), rfl, Or.inr (Or.inr (Or.inr (Or.inr (Or.inr (Or.inl ⟨c_1, c_2, c_3, c_5, c_6_0, c_6_1, rfl⟩))))), by rw [ht]; exact hP, va_K.moved hW.alike hK, hD⟩, hS.F ht⟩) hS.2.2 dX4_changed_173
    · subst h9
      refine lv_if_le (tgt := 172) hx hb dX4_changed_165 (by decide) (fun _ => ?_) (fun h9 => absurd (by decide) h9)
      refine lv_iload_n hx hb dX4_changed_172 rfl (lv_at hl 2 rfl) ?_
      refine W.widen (k := 0) (n := 0) (by decide +kernel) (by decide +kernel) ?_
      exact W.iret (v := v2) hx hb hr (fun t ht hW => ⟨⟨v2, (), rfl, Or.inr (Or.inr (Or.inr (Or.inr (Or.inr (Or.inr (Or.inl ⟨c_1, c_2, c_3, c_5, c_6_0, c_6_1, rfl⟩)))))), by rw [ht]; exact hP, va_K.moved hW.alike hK, hD⟩, hS.F ht⟩) hS.2.2 dX4_changed_173
    · subst h9
      refine lv_if_le (tgt := 172) hx hb dX4_changed_165 (by decide) (fun _ => ?_) (fun h9 => absurd (by decide) h9)
      refine lv_iload_n hx hb dX4_changed_172 rfl (lv_at hl 2 rfl) ?_
      refine W.widen (k := 0) (n := 0) (by decide +kernel) (by decide +kernel) ?_
      exact W.iret (v := v2) hx hb hr (fun t ht hW => ⟨⟨v2, (), rfl, Or.inr (Or.inr (Or.inr (Or.inr (Or.inr (Or.inr (Or.inr (Or.inl ⟨c_1, c_2, c_3, c_5, c_6_0, rfl⟩))))))), by rw [ht]; exact hP, va_K.moved hW.alike hK, hD⟩, hS.F ht⟩) hS.2.2 dX4_changed_173
    · exact h9.elim
  by_cases c_7 : v0 = 4
  · refine lv_tableIn (off := 121) (tgt := 122) hx hb dX4_changed_1 (by rw [c_7]; decide) (by rw [c_7]; decide) (by rw [c_7]; decide) (by decide) ?_
    refine lv_iload_n hx hb dX4_changed_122 rfl (lv_at hl 1 rfl) ?_
    refine lv_iload_n hx hb dX4_changed_123 rfl (lv_at hl 2 rfl) ?_
    refine lv_ixor hx hb dX4_changed_124 ?_
    refine W.widen (k := 0) (n := 0) (by decide +kernel) (by decide +kernel) ?_
    exact W.iret (v := (v1 ^^^ v2)) hx hb hr (fun t ht hW => ⟨⟨(v1 ^^^ v2), (), rfl, Or.inr (Or.inr (Or.inr (Or.inr (Or.inr (Or.inr (Or.inr (Or.inr (Or.inl ⟨c_1, c_2, c_3, c_5, c_7, rfl⟩)))))))), by rw [ht]; exact hP, va_K.moved hW.alike hK, hD⟩, hS.F ht⟩) hS.2.2 dX4_changed_125
  by_cases c_8 : v0 = 5
  · refine lv_tableIn (off := 159) (tgt := 160) hx hb dX4_changed_1 (by rw [c_8]; decide) (by rw [c_8]; decide) (by rw [c_8]; decide) (by decide) ?_
    refine lv_iload_n hx hb dX4_changed_160 rfl (lv_at hl 1 rfl) ?_
    refine lv_iload_n hx hb dX4_changed_161 rfl (lv_at hl 2 rfl) ?_
    have hPc := hP.sub (ws' := []) [] rfl
    have hDc := hD.sub (ws' := []) [] (by decide) rfl
    have hKc := hK.sub (tys' := []) [] rfl
    have hFc := va_free (wc := []) hD hS hA [] rfl
    refine va_calli (va_runS (As := [.int v1, .int v2]) (rest := []) ⟨hx, hb, hml, hown, hts⟩ (k_J6_compareUnsigned_7cf53 l hlt dC dI v1 v2  s.heap.size) (va_cwS 2 hts gi_g_X4_changed_0 rfl rfl rfl (by decide +kernel) ⟨Nat.le_of_ble_eq_true rfl, Nat.le_of_ble_eq_true rfl⟩) ⟨fun a U g mk q => by obtain ⟨q0, q1, qP, qK, qD, qN⟩ := q; exact ⟨q0, q1, qP, va_K.moved (u := U) (U := U.calling g mk a) (Vm.Alike.refl U.vm) qK, qD, nv_same rfl rfl qN⟩, fun U hU hW => ⟨rfl, by rw [hU], by rw [hU]; exact hPc, va_K.moved hW.alike hKc, hDc.weaken (fun _ _ _ _ => trivial), nv_call hS hFc hU hW hN⟩⟩ rfl rfl hl.1 rfl (lv_room (Nat.le_of_ble_eq_true rfl)) dX4_changed_162 ⟨by decide +kernel, by decide +kernel⟩) hS (fun q _ h => hFc q h) hFc (fun r3 u t H1 locs ht hvm hw hB hz1 hk1 hS => ?_)
    obtain ⟨hP1, hK1, hD1⟩ := hB
    rw [ht] at hP1
    have hK1 := va_K.moved hvm.symm hK1
    obtain ⟨hP, hD⟩ := va_join (wr := []) (w1 := []) hP hD [] [] rfl rfl (by decide) (by decide) hk1 hFc hP1 hD1
    have hK := (hK.sub (tys' := []) [] rfl).app hK1
    generalize H1 = H at hP hS ⊢
    have hP : va_P (dC, dI) vwCl [] H := hP
    have hD : va_D A [] := hD
    have hK : va_K (dC, dI) vwCl [] s := hK
    refine W.widen (k := 0) (n := 0) (by decide +kernel) (by decide +kernel) ?_
    rcases hw with ⟨c_9_0, c_9_1, h9⟩ | ⟨c_9_0, c_9_1, h9⟩ | ⟨c_9_0, h9⟩ | h9
    · subst h9
      refine lv_if_le (tgt := 172) hx hb dX4_changed_165 (by decide) (fun h9 => absurd h9 (by decide)) (fun _ => ?_)
      refine lv_iload_n hx hb dX4_changed_168 rfl (lv_at hl 1 rfl) ?_
      refine lv_goto (tgt := 173) hx hb dX4_changed_169 (by decide) ?_
      refine W.widen (k := 0) (n := 0) (by decide +kernel) (by decide +kernel) ?_
      exact W.iret (v := v1) hx hb hr (fun t ht hW => ⟨⟨v1, (), rfl, Or.inr (Or.inr (Or.inr (Or.inr (Or.inr (Or.inr (Or.inr (Or.inr (Or.inr (Or.inl ⟨c_1, c_2, c_3, c_5, c_7, c_8, c_9_0, c_9_1, rfl⟩))))))))), by rw [ht]; exact hP, va_K.moved hW.alike hK, hD⟩, hS.F ht⟩) hS.2.2 dX4_changed_173
    · subst h9
      refine lv_if_le (tgt := 172) hx hb dX4_changed_165 (by decide) (fun _ => ?_) (fun h9 => absurd (by decide) h9)
      refine lv_iload_n hx hb dX4_changed_172 rfl (lv_at hl 2 rfl) ?_
      refine W.widen (k := 0) (n := 0) (by decide +kernel) (by decide +kernel) ?_
      exact W.iret (v := v2) hx hb hr (fun t ht hW => ⟨⟨v2, (), rfl, Or.inr (Or.inr (Or.inr (Or.inr (Or.inr (Or.inr (Or.inr (Or.inr (Or.inr (Or.inr (Or.inl ⟨c_1, c_2, c_3, c_5, c_7, c_8, c_9_0, c_9_1, rfl⟩)))))))))), by rw [ht]; exact hP, va_K.moved hW.alike hK, hD⟩, hS.F ht⟩) hS.2.2 dX4_changed_173
    · subst h9
      refine lv_if_le (tgt := 172) hx hb dX4_changed_165 (by decide) (fun _ => ?_) (fun h9 => absurd (by decide) h9)
      refine lv_iload_n hx hb dX4_changed_172 rfl (lv_at hl 2 rfl) ?_
      refine W.widen (k := 0) (n := 0) (by decide +kernel) (by decide +kernel) ?_
      exact W.iret (v := v2) hx hb hr (fun t ht hW => ⟨⟨v2, (), rfl, Or.inr (Or.inr (Or.inr (Or.inr (Or.inr (Or.inr (Or.inr (Or.inr (Or.inr (Or.inr (Or.inr (Or.inl ⟨c_1, c_2, c_3, c_5, c_7, c_8, c_9_0, rfl⟩))))))))))), by rw [ht]; exact hP, va_K.moved hW.alike hK, hD⟩, hS.F ht⟩) hS.2.2 dX4_changed_173
    · exact h9.elim
  by_cases c_10 : v0 = 6
  · refine lv_tableIn (off := 159) (tgt := 160) hx hb dX4_changed_1 (by rw [c_10]; decide) (by rw [c_10]; decide) (by rw [c_10]; decide) (by decide) ?_
    refine lv_iload_n hx hb dX4_changed_160 rfl (lv_at hl 1 rfl) ?_
    refine lv_iload_n hx hb dX4_changed_161 rfl (lv_at hl 2 rfl) ?_
    have hPc := hP.sub (ws' := []) [] rfl
    have hDc := hD.sub (ws' := []) [] (by decide) rfl
    have hKc := hK.sub (tys' := []) [] rfl
    have hFc := va_free (wc := []) hD hS hA [] rfl
    refine va_calli (va_runS (As := [.int v1, .int v2]) (rest := []) ⟨hx, hb, hml, hown, hts⟩ (k_J6_compareUnsigned_7cf53 l hlt dC dI v1 v2  s.heap.size) (va_cwS 2 hts gi_g_X4_changed_0 rfl rfl rfl (by decide +kernel) ⟨Nat.le_of_ble_eq_true rfl, Nat.le_of_ble_eq_true rfl⟩) ⟨fun a U g mk q => by obtain ⟨q0, q1, qP, qK, qD, qN⟩ := q; exact ⟨q0, q1, qP, va_K.moved (u := U) (U := U.calling g mk a) (Vm.Alike.refl U.vm) qK, qD, nv_same rfl rfl qN⟩, fun U hU hW => ⟨rfl, by rw [hU], by rw [hU]; exact hPc, va_K.moved hW.alike hKc, hDc.weaken (fun _ _ _ _ => trivial), nv_call hS hFc hU hW hN⟩⟩ rfl rfl hl.1 rfl (lv_room (Nat.le_of_ble_eq_true rfl)) dX4_changed_162 ⟨by decide +kernel, by decide +kernel⟩) hS (fun q _ h => hFc q h) hFc (fun r4 u t H1 locs ht hvm hw hB hz1 hk1 hS => ?_)
    obtain ⟨hP1, hK1, hD1⟩ := hB
    rw [ht] at hP1
    have hK1 := va_K.moved hvm.symm hK1
    obtain ⟨hP, hD⟩ := va_join (wr := []) (w1 := []) hP hD [] [] rfl rfl (by decide) (by decide) hk1 hFc hP1 hD1
    have hK := (hK.sub (tys' := []) [] rfl).app hK1
    generalize H1 = H at hP hS ⊢
    have hP : va_P (dC, dI) vwCl [] H := hP
    have hD : va_D A [] := hD
    have hK : va_K (dC, dI) vwCl [] s := hK
    refine W.widen (k := 0) (n := 0) (by decide +kernel) (by decide +kernel) ?_
    rcases hw with ⟨c_11_0, c_11_1, h9⟩ | ⟨c_11_0, c_11_1, h9⟩ | ⟨c_11_0, h9⟩ | h9
    · subst h9
      refine lv_if_le (tgt := 172) hx hb dX4_changed_165 (by decide) (fun h9 => absurd h9 (by decide)) (fun _ => ?_)
      refine lv_iload_n hx hb dX4_changed_168 rfl (lv_at hl 1 rfl) ?_
      refine lv_goto (tgt := 173) hx hb dX4_changed_169 (by decide) ?_
      refine W.widen (k := 0) (n := 0) (by decide +kernel) (by decide +kernel) ?_
      exact W.iret (v := v1) hx hb hr (fun t ht hW => ⟨⟨v1, (), rfl, Or.inr (Or.inr (Or.inr (Or.inr (Or.inr (Or.inr (Or.inr (Or.inr (Or.inr (Or.inr (Or.inr (Or.inr (Or.inl ⟨c_1, c_2, c_3, c_5, c_7, c_8, c_10, c_11_0, c_11_1, rfl⟩)))))))))))), by rw [ht]; exact hP, va_K.moved hW.alike hK, hD⟩, hS.F ht⟩) hS.2.2 dX4_changed_173
    · subst h9
      refine lv_if_le (tgt := 172) hx hb dX4_changed_165 (by decide) (fun _ => ?_) (fun h9 => absurd (by decide) h9)
      refine lv_iload_n hx hb dX4_changed_172 rfl (lv_at hl 2 rfl) ?_
      refine W.widen (k := 0) (n := 0) (by decide +kernel) (by decide +kernel) ?_
      exact W.iret (v := v2) hx hb hr (fun t ht hW => ⟨⟨v2, (), rfl, Or.inr (Or.inr (Or.inr (Or.inr (Or.inr (Or.inr (Or.inr (Or.inr (Or.inr (Or.inr (Or.inr (Or.inr (Or.inr (Or.inl ⟨c_1, c_2, c_3, c_5, c_7, c_8, c_10, c_11_0, c_11_1, rfl⟩))))))))))))), by rw [ht]; exact hP, va_K.moved hW.alike hK, hD⟩, hS.F ht⟩) hS.2.2 dX4_changed_173
    · subst h9
      refine lv_if_le (tgt := 172) hx hb dX4_changed_165 (by decide) (fun _ => ?_) (fun h9 => absurd (by decide) h9)
      refine lv_iload_n hx hb dX4_changed_172 rfl (lv_at hl 2 rfl) ?_
      refine W.widen (k := 0) (n := 0) (by decide +kernel) (by decide +kernel) ?_
      exact W.iret (v := v2) hx hb hr (fun t ht hW => ⟨⟨v2, (), rfl, Or.inr (Or.inr (Or.inr (Or.inr (Or.inr (Or.inr (Or.inr (Or.inr (Or.inr (Or.inr (Or.inr (Or.inr (Or.inr (Or.inr (Or.inl ⟨c_1, c_2, c_3, c_5, c_7, c_8, c_10, c_11_0, rfl⟩)))))))))))))), by rw [ht]; exact hP, va_K.moved hW.alike hK, hD⟩, hS.F ht⟩) hS.2.2 dX4_changed_173
    · exact h9.elim
  by_cases c_12 : v0 = 7
  · refine lv_tableIn (off := 159) (tgt := 160) hx hb dX4_changed_1 (by rw [c_12]; decide) (by rw [c_12]; decide) (by rw [c_12]; decide) (by decide) ?_
    refine lv_iload_n hx hb dX4_changed_160 rfl (lv_at hl 1 rfl) ?_
    refine lv_iload_n hx hb dX4_changed_161 rfl (lv_at hl 2 rfl) ?_
    have hPc := hP.sub (ws' := []) [] rfl
    have hDc := hD.sub (ws' := []) [] (by decide) rfl
    have hKc := hK.sub (tys' := []) [] rfl
    have hFc := va_free (wc := []) hD hS hA [] rfl
    refine va_calli (va_runS (As := [.int v1, .int v2]) (rest := []) ⟨hx, hb, hml, hown, hts⟩ (k_J6_compareUnsigned_7cf53 l hlt dC dI v1 v2  s.heap.size) (va_cwS 2 hts gi_g_X4_changed_0 rfl rfl rfl (by decide +kernel) ⟨Nat.le_of_ble_eq_true rfl, Nat.le_of_ble_eq_true rfl⟩) ⟨fun a U g mk q => by obtain ⟨q0, q1, qP, qK, qD, qN⟩ := q; exact ⟨q0, q1, qP, va_K.moved (u := U) (U := U.calling g mk a) (Vm.Alike.refl U.vm) qK, qD, nv_same rfl rfl qN⟩, fun U hU hW => ⟨rfl, by rw [hU], by rw [hU]; exact hPc, va_K.moved hW.alike hKc, hDc.weaken (fun _ _ _ _ => trivial), nv_call hS hFc hU hW hN⟩⟩ rfl rfl hl.1 rfl (lv_room (Nat.le_of_ble_eq_true rfl)) dX4_changed_162 ⟨by decide +kernel, by decide +kernel⟩) hS (fun q _ h => hFc q h) hFc (fun r5 u t H1 locs ht hvm hw hB hz1 hk1 hS => ?_)
    obtain ⟨hP1, hK1, hD1⟩ := hB
    rw [ht] at hP1
    have hK1 := va_K.moved hvm.symm hK1
    obtain ⟨hP, hD⟩ := va_join (wr := []) (w1 := []) hP hD [] [] rfl rfl (by decide) (by decide) hk1 hFc hP1 hD1
    have hK := (hK.sub (tys' := []) [] rfl).app hK1
    generalize H1 = H at hP hS ⊢
    have hP : va_P (dC, dI) vwCl [] H := hP
    have hD : va_D A [] := hD
    have hK : va_K (dC, dI) vwCl [] s := hK
    refine W.widen (k := 0) (n := 0) (by decide +kernel) (by decide +kernel) ?_
    rcases hw with ⟨c_13_0, c_13_1, h9⟩ | ⟨c_13_0, c_13_1, h9⟩ | ⟨c_13_0, h9⟩ | h9
    · subst h9
      refine lv_if_le (tgt := 172) hx hb dX4_changed_165 (by decide) (fun h9 => absurd h9 (by decide)) (fun _ => ?_)
      refine lv_iload_n hx hb dX4_changed_168 rfl (lv_at hl 1 rfl) ?_
      refine lv_goto (tgt := 173) hx hb dX4_changed_169 (by decide) ?_
      refine W.widen (k := 0) (n := 0) (by decide +kernel) (by decide +kernel) ?_
      exact W.iret (v := v1) hx hb hr (fun t ht hW => ⟨⟨v1, (), rfl, Or.inr (Or.inr (Or.inr (Or.inr (Or.inr (Or.inr (Or.inr (Or.inr (Or.inr (Or.inr (Or.inr (Or.inr (Or.inr (Or.inr (Or.inr (Or.inl ⟨c_1, c_2, c_3, c_5, c_7, c_8, c_10, c_12, c_13_0, c_13_1, rfl⟩))))))))))))))), by rw [ht]; exact hP, va_K.moved hW.alike hK, hD⟩, hS.F ht⟩) hS.2.2 dX4_changed_173
    · subst h9
      refine lv_if_le (tgt := 172) hx hb dX4_changed_165 (by decide) (fun _ => ?_) (fun h9 => absurd (by decide) h9)
      refine lv_iload_n hx hb dX4_changed_172 rfl (lv_at hl 2 rfl) ?_
      refine W.widen (k := 0) (n := 0) (by decide +kernel) (by decide +kernel) ?_
      exact W.iret (v := v2) hx hb hr (fun t ht hW => ⟨⟨v2, (), rfl, Or.inr (Or.inr (Or.inr (Or.inr (Or.inr (Or.inr (Or.inr (Or.inr (Or.inr (Or.inr (Or.inr (Or.inr (Or.inr (Or.inr (Or.inr (Or.inr (Or.inl ⟨c_1, c_2, c_3, c_5, c_7, c_8, c_10, c_12, c_13_0, c_13_1, rfl⟩)))))))))))))))), by rw [ht]; exact hP, va_K.moved hW.alike hK, hD⟩, hS.F ht⟩) hS.2.2 dX4_changed_173
    · subst h9
      refine lv_if_le (tgt := 172) hx hb dX4_changed_165 (by decide) (fun _ => ?_) (fun h9 => absurd (by decide) h9)
      refine lv_iload_n hx hb dX4_changed_172 rfl (lv_at hl 2 rfl) ?_
      refine W.widen (k := 0) (n := 0) (by decide +kernel) (by decide +kernel) ?_
      exact W.iret (v := v2) hx hb hr (fun t ht hW => ⟨⟨v2, (), rfl, Or.inr (Or.inr (Or.inr (Or.inr (Or.inr (Or.inr (Or.inr (Or.inr (Or.inr (Or.inr (Or.inr (Or.inr (Or.inr (Or.inr (Or.inr (Or.inr (Or.inr (Or.inl ⟨c_1, c_2, c_3, c_5, c_7, c_8, c_10, c_12, c_13_0, rfl⟩))))))))))))))))), by rw [ht]; exact hP, va_K.moved hW.alike hK, hD⟩, hS.F ht⟩) hS.2.2 dX4_changed_173
    · exact h9.elim
  by_cases c_14 : v0 = 8
  · refine lv_tableIn (off := 125) (tgt := 126) hx hb dX4_changed_1 (by rw [c_14]; decide) (by rw [c_14]; decide) (by rw [c_14]; decide) (by decide) ?_
    refine lv_iload_n hx hb dX4_changed_126 rfl (lv_at hl 1 rfl) ?_
    refine lv_iload_n hx hb dX4_changed_127 rfl (lv_at hl 2 rfl) ?_
    refine lv_ior hx hb dX4_changed_128 ?_
    refine W.widen (k := 0) (n := 0) (by decide +kernel) (by decide +kernel) ?_
    exact W.iret (v := (v1 ||| v2)) hx hb hr (fun t ht hW => ⟨⟨(v1 ||| v2), (), rfl, Or.inr (Or.inr (Or.inr (Or.inr (Or.inr (Or.inr (Or.inr (Or.inr (Or.inr (Or.inr (Or.inr (Or.inr (Or.inr (Or.inr (Or.inr (Or.inr (Or.inr (Or.inr (Or.inl ⟨c_1, c_2, c_3, c_5, c_7, c_8, c_10, c_12, c_14, rfl⟩)))))))))))))))))), by rw [ht]; exact hP, va_K.moved hW.alike hK, hD⟩, hS.F ht⟩) hS.2.2 dX4_changed_129
  by_cases c_15 : v0 = 9
  · refine lv_tableIn (off := 159) (tgt := 160) hx hb dX4_changed_1 (by rw [c_15]; decide) (by rw [c_15]; decide) (by rw [c_15]; decide) (by decide) ?_
    refine lv_iload_n hx hb dX4_changed_160 rfl (lv_at hl 1 rfl) ?_
    refine lv_iload_n hx hb dX4_changed_161 rfl (lv_at hl 2 rfl) ?_
    have hPc := hP.sub (ws' := []) [] rfl
    have hDc := hD.sub (ws' := []) [] (by decide) rfl
    have hKc := hK.sub (tys' := []) [] rfl
    have hFc := va_free (wc := []) hD hS hA [] rfl
    refine va_calli (va_runS (As := [.int v1, .int v2]) (rest := []) ⟨hx, hb, hml, hown, hts⟩ (k_J6_compareUnsigned_7cf53 l hlt dC dI v1 v2  s.heap.size) (va_cwS 2 hts gi_g_X4_changed_0 rfl rfl rfl (by decide +kernel) ⟨Nat.le_of_ble_eq_true rfl, Nat.le_of_ble_eq_true rfl⟩) ⟨fun a U g mk q => by obtain ⟨q0, q1, qP, qK, qD, qN⟩ := q; exact ⟨q0, q1, qP, va_K.moved (u := U) (U := U.calling g mk a) (Vm.Alike.refl U.vm) qK, qD, nv_same rfl rfl qN⟩, fun U hU hW => ⟨rfl, by rw [hU], by rw [hU]; exact hPc, va_K.moved hW.alike hKc, hDc.weaken (fun _ _ _ _ => trivial), nv_call hS hFc hU hW hN⟩⟩ rfl rfl hl.1 rfl (lv_room (Nat.le_of_ble_eq_true rfl)) dX4_changed_162 ⟨by decide +kernel, by decide +kernel⟩) hS (fun q _ h => hFc q h) hFc (fun r6 u t H1 locs ht hvm hw hB hz1 hk1 hS => ?_)
    obtain ⟨hP1, hK1, hD1⟩ := hB
    rw [ht] at hP1
    have hK1 := va_K.moved hvm.symm hK1
    obtain ⟨hP, hD⟩ := va_join (wr := []) (w1 := []) hP hD [] [] rfl rfl (by decide) (by decide) hk1 hFc hP1 hD1
    have hK := (hK.sub (tys' := []) [] rfl).app hK1
    generalize H1 = H at hP hS ⊢
    have hP : va_P (dC, dI) vwCl [] H := hP
    have hD : va_D A [] := hD
    have hK : va_K (dC, dI) vwCl [] s := hK
    refine W.widen (k := 0) (n := 0) (by decide +kernel) (by decide +kernel) ?_
    rcases hw with ⟨c_16_0, c_16_1, h9⟩ | ⟨c_16_0, c_16_1, h9⟩ | ⟨c_16_0, h9⟩ | h9
    · subst h9
      refine lv_if_le (tgt := 172) hx hb dX4_changed_165 (by decide) (fun h9 => absurd h9 (by decide)) (fun _ => ?_)
      refine lv_iload_n hx hb dX4_changed_168 rfl (lv_at hl 1 rfl) ?_
      refine lv_goto (tgt := 173) hx hb dX4_changed_169 (by decide) ?_
      refine W.widen (k := 0) (n := 0) (by decide +kernel) (by decide +kernel) ?_
      exact W.iret (v := v1) hx hb hr (fun t ht hW => ⟨⟨v1, (), rfl, Or.inr (Or.inr (Or.inr (Or.inr (Or.inr (Or.inr (Or.inr (Or.inr (Or.inr (Or.inr (Or.inr (Or.inr (Or.inr (Or.inr (Or.inr (Or.inr (Or.inr (Or.inr (Or.inr (Or.inl ⟨c_1, c_2, c_3, c_5, c_7, c_8, c_10, c_12, c_14, c_15, c_16_0, c_16_1, rfl⟩))))))))))))))))))), by rw [ht]; exact hP, va_K.moved hW.alike hK, hD⟩, hS.F ht⟩) hS.2.2 dX4_changed_173
    · subst h9
      refine lv_if_le (tgt := 172) hx hb dX4_changed_165 (by decide) (fun _ => ?_) (fun h9 => absurd (by decide) h9)
      refine lv_iload_n hx hb dX4_changed_172 rfl (lv_at hl 2 rfl) ?_
      refine W.widen (k := 0) (n := 0) (by decide +kernel) (by decide +kernel) ?_
      exact W.iret (v := v2) hx hb hr (fun t ht hW => ⟨⟨v2, (), rfl, Or.inr (Or.inr (Or.inr (Or.inr (Or.inr (Or.inr (Or.inr (Or.inr (Or.inr (Or.inr (Or.inr (Or.inr (Or.inr (Or.inr (Or.inr (Or.inr (Or.inr (Or.inr (Or.inr (Or.inr (Or.inl ⟨c_1, c_2, c_3, c_5, c_7, c_8, c_10, c_12, c_14, c_15, c_16_0, c_16_1, rfl⟩)))))))))))))))))))), by rw [ht]; exact hP, va_K.moved hW.alike hK, hD⟩, hS.F ht⟩) hS.2.2 dX4_changed_173
    · subst h9
      refine lv_if_le (tgt := 172) hx hb dX4_changed_165 (by decide) (fun _ => ?_) (fun h9 => absurd (by decide) h9)
      refine lv_iload_n hx hb dX4_changed_172 rfl (lv_at hl 2 rfl) ?_
      refine W.widen (k := 0) (n := 0) (by decide +kernel) (by decide +kernel) ?_
      exact W.iret (v := v2) hx hb hr (fun t ht hW => ⟨⟨v2, (), rfl, Or.inr (Or.inr (Or.inr (Or.inr (Or.inr (Or.inr (Or.inr (Or.inr (Or.inr (Or.inr (Or.inr (Or.inr (Or.inr (Or.inr (Or.inr (Or.inr (Or.inr (Or.inr (Or.inr (Or.inr (Or.inr (Or.inl ⟨c_1, c_2, c_3, c_5, c_7, c_8, c_10, c_12, c_14, c_15, c_16_0, rfl⟩))))))))))))))))))))), by rw [ht]; exact hP, va_K.moved hW.alike hK, hD⟩, hS.F ht⟩) hS.2.2 dX4_changed_173
    · exact h9.elim
  by_cases c_17 : v0 = 10
  · refine lv_tableIn (off := 159) (tgt := 160) hx hb dX4_changed_1 (by rw [c_17]; decide) (by rw [c_17]; decide) (by rw [c_17]; decide) (by decide) ?_
    refine lv_iload_n hx hb dX4_changed_160 rfl (lv_at hl 1 rfl) ?_
    refine lv_iload_n hx hb dX4_changed_161 rfl (lv_at hl 2 rfl) ?_
    have hPc := hP.sub (ws' := []) [] rfl
    have hDc := hD.sub (ws' := []) [] (by decide) rfl
    have hKc := hK.sub (tys' := []) [] rfl
    have hFc := va_free (wc := []) hD hS hA [] rfl
    refine va_calli (va_runS (As := [.int v1, .int v2]) (rest := []) ⟨hx, hb, hml, hown, hts⟩ (k_J6_compareUnsigned_7cf53 l hlt dC dI v1 v2  s.heap.size) (va_cwS 2 hts gi_g_X4_changed_0 rfl rfl rfl (by decide +kernel) ⟨Nat.le_of_ble_eq_true rfl, Nat.le_of_ble_eq_true rfl⟩) ⟨fun a U g mk q => by obtain ⟨q0, q1, qP, qK, qD, qN⟩ := q; exact ⟨q0, q1, qP, va_K.moved (u := U) (U := U.calling g mk a) (Vm.Alike.refl U.vm) qK, qD, nv_same rfl rfl qN⟩, fun U hU hW => ⟨rfl, by rw [hU], by rw [hU]; exact hPc, va_K.moved hW.alike hKc, hDc.weaken (fun _ _ _ _ => trivial), nv_call hS hFc hU hW hN⟩⟩ rfl rfl hl.1 rfl (lv_room (Nat.le_of_ble_eq_true rfl)) dX4_changed_162 ⟨by decide +kernel, by decide +kernel⟩) hS (fun q _ h => hFc q h) hFc (fun r7 u t H1 locs ht hvm hw hB hz1 hk1 hS => ?_)
    obtain ⟨hP1, hK1, hD1⟩ := hB
    rw [ht] at hP1
    have hK1 := va_K.moved hvm.symm hK1
    obtain ⟨hP, hD⟩ := va_join (wr := []) (w1 := []) hP hD [] [] rfl rfl (by decide) (by decide) hk1 hFc hP1 hD1
    have hK := (hK.sub (tys' := []) [] rfl).app hK1
    generalize H1 = H at hP hS ⊢
    have hP : va_P (dC, dI) vwCl [] H := hP
    have hD : va_D A [] := hD
    have hK : va_K (dC, dI) vwCl [] s := hK
    refine W.widen (k := 0) (n := 0) (by decide +kernel) (by decide +kernel) ?_
    rcases hw with ⟨c_18_0, c_18_1, h9⟩ | ⟨c_18_0, c_18_1, h9⟩ | ⟨c_18_0, h9⟩ | h9
    · subst h9
      refine lv_if_le (tgt := 172) hx hb dX4_changed_165 (by decide) (fun h9 => absurd h9 (by decide)) (fun _ => ?_)
      refine lv_iload_n hx hb dX4_changed_168 rfl (lv_at hl 1 rfl) ?_
      refine lv_goto (tgt := 173) hx hb dX4_changed_169 (by decide) ?_
      refine W.widen (k := 0) (n := 0) (by decide +kernel) (by decide +kernel) ?_
      exact W.iret (v := v1) hx hb hr (fun t ht hW => ⟨⟨v1, (), rfl, Or.inr (Or.inr (Or.inr (Or.inr (Or.inr (Or.inr (Or.inr (Or.inr (Or.inr (Or.inr (Or.inr (Or.inr (Or.inr (Or.inr (Or.inr (Or.inr (Or.inr (Or.inr (Or.inr (Or.inr (Or.inr (Or.inr (Or.inl ⟨c_1, c_2, c_3, c_5, c_7, c_8, c_10, c_12, c_14, c_15, c_17, c_18_0, c_18_1, rfl⟩)))))))))))))))))))))), by rw [ht]; exact hP, va_K.moved hW.alike hK, hD⟩, hS.F ht⟩) hS.2.2 dX4_changed_173
    · subst h9
      refine lv_if_le (tgt := 172) hx hb dX4_changed_165 (by decide) (fun _ => ?_) (fun h9 => absurd (by decide) h9)
      refine lv_iload_n hx hb dX4_changed_172 rfl (lv_at hl 2 rfl) ?_
      refine W.widen (k := 0) (n := 0) (by decide +kernel) (by decide +kernel) ?_
      exact W.iret (v := v2) hx hb hr (fun t ht hW => ⟨⟨v2, (), rfl, Or.inr (Or.inr (Or.inr (Or.inr (Or.inr (Or.inr (Or.inr (Or.inr (Or.inr (Or.inr (Or.inr (Or.inr (Or.inr (Or.inr (Or.inr (Or.inr (Or.inr (Or.inr (Or.inr (Or.inr (Or.inr (Or.inr (Or.inr (Or.inl ⟨c_1, c_2, c_3, c_5, c_7, c_8, c_10, c_12, c_14, c_15, c_17, c_18_0, c_18_1, rfl⟩))))))))))))))))))))))), by rw [ht]; exact hP, va_K.moved hW.alike hK, hD⟩, hS.F ht⟩) hS.2.2 dX4_changed_173
    · subst h9
      refine lv_if_le (tgt := 172) hx hb dX4_changed_165 (by decide) (fun _ => ?_) (fun h9 => absurd (by decide) h9)
      refine lv_iload_n hx hb dX4_changed_172 rfl (lv_at hl 2 rfl) ?_
      refine W.widen (k := 0) (n := 0) (by decide +kernel) (by decide +kernel) ?_
      exact W.iret (v := v2) hx hb hr (fun t ht hW => ⟨⟨v2, (), rfl, Or.inr (Or.inr (Or.inr (Or.inr (Or.inr (Or.inr (Or.inr (Or.inr (Or.inr (Or.inr (Or.inr (Or.inr (Or.inr (Or.inr (Or.inr (Or.inr (Or.inr (Or.inr (Or.inr (Or.inr (Or.inr (Or.inr (Or.inr (Or.inr (Or.inl ⟨c_1, c_2, c_3, c_5, c_7, c_8, c_10, c_12, c_14, c_15, c_17, c_18_0, rfl⟩)))))))))))))))))))))))), by rw [ht]; exact hP, va_K.moved hW.alike hK, hD⟩, hS.F ht⟩) hS.2.2 dX4_changed_173
    · exact h9.elim
  by_cases c_19 : v0 = 11
  · refine lv_tableIn (off := 159) (tgt := 160) hx hb dX4_changed_1 (by rw [c_19]; decide) (by rw [c_19]; decide) (by rw [c_19]; decide) (by decide) ?_
    refine lv_iload_n hx hb dX4_changed_160 rfl (lv_at hl 1 rfl) ?_
    refine lv_iload_n hx hb dX4_changed_161 rfl (lv_at hl 2 rfl) ?_
    have hPc := hP.sub (ws' := []) [] rfl
    have hDc := hD.sub (ws' := []) [] (by decide) rfl
    have hKc := hK.sub (tys' := []) [] rfl
    have hFc := va_free (wc := []) hD hS hA [] rfl
    refine va_calli (va_runS (As := [.int v1, .int v2]) (rest := []) ⟨hx, hb, hml, hown, hts⟩ (k_J6_compareUnsigned_7cf53 l hlt dC dI v1 v2  s.heap.size) (va_cwS 2 hts gi_g_X4_changed_0 rfl rfl rfl (by decide +kernel) ⟨Nat.le_of_ble_eq_true rfl, Nat.le_of_ble_eq_true rfl⟩) ⟨fun a U g mk q => by obtain ⟨q0, q1, qP, qK, qD, qN⟩ := q; exact ⟨q0, q1, qP, va_K.moved (u := U) (U := U.calling g mk a) (Vm.Alike.refl U.vm) qK, qD, nv_same rfl rfl qN⟩, fun U hU hW => ⟨rfl, by rw [hU], by rw [hU]; exact hPc, va_K.moved hW.alike hKc, hDc.weaken (fun _ _ _ _ => trivial), nv_call hS hFc hU hW hN⟩⟩ rfl rfl hl.1 rfl (lv_room (Nat.le_of_ble_eq_true rfl)) dX4_changed_162 ⟨by decide +kernel, by decide +kernel⟩) hS (fun q _ h => hFc q h) hFc (fun r8 u t H1 locs ht hvm hw hB hz1 hk1 hS => ?_)
    obtain ⟨hP1, hK1, hD1⟩ := hB
    rw [ht] at hP1
    have hK1 := va_K.moved hvm.symm hK1
    obtain ⟨hP, hD⟩ := va_join (wr := []) (w1 := []) hP hD [] [] rfl rfl (by decide) (by decide) hk1 hFc hP1 hD1
    have hK := (hK.sub (tys' := []) [] rfl).app hK1
    generalize H1 = H at hP hS ⊢
    have hP : va_P (dC, dI) vwCl [] H := hP
    have hD : va_D A [] := hD
    have hK : va_K (dC, dI) vwCl [] s := hK
    refine W.widen (k := 0) (n := 0) (by decide +kernel) (by decide +kernel) ?_
    rcases hw with ⟨c_20_0, c_20_1, h9⟩ | ⟨c_20_0, c_20_1, h9⟩ | ⟨c_20_0, h9⟩ | h9
    · subst h9
      refine lv_if_le (tgt := 172) hx hb dX4_changed_165 (by decide) (fun h9 => absurd h9 (by decide)) (fun _ => ?_)
      refine lv_iload_n hx hb dX4_changed_168 rfl (lv_at hl 1 rfl) ?_
      refine lv_goto (tgt := 173) hx hb dX4_changed_169 (by decide) ?_
      refine W.widen (k := 0) (n := 0) (by decide +kernel) (by decide +kernel) ?_
      exact W.iret (v := v1) hx hb hr (fun t ht hW => ⟨⟨v1, (), rfl, Or.inr (Or.inr (Or.inr (Or.inr (Or.inr (Or.inr (Or.inr (Or.inr (Or.inr (Or.inr (Or.inr (Or.inr (Or.inr (Or.inr (Or.inr (Or.inr (Or.inr (Or.inr (Or.inr (Or.inr (Or.inr (Or.inr (Or.inr (Or.inr (Or.inr (Or.inl ⟨c_1, c_2, c_3, c_5, c_7, c_8, c_10, c_12, c_14, c_15, c_17, c_19, c_20_0, c_20_1, rfl⟩))))))))))))))))))))))))), by rw [ht]; exact hP, va_K.moved hW.alike hK, hD⟩, hS.F ht⟩) hS.2.2 dX4_changed_173
    · subst h9
      refine lv_if_le (tgt := 172) hx hb dX4_changed_165 (by decide) (fun _ => ?_) (fun h9 => absurd (by decide) h9)
      refine lv_iload_n hx hb dX4_changed_172 rfl (lv_at hl 2 rfl) ?_
      refine W.widen (k := 0) (n := 0) (by decide +kernel) (by decide +kernel) ?_
      exact W.iret (v := v2) hx hb hr (fun t ht hW => ⟨⟨v2, (), rfl, Or.inr (Or.inr (Or.inr (Or.inr (Or.inr (Or.inr (Or.inr (Or.inr (Or.inr (Or.inr (Or.inr (Or.inr (Or.inr (Or.inr (Or.inr (Or.inr (Or.inr (Or.inr (Or.inr (Or.inr (Or.inr (Or.inr (Or.inr (Or.inr (Or.inr (Or.inr (Or.inl ⟨c_1, c_2, c_3, c_5, c_7, c_8, c_10, c_12, c_14, c_15, c_17, c_19, c_20_0, c_20_1, rfl⟩)))))))))))))))))))))))))), by rw [ht]; exact hP, va_K.moved hW.alike hK, hD⟩, hS.F ht⟩) hS.2.2 dX4_changed_173
    · subst h9
      refine lv_if_le (tgt := 172) hx hb dX4_changed_165 (by decide) (fun _ => ?_) (fun h9 => absurd (by decide) h9)
      refine lv_iload_n hx hb dX4_changed_172 rfl (lv_at hl 2 rfl) ?_
      refine W.widen (k := 0) (n := 0) (by decide +kernel) (by decide +kernel) ?_
      exact W.iret (v := v2) hx hb hr (fun t ht hW => ⟨⟨v2, (), rfl, Or.inr (Or.inr (Or.inr (Or.inr (Or.inr (Or.inr (Or.inr (Or.inr (Or.inr (Or.inr (Or.inr (Or.inr (Or.inr (Or.inr (Or.inr (Or.inr (Or.inr (Or.inr (Or.inr (Or.inr (Or.inr (Or.inr (Or.inr (Or.inr (Or.inr (Or.inr (Or.inr (Or.inl ⟨c_1, c_2, c_3, c_5, c_7, c_8, c_10, c_12, c_14, c_15, c_17, c_19, c_20_0, rfl⟩))))))))))))))))))))))))))), by rw [ht]; exact hP, va_K.moved hW.alike hK, hD⟩, hS.F ht⟩) hS.2.2 dX4_changed_173
    · exact h9.elim
  by_cases c_21 : v0 = 12
  · refine lv_tableIn (off := 129) (tgt := 130) hx hb dX4_changed_1 (by rw [c_21]; decide) (by rw [c_21]; decide) (by rw [c_21]; decide) (by decide) ?_
    refine lv_iload_n hx hb dX4_changed_130 rfl (lv_at hl 1 rfl) ?_
    refine lv_iload_n hx hb dX4_changed_131 rfl (lv_at hl 2 rfl) ?_
    refine lv_iand hx hb dX4_changed_132 ?_
    refine W.widen (k := 0) (n := 0) (by decide +kernel) (by decide +kernel) ?_
    exact W.iret (v := (v1 &&& v2)) hx hb hr (fun t ht hW => ⟨⟨(v1 &&& v2), (), rfl, Or.inr (Or.inr (Or.inr (Or.inr (Or.inr (Or.inr (Or.inr (Or.inr (Or.inr (Or.inr (Or.inr (Or.inr (Or.inr (Or.inr (Or.inr (Or.inr (Or.inr (Or.inr (Or.inr (Or.inr (Or.inr (Or.inr (Or.inr (Or.inr (Or.inr (Or.inr (Or.inr (Or.inr (Or.inl ⟨c_1, c_2, c_3, c_5, c_7, c_8, c_10, c_12, c_14, c_15, c_17, c_19, c_21, rfl⟩)))))))))))))))))))))))))))), by rw [ht]; exact hP, va_K.moved hW.alike hK, hD⟩, hS.F ht⟩) hS.2.2 dX4_changed_133
  by_cases c_22 : v0 = 13
  · refine lv_tableIn (off := 159) (tgt := 160) hx hb dX4_changed_1 (by rw [c_22]; decide) (by rw [c_22]; decide) (by rw [c_22]; decide) (by decide) ?_
    refine lv_iload_n hx hb dX4_changed_160 rfl (lv_at hl 1 rfl) ?_
    refine lv_iload_n hx hb dX4_changed_161 rfl (lv_at hl 2 rfl) ?_
    have hPc := hP.sub (ws' := []) [] rfl
    have hDc := hD.sub (ws' := []) [] (by decide) rfl
    have hKc := hK.sub (tys' := []) [] rfl
    have hFc := va_free (wc := []) hD hS hA [] rfl
    refine va_calli (va_runS (As := [.int v1, .int v2]) (rest := []) ⟨hx, hb, hml, hown, hts⟩ (k_J6_compareUnsigned_7cf53 l hlt dC dI v1 v2  s.heap.size) (va_cwS 2 hts gi_g_X4_changed_0 rfl rfl rfl (by decide +kernel) ⟨Nat.le_of_ble_eq_true rfl, Nat.le_of_ble_eq_true rfl⟩) ⟨fun a U g mk q => by obtain ⟨q0, q1, qP, qK, qD, qN⟩ := q; exact ⟨q0, q1, qP, va_K.moved (u := U) (U := U.calling g mk a) (Vm.Alike.refl U.vm) qK, qD, nv_same rfl rfl qN⟩, fun U hU hW => ⟨rfl, by rw [hU], by rw [hU]; exact hPc, va_K.moved hW.alike hKc, hDc.weaken (fun _ _ _ _ => trivial), nv_call hS hFc hU hW hN⟩⟩ rfl rfl hl.1 rfl (lv_room (Nat.le_of_ble_eq_true rfl)) dX4_changed_162 ⟨by decide +kernel, by decide +kernel⟩) hS (fun q _ h => hFc q h) hFc (fun r9 u t H1 locs ht hvm hw hB hz1 hk1 hS => ?_)
    obtain ⟨hP1, hK1, hD1⟩ := hB
    rw [ht] at hP1
    have hK1 := va_K.moved hvm.symm hK1
    obtain ⟨hP, hD⟩ := va_join (wr := []) (w1 := []) hP hD [] [] rfl rfl (by decide) (by decide) hk1 hFc hP1 hD1
    have hK := (hK.sub (tys' := []) [] rfl).app hK1
    generalize H1 = H at hP hS ⊢
    have hP : va_P (dC, dI) vwCl [] H := hP
    have hD : va_D A [] := hD
    have hK : va_K (dC, dI) vwCl [] s := hK
    refine W.widen (k := 0) (n := 0) (by decide +kernel) (by decide +kernel) ?_
    rcases hw with ⟨c_23_0, c_23_1, h9⟩ | ⟨c_23_0, c_23_1, h9⟩ | ⟨c_23_0, h9⟩ | h9
    · subst h9
      refine lv_if_le (tgt := 172) hx hb dX4_changed_165 (by decide) (fun h9 => absurd h9 (by decide)) (fun _ => ?_)
      refine lv_iload_n hx hb dX4_changed_168 rfl (lv_at hl 1 rfl) ?_
      refine lv_goto (tgt := 173) hx hb dX4_changed_169 (by decide) ?_
      refine W.widen (k := 0) (n := 0) (by decide +kernel) (by decide +kernel) ?_
      exact W.iret (v := v1) hx hb hr (fun t ht hW => ⟨⟨v1, (), rfl, Or.inr (Or.inr (Or.inr (Or.inr (Or.inr (Or.inr (Or.inr (Or.inr (Or.inr (Or.inr (Or.inr (Or.inr (Or.inr (Or.inr (Or.inr (Or.inr (Or.inr (Or.inr (Or.inr (Or.inr (Or.inr (Or.inr (Or.inr (Or.inr (Or.inr (Or.inr (Or.inr (Or.inr (Or.inr (Or.inl ⟨c_1, c_2, c_3, c_5, c_7, c_8, c_10, c_12, c_14, c_15, c_17, c_19, c_21, c_22, c_23_0, c_23_1, rfl⟩))))))))))))))))))))))))))))), by rw [ht]; exact hP, va_K.moved hW.alike hK, hD⟩, hS.F ht⟩) hS.2.2 dX4_changed_173
    · subst h9
      refine lv_if_le (tgt := 172) hx hb dX4_changed_165 (by decide) (fun _ => ?_) (fun h9 => absurd (by decide) h9)
      refine lv_iload_n hx hb dX4_changed_172 rfl (lv_at hl 2 rfl) ?_
      refine W.widen (k := 0) (n := 0) (by decide +kernel) (by decide +kernel) ?_
      exact W.iret (v := v2) hx hb hr (fun t ht hW => ⟨⟨v2, (), rfl, Or.inr (Or.inr (Or.inr (Or.inr (Or.inr (Or.inr (Or.inr (Or.inr (Or.inr (Or.inr (Or.inr (Or.inr (Or.inr (Or.inr (Or.inr (Or.inr (Or.inr (Or.inr (Or.inr (Or.inr (Or.inr (Or.inr (Or.inr (Or.inr (Or.inr (Or.inr (Or.inr (Or.inr (Or.inr (Or.inr (Or.inl ⟨c_1, c_2, c_3, c_5, c_7, c_8, c_10, c_12, c_14, c_15, c_17, c_19, c_21, c_22, c_23_0, c_23_1, rfl⟩)))))))))))))))))))))))))))))), by rw [ht]; exact hP, va_K.moved hW.alike hK, hD⟩, hS.F ht⟩) hS.2.2 dX4_changed_173
    · subst h9
      refine lv_if_le (tgt := 172) hx hb dX4_changed_165 (by decide) (fun _ => ?_) (fun h9 => absurd (by decide) h9)
      refine lv_iload_n hx hb dX4_changed_172 rfl (lv_at hl 2 rfl) ?_
      refine W.widen (k := 0) (n := 0) (by decide +kernel) (by decide +kernel) ?_
      exact W.iret (v := v2) hx hb hr (fun t ht hW => ⟨⟨v2, (), rfl, Or.inr (Or.inr (Or.inr (Or.inr (Or.inr (Or.inr (Or.inr (Or.inr (Or.inr (Or.inr (Or.inr (Or.inr (Or.inr (Or.inr (Or.inr (Or.inr (Or.inr (Or.inr (Or.inr (Or.inr (Or.inr (Or.inr (Or.inr (Or.inr (Or.inr (Or.inr (Or.inr (Or.inr (Or.inr (Or.inr (Or.inr (Or.inl ⟨c_1, c_2, c_3, c_5, c_7, c_8, c_10, c_12, c_14, c_15, c_17, c_19, c_21, c_22, c_23_0, rfl⟩))))))))))))))))))))))))))))))), by rw [ht]; exact hP, va_K.moved hW.alike hK, hD⟩, hS.F ht⟩) hS.2.2 dX4_changed_173
    · exact h9.elim
  by_cases c_24 : v0 = 14
  · refine lv_tableIn (off := 159) (tgt := 160) hx hb dX4_changed_1 (by rw [c_24]; decide) (by rw [c_24]; decide) (by rw [c_24]; decide) (by decide) ?_
    refine lv_iload_n hx hb dX4_changed_160 rfl (lv_at hl 1 rfl) ?_
    refine lv_iload_n hx hb dX4_changed_161 rfl (lv_at hl 2 rfl) ?_
    have hPc := hP.sub (ws' := []) [] rfl
    have hDc := hD.sub (ws' := []) [] (by decide) rfl
    have hKc := hK.sub (tys' := []) [] rfl
    have hFc := va_free (wc := []) hD hS hA [] rfl
    refine va_calli (va_runS (As := [.int v1, .int v2]) (rest := []) ⟨hx, hb, hml, hown, hts⟩ (k_J6_compareUnsigned_7cf53 l hlt dC dI v1 v2  s.heap.size) (va_cwS 2 hts gi_g_X4_changed_0 rfl rfl rfl (by decide +kernel) ⟨Nat.le_of_ble_eq_true rfl, Nat.le_of_ble_eq_true rfl⟩) ⟨fun a U g mk q => by obtain ⟨q0, q1, qP, qK, qD, qN⟩ := q; exact ⟨q0, q1, qP, va_K.moved (u := U) (U := U.calling g mk a) (Vm.Alike.refl U.vm) qK, qD, nv_same rfl rfl qN⟩, fun U hU hW => ⟨rfl, by rw [hU], by rw [hU]; exact hPc, va_K.moved hW.alike hKc, hDc.weaken (fun _ _ _ _ => trivial), nv_call hS hFc hU hW hN⟩⟩ rfl rfl hl.1 rfl (lv_room (Nat.le_of_ble_eq_true rfl)) dX4_changed_162 ⟨by decide +kernel, by decide +kernel⟩) hS (fun q _ h => hFc q h) hFc (fun r10 u t H1 locs ht hvm hw hB hz1 hk1 hS => ?_)
    obtain ⟨hP1, hK1, hD1⟩ := hB
    rw [ht] at hP1
    have hK1 := va_K.moved hvm.symm hK1
    obtain ⟨hP, hD⟩ := va_join (wr := []) (w1 := []) hP hD [] [] rfl rfl (by decide) (by decide) hk1 hFc hP1 hD1
    have hK := (hK.sub (tys' := []) [] rfl).app hK1
    generalize H1 = H at hP hS ⊢
    have hP : va_P (dC, dI) vwCl [] H := hP
    have hD : va_D A [] := hD
    have hK : va_K (dC, dI) vwCl [] s := hK
    refine W.widen (k := 0) (n := 0) (by decide +kernel) (by decide +kernel) ?_
    rcases hw with ⟨c_25_0, c_25_1, h9⟩ | ⟨c_25_0, c_25_1, h9⟩ | ⟨c_25_0, h9⟩ | h9
    · subst h9
      refine lv_if_le (tgt := 172) hx hb dX4_changed_165 (by decide) (fun h9 => absurd h9 (by decide)) (fun _ => ?_)
      refine lv_iload_n hx hb dX4_changed_168 rfl (lv_at hl 1 rfl) ?_
      refine lv_goto (tgt := 173) hx hb dX4_changed_169 (by decide) ?_
      refine W.widen (k := 0) (n := 0) (by decide +kernel) (by decide +kernel) ?_
      exact W.iret (v := v1) hx hb hr (fun t ht hW => ⟨⟨v1, (), rfl, Or.inr (Or.inr (Or.inr (Or.inr (Or.inr (Or.inr (Or.inr (Or.inr (Or.inr (Or.inr (Or.inr (Or.inr (Or.inr (Or.inr (Or.inr (Or.inr (Or.inr (Or.inr (Or.inr (Or.inr (Or.inr (Or.inr (Or.inr (Or.inr (Or.inr (Or.inr (Or.inr (Or.inr (Or.inr (Or.inr (Or.inr (Or.inr (Or.inl ⟨c_1, c_2, c_3, c_5, c_7, c_8, c_10, c_12, c_14, c_15, c_17, c_19, c_21, c_22, c_24, c_25_0, c_25_1, rfl⟩)))))))))))))))))))))))))))))))), by rw [ht]; exact hP, va_K.moved hW.alike hK, hD⟩, hS.F ht⟩) hS.2.2 dX4_changed_173
    · subst h9
      refine lv_if_le (tgt := 172) hx hb dX4_changed_165 (by decide) (fun _ => ?_) (fun h9 => absurd (by decide) h9)
      refine lv_iload_n hx hb dX4_changed_172 rfl (lv_at hl 2 rfl) ?_
      refine W.widen (k := 0) (n := 0) (by decide +kernel) (by decide +kernel) ?_
      exact W.iret (v := v2) hx hb hr (fun t ht hW => ⟨⟨v2, (), rfl, Or.inr (Or.inr (Or.inr (Or.inr (Or.inr (Or.inr (Or.inr (Or.inr (Or.inr (Or.inr (Or.inr (Or.inr (Or.inr (Or.inr (Or.inr (Or.inr (Or.inr (Or.inr (Or.inr (Or.inr (Or.inr (Or.inr (Or.inr (Or.inr (Or.inr (Or.inr (Or.inr (Or.inr (Or.inr (Or.inr (Or.inr (Or.inr (Or.inr (Or.inl ⟨c_1, c_2, c_3, c_5, c_7, c_8, c_10, c_12, c_14, c_15, c_17, c_19, c_21, c_22, c_24, c_25_0, c_25_1, rfl⟩))))))))))))))))))))))))))))))))), by rw [ht]; exact hP, va_K.moved hW.alike hK, hD⟩, hS.F ht⟩) hS.2.2 dX4_changed_173
    · subst h9
      refine lv_if_le (tgt := 172) hx hb dX4_changed_165 (by decide) (fun _ => ?_) (fun h9 => absurd (by decide) h9)
      refine lv_iload_n hx hb dX4_changed_172 rfl (lv_at hl 2 rfl) ?_
      refine W.widen (k := 0) (n := 0) (by decide +kernel) (by decide +kernel) ?_
      exact W.iret (v := v2) hx hb hr (fun t ht hW => ⟨⟨v2, (), rfl, Or.inr (Or.inr (Or.inr (Or.inr (Or.inr (Or.inr (Or.inr (Or.inr (Or.inr (Or.inr (Or.inr (Or.inr (Or.inr (Or.inr (Or.inr (Or.inr (Or.inr (Or.inr (Or.inr (Or.inr (Or.inr (Or.inr (Or.inr (Or.inr (Or.inr (Or.inr (Or.inr (Or.inr (Or.inr (Or.inr (Or.inr (Or.inr (Or.inr (Or.inr (Or.inl ⟨c_1, c_2, c_3, c_5, c_7, c_8, c_10, c_12, c_14, c_15, c_17, c_19, c_21, c_22, c_24, c_25_0, rfl⟩)))))))))))))))))))))))))))))))))), by rw [ht]; exact hP, va_K.moved hW.alike hK, hD⟩, hS.F ht⟩) hS.2.2 dX4_changed_173
    · exact h9.elim
  by_cases c_26 : v0 = 15
  · refine lv_tableIn (off := 159) (tgt := 160) hx hb dX4_changed_1 (by rw [c_26]; decide) (by rw [c_26]; decide) (by rw [c_26]; decide) (by decide) ?_
    refine lv_iload_n hx hb dX4_changed_160 rfl (lv_at hl 1 rfl) ?_
    refine lv_iload_n hx hb dX4_changed_161 rfl (lv_at hl 2 rfl) ?_
    have hPc := hP.sub (ws' := []) [] rfl
    have hDc := hD.sub (ws' := []) [] (by decide) rfl
    have hKc := hK.sub (tys' := []) [] rfl
    have hFc := va_free (wc := []) hD hS hA [] rfl
    refine va_calli (va_runS (As := [.int v1, .int v2]) (rest := []) ⟨hx, hb, hml, hown, hts⟩ (k_J6_compareUnsigned_7cf53 l hlt dC dI v1 v2  s.heap.size) (va_cwS 2 hts gi_g_X4_changed_0 rfl rfl rfl (by decide +kernel) ⟨Nat.le_of_ble_eq_true rfl, Nat.le_of_ble_eq_true rfl⟩) ⟨fun a U g mk q => by obtain ⟨q0, q1, qP, qK, qD, qN⟩ := q; exact ⟨q0, q1, qP, va_K.moved (u := U) (U := U.calling g mk a) (Vm.Alike.refl U.vm) qK, qD, nv_same rfl rfl qN⟩, fun U hU hW => ⟨rfl, by rw [hU], by rw [hU]; exact hPc, va_K.moved hW.alike hKc, hDc.weaken (fun _ _ _ _ => trivial), nv_call hS hFc hU hW hN⟩⟩ rfl rfl hl.1 rfl (lv_room (Nat.le_of_ble_eq_true rfl)) dX4_changed_162 ⟨by decide +kernel, by decide +kernel⟩) hS (fun q _ h => hFc q h) hFc (fun r11 u t H1 locs ht hvm hw hB hz1 hk1 hS => ?_)
    obtain ⟨hP1, hK1, hD1⟩ := hB
    rw [ht] at hP1
    have hK1 := va_K.moved hvm.symm hK1
    obtain ⟨hP, hD⟩ := va_join (wr := []) (w1 := []) hP hD [] [] rfl rfl (by decide) (by decide) hk1 hFc hP1 hD1
    have hK := (hK.sub (tys' := []) [] rfl).app hK1
    generalize H1 = H at hP hS ⊢
    have hP : va_P (dC, dI) vwCl [] H := hP
    have hD : va_D A [] := hD
    have hK : va_K (dC, dI) vwCl [] s := hK
    refine W.widen (k := 0) (n := 0) (by decide +kernel) (by decide +kernel) ?_
    rcases hw with ⟨c_27_0, c_27_1, h9⟩ | ⟨c_27_0, c_27_1, h9⟩ | ⟨c_27_0, h9⟩ | h9
    · subst h9
      refine lv_if_le (tgt := 172) hx hb dX4_changed_165 (by decide) (fun h9 => absurd h9 (by decide)) (fun _ => ?_)
      refine lv_iload_n hx hb dX4_changed_168 rfl (lv_at hl 1 rfl) ?_
      refine lv_goto (tgt := 173) hx hb dX4_changed_169 (by decide) ?_
      refine W.widen (k := 0) (n := 0) (by decide +kernel) (by decide +kernel) ?_
      exact W.iret (v := v1) hx hb hr (fun t ht hW => ⟨⟨v1, (), rfl, Or.inr (Or.inr (Or.inr (Or.inr (Or.inr (Or.inr (Or.inr (Or.inr (Or.inr (Or.inr (Or.inr (Or.inr (Or.inr (Or.inr (Or.inr (Or.inr (Or.inr (Or.inr (Or.inr (Or.inr (Or.inr (Or.inr (Or.inr (Or.inr (Or.inr (Or.inr (Or.inr (Or.inr (Or.inr (Or.inr (Or.inr (Or.inr (Or.inr (Or.inr (Or.inr (Or.inl ⟨c_1, c_2, c_3, c_5, c_7, c_8, c_10, c_12, c_14, c_15, c_17, c_19, c_21, c_22, c_24, c_26, c_27_0, c_27_1, rfl⟩))))))))))))))))))))))))))))))))))), by rw [ht]; exact hP, va_K.moved hW.alike hK, hD⟩, hS.F ht⟩) hS.2.2 dX4_changed_173
    · subst h9
      refine lv_if_le (tgt := 172) hx hb dX4_changed_165 (by decide) (fun _ => ?_) (fun h9 => absurd (by decide) h9)
      refine lv_iload_n hx hb dX4_changed_172 rfl (lv_at hl 2 rfl) ?_
      refine W.widen (k := 0) (n := 0) (by decide +kernel) (by decide +kernel) ?_
      exact W.iret (v := v2) hx hb hr (fun t ht hW => ⟨⟨v2, (), rfl, Or.inr (Or.inr (Or.inr (Or.inr (Or.inr (Or.inr (Or.inr (Or.inr (Or.inr (Or.inr (Or.inr (Or.inr (Or.inr (Or.inr (Or.inr (Or.inr (Or.inr (Or.inr (Or.inr (Or.inr (Or.inr (Or.inr (Or.inr (Or.inr (Or.inr (Or.inr (Or.inr (Or.inr (Or.inr (Or.inr (Or.inr (Or.inr (Or.inr (Or.inr (Or.inr (Or.inr (Or.inl ⟨c_1, c_2, c_3, c_5, c_7, c_8, c_10, c_12, c_14, c_15, c_17, c_19, c_21, c_22, c_24, c_26, c_27_0, c_27_1, rfl⟩)))))))))))))))))))))))))))))))))))), by rw [ht]; exact hP, va_K.moved hW.alike hK, hD⟩, hS.F ht⟩) hS.2.2 dX4_changed_173
    · subst h9
      refine lv_if_le (tgt := 172) hx hb dX4_changed_165 (by decide) (fun _ => ?_) (fun h9 => absurd (by decide) h9)
      refine lv_iload_n hx hb dX4_changed_172 rfl (lv_at hl 2 rfl) ?_
      refine W.widen (k := 0) (n := 0) (by decide +kernel) (by decide +kernel) ?_
      exact W.iret (v := v2) hx hb hr (fun t ht hW => ⟨⟨v2, (), rfl, Or.inr (Or.inr (Or.inr (Or.inr (Or.inr (Or.inr (Or.inr (Or.inr (Or.inr (Or.inr (Or.inr (Or.inr (Or.inr (Or.inr (Or.inr (Or.inr (Or.inr (Or.inr (Or.inr (Or.inr (Or.inr (Or.inr (Or.inr (Or.inr (Or.inr (Or.inr (Or.inr (Or.inr (Or.inr (Or.inr (Or.inr (Or.inr (Or.inr (Or.inr (Or.inr (Or.inr (Or.inr (Or.inl ⟨c_1, c_2, c_3, c_5, c_7, c_8, c_10, c_12, c_14, c_15, c_17, c_19, c_21, c_22, c_24, c_26, c_27_0, rfl⟩))))))))))))))))))))))))))))))))))))), by rw [ht]; exact hP, va_K.moved hW.alike hK, hD⟩, hS.F ht⟩) hS.2.2 dX4_changed_173
    · exact h9.elim
  by_cases c_28 : v0 = 16
  · refine lv_tableIn (off := 133) (tgt := 134) hx hb dX4_changed_1 (by rw [c_28]; decide) (by rw [c_28]; decide) (by rw [c_28]; decide) (by decide) ?_
    refine lv_iload_n hx hb dX4_changed_134 rfl (lv_at hl 1 rfl) ?_
    refine lv_iload_n hx hb dX4_changed_135 rfl (lv_at hl 2 rfl) ?_
    refine va_mmin hx hb (by rw [hml]; exact hl.1.symm) hown (hts (.methodLink RX4 128 Lib.Math.min.name) (List.mem_of_getElem? (i := 4) rfl)) (hts (.static Lib.Math.min.name) (List.mem_of_getElem? (i := 5) rfl)) (hts (.initialized "java/lang/Math") (List.mem_of_getElem? (i := 6) rfl)) (hts (.code Lib.Math.min.name Lib.Math.min.code 2 (some .int)) (List.mem_of_getElem? (i := 7) rfl)) (Nat.le_of_ble_eq_true rfl) (Nat.le_of_ble_eq_true rfl) (by decide +kernel) (by decide +kernel) dX4_changed_136 ?_
    refine W.widen (k := 0) (n := 0) (by decide +kernel) (by decide +kernel) ?_
    exact W.iret (v := (if (v2 : Int32) < v1 then v2 else v1)) hx hb hr (fun t ht hW => ⟨⟨(if (v2 : Int32) < v1 then v2 else v1), (), rfl, Or.inr (Or.inr (Or.inr (Or.inr (Or.inr (Or.inr (Or.inr (Or.inr (Or.inr (Or.inr (Or.inr (Or.inr (Or.inr (Or.inr (Or.inr (Or.inr (Or.inr (Or.inr (Or.inr (Or.inr (Or.inr (Or.inr (Or.inr (Or.inr (Or.inr (Or.inr (Or.inr (Or.inr (Or.inr (Or.inr (Or.inr (Or.inr (Or.inr (Or.inr (Or.inr (Or.inr (Or.inr (Or.inr (Or.inl ⟨c_1, c_2, c_3, c_5, c_7, c_8, c_10, c_12, c_14, c_15, c_17, c_19, c_21, c_22, c_24, c_26, c_28, rfl⟩)))))))))))))))))))))))))))))))))))))), by rw [ht]; exact hP, va_K.moved hW.alike hK, hD⟩, hS.F ht⟩) hS.2.2 dX4_changed_139
  by_cases c_29 : v0 = 17
  · refine lv_tableIn (off := 159) (tgt := 160) hx hb dX4_changed_1 (by rw [c_29]; decide) (by rw [c_29]; decide) (by rw [c_29]; decide) (by decide) ?_
    refine lv_iload_n hx hb dX4_changed_160 rfl (lv_at hl 1 rfl) ?_
    refine lv_iload_n hx hb dX4_changed_161 rfl (lv_at hl 2 rfl) ?_
    have hPc := hP.sub (ws' := []) [] rfl
    have hDc := hD.sub (ws' := []) [] (by decide) rfl
    have hKc := hK.sub (tys' := []) [] rfl
    have hFc := va_free (wc := []) hD hS hA [] rfl
    refine va_calli (va_runS (As := [.int v1, .int v2]) (rest := []) ⟨hx, hb, hml, hown, hts⟩ (k_J6_compareUnsigned_7cf53 l hlt dC dI v1 v2  s.heap.size) (va_cwS 2 hts gi_g_X4_changed_0 rfl rfl rfl (by decide +kernel) ⟨Nat.le_of_ble_eq_true rfl, Nat.le_of_ble_eq_true rfl⟩) ⟨fun a U g mk q => by obtain ⟨q0, q1, qP, qK, qD, qN⟩ := q; exact ⟨q0, q1, qP, va_K.moved (u := U) (U := U.calling g mk a) (Vm.Alike.refl U.vm) qK, qD, nv_same rfl rfl qN⟩, fun U hU hW => ⟨rfl, by rw [hU], by rw [hU]; exact hPc, va_K.moved hW.alike hKc, hDc.weaken (fun _ _ _ _ => trivial), nv_call hS hFc hU hW hN⟩⟩ rfl rfl hl.1 rfl (lv_room (Nat.le_of_ble_eq_true rfl)) dX4_changed_162 ⟨by decide +kernel, by decide +kernel⟩) hS (fun q _ h => hFc q h) hFc (fun r12 u t H1 locs ht hvm hw hB hz1 hk1 hS => ?_)
    obtain ⟨hP1, hK1, hD1⟩ := hB
    rw [ht] at hP1
    have hK1 := va_K.moved hvm.symm hK1
    obtain ⟨hP, hD⟩ := va_join (wr := []) (w1 := []) hP hD [] [] rfl rfl (by decide) (by decide) hk1 hFc hP1 hD1
    have hK := (hK.sub (tys' := []) [] rfl).app hK1
    generalize H1 = H at hP hS ⊢
    have hP : va_P (dC, dI) vwCl [] H := hP
    have hD : va_D A [] := hD
    have hK : va_K (dC, dI) vwCl [] s := hK
    refine W.widen (k := 0) (n := 0) (by decide +kernel) (by decide +kernel) ?_
    rcases hw with ⟨c_30_0, c_30_1, h9⟩ | ⟨c_30_0, c_30_1, h9⟩ | ⟨c_30_0, h9⟩ | h9
    · subst h9
      refine lv_if_le (tgt := 172) hx hb dX4_changed_165 (by decide) (fun h9 => absurd h9 (by decide)) (fun _ => ?_)
      refine lv_iload_n hx hb dX4_changed_168 rfl (lv_at hl 1 rfl) ?_
      refine lv_goto (tgt := 173) hx hb dX4_changed_169 (by decide) ?_
      refine W.widen (k := 0) (n := 0) (by decide +kernel) (by decide +kernel) ?_
      exact W.iret (v := v1) hx hb hr (fun t ht hW => ⟨⟨v1, (), rfl, Or.inr (Or.inr (Or.inr (Or.inr (Or.inr (Or.inr (Or.inr (Or.inr (Or.inr (Or.inr (Or.inr (Or.inr (Or.inr (Or.inr (Or.inr (Or.inr (Or.inr (Or.inr (Or.inr (Or.inr (Or.inr (Or.inr (Or.inr (Or.inr (Or.inr (Or.inr (Or.inr (Or.inr (Or.inr (Or.inr (Or.inr (Or.inr (Or.inr (Or.inr (Or.inr (Or.inr (Or.inr (Or.inr (Or.inr (Or.inl ⟨c_1, c_2, c_3, c_5, c_7, c_8, c_10, c_12, c_14, c_15, c_17, c_19, c_21, c_22, c_24, c_26, c_28, c_29, c_30_0, c_30_1, rfl⟩))))))))))))))))))))))))))))))))))))))), by rw [ht]; exact hP, va_K.moved hW.alike hK, hD⟩, hS.F ht⟩) hS.2.2 dX4_changed_173
    · subst h9
      refine lv_if_le (tgt := 172) hx hb dX4_changed_165 (by decide) (fun _ => ?_) (fun h9 => absurd (by decide) h9)
      refine lv_iload_n hx hb dX4_changed_172 rfl (lv_at hl 2 rfl) ?_
      refine W.widen (k := 0) (n := 0) (by decide +kernel) (by decide +kernel) ?_
      exact W.iret (v := v2) hx hb hr (fun t ht hW => ⟨⟨v2, (), rfl, Or.inr (Or.inr (Or.inr (Or.inr (Or.inr (Or.inr (Or.inr (Or.inr (Or.inr (Or.inr (Or.inr (Or.inr (Or.inr (Or.inr (Or.inr (Or.inr (Or.inr (Or.inr (Or.inr (Or.inr (Or.inr (Or.inr (Or.inr (Or.inr (Or.inr (Or.inr (Or.inr (Or.inr (Or.inr (Or.inr (Or.inr (Or.inr (Or.inr (Or.inr (Or.inr (Or.inr (Or.inr (Or.inr (Or.inr (Or.inr (Or.inl ⟨c_1, c_2, c_3, c_5, c_7, c_8, c_10, c_12, c_14, c_15, c_17, c_19, c_21, c_22, c_24, c_26, c_28, c_29, c_30_0, c_30_1, rfl⟩)))))))))))))))))))))))))))))))))))))))), by rw [ht]; exact hP, va_K.moved hW.alike hK, hD⟩, hS.F ht⟩) hS.2.2 dX4_changed_173
    · subst h9
      refine lv_if_le (tgt := 172) hx hb dX4_changed_165 (by decide) (fun _ => ?_) (fun h9 => absurd (by decide) h9)
      refine lv_iload_n hx hb dX4_changed_172 rfl (lv_at hl 2 rfl) ?_
      refine W.widen (k := 0) (n := 0) (by decide +kernel) (by decide +kernel) ?_
      exact W.iret (v := v2) hx hb hr (fun t ht hW => ⟨⟨v2, (), rfl, Or.inr (Or.inr (Or.inr (Or.inr (Or.inr (Or.inr (Or.inr (Or.inr (Or.inr (Or.inr (Or.inr (Or.inr (Or.inr (Or.inr (Or.inr (Or.inr (Or.inr (Or.inr (Or.inr (Or.inr (Or.inr (Or.inr (Or.inr (Or.inr (Or.inr (Or.inr (Or.inr (Or.inr (Or.inr (Or.inr (Or.inr (Or.inr (Or.inr (Or.inr (Or.inr (Or.inr (Or.inr (Or.inr (Or.inr (Or.inr (Or.inr (Or.inl ⟨c_1, c_2, c_3, c_5, c_7, c_8, c_10, c_12, c_14, c_15, c_17, c_19, c_21, c_22, c_24, c_26, c_28, c_29, c_30_0, rfl⟩))))))))))))))))))))))))))))))))))))))))), by rw [ht]; exact hP, va_K.moved hW.alike hK, hD⟩, hS.F ht⟩) hS.2.2 dX4_changed_173
    · exact h9.elim
  by_cases c_31 : v0 = 18
  · refine lv_tableIn (off := 159) (tgt := 160) hx hb dX4_changed_1 (by rw [c_31]; decide) (by rw [c_31]; decide) (by rw [c_31]; decide) (by decide) ?_
    refine lv_iload_n hx hb dX4_changed_160 rfl (lv_at hl 1 rfl) ?_
    refine lv_iload_n hx hb dX4_changed_161 rfl (lv_at hl 2 rfl) ?_
    have hPc := hP.sub (ws' := []) [] rfl
    have hDc := hD.sub (ws' := []) [] (by decide) rfl
    have hKc := hK.sub (tys' := []) [] rfl
    have hFc := va_free (wc := []) hD hS hA [] rfl
    refine va_calli (va_runS (As := [.int v1, .int v2]) (rest := []) ⟨hx, hb, hml, hown, hts⟩ (k_J6_compareUnsigned_7cf53 l hlt dC dI v1 v2  s.heap.size) (va_cwS 2 hts gi_g_X4_changed_0 rfl rfl rfl (by decide +kernel) ⟨Nat.le_of_ble_eq_true rfl, Nat.le_of_ble_eq_true rfl⟩) ⟨fun a U g mk q => by obtain ⟨q0, q1, qP, qK, qD, qN⟩ := q; exact ⟨q0, q1, qP, va_K.moved (u := U) (U := U.calling g mk a) (Vm.Alike.refl U.vm) qK, qD, nv_same rfl rfl qN⟩, fun U hU hW => ⟨rfl, by rw [hU], by rw [hU]; exact hPc, va_K.moved hW.alike hKc, hDc.weaken (fun _ _ _ _ => trivial), nv_call hS hFc hU hW hN⟩⟩ rfl rfl hl.1 rfl (lv_room (Nat.le_of_ble_eq_true rfl)) dX4_changed_162 ⟨by decide +kernel, by decide +kernel⟩) hS (fun q _ h => hFc q h) hFc (fun r13 u t H1 locs ht hvm hw hB hz1 hk1 hS => ?_)
    obtain ⟨hP1, hK1, hD1⟩ := hB
    rw [ht] at hP1
    have hK1 := va_K.moved hvm.symm hK1
    obtain ⟨hP, hD⟩ := va_join (wr := []) (w1 := []) hP hD [] [] rfl rfl (by decide) (by decide) hk1 hFc hP1 hD1
    have hK := (hK.sub (tys' := []) [] rfl).app hK1
    generalize H1 = H at hP hS ⊢
    have hP : va_P (dC, dI) vwCl [] H := hP
    have hD : va_D A [] := hD
    have hK : va_K (dC, dI) vwCl [] s := hK
    refine W.widen (k := 0) (n := 0) (by decide +kernel) (by decide +kernel) ?_
    rcases hw with ⟨c_32_0, c_32_1, h9⟩ | ⟨c_32_0, c_32_1, h9⟩ | ⟨c_32_0, h9⟩ | h9
    · subst h9
      refine lv_if_le (tgt := 172) hx hb dX4_changed_165 (by decide) (fun h9 => absurd h9 (by decide)) (fun _ => ?_)
      refine lv_iload_n hx hb dX4_changed_168 rfl (lv_at hl 1 rfl) ?_
      refine lv_goto (tgt := 173) hx hb dX4_changed_169 (by decide) ?_
      refine W.widen (k := 0) (n := 0) (by decide +kernel) (by decide +kernel) ?_
      exact W.iret (v := v1) hx hb hr (fun t ht hW => ⟨⟨v1, (), rfl, Or.inr (Or.inr (Or.inr (Or.inr (Or.inr (Or.inr (Or.inr (Or.inr (Or.inr (Or.inr (Or.inr (Or.inr (Or.inr (Or.inr (Or.inr (Or.inr (Or.inr (Or.inr (Or.inr (Or.inr (Or.inr (Or.inr (Or.inr (Or.inr (Or.inr (Or.inr (Or.inr (Or.inr (Or.inr (Or.inr (Or.inr (Or.inr (Or.inr (Or.inr (Or.inr (Or.inr (Or.inr (Or.inr (Or.inr (Or.inr (Or.inr (Or.inr (Or.inl ⟨c_1, c_2, c_3, c_5, c_7, c_8, c_10, c_12, c_14, c_15, c_17, c_19, c_21, c_22, c_24, c_26, c_28, c_29, c_31, c_32_0, c_32_1, rfl⟩)))))))))))))))))))))))))))))))))))))))))), by rw [ht]; exact hP, va_K.moved hW.alike hK, hD⟩, hS.F ht⟩) hS.2.2 dX4_changed_173
    · subst h9
      refine lv_if_le (tgt := 172) hx hb dX4_changed_165 (by decide) (fun _ => ?_) (fun h9 => absurd (by decide) h9)
      refine lv_iload_n hx hb dX4_changed_172 rfl (lv_at hl 2 rfl) ?_
      refine W.widen (k := 0) (n := 0) (by decide +kernel) (by decide +kernel) ?_
      exact W.iret (v := v2) hx hb hr (fun t ht hW => ⟨⟨v2, (), rfl, Or.inr (Or.inr (Or.inr (Or.inr (Or.inr (Or.inr (Or.inr (Or.inr (Or.inr (Or.inr (Or.inr (Or.inr (Or.inr (Or.inr (Or.inr (Or.inr (Or.inr (Or.inr (Or.inr (Or.inr (Or.inr (Or.inr (Or.inr (Or.inr (Or.inr (Or.inr (Or.inr (Or.inr (Or.inr (Or.inr (Or.inr (Or.inr (Or.inr (Or.inr (Or.inr (Or.inr (Or.inr (Or.inr (Or.inr (Or.inr (Or.inr (Or.inr (Or.inr (Or.inl ⟨c_1, c_2, c_3, c_5, c_7, c_8, c_10, c_12, c_14, c_15, c_17, c_19, c_21, c_22, c_24, c_26, c_28, c_29, c_31, c_32_0, c_32_1, rfl⟩))))))))))))))))))))))))))))))))))))))))))), by rw [ht]; exact hP, va_K.moved hW.alike hK, hD⟩, hS.F ht⟩) hS.2.2 dX4_changed_173
    · subst h9
      refine lv_if_le (tgt := 172) hx hb dX4_changed_165 (by decide) (fun _ => ?_) (fun h9 => absurd (by decide) h9)
      refine lv_iload_n hx hb dX4_changed_172 rfl (lv_at hl 2 rfl) ?_
      refine W.widen (k := 0) (n := 0) (by decide +kernel) (by decide +kernel) ?_
      exact W.iret (v := v2) hx hb hr (fun t ht hW => ⟨⟨v2, (), rfl, Or.inr (Or.inr (Or.inr (Or.inr (Or.inr (Or.inr (Or.inr (Or.inr (Or.inr (Or.inr (Or.inr (Or.inr (Or.inr (Or.inr (Or.inr (Or.inr (Or.inr (Or.inr (Or.inr (Or.inr (Or.inr (Or.inr (Or.inr (Or.inr (Or.inr (Or.inr (Or.inr (Or.inr (Or.inr (Or.inr (Or.inr (Or.inr (Or.inr (Or.inr (Or.inr (Or.inr (Or.inr (Or.inr (Or.inr (Or.inr (Or.inr (Or.inr (Or.inr (Or.inr (Or.inl ⟨c_1, c_2, c_3, c_5, c_7, c_8, c_10, c_12, c_14, c_15, c_17, c_19, c_21, c_22, c_24, c_26, c_28, c_29, c_31, c_32_0, rfl⟩)))))))))))))))))))))))))))))))))))))))))))), by rw [ht]; exact hP, va_K.moved hW.alike hK, hD⟩, hS.F ht⟩) hS.2.2 dX4_changed_173
    · exact h9.elim
  by_cases c_33 : v0 = 19
  · refine lv_tableIn (off := 159) (tgt := 160) hx hb dX4_changed_1 (by rw [c_33]; decide) (by rw [c_33]; decide) (by rw [c_33]; decide) (by decide) ?_
    refine lv_iload_n hx hb dX4_changed_160 rfl (lv_at hl 1 rfl) ?_
    refine lv_iload_n hx hb dX4_changed_161 rfl (lv_at hl 2 rfl) ?_
    have hPc := hP.sub (ws' := []) [] rfl
    have hDc := hD.sub (ws' := []) [] (by decide) rfl
    have hKc := hK.sub (tys' := []) [] rfl
    have hFc := va_free (wc := []) hD hS hA [] rfl
    refine va_calli (va_runS (As := [.int v1, .int v2]) (rest := []) ⟨hx, hb, hml, hown, hts⟩ (k_J6_compareUnsigned_7cf53 l hlt dC dI v1 v2  s.heap.size) (va_cwS 2 hts gi_g_X4_changed_0 rfl rfl rfl (by decide +kernel) ⟨Nat.le_of_ble_eq_true rfl, Nat.le_of_ble_eq_true rfl⟩) ⟨fun a U g mk q => by obtain ⟨q0, q1, qP, qK, qD, qN⟩ := q; exact ⟨q0, q1, qP, va_K.moved (u := U) (U := U.calling g mk a) (Vm.Alike.refl U.vm) qK, qD, nv_same rfl rfl qN⟩, fun U hU hW => ⟨rfl, by rw [hU], by rw [hU]; exact hPc, va_K.moved hW.alike hKc, hDc.weaken (fun _ _ _ _ => trivial), nv_call hS hFc hU hW hN⟩⟩ rfl rfl hl.1 rfl (lv_room (Nat.le_of_ble_eq_true rfl)) dX4_changed_162 ⟨by decide +kernel, by decide +kernel⟩) hS (fun q _ h => hFc q h) hFc (fun r14 u t H1 locs ht hvm hw hB hz1 hk1 hS => ?_)
    obtain ⟨hP1, hK1, hD1⟩ := hB
    rw [ht] at hP1
    have hK1 := va_K.moved hvm.symm hK1
    obtain ⟨hP, hD⟩ := va_join (wr := []) (w1 := []) hP hD [] [] rfl rfl (by decide) (by decide) hk1 hFc hP1 hD1
    have hK := (hK.sub (tys' := []) [] rfl).app hK1
    generalize H1 = H at hP hS ⊢
    have hP : va_P (dC, dI) vwCl [] H := hP
    have hD : va_D A [] := hD
    have hK : va_K (dC, dI) vwCl [] s := hK
    refine W.widen (k := 0) (n := 0) (by decide +kernel) (by decide +kernel) ?_
    rcases hw with ⟨c_34_0, c_34_1, h9⟩ | ⟨c_34_0, c_34_1, h9⟩ | ⟨c_34_0, h9⟩ | h9
    · subst h9
      refine lv_if_le (tgt := 172) hx hb dX4_changed_165 (by decide) (fun h9 => absurd h9 (by decide)) (fun _ => ?_)
      refine lv_iload_n hx hb dX4_changed_168 rfl (lv_at hl 1 rfl) ?_
      refine lv_goto (tgt := 173) hx hb dX4_changed_169 (by decide) ?_
      refine W.widen (k := 0) (n := 0) (by decide +kernel) (by decide +kernel) ?_
      exact W.iret (v := v1) hx hb hr (fun t ht hW => ⟨⟨v1, (), rfl, Or.inr (Or.inr (Or.inr (Or.inr (Or.inr (Or.inr (Or.inr (Or.inr (Or.inr (Or.inr (Or.inr (Or.inr (Or.inr (Or.inr (Or.inr (Or.inr (Or.inr (Or.inr (Or.inr (Or.inr (Or.inr (Or.inr (Or.inr (Or.inr (Or.inr (Or.inr (Or.inr (Or.inr (Or.inr (Or.inr (Or.inr (Or.inr (Or.inr (Or.inr (Or.inr (Or.inr (Or.inr (Or.inr (Or.inr (Or.inr (Or.inr (Or.inr (Or.inr (Or.inr (Or.inr (Or.inl ⟨c_1, c_2, c_3, c_5, c_7, c_8, c_10, c_12, c_14, c_15, c_17, c_19, c_21, c_22, c_24, c_26, c_28, c_29, c_31, c_33, c_34_0, c_34_1, rfl⟩))))))))))))))))))))))))))))))))))))))))))))), by rw [ht]; exact hP, va_K.moved hW.alike hK, hD⟩, hS.F ht⟩) hS.2.2 dX4_changed_173
    · subst h9
      refine lv_if_le (tgt := 172) hx hb dX4_changed_165 (by decide) (fun _ => ?_) (fun h9 => absurd (by decide) h9)
      refine lv_iload_n hx hb dX4_changed_172 rfl (lv_at hl 2 rfl) ?_
      refine W.widen (k := 0) (n := 0) (by decide +kernel) (by decide +kernel) ?_
      exact W.iret (v := v2) hx hb hr (fun t ht hW => ⟨⟨v2, (), rfl, Or.inr (Or.inr (Or.inr (Or.inr (Or.inr (Or.inr (Or.inr (Or.inr (Or.inr (Or.inr (Or.inr (Or.inr (Or.inr (Or.inr (Or.inr (Or.inr (Or.inr (Or.inr (Or.inr (Or.inr (Or.inr (Or.inr (Or.inr (Or.inr (Or.inr (Or.inr (Or.inr (Or.inr (Or.inr (Or.inr (Or.inr (Or.inr (Or.inr (Or.inr (Or.inr (Or.inr (Or.inr (Or.inr (Or.inr (Or.inr (Or.inr (Or.inr (Or.inr (Or.inr (Or.inr (Or.inr (Or.inl ⟨c_1, c_2, c_3, c_5, c_7, c_8, c_10, c_12, c_14, c_15, c_17, c_19, c_21, c_22, c_24, c_26, c_28, c_29, c_31, c_33, c_34_0, c_34_1, rfl⟩)))))))))))))))))))))))))))))))))))))))))))))), by rw [ht]; exact hP, va_K.moved hW.alike hK, hD⟩, hS.F ht⟩) hS.2.2 dX4_changed_173
    · subst h9
      refine lv_if_le (tgt := 172) hx hb dX4_changed_165 (by decide) (fun _ => ?_) (fun h9 => absurd (by decide) h9)
      refine lv_iload_n hx hb dX4_changed_172 rfl (lv_at hl 2 rfl) ?_
      refine W.widen (k := 0) (n := 0) (by decide +kernel) (by decide +kernel) ?_
      exact W.iret (v := v2) hx hb hr (fun t ht hW => ⟨⟨v2, (), rfl, Or.inr (Or.inr (Or.inr (Or.inr (Or.inr (Or.inr (Or.inr (Or.inr (Or.inr (Or.inr (Or.inr (Or.inr (Or.inr (Or.inr (Or.inr (Or.inr (Or.inr (Or.inr (Or.inr (Or.inr (Or.inr (Or.inr (Or.inr (Or.inr (Or.inr (Or.inr (Or.inr (Or.inr (Or.inr (Or.inr (Or.inr (Or.inr (Or.inr (Or.inr (Or.inr (Or.inr (Or.inr (Or.inr (Or.inr (Or.inr (Or.inr (Or.inr (Or.inr (Or.inr (Or.inr (Or.inr (Or.inr (Or.inl ⟨c_1, c_2, c_3, c_5, c_7, c_8, c_10, c_12, c_14, c_15, c_17, c_19, c_21, c_22, c_24, c_26, c_28, c_29, c_31, c_33, c_34_0, rfl⟩))))))))))))))))))))))))))))))))))))))))))))))), by rw [ht]; exact hP, va_K.moved hW.alike hK, hD⟩, hS.F ht⟩) hS.2.2 dX4_changed_173
    · exact h9.elim
  by_cases c_35 : v0 = 20
  · refine lv_tableIn (off := 139) (tgt := 140) hx hb dX4_changed_1 (by rw [c_35]; decide) (by rw [c_35]; decide) (by rw [c_35]; decide) (by decide) ?_
    refine lv_iload_n hx hb dX4_changed_140 rfl (lv_at hl 1 rfl) ?_
    refine lv_iload_n hx hb dX4_changed_141 rfl (lv_at hl 2 rfl) ?_
    refine va_mmax hx hb (by rw [hml]; exact hl.1.symm) hown (hts (.methodLink RX4 133 Lib.Math.max.name) (List.mem_of_getElem? (i := 8) rfl)) (hts (.static Lib.Math.max.name) (List.mem_of_getElem? (i := 9) rfl)) (hts (.initialized "java/lang/Math") (List.mem_of_getElem? (i := 6) rfl)) (hts (.code Lib.Math.max.name Lib.Math.max.code 2 (some .int)) (List.mem_of_getElem? (i := 10) rfl)) (Nat.le_of_ble_eq_true rfl) (Nat.le_of_ble_eq_true rfl) (by decide +kernel) (by decide +kernel) dX4_changed_142 ?_
    refine W.widen (k := 0) (n := 0) (by decide +kernel) (by decide +kernel) ?_
    exact W.iret (v := (if (v1 : Int32) < v2 then v2 else v1)) hx hb hr (fun t ht hW => ⟨⟨(if (v1 : Int32) < v2 then v2 else v1), (), rfl, Or.inr (Or.inr (Or.inr (Or.inr (Or.inr (Or.inr (Or.inr (Or.inr (Or.inr (Or.inr (Or.inr (Or.inr (Or.inr (Or.inr (Or.inr (Or.inr (Or.inr (Or.inr (Or.inr (Or.inr (Or.inr (Or.inr (Or.inr (Or.inr (Or.inr (Or.inr (Or.inr (Or.inr (Or.inr (Or.inr (Or.inr (Or.inr (Or.inr (Or.inr (Or.inr (Or.inr (Or.inr (Or.inr (Or.inr (Or.inr (Or.inr (Or.inr (Or.inr (Or.inr (Or.inr (Or.inr (Or.inr (Or.inr (Or.inl ⟨c_1, c_2, c_3, c_5, c_7, c_8, c_10, c_12, c_14, c_15, c_17, c_19, c_21, c_22, c_24, c_26, c_28, c_29, c_31, c_33, c_35, rfl⟩)))))))))))))))))))))))))))))))))))))))))))))))), by rw [ht]; exact hP, va_K.moved hW.alike hK, hD⟩, hS.F ht⟩) hS.2.2 dX4_changed_145
  by_cases c_36 : v0 = 21
  · refine lv_tableIn (off := 159) (tgt := 160) hx hb dX4_changed_1 (by rw [c_36]; decide) (by rw [c_36]; decide) (by rw [c_36]; decide) (by decide) ?_
    refine lv_iload_n hx hb dX4_changed_160 rfl (lv_at hl 1 rfl) ?_
    refine lv_iload_n hx hb dX4_changed_161 rfl (lv_at hl 2 rfl) ?_
    have hPc := hP.sub (ws' := []) [] rfl
    have hDc := hD.sub (ws' := []) [] (by decide) rfl
    have hKc := hK.sub (tys' := []) [] rfl
    have hFc := va_free (wc := []) hD hS hA [] rfl
    refine va_calli (va_runS (As := [.int v1, .int v2]) (rest := []) ⟨hx, hb, hml, hown, hts⟩ (k_J6_compareUnsigned_7cf53 l hlt dC dI v1 v2  s.heap.size) (va_cwS 2 hts gi_g_X4_changed_0 rfl rfl rfl (by decide +kernel) ⟨Nat.le_of_ble_eq_true rfl, Nat.le_of_ble_eq_true rfl⟩) ⟨fun a U g mk q => by obtain ⟨q0, q1, qP, qK, qD, qN⟩ := q; exact ⟨q0, q1, qP, va_K.moved (u := U) (U := U.calling g mk a) (Vm.Alike.refl U.vm) qK, qD, nv_same rfl rfl qN⟩, fun U hU hW => ⟨rfl, by rw [hU], by rw [hU]; exact hPc, va_K.moved hW.alike hKc, hDc.weaken (fun _ _ _ _ => trivial), nv_call hS hFc hU hW hN⟩⟩ rfl rfl hl.1 rfl (lv_room (Nat.le_of_ble_eq_true rfl)) dX4_changed_162 ⟨by decide +kernel, by decide +kernel⟩) hS (fun q _ h => hFc q h) hFc (fun r15 u t H1 locs ht hvm hw hB hz1 hk1 hS => ?_)
    obtain ⟨hP1, hK1, hD1⟩ := hB
    rw [ht] at hP1
    have hK1 := va_K.moved hvm.symm hK1
    obtain ⟨hP, hD⟩ := va_join (wr := []) (w1 := []) hP hD [] [] rfl rfl (by decide) (by decide) hk1 hFc hP1 hD1
    have hK := (hK.sub (tys' := []) [] rfl).app hK1
    generalize H1 = H at hP hS ⊢
    have hP : va_P (dC, dI) vwCl [] H := hP
    have hD : va_D A [] := hD
    have hK : va_K (dC, dI) vwCl [] s := hK
    refine W.widen (k := 0) (n := 0) (by decide +kernel) (by decide +kernel) ?_
    rcases hw with ⟨c_37_0, c_37_1, h9⟩ | ⟨c_37_0, c_37_1, h9⟩ | ⟨c_37_0, h9⟩ | h9
    · subst h9
      refine lv_if_le (tgt := 172) hx hb dX4_changed_165 (by decide) (fun h9 => absurd h9 (by decide)) (fun _ => ?_)
      refine lv_iload_n hx hb dX4_changed_168 rfl (lv_at hl 1 rfl) ?_
      refine lv_goto (tgt := 173) hx hb dX4_changed_169 (by decide) ?_
      refine W.widen (k := 0) (n := 0) (by decide +kernel) (by decide +kernel) ?_
      exact W.iret (v := v1) hx hb hr (fun t ht hW => ⟨⟨v1, (), rfl, Or.inr (Or.inr (Or.inr (Or.inr (Or.inr (Or.inr (Or.inr (Or.inr (Or.inr (Or.inr (Or.inr (Or.inr (Or.inr (Or.inr (Or.inr (Or.inr (Or.inr (Or.inr (Or.inr (Or.inr (Or.inr (Or.inr (Or.inr (Or.inr (Or.inr (Or.inr (Or.inr (Or.inr (Or.inr (Or.inr (Or.inr (Or.inr (Or.inr (Or.inr (Or.inr (Or.inr (Or.inr (Or.inr (Or.inr (Or.inr (Or.inr (Or.inr (Or.inr (Or.inr (Or.inr (Or.inr (Or.inr (Or.inr (Or.inr (Or.inl ⟨c_1, c_2, c_3, c_5, c_7, c_8, c_10, c_12, c_14, c_15, c_17, c_19, c_21, c_22, c_24, c_26, c_28, c_29, c_31, c_33, c_35, c_36, c_37_0, c_37_1, rfl⟩))))))))))))))))))))))))))))))))))))))))))))))))), by rw [ht]; exact hP, va_K.moved hW.alike hK, hD⟩, hS.F ht⟩) hS.2.2 dX4_changed_173
    · subst h9
      refine lv_if_le (tgt := 172) hx hb dX4_changed_165 (by decide) (fun _ => ?_) (fun h9 => absurd (by decide) h9)
      refine lv_iload_n hx hb dX4_changed_172 rfl (lv_at hl 2 rfl) ?_
      refine W.widen (k := 0) (n := 0) (by decide +kernel) (by decide +kernel) ?_
      exact W.iret (v := v2) hx hb hr (fun t ht hW => ⟨⟨v2, (), rfl, Or.inr (Or.inr (Or.inr (Or.inr (Or.inr (Or.inr (Or.inr (Or.inr (Or.inr (Or.inr (Or.inr (Or.inr (Or.inr (Or.inr (Or.inr (Or.inr (Or.inr (Or.inr (Or.inr (Or.inr (Or.inr (Or.inr (Or.inr (Or.inr (Or.inr (Or.inr (Or.inr (Or.inr (Or.inr (Or.inr (Or.inr (Or.inr (Or.inr (Or.inr (Or.inr (Or.inr (Or.inr (Or.inr (Or.inr (Or.inr (Or.inr (Or.inr (Or.inr (Or.inr (Or.inr (Or.inr (Or.inr (Or.inr (Or.inr (Or.inr (Or.inl ⟨c_1, c_2, c_3, c_5, c_7, c_8, c_10, c_12, c_14, c_15, c_17, c_19, c_21, c_22, c_24, c_26, c_28, c_29, c_31, c_33, c_35, c_36, c_37_0, c_37_1, rfl⟩)))))))))))))))))))))))))))))))))))))))))))))))))), by rw [ht]; exact hP, va_K.moved hW.alike hK, hD⟩, hS.F ht⟩) hS.2.2 dX4_changed_173
    · subst h9
      refine lv_if_le (tgt := 172) hx hb dX4_changed_165 (by decide) (fun _ => ?_) (fun h9 => absurd (by decide) h9)
      refine lv_iload_n hx hb dX4_changed_172 rfl (lv_at hl 2 rfl) ?_
      refine W.widen (k := 0) (n := 0) (by decide +kernel) (by decide +kernel) ?_
      exact W.iret (v := v2) hx hb hr (fun t ht hW => ⟨⟨v2, (), rfl, Or.inr (Or.inr (Or.inr (Or.inr (Or.inr (Or.inr (Or.inr (Or.inr (Or.inr (Or.inr (Or.inr (Or.inr (Or.inr (Or.inr (Or.inr (Or.inr (Or.inr (Or.inr (Or.inr (Or.inr (Or.inr (Or.inr (Or.inr (Or.inr (Or.inr (Or.inr (Or.inr (Or.inr (Or.inr (Or.inr (Or.inr (Or.inr (Or.inr (Or.inr (Or.inr (Or.inr (Or.inr (Or.inr (Or.inr (Or.inr (Or.inr (Or.inr (Or.inr (Or.inr (Or.inr (Or.inr (Or.inr (Or.inr (Or.inr (Or.inr (Or.inr (Or.inl ⟨c_1, c_2, c_3, c_5, c_7, c_8, c_10, c_12, c_14, c_15, c_17, c_19, c_21, c_22, c_24, c_26, c_28, c_29, c_31, c_33, c_35, c_36, c_37_0, rfl⟩))))))))))))))))))))))))))))))))))))))))))))))))))), by rw [ht]; exact hP, va_K.moved hW.alike hK, hD⟩, hS.F ht⟩) hS.2.2 dX4_changed_173
    · exact h9.elim
  by_cases c_38 : v0 = 22
  · refine lv_tableIn (off := 159) (tgt := 160) hx hb dX4_changed_1 (by rw [c_38]; decide) (by rw [c_38]; decide) (by rw [c_38]; decide) (by decide) ?_
    refine lv_iload_n hx hb dX4_changed_160 rfl (lv_at hl 1 rfl) ?_
    refine lv_iload_n hx hb dX4_changed_161 rfl (lv_at hl 2 rfl) ?_
    have hPc := hP.sub (ws' := []) [] rfl
    have hDc := hD.sub (ws' := []) [] (by decide) rfl
    have hKc := hK.sub (tys' := []) [] rfl
    have hFc := va_free (wc := []) hD hS hA [] rfl
    refine va_calli (va_runS (As := [.int v1, .int v2]) (rest := []) ⟨hx, hb, hml, hown, hts⟩ (k_J6_compareUnsigned_7cf53 l hlt dC dI v1 v2  s.heap.size) (va_cwS 2 hts gi_g_X4_changed_0 rfl rfl rfl (by decide +kernel) ⟨Nat.le_of_ble_eq_true rfl, Nat.le_of_ble_eq_true rfl⟩) ⟨fun a U g mk q => by obtain ⟨q0, q1, qP, qK, qD, qN⟩ := q; exact ⟨q0, q1, qP, va_K.moved (u := U) (U := U.calling g mk a) (Vm.Alike.refl U.vm) qK, qD, nv_same rfl rfl qN⟩, fun U hU hW => ⟨rfl, by rw [hU], by rw [hU]; exact hPc, va_K.moved hW.alike hKc, hDc.weaken (fun _ _ _ _ => trivial), nv_call hS hFc hU hW hN⟩⟩ rfl rfl hl.1 rfl (lv_room (Nat.le_of_ble_eq_true rfl)) dX4_changed_162 ⟨by decide +kernel, by decide +kernel⟩) hS (fun q _ h => hFc q h) hFc (fun r16 u t H1 locs ht hvm hw hB hz1 hk1 hS => ?_)
    obtain ⟨hP1, hK1, hD1⟩ := hB
    rw [ht] at hP1
    have hK1 := va_K.moved hvm.symm hK1
    obtain ⟨hP, hD⟩ := va_join (wr := []) (w1 := []) hP hD [] [] rfl rfl (by decide) (by decide) hk1 hFc hP1 hD1
    have hK := (hK.sub (tys' := []) [] rfl).app hK1
    generalize H1 = H at hP hS ⊢
    have hP : va_P (dC, dI) vwCl [] H := hP
    have hD : va_D A [] := hD
    have hK : va_K (dC, dI) vwCl [] s := hK
    refine W.widen (k := 0) (n := 0) (by decide +kernel) (by decide +kernel) ?_
    rcases hw with ⟨c_39_0, c_39_1, h9⟩ | ⟨c_39_0, c_39_1, h9⟩ | ⟨c_39_0, h9⟩ | h9
    · subst h9
      refine lv_if_le (tgt := 172) hx hb dX4_changed_165 (by decide) (fun h9 => absurd h9 (by decide)) (fun _ => ?_)
      refine lv_iload_n hx hb dX4_changed_168 rfl (lv_at hl 1 rfl) ?_
      refine lv_goto (tgt := 173) hx hb dX4_changed_169 (by decide) ?_
      refine W.widen (k := 0) (n := 0) (by decide +kernel) (by decide +kernel) ?_
      exact W.iret (v := v1) hx hb hr (fun t ht hW => ⟨⟨v1, (), rfl, Or.inr (Or.inr (Or.inr (Or.inr (Or.inr (Or.inr (Or.inr (Or.inr (Or.inr (Or.inr (Or.inr (Or.inr (Or.inr (Or.inr (Or.inr (Or.inr (Or.inr (Or.inr (Or.inr (Or.inr (Or.inr (Or.inr (Or.inr (Or.inr (Or.inr (Or.inr (Or.inr (Or.inr (Or.inr (Or.inr (Or.inr (Or.inr (Or.inr (Or.inr (Or.inr (Or.inr (Or.inr (Or.inr (Or.inr (Or.inr (Or.inr (Or.inr (Or.inr (Or.inr (Or.inr (Or.inr (Or.inr (Or.inr (Or.inr (Or.inr (Or.inr (Or.inr (Or.inl ⟨c_1, c_2, c_3, c_5, c_7, c_8, c_10, c_12, c_14, c_15, c_17, c_19, c_21, c_22, c_24, c_26, c_28, c_29, c_31, c_33, c_35, c_36, c_38, c_39_0, c_39_1, rfl⟩)))))))))))))))))))))))))))))))))))))))))))))))))))), by rw [ht]; exact hP, va_K.moved hW.alike hK, hD⟩, hS.F ht⟩) hS.2.2 dX4_changed_173
    · subst h9
      refine lv_if_le (tgt := 172) hx hb dX4_changed_165 (by decide) (fun _ => ?_) (fun h9 => absurd (by decide) h9)
      refine lv_iload_n hx hb dX4_changed_172 rfl (lv_at hl 2 rfl) ?_
      refine W.widen (k := 0) (n := 0) (by decide +kernel) (by decide +kernel) ?_
      exact W.iret (v := v2) hx hb hr (fun t ht hW => ⟨⟨v2, (), rfl, Or.inr (Or.inr (Or.inr (Or.inr (Or.inr (Or.inr (Or.inr (Or.inr (Or.inr (Or.inr (Or.inr (Or.inr (Or.inr (Or.inr (Or.inr (Or.inr (Or.inr (Or.inr (Or.inr (Or.inr (Or.inr (Or.inr (Or.inr (Or.inr (Or.inr (Or.inr (Or.inr (Or.inr (Or.inr (Or.inr (Or.inr (Or.inr (Or.inr (Or.inr (Or.inr (Or.inr (Or.inr (Or.inr (Or.inr (Or.inr (Or.inr (Or.inr (Or.inr (Or.inr (Or.inr (Or.inr (Or.inr (Or.inr (Or.inr (Or.inr (Or.inr (Or.inr (Or.inr (Or.inl ⟨c_1, c_2, c_3, c_5, c_7, c_8, c_10, c_12, c_14, c_15, c_17, c_19, c_21, c_22, c_24, c_26, c_28, c_29, c_31, c_33, c_35, c_36, c_38, c_39_0, c_39_1, rfl⟩))))))))))))))))))))))))))))))))))))))))))))))))))))), by rw [ht]; exact hP, va_K.moved hW.alike hK, hD⟩, hS.F ht⟩) hS.2.2 dX4_changed_173
    · subst h9
      refine lv_if_le (tgt := 172) hx hb dX4_changed_165 (by decide) (fun _ => ?_) (fun h9 => absurd (by decide) h9)
      refine lv_iload_n hx hb dX4_changed_172 rfl (lv_at hl 2 rfl) ?_
      refine W.widen (k := 0) (n := 0) (by decide +kernel) (by decide +kernel) ?_
      exact W.iret (v := v2) hx hb hr (fun t ht hW => ⟨⟨v2, (), rfl, Or.inr (Or.inr (Or.inr (Or.inr (Or.inr (Or.inr (Or.inr (Or.inr (Or.inr (Or.inr (Or.inr (Or.inr (Or.inr (Or.inr (Or.inr (Or.inr (Or.inr (Or.inr (Or.inr (Or.inr (Or.inr (Or.inr (Or.inr (Or.inr (Or.inr (Or.inr (Or.inr (Or.inr (Or.inr (Or.inr (Or.inr (Or.inr (Or.inr (Or.inr (Or.inr (Or.inr (Or.inr (Or.inr (Or.inr (Or.inr (Or.inr (Or.inr (Or.inr (Or.inr (Or.inr (Or.inr (Or.inr (Or.inr (Or.inr (Or.inr (Or.inr (Or.inr (Or.inr (Or.inr (Or.inl ⟨c_1, c_2, c_3, c_5, c_7, c_8, c_10, c_12, c_14, c_15, c_17, c_19, c_21, c_22, c_24, c_26, c_28, c_29, c_31, c_33, c_35, c_36, c_38, c_39_0, rfl⟩)))))))))))))))))))))))))))))))))))))))))))))))))))))), by rw [ht]; exact hP, va_K.moved hW.alike hK, hD⟩, hS.F ht⟩) hS.2.2 dX4_changed_173
    · exact h9.elim
  by_cases c_40 : v0 = 23
  · refine lv_tableIn (off := 159) (tgt := 160) hx hb dX4_changed_1 (by rw [c_40]; decide) (by rw [c_40]; decide) (by rw [c_40]; decide) (by decide) ?_
    refine lv_iload_n hx hb dX4_changed_160 rfl (lv_at hl 1 rfl) ?_
    refine lv_iload_n hx hb dX4_changed_161 rfl (lv_at hl 2 rfl) ?_
    have hPc := hP.sub (ws' := []) [] rfl
    have hDc := hD.sub (ws' := []) [] (by decide) rfl
    have hKc := hK.sub (tys' := []) [] rfl
    have hFc := va_free (wc := []) hD hS hA [] rfl
    refine va_calli (va_runS (As := [.int v1, .int v2]) (rest := []) ⟨hx, hb, hml, hown, hts⟩ (k_J6_compareUnsigned_7cf53 l hlt dC dI v1 v2  s.heap.size) (va_cwS 2 hts gi_g_X4_changed_0 rfl rfl rfl (by decide +kernel) ⟨Nat.le_of_ble_eq_true rfl, Nat.le_of_ble_eq_true rfl⟩) ⟨fun a U g mk q => by obtain ⟨q0, q1, qP, qK, qD, qN⟩ := q; exact ⟨q0, q1, qP, va_K.moved (u := U) (U := U.calling g mk a) (Vm.Alike.refl U.vm) qK, qD, nv_same rfl rfl qN⟩, fun U hU hW => ⟨rfl, by rw [hU], by rw [hU]; exact hPc, va_K.moved hW.alike hKc, hDc.weaken (fun _ _ _ _ => trivial), nv_call hS hFc hU hW hN⟩⟩ rfl rfl hl.1 rfl (lv_room (Nat.le_of_ble_eq_true rfl)) dX4_changed_162 ⟨by decide +kernel, by decide +kernel⟩) hS (fun q _ h => hFc q h) hFc (fun r17 u t H1 locs ht hvm hw hB hz1 hk1 hS => ?_)
    obtain ⟨hP1, hK1, hD1⟩ := hB
    rw [ht] at hP1
    have hK1 := va_K.moved hvm.symm hK1
    obtain ⟨hP, hD⟩ := va_join (wr := []) (w1 := []) hP hD [] [] rfl rfl (by decide) (by decide) hk1 hFc hP1 hD1
    have hK := (hK.sub (tys' := []) [] rfl).app hK1
    generalize H1 = H at hP hS ⊢
    have hP : va_P (dC, dI) vwCl [] H := hP
    have hD : va_D A [] := hD
    have hK : va_K (dC, dI) vwCl [] s := hK
    refine W.widen (k := 0) (n := 0) (by decide +kernel) (by decide +kernel) ?_
    rcases hw with ⟨c_41_0, c_41_1, h9⟩ | ⟨c_41_0, c_41_1, h9⟩ | ⟨c_41_0, h9⟩ | h9
    · subst h9
      refine lv_if_le (tgt := 172) hx hb dX4_changed_165 (by decide) (fun h9 => absurd h9 (by decide)) (fun _ => ?_)
      refine lv_iload_n hx hb dX4_changed_168 rfl (lv_at hl 1 rfl) ?_
      refine lv_goto (tgt := 173) hx hb dX4_changed_169 (by decide) ?_
      refine W.widen (k := 0) (n := 0) (by decide +kernel) (by decide +kernel) ?_
      exact W.iret (v := v1) hx hb hr (fun t ht hW => ⟨⟨v1, (), rfl, Or.inr (Or.inr (Or.inr (Or.inr (Or.inr (Or.inr (Or.inr (Or.inr (Or.inr (Or.inr (Or.inr (Or.inr (Or.inr (Or.inr (Or.inr (Or.inr (Or.inr (Or.inr (Or.inr (Or.inr (Or.inr (Or.inr (Or.inr (Or.inr (Or.inr (Or.inr (Or.inr (Or.inr (Or.inr (Or.inr (Or.inr (Or.inr (Or.inr (Or.inr (Or.inr (Or.inr (Or.inr (Or.inr (Or.inr (Or.inr (Or.inr (Or.inr (Or.inr (Or.inr (Or.inr (Or.inr (Or.inr (Or.inr (Or.inr (Or.inr (Or.inr (Or.inr (Or.inr (Or.inr (Or.inr (Or.inl ⟨c_1, c_2, c_3, c_5, c_7, c_8, c_10, c_12, c_14, c_15, c_17, c_19, c_21, c_22, c_24, c_26, c_28, c_29, c_31, c_33, c_35, c_36, c_38, c_40, c_41_0, c_41_1, rfl⟩))))))))))))))))))))))))))))))))))))))))))))))))))))))), by rw [ht]; exact hP, va_K.moved hW.alike hK, hD⟩, hS.F ht⟩) hS.2.2 dX4_changed_173
    · subst h9
      refine lv_if_le (tgt := 172) hx hb dX4_changed_165 (by decide) (fun _ => ?_) (fun h9 => absurd (by decide) h9)
      refine lv_iload_n hx hb dX4_changed_172 rfl (lv_at hl 2 rfl) ?_
      refine W.widen (k := 0) (n := 0) (by decide +kernel) (by decide +kernel) ?_
      exact W.iret (v := v2) hx hb hr (fun t ht hW => ⟨⟨v2, (), rfl, Or.inr (Or.inr (Or.inr (Or.inr (Or.inr (Or.inr (Or.inr (Or.inr (Or.inr (Or.inr (Or.inr (Or.inr (Or.inr (Or.inr (Or.inr (Or.inr (Or.inr (Or.inr (Or.inr (Or.inr (Or.inr (Or.inr (Or.inr (Or.inr (Or.inr (Or.inr (Or.inr (Or.inr (Or.inr (Or.inr (Or.inr (Or.inr (Or.inr (Or.inr (Or.inr (Or.inr (Or.inr (Or.inr (Or.inr (Or.inr (Or.inr (Or.inr (Or.inr (Or.inr (Or.inr (Or.inr (Or.inr (Or.inr (Or.inr (Or.inr (Or.inr (Or.inr (Or.inr (Or.inr (Or.inr (Or.inr (Or.inl ⟨c_1, c_2, c_3, c_5, c_7, c_8, c_10, c_12, c_14, c_15, c_17, c_19, c_21, c_22, c_24, c_26, c_28, c_29, c_31, c_33, c_35, c_36, c_38, c_40, c_41_0, c_41_1, rfl⟩)))))))))))))))))))))))))))))))))))))))))))))))))))))))), by rw [ht]; exact hP, va_K.moved hW.alike hK, hD⟩, hS.F ht⟩) hS.2.2 dX4_changed_173
    · subst h9
      refine lv_if_le (tgt := 172) hx hb dX4_changed_165 (by decide) (fun _ => ?_) (fun h9 => absurd (by decide) h9)
      refine lv_iload_n hx hb dX4_changed_172 rfl (lv_at hl 2 rfl) ?_
      refine W.widen (k := 0) (n := 0) (by decide +kernel) (by decide +kernel) ?_
      exact W.iret (v := v2) hx hb hr (fun t ht hW => ⟨⟨v2, (), rfl, Or.inr (Or.inr (Or.inr (Or.inr (Or.inr (Or.inr (Or.inr (Or.inr (Or.inr (Or.inr (Or.inr (Or.inr (Or.inr (Or.inr (Or.inr (Or.inr (Or.inr (Or.inr (Or.inr (Or.inr (Or.inr (Or.inr (Or.inr (Or.inr (Or.inr (Or.inr (Or.inr (Or.inr (Or.inr (Or.inr (Or.inr (Or.inr (Or.inr (Or.inr (Or.inr (Or.inr (Or.inr (Or.inr (Or.inr (Or.inr (Or.inr (Or.inr (Or.inr (Or.inr (Or.inr (Or.inr (Or.inr (Or.inr (Or.inr (Or.inr (Or.inr (Or.inr (Or.inr (Or.inr (Or.inr (Or.inr (Or.inr (Or.inl ⟨c_1, c_2, c_3, c_5, c_7, c_8, c_10, c_12, c_14, c_15, c_17, c_19, c_21, c_22, c_24, c_26, c_28, c_29, c_31, c_33, c_35, c_36, c_38, c_40, c_41_0, rfl⟩))))))))))))))))))))))))))))))))))))))))))))))))))))))))), by rw [ht]; exact hP, va_K.moved hW.alike hK, hD⟩, hS.F ht⟩) hS.2.2 dX4_changed_173
    · exact h9.elim
  by_cases c_42 : v0 = 24
  · refine lv_tableIn (off := 145) (tgt := 146) hx hb dX4_changed_1 (by rw [c_42]; decide) (by rw [c_42]; decide) (by rw [c_42]; decide) (by decide) ?_
    refine lv_iload_n hx hb dX4_changed_146 rfl (lv_at hl 1 rfl) ?_
    refine lv_iload_n hx hb dX4_changed_147 rfl (lv_at hl 2 rfl) ?_
    have hPc := hP.sub (ws' := []) [] rfl
    have hDc := hD.sub (ws' := []) [] (by decide) rfl
    have hKc := hK.sub (tys' := []) [] rfl
    have hFc := va_free (wc := []) hD hS hA [] rfl
    refine va_calli (va_runS (As := [.int v1, .int v2]) (rest := []) ⟨hx, hb, hml, hown, hts⟩ (k_J6_compareUnsigned_7cf53 l hlt dC dI v1 v2  s.heap.size) (va_cwS 2 hts gi_g_X4_changed_0 rfl rfl rfl (by decide +kernel) ⟨Nat.le_of_ble_eq_true rfl, Nat.le_of_ble_eq_true rfl⟩) ⟨fun a U g mk q => by obtain ⟨q0, q1, qP, qK, qD, qN⟩ := q; exact ⟨q0, q1, qP, va_K.moved (u := U) (U := U.calling g mk a) (Vm.Alike.refl U.vm) qK, qD, nv_same rfl rfl qN⟩, fun U hU hW => ⟨rfl, by rw [hU], by rw [hU]; exact hPc, va_K.moved hW.alike hKc, hDc.weaken (fun _ _ _ _ => trivial), nv_call hS hFc hU hW hN⟩⟩ rfl rfl hl.1 rfl (lv_room (Nat.le_of_ble_eq_true rfl)) dX4_changed_148 ⟨by decide +kernel, by decide +kernel⟩) hS (fun q _ h => hFc q h) hFc (fun r18 u t H1 locs ht hvm hw hB hz1 hk1 hS => ?_)
    obtain ⟨hP1, hK1, hD1⟩ := hB
    rw [ht] at hP1
    have hK1 := va_K.moved hvm.symm hK1
    obtain ⟨hP, hD⟩ := va_join (wr := []) (w1 := []) hP hD [] [] rfl rfl (by decide) (by decide) hk1 hFc hP1 hD1
    have hK := (hK.sub (tys' := []) [] rfl).app hK1
    generalize H1 = H at hP hS ⊢
    have hP : va_P (dC, dI) vwCl [] H := hP
    have hD : va_D A [] := hD
    have hK : va_K (dC, dI) vwCl [] s := hK
    refine W.widen (k := 0) (n := 0) (by decide +kernel) (by decide +kernel) ?_
    rcases hw with ⟨c_43_0, c_43_1, h9⟩ | ⟨c_43_0, c_43_1, h9⟩ | ⟨c_43_0, h9⟩ | h9
    · subst h9
      refine lv_if_ge (tgt := 158) hx hb dX4_changed_151 (by decide) (fun _ => ?_) (fun h9 => absurd (by decide) h9)
      refine lv_iload_n hx hb dX4_changed_158 rfl (lv_at hl 2 rfl) ?_
      refine W.widen (k := 0) (n := 0) (by decide +kernel) (by decide +kernel) ?_
      exact W.iret (v := v2) hx hb hr (fun t ht hW => ⟨⟨v2, (), rfl, Or.inr (Or.inr (Or.inr (Or.inr (Or.inr (Or.inr (Or.inr (Or.inr (Or.inr (Or.inr (Or.inr (Or.inr (Or.inr (Or.inr (Or.inr (Or.inr (Or.inr (Or.inr (Or.inr (Or.inr (Or.inr (Or.inr (Or.inr (Or.inr (Or.inr (Or.inr (Or.inr (Or.inr (Or.inr (Or.inr (Or.inr (Or.inr (Or.inr (Or.inr (Or.inr (Or.inr (Or.inr (Or.inr (Or.inr (Or.inr (Or.inr (Or.inr (Or.inr (Or.inr (Or.inr (Or.inr (Or.inr (Or.inr (Or.inr (Or.inr (Or.inr (Or.inr (Or.inr (Or.inr (Or.inr (Or.inr (Or.inr (Or.inr (Or.inl ⟨c_1, c_2, c_3, c_5, c_7, c_8, c_10, c_12, c_14, c_15, c_17, c_19, c_21, c_22, c_24, c_26, c_28, c_29, c_31, c_33, c_35, c_36, c_38, c_40, c_42, c_43_0, c_43_1, rfl⟩)))))))))))))))))))))))))))))))))))))))))))))))))))))))))), by rw [ht]; exact hP, va_K.moved hW.alike hK, hD⟩, hS.F ht⟩) hS.2.2 dX4_changed_159
    · subst h9
      refine lv_if_ge (tgt := 158) hx hb dX4_changed_151 (by decide) (fun _ => ?_) (fun h9 => absurd (by decide) h9)
      refine lv_iload_n hx hb dX4_changed_158 rfl (lv_at hl 2 rfl) ?_
      refine W.widen (k := 0) (n := 0) (by decide +kernel) (by decide +kernel) ?_
      exact W.iret (v := v2) hx hb hr (fun t ht hW => ⟨⟨v2, (), rfl, Or.inr (Or.inr (Or.inr (Or.inr (Or.inr (Or.inr (Or.inr (Or.inr (Or.inr (Or.inr (Or.inr (Or.inr (Or.inr (Or.inr (Or.inr (Or.inr (Or.inr (Or.inr (Or.inr (Or.inr (Or.inr (Or.inr (Or.inr (Or.inr (Or.inr (Or.inr (Or.inr (Or.inr (Or.inr (Or.inr (Or.inr (Or.inr (Or.inr (Or.inr (Or.inr (Or.inr (Or.inr (Or.inr (Or.inr (Or.inr (Or.inr (Or.inr (Or.inr (Or.inr (Or.inr (Or.inr (Or.inr (Or.inr (Or.inr (Or.inr (Or.inr (Or.inr (Or.inr (Or.inr (Or.inr (Or.inr (Or.inr (Or.inr (Or.inr (Or.inl ⟨c_1, c_2, c_3, c_5, c_7, c_8, c_10, c_12, c_14, c_15, c_17, c_19, c_21, c_22, c_24, c_26, c_28, c_29, c_31, c_33, c_35, c_36, c_38, c_40, c_42, c_43_0, c_43_1, rfl⟩))))))))))))))))))))))))))))))))))))))))))))))))))))))))))), by rw [ht]; exact hP, va_K.moved hW.alike hK, hD⟩, hS.F ht⟩) hS.2.2 dX4_changed_159
    · subst h9
      refine lv_if_ge (tgt := 158) hx hb dX4_changed_151 (by decide) (fun h9 => absurd h9 (by decide)) (fun _ => ?_)
      refine lv_iload_n hx hb dX4_changed_154 rfl (lv_at hl 1 rfl) ?_
      refine lv_goto (tgt := 159) hx hb dX4_changed_155 (by decide) ?_
      refine W.widen (k := 0) (n := 0) (by decide +kernel) (by decide +kernel) ?_
      exact W.iret (v := v1) hx hb hr (fun t ht hW => ⟨⟨v1, (), rfl, Or.inr (Or.inr (Or.inr (Or.inr (Or.inr (Or.inr (Or.inr (Or.inr (Or.inr (Or.inr (Or.inr (Or.inr (Or.inr (Or.inr (Or.inr (Or.inr (Or.inr (Or.inr (Or.inr (Or.inr (Or.inr (Or.inr (Or.inr (Or.inr (Or.inr (Or.inr (Or.inr (Or.inr (Or.inr (Or.inr (Or.inr (Or.inr (Or.inr (Or.inr (Or.inr (Or.inr (Or.inr (Or.inr (Or.inr (Or.inr (Or.inr (Or.inr (Or.inr (Or.inr (Or.inr (Or.inr (Or.inr (Or.inr (Or.inr (Or.inr (Or.inr (Or.inr (Or.inr (Or.inr (Or.inr (Or.inr (Or.inr (Or.inr (Or.inr (Or.inr (Or.inl ⟨c_1, c_2, c_3, c_5, c_7, c_8, c_10, c_12, c_14, c_15, c_17, c_19, c_21, c_22, c_24, c_26, c_28, c_29, c_31, c_33, c_35, c_36, c_38, c_40, c_42, c_43_0, rfl⟩)))))))))))))))))))))))))))))))))))))))))))))))))))))))))))), by rw [ht]; exact hP, va_K.moved hW.alike hK, hD⟩, hS.F ht⟩) hS.2.2 dX4_changed_159
    · exact h9.elim
  refine lv_tableOut (tgt := 160) hx hb dX4_changed_1 (by have g0 := nv_nei c_1 (k := 0) (by decide); have g1 := nv_nei c_2 (k := 1) (by decide); have g2 := nv_nei c_3 (k := 2) (by decide); have g3 := nv_nei c_5 (k := 3) (by decide); have g4 := nv_nei c_7 (k := 4) (by decide); have g5 := nv_nei c_8 (k := 5) (by decide); have g6 := nv_nei c_10 (k := 6) (by decide); have g7 := nv_nei c_12 (k := 7) (by decide); have g8 := nv_nei c_14 (k := 8) (by decide); have g9 := nv_nei c_15 (k := 9) (by decide); have g10 := nv_nei c_17 (k := 10) (by decide); have g11 := nv_nei c_19 (k := 11) (by decide); have g12 := nv_nei c_21 (k := 12) (by decide); have g13 := nv_nei c_22 (k := 13) (by decide); have g14 := nv_nei c_24 (k := 14) (by decide); have g15 := nv_nei c_26 (k := 15) (by decide); have g16 := nv_nei c_28 (k := 16) (by decide); have g17 := nv_nei c_29 (k := 17) (by decide); have g18 := nv_nei c_31 (k := 18) (by decide); have g19 := nv_nei c_33 (k := 19) (by decide); have g20 := nv_nei c_35 (k := 20) (by decide); have g21 := nv_nei c_36 (k := 21) (by decide); have g22 := nv_nei c_38 (k := 22) (by decide); have g23 := nv_nei c_40 (k := 23) (by decide); have g24 := nv_nei c_42 (k := 24) (by decide); omega) (by decide) ?_
  refine lv_iload_n hx hb dX4_changed_160 rfl (lv_at hl 1 rfl) ?_
  refine lv_iload_n hx hb dX4_changed_161 rfl (lv_at hl 2 rfl) ?_
  have hPc := hP.sub (ws' := []) [] rfl
  have hDc := hD.sub (ws' := []) [] (by decide) rfl
  have hKc := hK.sub (tys' := []) [] rfl
  have hFc := va_free (wc := []) hD hS hA [] rfl
  refine va_calli (va_runS (As := [.int v1, .int v2]) (rest := []) ⟨hx, hb, hml, hown, hts⟩ (k_J6_compareUnsigned_7cf53 l hlt dC dI v1 v2  s.heap.size) (va_cwS 2 hts gi_g_X4_changed_0 rfl rfl rfl (by decide +kernel) ⟨Nat.le_of_ble_eq_true rfl, Nat.le_of_ble_eq_true rfl⟩) ⟨fun a U g mk q => by obtain ⟨q0, q1, qP, qK, qD, qN⟩ := q; exact ⟨q0, q1, qP, va_K.moved (u := U) (U := U.calling g mk a) (Vm.Alike.refl U.vm) qK, qD, nv_same rfl rfl qN⟩, fun U hU hW => ⟨rfl, by rw [hU], by rw [hU]; exact hPc, va_K.moved hW.alike hKc, hDc.weaken (fun _ _ _ _ => trivial), nv_call hS hFc hU hW hN⟩⟩ rfl rfl hl.1 rfl (lv_room (Nat.le_of_ble_eq_true rfl)) dX4_changed_162 ⟨by decide +kernel, by decide +kernel⟩) hS (fun q _ h => hFc q h) hFc (fun r19 u t H1 locs ht hvm hw hB hz1 hk1 hS => ?_)
  obtain ⟨hP1, hK1, hD1⟩ := hB
  rw [ht] at hP1
  have hK1 := va_K.moved hvm.symm hK1
  obtain ⟨hP, hD⟩ := va_join (wr := []) (w1 := []) hP hD [] [] rfl rfl (by decide) (by decide) hk1 hFc hP1 hD1
  have hK := (hK.sub (tys' := []) [] rfl).app hK1
  generalize H1 = H at hP hS ⊢
  have hP : va_P (dC, dI) vwCl [] H := hP
  have hD : va_D A [] := hD
  have hK : va_K (dC, dI) vwCl [] s := hK
  refine W.widen (k := 0) (n := 0) (by decide +kernel) (by decide +kernel) ?_
  rcases hw with ⟨c_44_0, c_44_1, h9⟩ | ⟨c_44_0, c_44_1, h9⟩ | ⟨c_44_0, h9⟩ | h9
  · subst h9
    refine lv_if_le (tgt := 172) hx hb dX4_changed_165 (by decide) (fun h9 => absurd h9 (by decide)) (fun _ => ?_)
    refine lv_iload_n hx hb dX4_changed_168 rfl (lv_at hl 1 rfl) ?_
    refine lv_goto (tgt := 173) hx hb dX4_changed_169 (by decide) ?_
    refine W.widen (k := 0) (n := 0) (by decide +kernel) (by decide +kernel) ?_
    exact W.iret (v := v1) hx hb hr (fun t ht hW => ⟨⟨v1, (), rfl, Or.inr (Or.inr (Or.inr (Or.inr (Or.inr (Or.inr (Or.inr (Or.inr (Or.inr (Or.inr (Or.inr (Or.inr (Or.inr (Or.inr (Or.inr (Or.inr (Or.inr (Or.inr (Or.inr (Or.inr (Or.inr (Or.inr (Or.inr (Or.inr (Or.inr (Or.inr (Or.inr (Or.inr (Or.inr (Or.inr (Or.inr (Or.inr (Or.inr (Or.inr (Or.inr (Or.inr (Or.inr (Or.inr (Or.inr (Or.inr (Or.inr (Or.inr (Or.inr (Or.inr (Or.inr (Or.inr (Or.inr (Or.inr (Or.inr (Or.inr (Or.inr (Or.inr (Or.inr (Or.inr (Or.inr (Or.inr (Or.inr (Or.inr (Or.inr (Or.inr (Or.inr (Or.inl ⟨c_1, c_2, c_3, c_5, c_7, c_8, c_10, c_12, c_14, c_15, c_17, c_19, c_21, c_22, c_24, c_26, c_28, c_29, c_31, c_33, c_35, c_36, c_38, c_40, c_42, c_44_0, c_44_1, rfl⟩))))))))))))))))))))))))))))))))))))))))))))))))))))))))))))), by rw [ht]; exact hP, va_K.moved hW.alike hK, hD⟩, hS.F ht⟩) hS.2.2 dX4_changed_173
  · subst h9
    refine lv_if_le (tgt := 172) hx hb dX4_changed_165 (by decide) (fun _ => ?_) (fun h9 => absurd (by decide) h9)
    refine lv_iload_n hx hb dX4_changed_172 rfl (lv_at hl 2 rfl) ?_
    refine W.widen (k := 0) (n := 0) (by decide +kernel) (by decide +kernel) ?_
    exact W.iret (v := v2) hx hb hr (fun t ht hW => ⟨⟨v2, (), rfl, Or.inr (Or.inr (Or.inr (Or.inr (Or.inr (Or.inr (Or.inr (Or.inr (Or.inr (Or.inr (Or.inr (Or.inr (Or.inr (Or.inr (Or.inr (Or.inr (Or.inr (Or.inr (Or.inr (Or.inr (Or.inr (Or.inr (Or.inr (Or.inr (Or.inr (Or.inr (Or.inr (Or.inr (Or.inr (Or.inr (Or.inr (Or.inr (Or.inr (Or.inr (Or.inr (Or.inr (Or.inr (Or.inr (Or.inr (Or.inr (Or.inr (Or.inr (Or.inr (Or.inr (Or.inr (Or.inr (Or.inr (Or.inr (Or.inr (Or.inr (Or.inr (Or.inr (Or.inr (Or.inr (Or.inr (Or.inr (Or.inr (Or.inr (Or.inr (Or.inr (Or.inr (Or.inr (Or.inl ⟨c_1, c_2, c_3, c_5, c_7, c_8, c_10, c_12, c_14, c_15, c_17, c_19, c_21, c_22, c_24, c_26, c_28, c_29, c_31, c_33, c_35, c_36, c_38, c_40, c_42, c_44_0, c_44_1, rfl⟩)))))))))))))))))))))))))))))))))))))))))))))))))))))))))))))), by rw [ht]; exact hP, va_K.moved hW.alike hK, hD⟩, hS.F ht⟩) hS.2.2 dX4_changed_173
  · subst h9
    refine lv_if_le (tgt := 172) hx hb dX4_changed_165 (by decide) (fun _ => ?_) (fun h9 => absurd (by decide) h9)
    refine lv_iload_n hx hb dX4_changed_172 rfl (lv_at hl 2 rfl) ?_
    refine W.widen (k := 0) (n := 0) (by decide +kernel) (by decide +kernel) ?_
    exact W.iret (v := v2) hx hb hr (fun t ht hW => ⟨⟨v2, (), rfl, Or.inr (Or.inr (Or.inr (Or.inr (Or.inr (Or.inr (Or.inr (Or.inr (Or.inr (Or.inr (Or.inr (Or.inr (Or.inr (Or.inr (Or.inr (Or.inr (Or.inr (Or.inr (Or.inr (Or.inr (Or.inr (Or.inr (Or.inr (Or.inr (Or.inr (Or.inr (Or.inr (Or.inr (Or.inr (Or.inr (Or.inr (Or.inr (Or.inr (Or.inr (Or.inr (Or.inr (Or.inr (Or.inr (Or.inr (Or.inr (Or.inr (Or.inr (Or.inr (Or.inr (Or.inr (Or.inr (Or.inr (Or.inr (Or.inr (Or.inr (Or.inr (Or.inr (Or.inr (Or.inr (Or.inr (Or.inr (Or.inr (Or.inr (Or.inr (Or.inr (Or.inr (Or.inr (Or.inr (Or.inl ⟨c_1, c_2, c_3, c_5, c_7, c_8, c_10, c_12, c_14, c_15, c_17, c_19, c_21, c_22, c_24, c_26, c_28, c_29, c_31, c_33, c_35, c_36, c_38, c_40, c_42, c_44_0, rfl⟩))))))))))))))))))))))))))))))))))))))))))))))))))))))))))))))), by rw [ht]; exact hP, va_K.moved hW.alike hK, hD⟩, hS.F ht⟩) hS.2.2 dX4_changed_173
  · exact h9.elim
def ow_k_X4_number_v3 : List Cond := .code yX4_number cX4_number 4 (some .int) :: ([] ++ [])
theorem gd_k_X4_number_v3 : ∀ w ∈ ow_k_X4_number_v3, (w.onTables && w.keeps) = true ∨ ∃ ty, w = Cond.arrayClass ty := List.forall_mem_cons.mpr ⟨good_of_word rfl, List.forall_mem_append.mpr ⟨fun w h => good_of_word (List.all_eq_true.mp (by decide +kernel) w h), fun _ h => nomatch h⟩⟩
set_option maxHeartbeats 40000000 in
set_option maxRecDepth 100000 in
theorem k_X4_number_v3 (l : Launch) (hlt : l.stackTraces = false) (dC : Nat → ClassId) (dI : Nat → Nat → Nat) (c0 : Int32) (c1 : Int32) (sz : Nat) : Met l yX4_number ow_k_X4_number_v3 ({ frames := 0, cells := 0, slots := 0, locals := 0 }) (va_Pc [.int c0, .int 2, .int 0, .int c1] (fun U => U.heap.size = sz ∧ va_P (dC, dI) vwCl [] U.heap ∧ va_K (dC, dI) vwCl [] U ∧ va_D (fun _ => True) [] ∧ nv_E (va_A [] sz) U)) (va_Qi (fun r _ => (r = ((((((c0 : Int32) <<< ((20 : Int32) &&& 31)) ||| 65536) ||| 0) ||| ((c1 : Int32) <<< ((7 : Int32) &&& 31))) ||| 19)) ∨ False) (fun (_ : Unit) t => va_P (dC, dI) vwCl [] t.heap ∧ va_K (dC, dI) vwCl [] t ∧ va_D (va_A [] sz) []) (va_A [] sz)) 0 0 (va_A [] sz) := by
  refine Met.ofW (cc := cX4_number) (maxL := 4) (ret := (some .int)) (by decide) rfl ?_
  intro p e s m args below meth c s₁ B hml hv
  obtain ⟨rfl, hsz, hP, hK, hD0, hN⟩ := hv
  have hx := B.exec
  have hb := B.bytes
  have hr := B.returns
  have hts := atoms_spec (ws := ow_k_X4_number_v3) B.pre
  have hown : s.vm.findClass RX4 = some m.cls := findClass_of_methodNamed B.named
  have hlocks := B.notSynchronized
  subst hsz
  have hD := hD0.self (sz := s.heap.size)
  generalize hAe : va_A [] s.heap.size = A at hD hN ⊢
  have hA : ∀ q : Nat, s.heap.size ≤ q → A q := fun q h => by rw [← hAe]; exact Or.inr h
  have hS : va_S A s.heap s.heap [] := va_S.rf
  have hl := lv_entry ([.int c0, .int 2, .int 0, .int c1]) (n := 4) (Nat.le_of_ble_eq_true rfl)
  rw [lg_entry_eq]
  generalize (lg_sl ([.int c0, .int 2, .int 0, .int c1]) ++ List.replicate (4 - (lg_sl ([.int c0, .int 2, .int 0, .int c1])).length) Slot.unset).toArray = ls at hl ⊢
  have hl : lv_has ls 4 [(0, .int c0), (1, .int 2), (2, .int 0), (3, .int c1)] := hl
  refine lv_iload_n hx hb dX4_number_0 rfl (lv_at hl 0 rfl) ?_
  refine lv_bipush (v := 20) hx hb dX4_number_1 (by decide) ?_
  refine lv_ishl hx hb dX4_number_3 ?_
  refine lv_iload_n hx hb dX4_number_4 rfl (lv_at hl 1 rfl) ?_
  refine lv_bipush (v := 15) hx hb dX4_number_5 (by decide) ?_
  refine lv_ishl hx hb dX4_number_7 ?_
  refine lv_topi (fun z1 ez1 => ?_)
  obtain rfl : z1 = 65536 := ez1.trans (by decide)
  refine lv_ior hx hb dX4_number_8 ?_
  refine lv_iload_n hx hb dX4_number_9 rfl (lv_at hl 2 rfl) ?_
  refine lv_bipush (v := 12) hx hb dX4_number_10 (by decide) ?_
  refine lv_ishl hx hb dX4_number_12 ?_
  refine lv_topi (fun z2 ez2 => ?_)
  obtain rfl : z2 = 0 := ez2.trans (by decide)
  refine lv_ior hx hb dX4_number_13 ?_
  refine lv_iload_n hx hb dX4_number_14 rfl (lv_at hl 3 rfl) ?_
  refine lv_bipush (v := 7) hx hb dX4_number_15 (by decide) ?_
  refine lv_ishl hx hb dX4_number_17 ?_
  refine lv_ior hx hb dX4_number_18 ?_
  refine lv_bipush (v := 19) hx hb dX4_number_19 (by decide) ?_
  refine lv_ior hx hb dX4_number_21 ?_
  refine W.widen (k := 0) (n := 0) (by decide +kernel) (by decide +kernel) ?_
  exact W.iret (v := ((((((c0 : Int32) <<< ((20 : Int32) &&& 31)) ||| 65536) ||| 0) ||| ((c1 : Int32) <<< ((7 : Int32) &&& 31))) ||| 19)) hx hb hr (fun t ht hW => ⟨⟨((((((c0 : Int32) <<< ((20 : Int32) &&& 31)) ||| 65536) ||| 0) ||| ((c1 : Int32) <<< ((7 : Int32) &&& 31))) ||| 19), (), rfl, Or.inl rfl, by rw [ht]; exact hP, va_K.moved hW.alike hK, hD⟩, hS.F ht⟩) hS.2.2 dX4_number_22
def ow_k_X4_loading_v1 : List Cond := .code yX4_loading cX4_loading 3 (some .int) :: ([] ++ [])
theorem gd_k_X4_loading_v1 : ∀ w ∈ ow_k_X4_loading_v1, (w.onTables && w.keeps) = true ∨ ∃ ty, w = Cond.arrayClass ty := List.forall_mem_cons.mpr ⟨good_of_word rfl, List.forall_mem_append.mpr ⟨fun w h => good_of_word (List.all_eq_true.mp (by decide +kernel) w h), fun _ h => nomatch h⟩⟩
set_option maxHeartbeats 40000000 in
set_option maxRecDepth 100000 in
theorem k_X4_loading_v1 (l : Launch) (hlt : l.stackTraces = false) (dC : Nat → ClassId) (dI : Nat → Nat → Nat) (c0 : Int32) (c1 : Int32) (c2 : Int32) (sz : Nat) : Met l yX4_loading ow_k_X4_loading_v1 ({ frames := 0, cells := 0, slots := 0, locals := 0 }) (va_Pc [.int c0, .int c1, .int c2] (fun U => U.heap.size = sz ∧ va_P (dC, dI) vwCl [] U.heap ∧ va_K (dC, dI) vwCl [] U ∧ va_D (fun _ => True) [] ∧ nv_E (va_A [] sz) U)) (va_Qi (fun r _ => (r = ((((((c0 : Int32) <<< ((20 : Int32) &&& 31)) ||| ((c1 : Int32) <<< ((15 : Int32) &&& 31))) ||| 8192) ||| ((c2 : Int32) <<< ((7 : Int32) &&& 31))) ||| 3)) ∨ False) (fun (_ : Unit) t => va_P (dC, dI) vwCl [] t.heap ∧ va_K (dC, dI) vwCl [] t ∧ va_D (va_A [] sz) []) (va_A [] sz)) 0 0 (va_A [] sz) := by
  refine Met.ofW (cc := cX4_loading) (maxL := 3) (ret := (some .int)) (by decide) rfl ?_
  intro p e s m args below meth c s₁ B hml hv
  obtain ⟨rfl, hsz, hP, hK, hD0, hN⟩ := hv
  have hx := B.exec
  have hb := B.bytes
  have hr := B.returns
  have hts := atoms_spec (ws := ow_k_X4_loading_v1) B.pre
  have hown : s.vm.findClass RX4 = some m.cls := findClass_of_methodNamed B.named
  have hlocks := B.notSynchronized
  subst hsz
  have hD := hD0.self (sz := s.heap.size)
  generalize hAe : va_A [] s.heap.size = A at hD hN ⊢
  have hA : ∀ q : Nat, s.heap.size ≤ q → A q := fun q h => by rw [← hAe]; exact Or.inr h
  have hS : va_S A s.heap s.heap [] := va_S.rf
  have hl := lv_entry ([.int c0, .int c1, .int c2]) (n := 3) (Nat.le_of_ble_eq_true rfl)
  rw [lg_entry_eq]
  generalize (lg_sl ([.int c0, .int c1, .int c2]) ++ List.replicate (3 - (lg_sl ([.int c0, .int c1, .int c2])).length) Slot.unset).toArray = ls at hl ⊢
  have hl : lv_has ls 3 [(0, .int c0), (1, .int c1), (2, .int c2)] := hl
  refine lv_iload_n hx hb dX4_loading_0 rfl (lv_at hl 0 rfl) ?_
  refine lv_bipush (v := 20) hx hb dX4_loading_1 (by decide) ?_
  refine lv_ishl hx hb dX4_loading_3 ?_
  refine lv_iload_n hx hb dX4_loading_4 rfl (lv_at hl 1 rfl) ?_
  refine lv_bipush (v := 15) hx hb dX4_loading_5 (by decide) ?_
  refine lv_ishl hx hb dX4_loading_7 ?_
  refine lv_ior hx hb dX4_loading_8 ?_
  refine lv_sipush (v := 8192) hx hb dX4_loading_9 (by decide) ?_
  refine lv_ior hx hb dX4_loading_12 ?_
  refine lv_iload_n hx hb dX4_loading_13 rfl (lv_at hl 2 rfl) ?_
  refine lv_bipush (v := 7) hx hb dX4_loading_14 (by decide) ?_
  refine lv_ishl hx hb dX4_loading_16 ?_
  refine lv_ior hx hb dX4_loading_17 ?_
  refine lv_iconst (v := 3) hx hb dX4_loading_18 (by decide) ?_
  refine lv_ior hx hb dX4_loading_19 ?_
  refine W.widen (k := 0) (n := 0) (by decide +kernel) (by decide +kernel) ?_
  exact W.iret (v := ((((((c0 : Int32) <<< ((20 : Int32) &&& 31)) ||| ((c1 : Int32) <<< ((15 : Int32) &&& 31))) ||| 8192) ||| ((c2 : Int32) <<< ((7 : Int32) &&& 31))) ||| 3)) hx hb hr (fun t ht hW => ⟨⟨((((((c0 : Int32) <<< ((20 : Int32) &&& 31)) ||| ((c1 : Int32) <<< ((15 : Int32) &&& 31))) ||| 8192) ||| ((c2 : Int32) <<< ((7 : Int32) &&& 31))) ||| 3), (), rfl, Or.inl rfl, by rw [ht]; exact hP, va_K.moved hW.alike hK, hD⟩, hS.F ht⟩) hS.2.2 dX4_loading_20
def ow_k_X4_storing_v1 : List Cond := .code yX4_storing cX4_storing 3 (some .int) :: ([] ++ [])
theorem gd_k_X4_storing_v1 : ∀ w ∈ ow_k_X4_storing_v1, (w.onTables && w.keeps) = true ∨ ∃ ty, w = Cond.arrayClass ty := List.forall_mem_cons.mpr ⟨good_of_word rfl, List.forall_mem_append.mpr ⟨fun w h => good_of_word (List.all_eq_true.mp (by decide +kernel) w h), fun _ h => nomatch h⟩⟩
set_option maxHeartbeats 40000000 in
set_option maxRecDepth 100000 in
theorem k_X4_storing_v1 (l : Launch) (hlt : l.stackTraces = false) (dC : Nat → ClassId) (dI : Nat → Nat → Nat) (c0 : Int32) (c1 : Int32) (c2 : Int32) (sz : Nat) : Met l yX4_storing ow_k_X4_storing_v1 ({ frames := 0, cells := 0, slots := 0, locals := 0 }) (va_Pc [.int c0, .int c1, .int c2] (fun U => U.heap.size = sz ∧ va_P (dC, dI) vwCl [] U.heap ∧ va_K (dC, dI) vwCl [] U ∧ va_D (fun _ => True) [] ∧ nv_E (va_A [] sz) U)) (va_Qi (fun r _ => (r = (((((((((c0 : Int32) >>> ((5 : Int32) &&& 31)) : Int32) <<< ((25 : Int32) &&& 31)) ||| ((c2 : Int32) <<< ((20 : Int32) &&& 31))) ||| ((c1 : Int32) <<< ((15 : Int32) &&& 31))) ||| 8192) ||| (((c0 &&& 31) : Int32) <<< ((7 : Int32) &&& 31))) ||| 35)) ∨ False) (fun (_ : Unit) t => va_P (dC, dI) vwCl [] t.heap ∧ va_K (dC, dI) vwCl [] t ∧ va_D (va_A [] sz) []) (va_A [] sz)) 0 0 (va_A [] sz) := by
  refine Met.ofW (cc := cX4_storing) (maxL := 3) (ret := (some .int)) (by decide) rfl ?_
  intro p e s m args below meth c s₁ B hml hv
  obtain ⟨rfl, hsz, hP, hK, hD0, hN⟩ := hv
  have hx := B.exec
  have hb := B.bytes
  have hr := B.returns
  have hts := atoms_spec (ws := ow_k_X4_storing_v1) B.pre
  have hown : s.vm.findClass RX4 = some m.cls := findClass_of_methodNamed B.named
  have hlocks := B.notSynchronized
  subst hsz
  have hD := hD0.self (sz := s.heap.size)
  generalize hAe : va_A [] s.heap.size = A at hD hN ⊢
  have hA : ∀ q : Nat, s.heap.size ≤ q → A q := fun q h => by rw [← hAe]; exact Or.inr h
  have hS : va_S A s.heap s.heap [] := va_S.rf
  have hl := lv_entry ([.int c0, .int c1, .int c2]) (n := 3) (Nat.le_of_ble_eq_true rfl)
  rw [lg_entry_eq]
  generalize (lg_sl ([.int c0, .int c1, .int c2]) ++ List.replicate (3 - (lg_sl ([.int c0, .int c1, .int c2])).length) Slot.unset).toArray = ls at hl ⊢
  have hl : lv_has ls 3 [(0, .int c0), (1, .int c1), (2, .int c2)] := hl
  refine lv_iload_n hx hb dX4_storing_0 rfl (lv_at hl 0 rfl) ?_
  refine lv_iconst (v := 5) hx hb dX4_storing_1 (by decide) ?_
  refine lv_ishr hx hb dX4_storing_2 ?_
  refine lv_bipush (v := 25) hx hb dX4_storing_3 (by decide) ?_
  refine lv_ishl hx hb dX4_storing_5 ?_
  refine lv_iload_n hx hb dX4_storing_6 rfl (lv_at hl 2 rfl) ?_
  refine lv_bipush (v := 20) hx hb dX4_storing_7 (by decide) ?_
  refine lv_ishl hx hb dX4_storing_9 ?_
  refine lv_ior hx hb dX4_storing_10 ?_
  refine lv_iload_n hx hb dX4_storing_11 rfl (lv_at hl 1 rfl) ?_
  refine lv_bipush (v := 15) hx hb dX4_storing_12 (by decide) ?_
  refine lv_ishl hx hb dX4_storing_14 ?_
  refine lv_ior hx hb dX4_storing_15 ?_
  refine lv_sipush (v := 8192) hx hb dX4_storing_16 (by decide) ?_
  refine lv_ior hx hb dX4_storing_19 ?_
  refine lv_iload_n hx hb dX4_storing_20 rfl (lv_at hl 0 rfl) ?_
  refine lv_bipush (v := 31) hx hb dX4_storing_21 (by decide) ?_
  refine lv_iand hx hb dX4_storing_23 ?_
  refine lv_bipush (v := 7) hx hb dX4_storing_24 (by decide) ?_
  refine lv_ishl hx hb dX4_storing_26 ?_
  refine lv_ior hx hb dX4_storing_27 ?_
  refine lv_bipush (v := 35) hx hb dX4_storing_28 (by decide) ?_
  refine lv_ior hx hb dX4_storing_30 ?_
  refine W.widen (k := 0) (n := 0) (by decide +kernel) (by decide +kernel) ?_
  exact W.iret (v := (((((((((c0 : Int32) >>> ((5 : Int32) &&& 31)) : Int32) <<< ((25 : Int32) &&& 31)) ||| ((c2 : Int32) <<< ((20 : Int32) &&& 31))) ||| ((c1 : Int32) <<< ((15 : Int32) &&& 31))) ||| 8192) ||| (((c0 &&& 31) : Int32) <<< ((7 : Int32) &&& 31))) ||| 35)) hx hb hr (fun t ht hW => ⟨⟨(((((((((c0 : Int32) >>> ((5 : Int32) &&& 31)) : Int32) <<< ((25 : Int32) &&& 31)) ||| ((c2 : Int32) <<< ((20 : Int32) &&& 31))) ||| ((c1 : Int32) <<< ((15 : Int32) &&& 31))) ||| 8192) ||| (((c0 &&& 31) : Int32) <<< ((7 : Int32) &&& 31))) ||| 35), (), rfl, Or.inl rfl, by rw [ht]; exact hP, va_K.moved hW.alike hK, hD⟩, hS.F ht⟩) hS.2.2 dX4_storing_31
def ow_g_X4_expandedFirst : List Cond := .code yX4_expandedFirst cX4_expandedFirst 5 (some .int) :: ([.methodLink RX4 153 yX4_number, .static yX4_number, .initialized RX4, .methodLink RX4 156 yX4_loading, .static yX4_loading, .methodLink RX4 159 yX4_storing, .static yX4_storing] ++ (ow_k_X4_number_v3 ++ (ow_k_X4_loading_v1 ++ (ow_k_X4_storing_v1 ++ []))))
theorem gd_g_X4_expandedFirst : ∀ w ∈ ow_g_X4_expandedFirst, (w.onTables && w.keeps) = true ∨ ∃ ty, w = Cond.arrayClass ty := List.forall_mem_cons.mpr ⟨good_of_word rfl, List.forall_mem_append.mpr ⟨fun w h => good_of_word (List.all_eq_true.mp (by decide +kernel) w h), List.forall_mem_append.mpr ⟨gd_k_X4_number_v3, List.forall_mem_append.mpr ⟨gd_k_X4_loading_v1, List.forall_mem_append.mpr ⟨gd_k_X4_storing_v1, fun _ h => nomatch h⟩⟩⟩⟩⟩
theorem gi_g_X4_expandedFirst_0 : GoodIn ow_g_X4_expandedFirst (wsS RX4 153 yX4_number ow_k_X4_number_v3) := goodIn_app (goodIn_of _ (by decide +kernel)) (fun w h => ⟨List.mem_cons_of_mem _ (List.mem_append_right _ (List.mem_append_left _ h)), gd_k_X4_number_v3 w h⟩)
theorem gi_g_X4_expandedFirst_1 : GoodIn ow_g_X4_expandedFirst (wsS RX4 156 yX4_loading ow_k_X4_loading_v1) := goodIn_app (goodIn_of _ (by decide +kernel)) (fun w h => ⟨List.mem_cons_of_mem _ (List.mem_append_right _ (List.mem_append_right _ (List.mem_append_left _ h))), gd_k_X4_loading_v1 w h⟩)
theorem gi_g_X4_expandedFirst_2 : GoodIn ow_g_X4_expandedFirst (wsS RX4 159 yX4_storing ow_k_X4_storing_v1) := goodIn_app (goodIn_of _ (by decide +kernel)) (fun w h => ⟨List.mem_cons_of_mem _ (List.mem_append_right _ (List.mem_append_right _ (List.mem_append_right _ (List.mem_append_left _ h)))), gd_k_X4_storing_v1 w h⟩)
set_option maxHeartbeats 40000000 in
set_option maxRecDepth 100000 in
theorem g_X4_expandedFirst (l : Launch) (hlt : l.stackTraces = false) (dC : Nat → ClassId) (dI : Nat → Nat → Nat) (v0 : Int32) (sz : Nat) : Met l yX4_expandedFirst ow_g_X4_expandedFirst ({ frames := 1, cells := 0, slots := 0, locals := 23 }) (va_Pc [.int v0] (fun U => U.heap.size = sz ∧ va_P (dC, dI) vwCl [] U.heap ∧ va_K (dC, dI) vwCl [] U ∧ va_D (fun _ => True) [] ∧ nv_E (va_A [] sz) U)) (va_Qi (fun r _ => ((((v0 : Int32) >>> ((13 : Int32) &&& 31)) = 0) ∧ (¬ ((((((v0 : Int32) >>> ((7 : Int32) &&& 31)) &&& 48) ||| (((v0 : Int32) >>> ((1 : Int32) &&& 31)) &&& 960)) ||| (((v0 : Int32) >>> ((4 : Int32) &&& 31)) &&& 4)) ||| (((v0 : Int32) >>> ((2 : Int32) &&& 31)) &&& 8)) = 0) ∧ r = ((((((((((((v0 : Int32) >>> ((7 : Int32) &&& 31)) &&& 48) ||| (((v0 : Int32) >>> ((1 : Int32) &&& 31)) &&& 960)) ||| (((v0 : Int32) >>> ((4 : Int32) &&& 31)) &&& 4)) ||| (((v0 : Int32) >>> ((2 : Int32) &&& 31)) &&& 8)) : Int32) <<< ((20 : Int32) &&& 31)) ||| 65536) ||| 0) ||| (((8 + (((v0 : Int32) >>> ((2 : Int32) &&& 31)) &&& 7)) : Int32) <<< ((7 : Int32) &&& 31))) ||| 19)) ∨ ((((v0 : Int32) >>> ((13 : Int32) &&& 31)) = 0) ∧ (((((((v0 : Int32) >>> ((7 : Int32) &&& 31)) &&& 48) ||| (((v0 : Int32) >>> ((1 : Int32) &&& 31)) &&& 960)) ||| (((v0 : Int32) >>> ((4 : Int32) &&& 31)) &&& 4)) ||| (((v0 : Int32) >>> ((2 : Int32) &&& 31)) &&& 8)) = 0) ∧ r = 0) ∨ ((¬ ((v0 : Int32) >>> ((13 : Int32) &&& 31)) = 0) ∧ (((v0 : Int32) >>> ((13 : Int32) &&& 31)) = 2) ∧ r = (((((((((((v0 : Int32) >>> ((7 : Int32) &&& 31)) &&& 56) ||| (((v0 : Int32) >>> ((4 : Int32) &&& 31)) &&& 4)) ||| (((v0 : Int32) <<< ((1 : Int32) &&& 31)) &&& 64)) : Int32) <<< ((20 : Int32) &&& 31)) ||| (((8 + (((v0 : Int32) >>> ((7 : Int32) &&& 31)) &&& 7)) : Int32) <<< ((15 : Int32) &&& 31))) ||| 8192) ||| (((8 + (((v0 : Int32) >>> ((2 : Int32) &&& 31)) &&& 7)) : Int32) <<< ((7 : Int32) &&& 31))) ||| 3)) ∨ ((¬ ((v0 : Int32) >>> ((13 : Int32) &&& 31)) = 0) ∧ (¬ ((v0 : Int32) >>> ((13 : Int32) &&& 31)) = 2) ∧ (((v0 : Int32) >>> ((13 : Int32) &&& 31)) = 6) ∧ r = ((((((((((((((v0 : Int32) >>> ((7 : Int32) &&& 31)) &&& 56) ||| (((v0 : Int32) >>> ((4 : Int32) &&& 31)) &&& 4)) ||| (((v0 : Int32) <<< ((1 : Int32) &&& 31)) &&& 64)) : Int32) >>> ((5 : Int32) &&& 31)) : Int32) <<< ((25 : Int32) &&& 31)) ||| (((8 + (((v0 : Int32) >>> ((2 : Int32) &&& 31)) &&& 7)) : Int32) <<< ((20 : Int32) &&& 31))) ||| (((8 + (((v0 : Int32) >>> ((7 : Int32) &&& 31)) &&& 7)) : Int32) <<< ((15 : Int32) &&& 31))) ||| 8192) ||| ((((((((v0 : Int32) >>> ((7 : Int32) &&& 31)) &&& 56) ||| (((v0 : Int32) >>> ((4 : Int32) &&& 31)) &&& 4)) ||| (((v0 : Int32) <<< ((1 : Int32) &&& 31)) &&& 64)) &&& 31) : Int32) <<< ((7 : Int32) &&& 31))) ||| 35)) ∨ ((¬ ((v0 : Int32) >>> ((13 : Int32) &&& 31)) = 0) ∧ (¬ ((v0 : Int32) >>> ((13 : Int32) &&& 31)) = 2) ∧ (¬ ((v0 : Int32) >>> ((13 : Int32) &&& 31)) = 6) ∧ r = 0) ∨ False) (fun (_ : Unit) t => va_P (dC, dI) vwCl [] t.heap ∧ va_K (dC, dI) vwCl [] t ∧ va_D (va_A [] sz) []) (va_A [] sz)) 0 0 (va_A [] sz) := by
  refine Met.ofW (cc := cX4_expandedFirst) (maxL := 5) (ret := (some .int)) (by decide) rfl ?_
  intro p e s m args below meth c s₁ B hml hv
  obtain ⟨rfl, hsz, hP, hK, hD0, hN⟩ := hv
  have hx := B.exec
  have hb := B.bytes
  have hr := B.returns
  have hts := atoms_spec (ws := ow_g_X4_expandedFirst) B.pre
  have hown : s.vm.findClass RX4 = some m.cls := findClass_of_methodNamed B.named
  have hlocks := B.notSynchronized
  subst hsz
  have hD := hD0.self (sz := s.heap.size)
  generalize hAe : va_A [] s.heap.size = A at hD hN ⊢
  have hA : ∀ q : Nat, s.heap.size ≤ q → A q := fun q h => by rw [← hAe]; exact Or.inr h
  have hS : va_S A s.heap s.heap [] := va_S.rf
  have hl := lv_entry ([.int v0]) (n := 5) (Nat.le_of_ble_eq_true rfl)
  rw [lg_entry_eq]
  generalize (lg_sl ([.int v0]) ++ List.replicate (5 - (lg_sl ([.int v0])).length) Slot.unset).toArray = ls at hl ⊢
  have hl : lv_has ls 5 [(0, .int v0)] := hl
  refine lv_bipush (v := 8) hx hb dX4_expandedFirst_0 (by decide) ?_
  refine lv_iload_n hx hb dX4_expandedFirst_2 rfl (lv_at hl 0 rfl) ?_
  refine lv_iconst (v := 2) hx hb dX4_expandedFirst_3 (by decide) ?_
  refine lv_ishr hx hb dX4_expandedFirst_4 ?_
  refine lv_bipush (v := 7) hx hb dX4_expandedFirst_5 (by decide) ?_
  refine lv_iand hx hb dX4_expandedFirst_7 ?_
  refine lv_iadd hx hb dX4_expandedFirst_8 ?_
  refine lv_istore_n (lv' := [(1, .int (8 + (((v0 : Int32) >>> ((2 : Int32) &&& 31)) &&& 7))), (0, .int v0)]) hx hb dX4_expandedFirst_9 rfl hl (by decide) rfl (fun ls hl => ?_)
  refine lv_bipush (v := 8) hx hb dX4_expandedFirst_10 (by decide) ?_
  refine lv_iload_n hx hb dX4_expandedFirst_12 rfl (lv_at hl 1 rfl) ?_
  refine lv_bipush (v := 7) hx hb dX4_expandedFirst_13 (by decide) ?_
  refine lv_ishr hx hb dX4_expandedFirst_15 ?_
  refine lv_bipush (v := 7) hx hb dX4_expandedFirst_16 (by decide) ?_
  refine lv_iand hx hb dX4_expandedFirst_18 ?_
  refine lv_iadd hx hb dX4_expandedFirst_19 ?_
  refine lv_istore_n (lv' := [(2, .int (8 + (((v0 : Int32) >>> ((7 : Int32) &&& 31)) &&& 7))), (1, .int (8 + (((v0 : Int32) >>> ((2 : Int32) &&& 31)) &&& 7))), (0, .int v0)]) hx hb dX4_expandedFirst_20 rfl hl (by decide) rfl (fun ls hl => ?_)
  refine lv_iload_n hx hb dX4_expandedFirst_21 rfl (lv_at hl 2 rfl) ?_
  refine lv_bipush (v := 7) hx hb dX4_expandedFirst_22 (by decide) ?_
  refine lv_ishr hx hb dX4_expandedFirst_24 ?_
  refine lv_bipush (v := 56) hx hb dX4_expandedFirst_25 (by decide) ?_
  refine lv_iand hx hb dX4_expandedFirst_27 ?_
  refine lv_iload_n hx hb dX4_expandedFirst_28 rfl (lv_at hl 2 rfl) ?_
  refine lv_iconst (v := 4) hx hb dX4_expandedFirst_29 (by decide) ?_
  refine lv_ishr hx hb dX4_expandedFirst_30 ?_
  refine lv_iconst (v := 4) hx hb dX4_expandedFirst_31 (by decide) ?_
  refine lv_iand hx hb dX4_expandedFirst_32 ?_
  refine lv_ior hx hb dX4_expandedFirst_33 ?_
  refine lv_iload_n hx hb dX4_expandedFirst_34 rfl (lv_at hl 2 rfl) ?_
  refine lv_iconst (v := 1) hx hb dX4_expandedFirst_35 (by decide) ?_
  refine lv_ishl hx hb dX4_expandedFirst_36 ?_
  refine lv_bipush (v := 64) hx hb dX4_expandedFirst_37 (by decide) ?_
  refine lv_iand hx hb dX4_expandedFirst_39 ?_
  refine lv_ior hx hb dX4_expandedFirst_40 ?_
  refine lv_istore_n (lv' := [(3, .int (((((v0 : Int32) >>> ((7 : Int32) &&& 31)) &&& 56) ||| (((v0 : Int32) >>> ((4 : Int32) &&& 31)) &&& 4)) ||| (((v0 : Int32) <<< ((1 : Int32) &&& 31)) &&& 64))), (2, .int (8 + (((v0 : Int32) >>> ((7 : Int32) &&& 31)) &&& 7))), (1, .int (8 + (((v0 : Int32) >>> ((2 : Int32) &&& 31)) &&& 7))), (0, .int v0)]) hx hb dX4_expandedFirst_41 rfl hl (by decide) rfl (fun ls hl => ?_)
  refine lv_iload_n hx hb dX4_expandedFirst_42 rfl (lv_at hl 3 rfl) ?_
  refine lv_bipush (v := 13) hx hb dX4_expandedFirst_43 (by decide) ?_
  refine lv_ishr hx hb dX4_expandedFirst_45 ?_
  by_cases c_1 : ((v0 : Int32) >>> ((13 : Int32) &&& 31)) = 0
  · refine lv_lookup (off := 34) (tgt := 80) hx hb dX4_expandedFirst_46 (by decide) (by rw [c_1]; decide) (by decide) ?_
    refine lv_iload_n hx hb dX4_expandedFirst_80 rfl (lv_at hl 3 rfl) ?_
    refine lv_bipush (v := 7) hx hb dX4_expandedFirst_81 (by decide) ?_
    refine lv_ishr hx hb dX4_expandedFirst_83 ?_
    refine lv_bipush (v := 48) hx hb dX4_expandedFirst_84 (by decide) ?_
    refine lv_iand hx hb dX4_expandedFirst_86 ?_
    refine lv_iload_n hx hb dX4_expandedFirst_87 rfl (lv_at hl 3 rfl) ?_
    refine lv_iconst (v := 1) hx hb dX4_expandedFirst_88 (by decide) ?_
    refine lv_ishr hx hb dX4_expandedFirst_89 ?_
    refine lv_sipush (v := 960) hx hb dX4_expandedFirst_90 (by decide) ?_
    refine lv_iand hx hb dX4_expandedFirst_93 ?_
    refine lv_ior hx hb dX4_expandedFirst_94 ?_
    refine lv_iload_n hx hb dX4_expandedFirst_95 rfl (lv_at hl 3 rfl) ?_
    refine lv_iconst (v := 4) hx hb dX4_expandedFirst_96 (by decide) ?_
    refine lv_ishr hx hb dX4_expandedFirst_97 ?_
    refine lv_iconst (v := 4) hx hb dX4_expandedFirst_98 (by decide) ?_
    refine lv_iand hx hb dX4_expandedFirst_99 ?_
    refine lv_ior hx hb dX4_expandedFirst_100 ?_
    refine lv_iload_n hx hb dX4_expandedFirst_101 rfl (lv_at hl 3 rfl) ?_
    refine lv_iconst (v := 2) hx hb dX4_expandedFirst_102 (by decide) ?_
    refine lv_ishr hx hb dX4_expandedFirst_103 ?_
    refine lv_bipush (v := 8) hx hb dX4_expandedFirst_104 (by decide) ?_
    refine lv_iand hx hb dX4_expandedFirst_106 ?_
    refine lv_ior hx hb dX4_expandedFirst_107 ?_
    refine lv_istore (lv' := [(4, .int ((((((v0 : Int32) >>> ((7 : Int32) &&& 31)) &&& 48) ||| (((v0 : Int32) >>> ((1 : Int32) &&& 31)) &&& 960)) ||| (((v0 : Int32) >>> ((4 : Int32) &&& 31)) &&& 4)) ||| (((v0 : Int32) >>> ((2 : Int32) &&& 31)) &&& 8))), (3, .int (((((v0 : Int32) >>> ((7 : Int32) &&& 31)) &&& 56) ||| (((v0 : Int32) >>> ((4 : Int32) &&& 31)) &&& 4)) ||| (((v0 : Int32) <<< ((1 : Int32) &&& 31)) &&& 64))), (2, .int (8 + (((v0 : Int32) >>> ((7 : Int32) &&& 31)) &&& 7))), (1, .int (8 + (((v0 : Int32) >>> ((2 : Int32) &&& 31)) &&& 7))), (0, .int v0)]) hx hb dX4_expandedFirst_108 hl (by decide) rfl (fun ls hl => ?_)
    refine lv_iload hx hb dX4_expandedFirst_110 (lv_at hl 0 rfl) ?_
    refine lv_if_ne (tgt := 119) hx hb dX4_expandedFirst_112 (by decide) (fun c_2 => ?_) (fun c_2 => ?_)
    · refine lv_iload hx hb dX4_expandedFirst_119 (lv_at hl 0 rfl) ?_
      refine lv_iconst (v := 2) hx hb dX4_expandedFirst_121 (by decide) ?_
      refine lv_iconst (v := 0) hx hb dX4_expandedFirst_122 (by decide) ?_
      refine lv_iload_n hx hb dX4_expandedFirst_123 rfl (lv_at hl 3 rfl) ?_
      have hPc := hP.sub (ws' := []) [] rfl
      have hDc := hD.sub (ws' := []) [] (by decide) rfl
      have hKc := hK.sub (tys' := []) [] rfl
      have hFc := va_free (wc := []) hD hS hA [] rfl
      refine va_calli (va_runS (As := [.int ((((((v0 : Int32) >>> ((7 : Int32) &&& 31)) &&& 48) ||| (((v0 : Int32) >>> ((1 : Int32) &&& 31)) &&& 960)) ||| (((v0 : Int32) >>> ((4 : Int32) &&& 31)) &&& 4)) ||| (((v0 : Int32) >>> ((2 : Int32) &&& 31)) &&& 8)), .int 2, .int 0, .int (8 + (((v0 : Int32) >>> ((2 : Int32) &&& 31)) &&& 7))]) (rest := []) ⟨hx, hb, hml, hown, hts⟩ (k_X4_number_v3 l hlt dC dI ((((((v0 : Int32) >>> ((7 : Int32) &&& 31)) &&& 48) ||| (((v0 : Int32) >>> ((1 : Int32) &&& 31)) &&& 960)) ||| (((v0 : Int32) >>> ((4 : Int32) &&& 31)) &&& 4)) ||| (((v0 : Int32) >>> ((2 : Int32) &&& 31)) &&& 8)) (8 + (((v0 : Int32) >>> ((2 : Int32) &&& 31)) &&& 7))  s.heap.size) (cwS 4 hts gi_g_X4_expandedFirst_0 rfl rfl rfl (by decide +kernel) ⟨Nat.le_of_ble_eq_true rfl, Nat.le_of_ble_eq_true rfl⟩) ⟨fun a U g mk q => by obtain ⟨q0, q1, qP, qK, qD, qN⟩ := q; exact ⟨q0, q1, qP, va_K.moved (u := U) (U := U.calling g mk a) (Vm.Alike.refl U.vm) qK, qD, nv_same rfl rfl qN⟩, fun U hU hW => ⟨rfl, by rw [hU], by rw [hU]; exact hPc, va_K.moved hW.alike hKc, hDc.weaken (fun _ _ _ _ => trivial), nv_call hS hFc hU hW hN⟩⟩ rfl rfl hl.1 rfl (lv_room (Nat.le_of_ble_eq_true rfl)) dX4_expandedFirst_124 ⟨by decide +kernel, by decide +kernel⟩) hS (fun q _ h => hFc q h) hFc (fun r3 u t H1 locs ht hvm hw hB hz1 hk1 hS => ?_)
      obtain ⟨hP1, hK1, hD1⟩ := hB
      rw [ht] at hP1
      have hK1 := va_K.moved hvm.symm hK1
      obtain ⟨hP, hD⟩ := va_join (wr := []) (w1 := []) hP hD [] [] rfl rfl (by decide) (by decide) hk1 hFc hP1 hD1
      have hK := (hK.sub (tys' := []) [] rfl).app hK1
      generalize H1 = H at hP hS ⊢
      have hP : va_P (dC, dI) vwCl [] H := hP
      have hD : va_D A [] := hD
      have hK : va_K (dC, dI) vwCl [] s := hK
      refine W.widen (k := 0) (n := 0) (by decide +kernel) (by decide +kernel) ?_
      rcases hw with h9 | h9
      · subst h9
        refine W.widen (k := 0) (n := 0) (by decide +kernel) (by decide +kernel) ?_
        exact W.iret (v := ((((((((((((v0 : Int32) >>> ((7 : Int32) &&& 31)) &&& 48) ||| (((v0 : Int32) >>> ((1 : Int32) &&& 31)) &&& 960)) ||| (((v0 : Int32) >>> ((4 : Int32) &&& 31)) &&& 4)) ||| (((v0 : Int32) >>> ((2 : Int32) &&& 31)) &&& 8)) : Int32) <<< ((20 : Int32) &&& 31)) ||| 65536) ||| 0) ||| (((8 + (((v0 : Int32) >>> ((2 : Int32) &&& 31)) &&& 7)) : Int32) <<< ((7 : Int32) &&& 31))) ||| 19)) hx hb hr (fun t ht hW => ⟨⟨((((((((((((v0 : Int32) >>> ((7 : Int32) &&& 31)) &&& 48) ||| (((v0 : Int32) >>> ((1 : Int32) &&& 31)) &&& 960)) ||| (((v0 : Int32) >>> ((4 : Int32) &&& 31)) &&& 4)) ||| (((v0 : Int32) >>> ((2 : Int32) &&& 31)) &&& 8)) : Int32) <<< ((20 : Int32) &&& 31)) ||| 65536) ||| 0) ||| (((8 + (((v0 : Int32) >>> ((2 : Int32) &&& 31)) &&& 7)) : Int32) <<< ((7 : Int32) &&& 31))) ||| 19), (), rfl, Or.inl ⟨c_1, c_2, rfl⟩, by rw [ht]; exact hP, va_K.moved hW.alike hK, hD⟩, hS.F ht⟩) hS.2.2 dX4_expandedFirst_127
      · exact h9.elim
    · refine lv_iconst (v := 0) hx hb dX4_expandedFirst_115 (by decide) ?_
      refine lv_goto (tgt := 127) hx hb dX4_expandedFirst_116 (by decide) ?_
      refine W.widen (k := 0) (n := 0) (by decide +kernel) (by decide +kernel) ?_
      exact W.iret (v := 0) hx hb hr (fun t ht hW => ⟨⟨0, (), rfl, Or.inr (Or.inl ⟨c_1, c_2, rfl⟩), by rw [ht]; exact hP, va_K.moved hW.alike hK, hD⟩, hS.F ht⟩) hS.2.2 dX4_expandedFirst_127
  by_cases c_4 : ((v0 : Int32) >>> ((13 : Int32) &&& 31)) = 2
  · refine lv_lookup (off := 82) (tgt := 128) hx hb dX4_expandedFirst_46 (by decide) (by rw [c_4]; decide) (by decide) ?_
    refine lv_iload_n hx hb dX4_expandedFirst_128 rfl (lv_at hl 0 rfl) ?_
    refine lv_iload_n hx hb dX4_expandedFirst_129 rfl (lv_at hl 1 rfl) ?_
    refine lv_iload_n hx hb dX4_expandedFirst_130 rfl (lv_at hl 2 rfl) ?_
    have hPc := hP.sub (ws' := []) [] rfl
    have hDc := hD.sub (ws' := []) [] (by decide) rfl
    have hKc := hK.sub (tys' := []) [] rfl
    have hFc := va_free (wc := []) hD hS hA [] rfl
    refine va_calli (va_runS (As := [.int (((((v0 : Int32) >>> ((7 : Int32) &&& 31)) &&& 56) ||| (((v0 : Int32) >>> ((4 : Int32) &&& 31)) &&& 4)) ||| (((v0 : Int32) <<< ((1 : Int32) &&& 31)) &&& 64)), .int (8 + (((v0 : Int32) >>> ((7 : Int32) &&& 31)) &&& 7)), .int (8 + (((v0 : Int32) >>> ((2 : Int32) &&& 31)) &&& 7))]) (rest := []) ⟨hx, hb, hml, hown, hts⟩ (k_X4_loading_v1 l hlt dC dI (((((v0 : Int32) >>> ((7 : Int32) &&& 31)) &&& 56) ||| (((v0 : Int32) >>> ((4 : Int32) &&& 31)) &&& 4)) ||| (((v0 : Int32) <<< ((1 : Int32) &&& 31)) &&& 64)) (8 + (((v0 : Int32) >>> ((7 : Int32) &&& 31)) &&& 7)) (8 + (((v0 : Int32) >>> ((2 : Int32) &&& 31)) &&& 7))  s.heap.size) (cwS 3 hts gi_g_X4_expandedFirst_1 rfl rfl rfl (by decide +kernel) ⟨Nat.le_of_ble_eq_true rfl, Nat.le_of_ble_eq_true rfl⟩) ⟨fun a U g mk q => by obtain ⟨q0, q1, qP, qK, qD, qN⟩ := q; exact ⟨q0, q1, qP, va_K.moved (u := U) (U := U.calling g mk a) (Vm.Alike.refl U.vm) qK, qD, nv_same rfl rfl qN⟩, fun U hU hW => ⟨rfl, by rw [hU], by rw [hU]; exact hPc, va_K.moved hW.alike hKc, hDc.weaken (fun _ _ _ _ => trivial), nv_call hS hFc hU hW hN⟩⟩ rfl rfl hl.1 rfl (lv_room (Nat.le_of_ble_eq_true rfl)) dX4_expandedFirst_131 ⟨by decide +kernel, by decide +kernel⟩) hS (fun q _ h => hFc q h) hFc (fun r7 u t H1 locs ht hvm hw hB hz1 hk1 hS => ?_)
    obtain ⟨hP1, hK1, hD1⟩ := hB
    rw [ht] at hP1
    have hK1 := va_K.moved hvm.symm hK1
    obtain ⟨hP, hD⟩ := va_join (wr := []) (w1 := []) hP hD [] [] rfl rfl (by decide) (by decide) hk1 hFc hP1 hD1
    have hK := (hK.sub (tys' := []) [] rfl).app hK1
    generalize H1 = H at hP hS ⊢
    have hP : va_P (dC, dI) vwCl [] H := hP
    have hD : va_D A [] := hD
    have hK : va_K (dC, dI) vwCl [] s := hK
    refine W.widen (k := 0) (n := 0) (by decide +kernel) (by decide +kernel) ?_
    rcases hw with h9 | h9
    · subst h9
      refine W.widen (k := 0) (n := 0) (by decide +kernel) (by decide +kernel) ?_
      exact W.iret (v := (((((((((((v0 : Int32) >>> ((7 : Int32) &&& 31)) &&& 56) ||| (((v0 : Int32) >>> ((4 : Int32) &&& 31)) &&& 4)) ||| (((v0 : Int32) <<< ((1 : Int32) &&& 31)) &&& 64)) : Int32) <<< ((20 : Int32) &&& 31)) ||| (((8 + (((v0 : Int32) >>> ((7 : Int32) &&& 31)) &&& 7)) : Int32) <<< ((15 : Int32) &&& 31))) ||| 8192) ||| (((8 + (((v0 : Int32) >>> ((2 : Int32) &&& 31)) &&& 7)) : Int32) <<< ((7 : Int32) &&& 31))) ||| 3)) hx hb hr (fun t ht hW => ⟨⟨(((((((((((v0 : Int32) >>> ((7 : Int32) &&& 31)) &&& 56) ||| (((v0 : Int32) >>> ((4 : Int32) &&& 31)) &&& 4)) ||| (((v0 : Int32) <<< ((1 : Int32) &&& 31)) &&& 64)) : Int32) <<< ((20 : Int32) &&& 31)) ||| (((8 + (((v0 : Int32) >>> ((7 : Int32) &&& 31)) &&& 7)) : Int32) <<< ((15 : Int32) &&& 31))) ||| 8192) ||| (((8 + (((v0 : Int32) >>> ((2 : Int32) &&& 31)) &&& 7)) : Int32) <<< ((7 : Int32) &&& 31))) ||| 3), (), rfl, Or.inr (Or.inr (Or.inl ⟨c_1, c_4, rfl⟩)), by rw [ht]; exact hP, va_K.moved hW.alike hK, hD⟩, hS.F ht⟩) hS.2.2 dX4_expandedFirst_134
    · exact h9.elim
  by_cases c_6 : ((v0 : Int32) >>> ((13 : Int32) &&& 31)) = 6
  · refine lv_lookup (off := 89) (tgt := 135) hx hb dX4_expandedFirst_46 (by decide) (by rw [c_6]; decide) (by decide) ?_
    refine lv_iload_n hx hb dX4_expandedFirst_135 rfl (lv_at hl 0 rfl) ?_
    refine lv_iload_n hx hb dX4_expandedFirst_136 rfl (lv_at hl 1 rfl) ?_
    refine lv_iload_n hx hb dX4_expandedFirst_137 rfl (lv_at hl 2 rfl) ?_
    have hPc := hP.sub (ws' := []) [] rfl
    have hDc := hD.sub (ws' := []) [] (by decide) rfl
    have hKc := hK.sub (tys' := []) [] rfl
    have hFc := va_free (wc := []) hD hS hA [] rfl
    refine va_calli (va_runS (As := [.int (((((v0 : Int32) >>> ((7 : Int32) &&& 31)) &&& 56) ||| (((v0 : Int32) >>> ((4 : Int32) &&& 31)) &&& 4)) ||| (((v0 : Int32) <<< ((1 : Int32) &&& 31)) &&& 64)), .int (8 + (((v0 : Int32) >>> ((7 : Int32) &&& 31)) &&& 7)), .int (8 + (((v0 : Int32) >>> ((2 : Int32) &&& 31)) &&& 7))]) (rest := []) ⟨hx, hb, hml, hown, hts⟩ (k_X4_storing_v1 l hlt dC dI (((((v0 : Int32) >>> ((7 : Int32) &&& 31)) &&& 56) ||| (((v0 : Int32) >>> ((4 : Int32) &&& 31)) &&& 4)) ||| (((v0 : Int32) <<< ((1 : Int32) &&& 31)) &&& 64)) (8 + (((v0 : Int32) >>> ((7 : Int32) &&& 31)) &&& 7)) (8 + (((v0 : Int32) >>> ((2 : Int32) &&& 31)) &&& 7))  s.heap.size) (cwS 3 hts gi_g_X4_expandedFirst_2 rfl rfl rfl (by decide +kernel) ⟨Nat.le_of_ble_eq_true rfl, Nat.le_of_ble_eq_true rfl⟩) ⟨fun a U g mk q => by obtain ⟨q0, q1, qP, qK, qD, qN⟩ := q; exact ⟨q0, q1, qP, va_K.moved (u := U) (U := U.calling g mk a) (Vm.Alike.refl U.vm) qK, qD, nv_same rfl rfl qN⟩, fun U hU hW => ⟨rfl, by rw [hU], by rw [hU]; exact hPc, va_K.moved hW.alike hKc, hDc.weaken (fun _ _ _ _ => trivial), nv_call hS hFc hU hW hN⟩⟩ rfl rfl hl.1 rfl (lv_room (Nat.le_of_ble_eq_true rfl)) dX4_expandedFirst_138 ⟨by decide +kernel, by decide +kernel⟩) hS (fun q _ h => hFc q h) hFc (fun r11 u t H1 locs ht hvm hw hB hz1 hk1 hS => ?_)
    obtain ⟨hP1, hK1, hD1⟩ := hB
    rw [ht] at hP1
    have hK1 := va_K.moved hvm.symm hK1
    obtain ⟨hP, hD⟩ := va_join (wr := []) (w1 := []) hP hD [] [] rfl rfl (by decide) (by decide) hk1 hFc hP1 hD1
    have hK := (hK.sub (tys' := []) [] rfl).app hK1
    generalize H1 = H at hP hS ⊢
    have hP : va_P (dC, dI) vwCl [] H := hP
    have hD : va_D A [] := hD
    have hK : va_K (dC, dI) vwCl [] s := hK
    refine W.widen (k := 0) (n := 0) (by decide +kernel) (by decide +kernel) ?_
    rcases hw with h9 | h9
    · subst h9
      refine W.widen (k := 0) (n := 0) (by decide +kernel) (by decide +kernel) ?_
      exact W.iret (v := ((((((((((((((v0 : Int32) >>> ((7 : Int32) &&& 31)) &&& 56) ||| (((v0 : Int32) >>> ((4 : Int32) &&& 31)) &&& 4)) ||| (((v0 : Int32) <<< ((1 : Int32) &&& 31)) &&& 64)) : Int32) >>> ((5 : Int32) &&& 31)) : Int32) <<< ((25 : Int32) &&& 31)) ||| (((8 + (((v0 : Int32) >>> ((2 : Int32) &&& 31)) &&& 7)) : Int32) <<< ((20 : Int32) &&& 31))) ||| (((8 + (((v0 : Int32) >>> ((7 : Int32) &&& 31)) &&& 7)) : Int32) <<< ((15 : Int32) &&& 31))) ||| 8192) ||| ((((((((v0 : Int32) >>> ((7 : Int32) &&& 31)) &&& 56) ||| (((v0 : Int32) >>> ((4 : Int32) &&& 31)) &&& 4)) ||| (((v0 : Int32) <<< ((1 : Int32) &&& 31)) &&& 64)) &&& 31) : Int32) <<< ((7 : Int32) &&& 31))) ||| 35)) hx hb hr (fun t ht hW => ⟨⟨((((((((((((((v0 : Int32) >>> ((7 : Int32) &&& 31)) &&& 56) ||| (((v0 : Int32) >>> ((4 : Int32) &&& 31)) &&& 4)) ||| (((v0 : Int32) <<< ((1 : Int32) &&& 31)) &&& 64)) : Int32) >>> ((5 : Int32) &&& 31)) : Int32) <<< ((25 : Int32) &&& 31)) ||| (((8 + (((v0 : Int32) >>> ((2 : Int32) &&& 31)) &&& 7)) : Int32) <<< ((20 : Int32) &&& 31))) ||| (((8 + (((v0 : Int32) >>> ((7 : Int32) &&& 31)) &&& 7)) : Int32) <<< ((15 : Int32) &&& 31))) ||| 8192) ||| ((((((((v0 : Int32) >>> ((7 : Int32) &&& 31)) &&& 56) ||| (((v0 : Int32) >>> ((4 : Int32) &&& 31)) &&& 4)) ||| (((v0 : Int32) <<< ((1 : Int32) &&& 31)) &&& 64)) &&& 31) : Int32) <<< ((7 : Int32) &&& 31))) ||| 35), (), rfl, Or.inr (Or.inr (Or.inr (Or.inl ⟨c_1, c_4, c_6, rfl⟩))), by rw [ht]; exact hP, va_K.moved hW.alike hK, hD⟩, hS.F ht⟩) hS.2.2 dX4_expandedFirst_141
    · exact h9.elim
  refine lv_lookup (off := 96) (tgt := 142) hx hb dX4_expandedFirst_46 (by decide) (show Op.lookupswitch.offset [(0, 34), (2, 82), (6, 89)] 96 (((v0 : Int32) >>> ((13 : Int32) &&& 31)) : Int32).toInt = 96 by rw [lv_osw c_1 (by decide), lv_osw c_4 (by decide), lv_osw c_6 (by decide)] <;> rfl) (by decide) ?_
  refine lv_iconst (v := 0) hx hb dX4_expandedFirst_142 (by decide) ?_
  refine W.widen (k := 0) (n := 0) (by decide +kernel) (by decide +kernel) ?_
  exact W.iret (v := 0) hx hb hr (fun t ht hW => ⟨⟨0, (), rfl, Or.inr (Or.inr (Or.inr (Or.inr (Or.inl ⟨c_1, c_4, c_6, rfl⟩)))), by rw [ht]; exact hP, va_K.moved hW.alike hK, hD⟩, hS.F ht⟩) hS.2.2 dX4_expandedFirst_143
def ow_k_X4_number_v4 : List Cond := .code yX4_number cX4_number 4 (some .int) :: ([] ++ [])
theorem gd_k_X4_number_v4 : ∀ w ∈ ow_k_X4_number_v4, (w.onTables && w.keeps) = true ∨ ∃ ty, w = Cond.arrayClass ty := List.forall_mem_cons.mpr ⟨good_of_word rfl, List.forall_mem_append.mpr ⟨fun w h => good_of_word (List.all_eq_true.mp (by decide +kernel) w h), fun _ h => nomatch h⟩⟩
set_option maxHeartbeats 40000000 in
set_option maxRecDepth 100000 in
theorem k_X4_number_v4 (l : Launch) (hlt : l.stackTraces = false) (dC : Nat → ClassId) (dI : Nat → Nat → Nat) (c0 : Int32) (c1 : Int32) (c2 : Int32) (sz : Nat) : Met l yX4_number ow_k_X4_number_v4 ({ frames := 0, cells := 0, slots := 0, locals := 0 }) (va_Pc [.int c0, .int c1, .int 0, .int c2] (fun U => U.heap.size = sz ∧ va_P (dC, dI) vwCl [] U.heap ∧ va_K (dC, dI) vwCl [] U ∧ va_D (fun _ => True) [] ∧ nv_E (va_A [] sz) U)) (va_Qi (fun r _ => (r = ((((((c0 : Int32) <<< ((20 : Int32) &&& 31)) ||| ((c1 : Int32) <<< ((15 : Int32) &&& 31))) ||| 0) ||| ((c2 : Int32) <<< ((7 : Int32) &&& 31))) ||| 19)) ∨ False) (fun (_ : Unit) t => va_P (dC, dI) vwCl [] t.heap ∧ va_K (dC, dI) vwCl [] t ∧ va_D (va_A [] sz) []) (va_A [] sz)) 0 0 (va_A [] sz) := by
  refine Met.ofW (cc := cX4_number) (maxL := 4) (ret := (some .int)) (by decide) rfl ?_
  intro p e s m args below meth c s₁ B hml hv
  obtain ⟨rfl, hsz, hP, hK, hD0, hN⟩ := hv
  have hx := B.exec
  have hb := B.bytes
  have hr := B.returns
  have hts := atoms_spec (ws := ow_k_X4_number_v4) B.pre
  have hown : s.vm.findClass RX4 = some m.cls := findClass_of_methodNamed B.named
  have hlocks := B.notSynchronized
  subst hsz
  have hD := hD0.self (sz := s.heap.size)
  generalize hAe : va_A [] s.heap.size = A at hD hN ⊢
  have hA : ∀ q : Nat, s.heap.size ≤ q → A q := fun q h => by rw [← hAe]; exact Or.inr h
  have hS : va_S A s.heap s.heap [] := va_S.rf
  have hl := lv_entry ([.int c0, .int c1, .int 0, .int c2]) (n := 4) (Nat.le_of_ble_eq_true rfl)
  rw [lg_entry_eq]
  generalize (lg_sl ([.int c0, .int c1, .int 0, .int c2]) ++ List.replicate (4 - (lg_sl ([.int c0, .int c1, .int 0, .int c2])).length) Slot.unset).toArray = ls at hl ⊢
  have hl : lv_has ls 4 [(0, .int c0), (1, .int c1), (2, .int 0), (3, .int c2)] := hl
  refine lv_iload_n hx hb dX4_number_0 rfl (lv_at hl 0 rfl) ?_
  refine lv_bipush (v := 20) hx hb dX4_number_1 (by decide) ?_
  refine lv_ishl hx hb dX4_number_3 ?_
  refine lv_iload_n hx hb dX4_number_4 rfl (lv_at hl 1 rfl) ?_
  refine lv_bipush (v := 15) hx hb dX4_number_5 (by decide) ?_
  refine lv_ishl hx hb dX4_number_7 ?_
  refine lv_ior hx hb dX4_number_8 ?_
  refine lv_iload_n hx hb dX4_number_9 rfl (lv_at hl 2 rfl) ?_
  refine lv_bipush (v := 12) hx hb dX4_number_10 (by decide) ?_
  refine lv_ishl hx hb dX4_number_12 ?_
  refine lv_topi (fun z1 ez1 => ?_)
  obtain rfl : z1 = 0 := ez1.trans (by decide)
  refine lv_ior hx hb dX4_number_13 ?_
  refine lv_iload_n hx hb dX4_number_14 rfl (lv_at hl 3 rfl) ?_
  refine lv_bipush (v := 7) hx hb dX4_number_15 (by decide) ?_
  refine lv_ishl hx hb dX4_number_17 ?_
  refine lv_ior hx hb dX4_number_18 ?_
  refine lv_bipush (v := 19) hx hb dX4_number_19 (by decide) ?_
  refine lv_ior hx hb dX4_number_21 ?_
  refine W.widen (k := 0) (n := 0) (by decide +kernel) (by decide +kernel) ?_
  exact W.iret (v := ((((((c0 : Int32) <<< ((20 : Int32) &&& 31)) ||| ((c1 : Int32) <<< ((15 : Int32) &&& 31))) ||| 0) ||| ((c2 : Int32) <<< ((7 : Int32) &&& 31))) ||| 19)) hx hb hr (fun t ht hW => ⟨⟨((((((c0 : Int32) <<< ((20 : Int32) &&& 31)) ||| ((c1 : Int32) <<< ((15 : Int32) &&& 31))) ||| 0) ||| ((c2 : Int32) <<< ((7 : Int32) &&& 31))) ||| 19), (), rfl, Or.inl rfl, by rw [ht]; exact hP, va_K.moved hW.alike hK, hD⟩, hS.F ht⟩) hS.2.2 dX4_number_22
def ow_k_X4_jumping : List Cond := .code yX4_jumping cX4_jumping 1 (some .int) :: ([.constant RX4 152 (-2147483648), .constant RX4 88 (1044480)] ++ [])
theorem gd_k_X4_jumping : ∀ w ∈ ow_k_X4_jumping, (w.onTables && w.keeps) = true ∨ ∃ ty, w = Cond.arrayClass ty := List.forall_mem_cons.mpr ⟨good_of_word rfl, List.forall_mem_append.mpr ⟨fun w h => good_of_word (List.all_eq_true.mp (by decide +kernel) w h), fun _ h => nomatch h⟩⟩
set_option maxHeartbeats 40000000 in
set_option maxRecDepth 100000 in
theorem k_X4_jumping (l : Launch) (hlt : l.stackTraces = false) (dC : Nat → ClassId) (dI : Nat → Nat → Nat) (c0 : Int32) (sz : Nat) : Met l yX4_jumping ow_k_X4_jumping ({ frames := 0, cells := 0, slots := 0, locals := 0 }) (va_Pc [.int c0] (fun U => U.heap.size = sz ∧ va_P (dC, dI) vwCl [] U.heap ∧ va_K (dC, dI) vwCl [] U ∧ va_D (fun _ => True) [] ∧ nv_E (va_A [] sz) U)) (va_Qi (fun r _ => (r = ((((c0 &&& (-2147483648)) ||| (((c0 &&& 2046) : Int32) <<< ((20 : Int32) &&& 31))) ||| (((c0 &&& 2048) : Int32) <<< ((9 : Int32) &&& 31))) ||| (c0 &&& 1044480))) ∨ False) (fun (_ : Unit) t => va_P (dC, dI) vwCl [] t.heap ∧ va_K (dC, dI) vwCl [] t ∧ va_D (va_A [] sz) []) (va_A [] sz)) 0 0 (va_A [] sz) := by
  refine Met.ofW (cc := cX4_jumping) (maxL := 1) (ret := (some .int)) (by decide) rfl ?_
  intro p e s m args below meth c s₁ B hml hv
  obtain ⟨rfl, hsz, hP, hK, hD0, hN⟩ := hv
  have hx := B.exec
  have hb := B.bytes
  have hr := B.returns
  have hts := atoms_spec (ws := ow_k_X4_jumping) B.pre
  have hown : s.vm.findClass RX4 = some m.cls := findClass_of_methodNamed B.named
  have hlocks := B.notSynchronized
  subst hsz
  have hD := hD0.self (sz := s.heap.size)
  generalize hAe : va_A [] s.heap.size = A at hD hN ⊢
  have hA : ∀ q : Nat, s.heap.size ≤ q → A q := fun q h => by rw [← hAe]; exact Or.inr h
  have hS : va_S A s.heap s.heap [] := va_S.rf
  have hl := lv_entry ([.int c0]) (n := 1) (Nat.le_of_ble_eq_true rfl)
  rw [lg_entry_eq]
  generalize (lg_sl ([.int c0]) ++ List.replicate (1 - (lg_sl ([.int c0])).length) Slot.unset).toArray = ls at hl ⊢
  have hl : lv_has ls 1 [(0, .int c0)] := hl
  refine lv_iload_n hx hb dX4_jumping_0 rfl (lv_at hl 0 rfl) ?_
  refine lv_ldc hx hb hown (hts (.constant RX4 152 (-2147483648)) (List.mem_of_getElem? (i := 1) rfl)) dX4_jumping_1 ?_
  refine lv_iand hx hb dX4_jumping_3 ?_
  refine lv_iload_n hx hb dX4_jumping_4 rfl (lv_at hl 0 rfl) ?_
  refine lv_sipush (v := 2046) hx hb dX4_jumping_5 (by decide) ?_
  refine lv_iand hx hb dX4_jumping_8 ?_
  refine lv_bipush (v := 20) hx hb dX4_jumping_9 (by decide) ?_
  refine lv_ishl hx hb dX4_jumping_11 ?_
  refine lv_ior hx hb dX4_jumping_12 ?_
  refine lv_iload_n hx hb dX4_jumping_13 rfl (lv_at hl 0 rfl) ?_
  refine lv_sipush (v := 2048) hx hb dX4_jumping_14 (by decide) ?_
  refine lv_iand hx hb dX4_jumping_17 ?_
  refine lv_bipush (v := 9) hx hb dX4_jumping_18 (by decide) ?_
  refine lv_ishl hx hb dX4_jumping_20 ?_
  refine lv_ior hx hb dX4_jumping_21 ?_
  refine lv_iload_n hx hb dX4_jumping_22 rfl (lv_at hl 0 rfl) ?_
  refine lv_ldc hx hb hown (hts (.constant RX4 88 (1044480)) (List.mem_of_getElem? (i := 2) rfl)) dX4_jumping_23 ?_
  refine lv_iand hx hb dX4_jumping_25 ?_
  refine lv_ior hx hb dX4_jumping_26 ?_
  refine W.widen (k := 0) (n := 0) (by decide +kernel) (by decide +kernel) ?_
  exact W.iret (v := ((((c0 &&& (-2147483648)) ||| (((c0 &&& 2046) : Int32) <<< ((20 : Int32) &&& 31))) ||| (((c0 &&& 2048) : Int32) <<< ((9 : Int32) &&& 31))) ||| (c0 &&& 1044480))) hx hb hr (fun t ht hW => ⟨⟨((((c0 &&& (-2147483648)) ||| (((c0 &&& 2046) : Int32) <<< ((20 : Int32) &&& 31))) ||| (((c0 &&& 2048) : Int32) <<< ((9 : Int32) &&& 31))) ||| (c0 &&& 1044480)), (), rfl, Or.inl rfl, by rw [ht]; exact hP, va_K.moved hW.alike hK, hD⟩, hS.F ht⟩) hS.2.2 dX4_jumping_27
def ow_k_X4_number_v5 : List Cond := .code yX4_number cX4_number 4 (some .int) :: ([] ++ [])
theorem gd_k_X4_number_v5 : ∀ w ∈ ow_k_X4_number_v5, (w.onTables && w.keeps) = true ∨ ∃ ty, w = Cond.arrayClass ty := List.forall_mem_cons.mpr ⟨good_of_word rfl, List.forall_mem_append.mpr ⟨fun w h => good_of_word (List.all_eq_true.mp (by decide +kernel) w h), fun _ h => nomatch h⟩⟩
set_option maxHeartbeats 40000000 in
set_option maxRecDepth 100000 in
theorem k_X4_number_v5 (l : Launch) (hlt : l.stackTraces = false) (dC : Nat → ClassId) (dI : Nat → Nat → Nat) (c0 : Int32) (c1 : Int32) (sz : Nat) : Met l yX4_number ow_k_X4_number_v5 ({ frames := 0, cells := 0, slots := 0, locals := 0 }) (va_Pc [.int c0, .int 0, .int 0, .int c1] (fun U => U.heap.size = sz ∧ va_P (dC, dI) vwCl [] U.heap ∧ va_K (dC, dI) vwCl [] U ∧ va_D (fun _ => True) [] ∧ nv_E (va_A [] sz) U)) (va_Qi (fun r _ => (r = ((((((c0 : Int32) <<< ((20 : Int32) &&& 31)) ||| 0) ||| 0) ||| ((c1 : Int32) <<< ((7 : Int32) &&& 31))) ||| 19)) ∨ False) (fun (_ : Unit) t => va_P (dC, dI) vwCl [] t.heap ∧ va_K (dC, dI) vwCl [] t ∧ va_D (va_A [] sz) []) (va_A [] sz)) 0 0 (va_A [] sz) := by
  refine Met.ofW (cc := cX4_number) (maxL := 4) (ret := (some .int)) (by decide) rfl ?_
  intro p e s m args below meth c s₁ B hml hv
  obtain ⟨rfl, hsz, hP, hK, hD0, hN⟩ := hv
  have hx := B.exec
  have hb := B.bytes
  have hr := B.returns
  have hts := atoms_spec (ws := ow_k_X4_number_v5) B.pre
  have hown : s.vm.findClass RX4 = some m.cls := findClass_of_methodNamed B.named
  have hlocks := B.notSynchronized
  subst hsz
  have hD := hD0.self (sz := s.heap.size)
  generalize hAe : va_A [] s.heap.size = A at hD hN ⊢
  have hA : ∀ q : Nat, s.heap.size ≤ q → A q := fun q h => by rw [← hAe]; exact Or.inr h
  have hS : va_S A s.heap s.heap [] := va_S.rf
  have hl := lv_entry ([.int c0, .int 0, .int 0, .int c1]) (n := 4) (Nat.le_of_ble_eq_true rfl)
  rw [lg_entry_eq]
  generalize (lg_sl ([.int c0, .int 0, .int 0, .int c1]) ++ List.replicate (4 - (lg_sl ([.int c0, .int 0, .int 0, .int c1])).length) Slot.unset).toArray = ls at hl ⊢
  have hl : lv_has ls 4 [(0, .int c0), (1, .int 0), (2, .int 0), (3, .int c1)] := hl
  refine lv_iload_n hx hb dX4_number_0 rfl (lv_at hl 0 rfl) ?_
  refine lv_bipush (v := 20) hx hb dX4_number_1 (by decide) ?_
  refine lv_ishl hx hb dX4_number_3 ?_
  refine lv_iload_n hx hb dX4_number_4 rfl (lv_at hl 1 rfl) ?_
  refine lv_bipush (v := 15) hx hb dX4_number_5 (by decide) ?_
  refine lv_ishl hx hb dX4_number_7 ?_
  refine lv_topi (fun z1 ez1 => ?_)
  obtain rfl : z1 = 0 := ez1.trans (by decide)
  refine lv_ior hx hb dX4_number_8 ?_
  refine lv_iload_n hx hb dX4_number_9 rfl (lv_at hl 2 rfl) ?_
  refine lv_bipush (v := 12) hx hb dX4_number_10 (by decide) ?_
  refine lv_ishl hx hb dX4_number_12 ?_
  refine lv_topi (fun z2 ez2 => ?_)
  obtain rfl : z2 = 0 := ez2.trans (by decide)
  refine lv_ior hx hb dX4_number_13 ?_
  refine lv_iload_n hx hb dX4_number_14 rfl (lv_at hl 3 rfl) ?_
  refine lv_bipush (v := 7) hx hb dX4_number_15 (by decide) ?_
  refine lv_ishl hx hb dX4_number_17 ?_
  refine lv_ior hx hb dX4_number_18 ?_
  refine lv_bipush (v := 19) hx hb dX4_number_19 (by decide) ?_
  refine lv_ior hx hb dX4_number_21 ?_
  refine W.widen (k := 0) (n := 0) (by decide +kernel) (by decide +kernel) ?_
  exact W.iret (v := ((((((c0 : Int32) <<< ((20 : Int32) &&& 31)) ||| 0) ||| 0) ||| ((c1 : Int32) <<< ((7 : Int32) &&& 31))) ||| 19)) hx hb hr (fun t ht hW => ⟨⟨((((((c0 : Int32) <<< ((20 : Int32) &&& 31)) ||| 0) ||| 0) ||| ((c1 : Int32) <<< ((7 : Int32) &&& 31))) ||| 19), (), rfl, Or.inl rfl, by rw [ht]; exact hP, va_K.moved hW.alike hK, hD⟩, hS.F ht⟩) hS.2.2 dX4_number_22
def ow_k_X4_number_v6 : List Cond := .code yX4_number cX4_number 4 (some .int) :: ([] ++ [])
theorem gd_k_X4_number_v6 : ∀ w ∈ ow_k_X4_number_v6, (w.onTables && w.keeps) = true ∨ ∃ ty, w = Cond.arrayClass ty := List.forall_mem_cons.mpr ⟨good_of_word rfl, List.forall_mem_append.mpr ⟨fun w h => good_of_word (List.all_eq_true.mp (by decide +kernel) w h), fun _ h => nomatch h⟩⟩
set_option maxHeartbeats 40000000 in
set_option maxRecDepth 100000 in
theorem k_X4_number_v6 (l : Launch) (hlt : l.stackTraces = false) (dC : Nat → ClassId) (dI : Nat → Nat → Nat) (c0 : Int32) (sz : Nat) : Met l yX4_number ow_k_X4_number_v6 ({ frames := 0, cells := 0, slots := 0, locals := 0 }) (va_Pc [.int c0, .int 2, .int 0, .int 2] (fun U => U.heap.size = sz ∧ va_P (dC, dI) vwCl [] U.heap ∧ va_K (dC, dI) vwCl [] U ∧ va_D (fun _ => True) [] ∧ nv_E (va_A [] sz) U)) (va_Qi (fun r _ => (r = ((((((c0 : Int32) <<< ((20 : Int32) &&& 31)) ||| 65536) ||| 0) ||| 256) ||| 19)) ∨ False) (fun (_ : Unit) t => va_P (dC, dI) vwCl [] t.heap ∧ va_K (dC, dI) vwCl [] t ∧ va_D (va_A [] sz) []) (va_A [] sz)) 0 0 (va_A [] sz) := by
  refine Met.ofW (cc := cX4_number) (maxL := 4) (ret := (some .int)) (by decide) rfl ?_
  intro p e s m args below meth c s₁ B hml hv
  obtain ⟨rfl, hsz, hP, hK, hD0, hN⟩ := hv
  have hx := B.exec
  have hb := B.bytes
  have hr := B.returns
  have hts := atoms_spec (ws := ow_k_X4_number_v6) B.pre
  have hown : s.vm.findClass RX4 = some m.cls := findClass_of_methodNamed B.named
  have hlocks := B.notSynchronized
  subst hsz
  have hD := hD0.self (sz := s.heap.size)
  generalize hAe : va_A [] s.heap.size = A at hD hN ⊢
  have hA : ∀ q : Nat, s.heap.size ≤ q → A q := fun q h => by rw [← hAe]; exact Or.inr h
  have hS : va_S A s.heap s.heap [] := va_S.rf
  have hl := lv_entry ([.int c0, .int 2, .int 0, .int 2]) (n := 4) (Nat.le_of_ble_eq_true rfl)
  rw [lg_entry_eq]
  generalize (lg_sl ([.int c0, .int 2, .int 0, .int 2]) ++ List.replicate (4 - (lg_sl ([.int c0, .int 2, .int 0, .int 2])).length) Slot.unset).toArray = ls at hl ⊢
  have hl : lv_has ls 4 [(0, .int c0), (1, .int 2), (2, .int 0), (3, .int 2)] := hl
  refine lv_iload_n hx hb dX4_number_0 rfl (lv_at hl 0 rfl) ?_
  refine lv_bipush (v := 20) hx hb dX4_number_1 (by decide) ?_
  refine lv_ishl hx hb dX4_number_3 ?_
  refine lv_iload_n hx hb dX4_number_4 rfl (lv_at hl 1 rfl) ?_
  refine lv_bipush (v := 15) hx hb dX4_number_5 (by decide) ?_
  refine lv_ishl hx hb dX4_number_7 ?_
  refine lv_topi (fun z1 ez1 => ?_)
  obtain rfl : z1 = 65536 := ez1.trans (by decide)
  refine lv_ior hx hb dX4_number_8 ?_
  refine lv_iload_n hx hb dX4_number_9 rfl (lv_at hl 2 rfl) ?_
  refine lv_bipush (v := 12) hx hb dX4_number_10 (by decide) ?_
  refine lv_ishl hx hb dX4_number_12 ?_
  refine lv_topi (fun z2 ez2 => ?_)
  obtain rfl : z2 = 0 := ez2.trans (by decide)
  refine lv_ior hx hb dX4_number_13 ?_
  refine lv_iload_n hx hb dX4_number_14 rfl (lv_at hl 3 rfl) ?_
  refine lv_bipush (v := 7) hx hb dX4_number_15 (by decide) ?_
  refine lv_ishl hx hb dX4_number_17 ?_
  refine lv_topi (fun z3 ez3 => ?_)
  obtain rfl : z3 = 256 := ez3.trans (by decide)
  refine lv_ior hx hb dX4_number_18 ?_
  refine lv_bipush (v := 19) hx hb dX4_number_19 (by decide) ?_
  refine lv_ior hx hb dX4_number_21 ?_
  refine W.widen (k := 0) (n := 0) (by decide +kernel) (by decide +kernel) ?_
  exact W.iret (v := ((((((c0 : Int32) <<< ((20 : Int32) &&& 31)) ||| 65536) ||| 0) ||| 256) ||| 19)) hx hb hr (fun t ht hW => ⟨⟨((((((c0 : Int32) <<< ((20 : Int32) &&& 31)) ||| 65536) ||| 0) ||| 256) ||| 19), (), rfl, Or.inl rfl, by rw [ht]; exact hP, va_K.moved hW.alike hK, hD⟩, hS.F ht⟩) hS.2.2 dX4_number_22
def ow_k_X4_branching : List Cond := .code yX4_branching cX4_branching 1 (some .int) :: ([.constant RX4 152 (-2147483648)] ++ [])
theorem gd_k_X4_branching : ∀ w ∈ ow_k_X4_branching, (w.onTables && w.keeps) = true ∨ ∃ ty, w = Cond.arrayClass ty := List.forall_mem_cons.mpr ⟨good_of_word rfl, List.forall_mem_append.mpr ⟨fun w h => good_of_word (List.all_eq_true.mp (by decide +kernel) w h), fun _ h => nomatch h⟩⟩
set_option maxHeartbeats 40000000 in
set_option maxRecDepth 100000 in
theorem k_X4_branching (l : Launch) (hlt : l.stackTraces = false) (dC : Nat → ClassId) (dI : Nat → Nat → Nat) (c0 : Int32) (sz : Nat) : Met l yX4_branching ow_k_X4_branching ({ frames := 0, cells := 0, slots := 0, locals := 0 }) (va_Pc [.int c0] (fun U => U.heap.size = sz ∧ va_P (dC, dI) vwCl [] U.heap ∧ va_K (dC, dI) vwCl [] U ∧ va_D (fun _ => True) [] ∧ nv_E (va_A [] sz) U)) (va_Qi (fun r _ => (r = ((((c0 &&& (-2147483648)) ||| (((c0 &&& 2016) : Int32) <<< ((20 : Int32) &&& 31))) ||| (((c0 &&& 30) : Int32) <<< ((7 : Int32) &&& 31))) ||| (((c0 &&& 2048) : Int32) >>> ((4 : Int32) &&& 31)))) ∨ False) (fun (_ : Unit) t => va_P (dC, dI) vwCl [] t.heap ∧ va_K (dC, dI) vwCl [] t ∧ va_D (va_A [] sz) []) (va_A [] sz)) 0 0 (va_A [] sz) := by
  refine Met.ofW (cc := cX4_branching) (maxL := 1) (ret := (some .int)) (by decide) rfl ?_
  intro p e s m args below meth c s₁ B hml hv
  obtain ⟨rfl, hsz, hP, hK, hD0, hN⟩ := hv
  have hx := B.exec
  have hb := B.bytes
  have hr := B.returns
  have hts := atoms_spec (ws := ow_k_X4_branching) B.pre
  have hown : s.vm.findClass RX4 = some m.cls := findClass_of_methodNamed B.named
  have hlocks := B.notSynchronized
  subst hsz
  have hD := hD0.self (sz := s.heap.size)
  generalize hAe : va_A [] s.heap.size = A at hD hN ⊢
  have hA : ∀ q : Nat, s.heap.size ≤ q → A q := fun q h => by rw [← hAe]; exact Or.inr h
  have hS : va_S A s.heap s.heap [] := va_S.rf
  have hl := lv_entry ([.int c0]) (n := 1) (Nat.le_of_ble_eq_true rfl)
  rw [lg_entry_eq]
  generalize (lg_sl ([.int c0]) ++ List.replicate (1 - (lg_sl ([.int c0])).length) Slot.unset).toArray = ls at hl ⊢
  have hl : lv_has ls 1 [(0, .int c0)] := hl
  refine lv_iload_n hx hb dX4_branching_0 rfl (lv_at hl 0 rfl) ?_
  refine lv_ldc hx hb hown (hts (.constant RX4 152 (-2147483648)) (List.mem_of_getElem? (i := 1) rfl)) dX4_branching_1 ?_
  refine lv_iand hx hb dX4_branching_3 ?_
  refine lv_iload_n hx hb dX4_branching_4 rfl (lv_at hl 0 rfl) ?_
  refine lv_sipush (v := 2016) hx hb dX4_branching_5 (by decide) ?_
  refine lv_iand hx hb dX4_branching_8 ?_
  refine lv_bipush (v := 20) hx hb dX4_branching_9 (by decide) ?_
  refine lv_ishl hx hb dX4_branching_11 ?_
  refine lv_ior hx hb dX4_branching_12 ?_
  refine lv_iload_n hx hb dX4_branching_13 rfl (lv_at hl 0 rfl) ?_
  refine lv_bipush (v := 30) hx hb dX4_branching_14 (by decide) ?_
  refine lv_iand hx hb dX4_branching_16 ?_
  refine lv_bipush (v := 7) hx hb dX4_branching_17 (by decide) ?_
  refine lv_ishl hx hb dX4_branching_19 ?_
  refine lv_ior hx hb dX4_branching_20 ?_
  refine lv_iload_n hx hb dX4_branching_21 rfl (lv_at hl 0 rfl) ?_
  refine lv_sipush (v := 2048) hx hb dX4_branching_22 (by decide) ?_
  refine lv_iand hx hb dX4_branching_25 ?_
  refine lv_iconst (v := 4) hx hb dX4_branching_26 (by decide) ?_
  refine lv_ishr hx hb dX4_branching_27 ?_
  refine lv_ior hx hb dX4_branching_28 ?_
  refine W.widen (k := 0) (n := 0) (by decide +kernel) (by decide +kernel) ?_
  exact W.iret (v := ((((c0 &&& (-2147483648)) ||| (((c0 &&& 2016) : Int32) <<< ((20 : Int32) &&& 31))) ||| (((c0 &&& 30) : Int32) <<< ((7 : Int32) &&& 31))) ||| (((c0 &&& 2048) : Int32) >>> ((4 : Int32) &&& 31)))) hx hb hr (fun t ht hW => ⟨⟨((((c0 &&& (-2147483648)) ||| (((c0 &&& 2016) : Int32) <<< ((20 : Int32) &&& 31))) ||| (((c0 &&& 30) : Int32) <<< ((7 : Int32) &&& 31))) ||| (((c0 &&& 2048) : Int32) >>> ((4 : Int32) &&& 31))), (), rfl, Or.inl rfl, by rw [ht]; exact hP, va_K.moved hW.alike hK, hD⟩, hS.F ht⟩) hS.2.2 dX4_branching_29
def ow_g_X4_expandedSecond : List Cond := .code yX4_expandedSecond cX4_expandedSecond 6 (some .int) :: ([.methodLink RX4 162 yX4_signedNumber, .static yX4_signedNumber, .initialized RX4, .methodLink RX4 153 yX4_number, .static yX4_number, .methodLink RX4 165 yX4_jumping, .static yX4_jumping, .methodLink RX4 168 yX4_branching, .static yX4_branching] ++ (ow_k_X4_signedNumber ++ (ow_k_X4_number_v4 ++ (ow_k_X4_jumping ++ (ow_k_X4_number_v5 ++ (ow_k_X4_number_v6 ++ (ow_k_X4_branching ++ [])))))))
theorem gd_g_X4_expandedSecond : ∀ w ∈ ow_g_X4_expandedSecond, (w.onTables && w.keeps) = true ∨ ∃ ty, w = Cond.arrayClass ty := List.forall_mem_cons.mpr ⟨good_of_word rfl, List.forall_mem_append.mpr ⟨fun w h => good_of_word (List.all_eq_true.mp (by decide +kernel) w h), List.forall_mem_append.mpr ⟨gd_k_X4_signedNumber, List.forall_mem_append.mpr ⟨gd_k_X4_number_v4, List.forall_mem_append.mpr ⟨gd_k_X4_jumping, List.forall_mem_append.mpr ⟨gd_k_X4_number_v5, List.forall_mem_append.mpr ⟨gd_k_X4_number_v6, List.forall_mem_append.mpr ⟨gd_k_X4_branching, fun _ h => nomatch h⟩⟩⟩⟩⟩⟩⟩⟩
theorem gi_g_X4_expandedSecond_0 : GoodIn ow_g_X4_expandedSecond (wsS RX4 162 yX4_signedNumber ow_k_X4_signedNumber) := goodIn_app (goodIn_of _ (by decide +kernel)) (fun w h => ⟨List.mem_cons_of_mem _ (List.mem_append_right _ (List.mem_append_left _ h)), gd_k_X4_signedNumber w h⟩)
theorem gi_g_X4_expandedSecond_1 : GoodIn ow_g_X4_expandedSecond (wsS RX4 153 yX4_number ow_k_X4_number_v4) := goodIn_app (goodIn_of _ (by decide +kernel)) (fun w h => ⟨List.mem_cons_of_mem _ (List.mem_append_right _ (List.mem_append_right _ (List.mem_append_left _ h))), gd_k_X4_number_v4 w h⟩)
theorem gi_g_X4_expandedSecond_2 : GoodIn ow_g_X4_expandedSecond (wsS RX4 165 yX4_jumping ow_k_X4_jumping) := goodIn_app (goodIn_of _ (by decide +kernel)) (fun w h => ⟨List.mem_cons_of_mem _ (List.mem_append_right _ (List.mem_append_right _ (List.mem_append_right _ (List.mem_append_left _ h)))), gd_k_X4_jumping w h⟩)
theorem gi_g_X4_expandedSecond_3 : GoodIn ow_g_X4_expandedSecond (wsS RX4 153 yX4_number ow_k_X4_number_v5) := goodIn_app (goodIn_of _ (by decide +kernel)) (fun w h => ⟨List.mem_cons_of_mem _ (List.mem_append_right _ (List.mem_append_right _ (List.mem_append_right _ (List.mem_append_right _ (List.mem_append_left _ h))))), gd_k_X4_number_v5 w h⟩)
theorem gi_g_X4_expandedSecond_4 : GoodIn ow_g_X4_expandedSecond (wsS RX4 153 yX4_number ow_k_X4_number_v6) := goodIn_app (goodIn_of _ (by decide +kernel)) (fun w h => ⟨List.mem_cons_of_mem _ (List.mem_append_right _ (List.mem_append_right _ (List.mem_append_right _ (List.mem_append_right _ (List.mem_append_right _ (List.mem_append_left _ h)))))), gd_k_X4_number_v6 w h⟩)
theorem gi_g_X4_expandedSecond_5 : GoodIn ow_g_X4_expandedSecond (wsS RX4 168 yX4_branching ow_k_X4_branching) := goodIn_app (goodIn_of _ (by decide +kernel)) (fun w h => ⟨List.mem_cons_of_mem _ (List.mem_append_right _ (List.mem_append_right _ (List.mem_append_right _ (List.mem_append_right _ (List.mem_append_right _ (List.mem_append_right _ (List.mem_append_left _ h))))))), gd_k_X4_branching w h⟩)
