theorem oc_44 (v : Int32) : oper 44 v = [44, 32] := by show strL 7 = _; decide +kernel
theorem oc_40 (v : Int32) : oper 40 v = [40] := by show strL 8 = _; decide +kernel
theorem oc_41 (v : Int32) : oper 41 v = [41] := by show strL 9 = _; decide +kernel
theorem st_12 : strL 12 = [] ∧ strL 13 = [46] ∧ strL 14 = [46, 43] ∧ strL 4 = [46, 97, 113] ∧ strL 5 = [46, 114, 108] ∧ strL 6 = [46, 97, 113, 114, 108] := by decide +kernel
theorem on_1 {c : Nat} (v : Int32) (h1 : ¬ c < 65) (h2 : ¬ 97 ≤ c) (h3 : ¬ (c = 84 ∨ c = 74 ∨ c = 75 ∨ c = 76)) : oper c v = decI v := by
  unfold oper
  rw [if_neg h1, if_neg h2, if_neg h3, st_12.1, List.nil_append]
theorem ot_1 {c : Nat} (v : Int32) (h1 : ¬ c < 65) (h2 : ¬ 97 ≤ c) (h3 : c = 84 ∨ c = 74 ∨ c = 75 ∨ c = 76) : oper c v = tgL v := by
  unfold oper tgL
  rw [if_neg h1, if_neg h2, if_pos h3, st_12.2.1, st_12.2.2.1]
theorem or_1 {c r : Nat} {v : Int32} (h1 : ¬ c < 65) (h2 : 97 ≤ c) (e : v = nI r) (hr : r < 32) : oper c v = regL r := by
  unfold oper
  rw [if_neg h1, if_pos h2, e, nI_clamp (by omega)]
theorem pf_1 {w : Int32} {N Bv k m : Nat} (hw : w &&& nI N = nI Bv) (hk : k + m ≤ 32) (hN : N / 2 ^ k % 2 ^ m = 2 ^ m - 1) (hm : 0 < m) : fpt w k m = nI (Bv / 2 ^ k % 2 ^ m) := by
  apply gb_ext
  intro i hi
  rw [gb_fpt (by omega) hi, gb_n hi, Nat.testBit_mod_two_pow, Nat.testBit_div_two_pow]
  by_cases c : i < m
  · rw [decide_eq_true c, Bool.and_true, Bool.true_and]
    have h1 : gb (w &&& nI N) (k + i) = gb (nI Bv) (k + i) := congrArg (fun y => gb y (k + i)) hw
    rw [gb_and, gb_n (by omega), gb_n (by omega)] at h1
    have h2 : N.testBit (k + i) = true := by
      have h3 := congrArg (fun y => Nat.testBit y i) hN
      have h3 : (N / 2 ^ k % 2 ^ m).testBit i = (2 ^ m - 1).testBit i := h3
      rw [Nat.testBit_mod_two_pow, Nat.testBit_div_two_pow, tbq_1, decide_eq_true c, Bool.true_and, Nat.add_comm] at h3
      exact h3
    rw [h2, Bool.and_true] at h1
    rw [h1, Nat.add_comm]
  · rw [decide_eq_false c, Bool.and_false, Bool.false_and]
theorem nw_25196 {n : Nat} {B : St} {L : List Nat} {k l : Nat} {w d a b f : Int32} (hn : 10 < n) (hB : L.length + 2 ≤ 64) : df_X18_name n 25196 (RS B L k l w d a b f) = some (RS B (L ++ [108, 98]) 0 1 w d a b f) := nm_S (by decide +kernel) hn hB
theorem sw_25196 {n : Nat} {B : St} {L : List Nat} {k l : Nat} {w d a b f : Int32} (hn : 10 < n) (hB : L.length + 2 ≤ 64) : df_X18_say n 25196 (RS B L k l w d a b f) = some (RS B (L ++ [108, 98]) k l w d a b f) := sy_S (by decide +kernel) hn hB
theorem nw_25203 {n : Nat} {B : St} {L : List Nat} {k l : Nat} {w d a b f : Int32} (hn : 10 < n) (hB : L.length + 2 ≤ 64) : df_X18_name n 25203 (RS B L k l w d a b f) = some (RS B (L ++ [115, 98]) 0 1 w d a b f) := nm_S (by decide +kernel) hn hB
theorem sw_25203 {n : Nat} {B : St} {L : List Nat} {k l : Nat} {w d a b f : Int32} (hn : 10 < n) (hB : L.length + 2 ≤ 64) : df_X18_say n 25203 (RS B L k l w d a b f) = some (RS B (L ++ [115, 98]) k l w d a b f) := sy_S (by decide +kernel) hn hB
theorem nw_25459 {n : Nat} {B : St} {L : List Nat} {k l : Nat} {w d a b f : Int32} (hn : 10 < n) (hB : L.length + 2 ≤ 64) : df_X18_name n 25459 (RS B L k l w d a b f) = some (RS B (L ++ [115, 99]) 0 1 w d a b f) := nm_S (by decide +kernel) hn hB
theorem sw_25459 {n : Nat} {B : St} {L : List Nat} {k l : Nat} {w d a b f : Int32} (hn : 10 < n) (hB : L.length + 2 ≤ 64) : df_X18_say n 25459 (RS B L k l w d a b f) = some (RS B (L ++ [115, 99]) k l w d a b f) := sy_S (by decide +kernel) hn hB
theorem nw_25714 {n : Nat} {B : St} {L : List Nat} {k l : Nat} {w d a b f : Int32} (hn : 10 < n) (hB : L.length + 2 ≤ 64) : df_X18_name n 25714 (RS B L k l w d a b f) = some (RS B (L ++ [114, 100]) 0 1 w d a b f) := nm_S (by decide +kernel) hn hB
theorem sw_25714 {n : Nat} {B : St} {L : List Nat} {k l : Nat} {w d a b f : Int32} (hn : 10 < n) (hB : L.length + 2 ≤ 64) : df_X18_say n 25714 (RS B L k l w d a b f) = some (RS B (L ++ [114, 100]) k l w d a b f) := sy_S (by decide +kernel) hn hB
theorem nw_26732 {n : Nat} {B : St} {L : List Nat} {k l : Nat} {w d a b f : Int32} (hn : 10 < n) (hB : L.length + 2 ≤ 64) : df_X18_name n 26732 (RS B L k l w d a b f) = some (RS B (L ++ [108, 104]) 0 1 w d a b f) := nm_S (by decide +kernel) hn hB
theorem sw_26732 {n : Nat} {B : St} {L : List Nat} {k l : Nat} {w d a b f : Int32} (hn : 10 < n) (hB : L.length + 2 ≤ 64) : df_X18_say n 26732 (RS B L k l w d a b f) = some (RS B (L ++ [108, 104]) k l w d a b f) := sy_S (by decide +kernel) hn hB
theorem nw_26739 {n : Nat} {B : St} {L : List Nat} {k l : Nat} {w d a b f : Int32} (hn : 10 < n) (hB : L.length + 2 ≤ 64) : df_X18_name n 26739 (RS B L k l w d a b f) = some (RS B (L ++ [115, 104]) 0 1 w d a b f) := nm_S (by decide +kernel) hn hB
theorem sw_26739 {n : Nat} {B : St} {L : List Nat} {k l : Nat} {w d a b f : Int32} (hn : 10 < n) (hB : L.length + 2 ≤ 64) : df_X18_say n 26739 (RS B L k l w d a b f) = some (RS B (L ++ [115, 104]) k l w d a b f) := sy_S (by decide +kernel) hn hB
theorem nw_28272 {n : Nat} {B : St} {L : List Nat} {k l : Nat} {w d a b f : Int32} (hn : 10 < n) (hB : L.length + 2 ≤ 64) : df_X18_name n 28272 (RS B L k l w d a b f) = some (RS B (L ++ [112, 110]) 0 1 w d a b f) := nm_S (by decide +kernel) hn hB
theorem sw_28272 {n : Nat} {B : St} {L : List Nat} {k l : Nat} {w d a b f : Int32} (hn : 10 < n) (hB : L.length + 2 ≤ 64) : df_X18_say n 28272 (RS B L k l w d a b f) = some (RS B (L ++ [112, 110]) k l w d a b f) := sy_S (by decide +kernel) hn hB
theorem nw_28787 {n : Nat} {B : St} {L : List Nat} {k l : Nat} {w d a b f : Int32} (hn : 10 < n) (hB : L.length + 2 ≤ 64) : df_X18_name n 28787 (RS B L k l w d a b f) = some (RS B (L ++ [115, 112]) 0 1 w d a b f) := nm_S (by decide +kernel) hn hB
theorem sw_28787 {n : Nat} {B : St} {L : List Nat} {k l : Nat} {w d a b f : Int32} (hn : 10 < n) (hB : L.length + 2 ≤ 64) : df_X18_say n 28787 (RS B L k l w d a b f) = some (RS B (L ++ [115, 112]) k l w d a b f) := sy_S (by decide +kernel) hn hB
theorem nw_29292 {n : Nat} {B : St} {L : List Nat} {k l : Nat} {w d a b f : Int32} (hn : 10 < n) (hB : L.length + 2 ≤ 64) : df_X18_name n 29292 (RS B L k l w d a b f) = some (RS B (L ++ [108, 114]) 0 1 w d a b f) := nm_S (by decide +kernel) hn hB
theorem sw_29292 {n : Nat} {B : St} {L : List Nat} {k l : Nat} {w d a b f : Int32} (hn : 10 < n) (hB : L.length + 2 ≤ 64) : df_X18_say n 29292 (RS B L k l w d a b f) = some (RS B (L ++ [108, 114]) k l w d a b f) := sy_S (by decide +kernel) hn hB
theorem nw_29295 {n : Nat} {B : St} {L : List Nat} {k l : Nat} {w d a b f : Int32} (hn : 10 < n) (hB : L.length + 2 ≤ 64) : df_X18_name n 29295 (RS B L k l w d a b f) = some (RS B (L ++ [111, 114]) 0 1 w d a b f) := nm_S (by decide +kernel) hn hB
theorem sw_29295 {n : Nat} {B : St} {L : List Nat} {k l : Nat} {w d a b f : Int32} (hn : 10 < n) (hB : L.length + 2 ≤ 64) : df_X18_say n 29295 (RS B L k l w d a b f) = some (RS B (L ++ [111, 114]) k l w d a b f) := sy_S (by decide +kernel) hn hB
theorem nw_30510 {n : Nat} {B : St} {L : List Nat} {k l : Nat} {w d a b f : Int32} (hn : 10 < n) (hB : L.length + 2 ≤ 64) : df_X18_name n 30510 (RS B L k l w d a b f) = some (RS B (L ++ [46, 119]) 0 1 w d a b f) := nm_S (by decide +kernel) hn hB
theorem sw_30510 {n : Nat} {B : St} {L : List Nat} {k l : Nat} {w d a b f : Int32} (hn : 10 < n) (hB : L.length + 2 ≤ 64) : df_X18_say n 30510 (RS B L k l w d a b f) = some (RS B (L ++ [46, 119]) k l w d a b f) := sy_S (by decide +kernel) hn hB
theorem nw_30572 {n : Nat} {B : St} {L : List Nat} {k l : Nat} {w d a b f : Int32} (hn : 10 < n) (hB : L.length + 2 ≤ 64) : df_X18_name n 30572 (RS B L k l w d a b f) = some (RS B (L ++ [108, 119]) 0 1 w d a b f) := nm_S (by decide +kernel) hn hB
theorem sw_30572 {n : Nat} {B : St} {L : List Nat} {k l : Nat} {w d a b f : Int32} (hn : 10 < n) (hB : L.length + 2 ≤ 64) : df_X18_say n 30572 (RS B L k l w d a b f) = some (RS B (L ++ [108, 119]) k l w d a b f) := sy_S (by decide +kernel) hn hB
theorem nw_30579 {n : Nat} {B : St} {L : List Nat} {k l : Nat} {w d a b f : Int32} (hn : 10 < n) (hB : L.length + 2 ≤ 64) : df_X18_name n 30579 (RS B L k l w d a b f) = some (RS B (L ++ [115, 119]) 0 1 w d a b f) := nm_S (by decide +kernel) hn hB
theorem sw_30579 {n : Nat} {B : St} {L : List Nat} {k l : Nat} {w d a b f : Int32} (hn : 10 < n) (hB : L.length + 2 ≤ 64) : df_X18_say n 30579 (RS B L k l w d a b f) = some (RS B (L ++ [115, 119]) k l w d a b f) := sy_S (by decide +kernel) hn hB
theorem nw_6386291 {n : Nat} {B : St} {L : List Nat} {k l : Nat} {w d a b f : Int32} (hn : 10 < n) (hB : L.length + 3 ≤ 64) : df_X18_name n 6386291 (RS B L k l w d a b f) = some (RS B (L ++ [115, 114, 97]) 0 1 w d a b f) := nm_S (by decide +kernel) hn hB
theorem sw_6386291 {n : Nat} {B : St} {L : List Nat} {k l : Nat} {w d a b f : Int32} (hn : 10 < n) (hB : L.length + 3 ≤ 64) : df_X18_say n 6386291 (RS B L k l w d a b f) = some (RS B (L ++ [115, 114, 97]) k l w d a b f) := sy_S (by decide +kernel) hn hB
theorem nw_6452595 {n : Nat} {B : St} {L : List Nat} {k l : Nat} {w d a b f : Int32} (hn : 10 < n) (hB : L.length + 3 ≤ 64) : df_X18_name n 6452595 (RS B L k l w d a b f) = some (RS B (L ++ [115, 117, 98]) 0 1 w d a b f) := nm_S (by decide +kernel) hn hB
theorem sw_6452595 {n : Nat} {B : St} {L : List Nat} {k l : Nat} {w d a b f : Int32} (hn : 10 < n) (hB : L.length + 3 ≤ 64) : df_X18_say n 6452595 (RS B L k l w d a b f) = some (RS B (L ++ [115, 117, 98]) k l w d a b f) := sy_S (by decide +kernel) hn hB
theorem nw_6579297 {n : Nat} {B : St} {L : List Nat} {k l : Nat} {w d a b f : Int32} (hn : 10 < n) (hB : L.length + 3 ≤ 64) : df_X18_name n 6579297 (RS B L k l w d a b f) = some (RS B (L ++ [97, 100, 100]) 0 1 w d a b f) := nm_S (by decide +kernel) hn hB
theorem sw_6579297 {n : Nat} {B : St} {L : List Nat} {k l : Nat} {w d a b f : Int32} (hn : 10 < n) (hB : L.length + 3 ≤ 64) : df_X18_say n 6579297 (RS B L k l w d a b f) = some (RS B (L ++ [97, 100, 100]) k l w d a b f) := sy_S (by decide +kernel) hn hB
theorem nw_6581857 {n : Nat} {B : St} {L : List Nat} {k l : Nat} {w d a b f : Int32} (hn : 10 < n) (hB : L.length + 3 ≤ 64) : df_X18_name n 6581857 (RS B L k l w d a b f) = some (RS B (L ++ [97, 110, 100]) 0 1 w d a b f) := nm_S (by decide +kernel) hn hB
theorem sw_6581857 {n : Nat} {B : St} {L : List Nat} {k l : Nat} {w d a b f : Int32} (hn : 10 < n) (hB : L.length + 3 ≤ 64) : df_X18_say n 6581857 (RS B L k l w d a b f) = some (RS B (L ++ [97, 110, 100]) k l w d a b f) := sy_S (by decide +kernel) hn hB
theorem nw_6645602 {n : Nat} {B : St} {L : List Nat} {k l : Nat} {w d a b f : Int32} (hn : 10 < n) (hB : L.length + 3 ≤ 64) : df_X18_name n 6645602 (RS B L k l w d a b f) = some (RS B (L ++ [98, 103, 101]) 0 1 w d a b f) := nm_S (by decide +kernel) hn hB
theorem sw_6645602 {n : Nat} {B : St} {L : List Nat} {k l : Nat} {w d a b f : Int32} (hn : 10 < n) (hB : L.length + 3 ≤ 64) : df_X18_say n 6645602 (RS B L k l w d a b f) = some (RS B (L ++ [98, 103, 101]) k l w d a b f) := sy_S (by decide +kernel) hn hB
theorem nw_6647394 {n : Nat} {B : St} {L : List Nat} {k l : Nat} {w d a b f : Int32} (hn : 10 < n) (hB : L.length + 3 ≤ 64) : df_X18_name n 6647394 (RS B L k l w d a b f) = some (RS B (L ++ [98, 110, 101]) 0 1 w d a b f) := nm_S (by decide +kernel) hn hB
theorem sw_6647394 {n : Nat} {B : St} {L : List Nat} {k l : Nat} {w d a b f : Int32} (hn : 10 < n) (hB : L.length + 3 ≤ 64) : df_X18_say n 6647394 (RS B L k l w d a b f) = some (RS B (L ++ [98, 110, 101]) k l w d a b f) := sy_S (by decide +kernel) hn hB
theorem nw_6910575 {n : Nat} {B : St} {L : List Nat} {k l : Nat} {w d a b f : Int32} (hn : 10 < n) (hB : L.length + 3 ≤ 64) : df_X18_name n 6910575 (RS B L k l w d a b f) = some (RS B (L ++ [111, 114, 105]) 0 1 w d a b f) := nm_S (by decide +kernel) hn hB
theorem sw_6910575 {n : Nat} {B : St} {L : List Nat} {k l : Nat} {w d a b f : Int32} (hn : 10 < n) (hB : L.length + 3 ≤ 64) : df_X18_say n 6910575 (RS B L k l w d a b f) = some (RS B (L ++ [111, 114, 105]) k l w d a b f) := sy_S (by decide +kernel) hn hB
theorem nw_6911340 {n : Nat} {B : St} {L : List Nat} {k l : Nat} {w d a b f : Int32} (hn : 10 < n) (hB : L.length + 3 ≤ 64) : df_X18_name n 6911340 (RS B L k l w d a b f) = some (RS B (L ++ [108, 117, 105]) 0 1 w d a b f) := nm_S (by decide +kernel) hn hB
theorem sw_6911340 {n : Nat} {B : St} {L : List Nat} {k l : Nat} {w d a b f : Int32} (hn : 10 < n) (hB : L.length + 3 ≤ 64) : df_X18_say n 6911340 (RS B L k l w d a b f) = some (RS B (L ++ [108, 117, 105]) k l w d a b f) := sy_S (by decide +kernel) hn hB
theorem nw_6958691 {n : Nat} {B : St} {L : List Nat} {k l : Nat} {w d a b f : Int32} (hn : 10 < n) (hB : L.length + 3 ≤ 64) : df_X18_name n 6958691 (RS B L k l w d a b f) = some (RS B (L ++ [99, 46, 106]) 0 1 w d a b f) := nm_S (by decide +kernel) hn hB
theorem sw_6958691 {n : Nat} {B : St} {L : List Nat} {k l : Nat} {w d a b f : Int32} (hn : 10 < n) (hB : L.length + 3 ≤ 64) : df_X18_say n 6958691 (RS B L k l w d a b f) = some (RS B (L ++ [99, 46, 106]) k l w d a b f) := sy_S (by decide +kernel) hn hB
theorem nw_7102826 {n : Nat} {B : St} {L : List Nat} {k l : Nat} {w d a b f : Int32} (hn : 10 < n) (hB : L.length + 3 ≤ 64) : df_X18_name n 7102826 (RS B L k l w d a b f) = some (RS B (L ++ [106, 97, 108]) 0 1 w d a b f) := nm_S (by decide +kernel) hn hB
theorem sw_7102826 {n : Nat} {B : St} {L : List Nat} {k l : Nat} {w d a b f : Int32} (hn : 10 < n) (hB : L.length + 3 ≤ 64) : df_X18_say n 7102826 (RS B L k l w d a b f) = some (RS B (L ++ [106, 97, 108]) k l w d a b f) := sy_S (by decide +kernel) hn hB
theorem nw_7105651 {n : Nat} {B : St} {L : List Nat} {k l : Nat} {w d a b f : Int32} (hn : 10 < n) (hB : L.length + 3 ≤ 64) : df_X18_name n 7105651 (RS B L k l w d a b f) = some (RS B (L ++ [115, 108, 108]) 0 1 w d a b f) := nm_S (by decide +kernel) hn hB
theorem sw_7105651 {n : Nat} {B : St} {L : List Nat} {k l : Nat} {w d a b f : Int32} (hn : 10 < n) (hB : L.length + 3 ≤ 64) : df_X18_say n 7105651 (RS B L k l w d a b f) = some (RS B (L ++ [115, 108, 108]) k l w d a b f) := sy_S (by decide +kernel) hn hB
theorem nw_7107118 {n : Nat} {B : St} {L : List Nat} {k l : Nat} {w d a b f : Int32} (hn : 10 < n) (hB : L.length + 3 ≤ 64) : df_X18_name n 7107118 (RS B L k l w d a b f) = some (RS B (L ++ [46, 114, 108]) 0 1 w d a b f) := nm_S (by decide +kernel) hn hB
theorem sw_7107118 {n : Nat} {B : St} {L : List Nat} {k l : Nat} {w d a b f : Int32} (hn : 10 < n) (hB : L.length + 3 ≤ 64) : df_X18_say n 7107118 (RS B L k l w d a b f) = some (RS B (L ++ [46, 114, 108]) k l w d a b f) := sy_S (by decide +kernel) hn hB
theorem nw_7107187 {n : Nat} {B : St} {L : List Nat} {k l : Nat} {w d a b f : Int32} (hn : 10 < n) (hB : L.length + 3 ≤ 64) : df_X18_name n 7107187 (RS B L k l w d a b f) = some (RS B (L ++ [115, 114, 108]) 0 1 w d a b f) := nm_S (by decide +kernel) hn hB
theorem sw_7107187 {n : Nat} {B : St} {L : List Nat} {k l : Nat} {w d a b f : Int32} (hn : 10 < n) (hB : L.length + 3 ≤ 64) : df_X18_say n 7107187 (RS B L k l w d a b f) = some (RS B (L ++ [115, 114, 108]) k l w d a b f) := sy_S (by decide +kernel) hn hB
theorem nw_7107949 {n : Nat} {B : St} {L : List Nat} {k l : Nat} {w d a b f : Int32} (hn : 10 < n) (hB : L.length + 3 ≤ 64) : df_X18_name n 7107949 (RS B L k l w d a b f) = some (RS B (L ++ [109, 117, 108]) 0 1 w d a b f) := nm_S (by decide +kernel) hn hB
theorem sw_7107949 {n : Nat} {B : St} {L : List Nat} {k l : Nat} {w d a b f : Int32} (hn : 10 < n) (hB : L.length + 3 ≤ 64) : df_X18_say n 7107949 (RS B L k l w d a b f) = some (RS B (L ++ [109, 117, 108]) k l w d a b f) := sy_S (by decide +kernel) hn hB
theorem nw_7169394 {n : Nat} {B : St} {L : List Nat} {k l : Nat} {w d a b f : Int32} (hn : 10 < n) (hB : L.length + 3 ≤ 64) : df_X18_name n 7169394 (RS B L k l w d a b f) = some (RS B (L ++ [114, 101, 109]) 0 1 w d a b f) := nm_S (by decide +kernel) hn hB
theorem sw_7169394 {n : Nat} {B : St} {L : List Nat} {k l : Nat} {w d a b f : Int32} (hn : 10 < n) (hB : L.length + 3 ≤ 64) : df_X18_say n 7169394 (RS B L k l w d a b f) = some (RS B (L ++ [114, 101, 109]) k l w d a b f) := sy_S (by decide +kernel) hn hB
theorem nw_7235949 {n : Nat} {B : St} {L : List Nat} {k l : Nat} {w d a b f : Int32} (hn : 10 < n) (hB : L.length + 3 ≤ 64) : df_X18_name n 7235949 (RS B L k l w d a b f) = some (RS B (L ++ [109, 105, 110]) 0 1 w d a b f) := nm_S (by decide +kernel) hn hB
theorem sw_7235949 {n : Nat} {B : St} {L : List Nat} {k l : Nat} {w d a b f : Int32} (hn : 10 < n) (hB : L.length + 3 ≤ 64) : df_X18_say n 7235949 (RS B L k l w d a b f) = some (RS B (L ++ [109, 105, 110]) k l w d a b f) := sy_S (by decide +kernel) hn hB
theorem nw_7302497 {n : Nat} {B : St} {L : List Nat} {k l : Nat} {w d a b f : Int32} (hn : 10 < n) (hB : L.length + 3 ≤ 64) : df_X18_name n 7302497 (RS B L k l w d a b f) = some (RS B (L ++ [97, 109, 111]) 0 1 w d a b f) := nm_S (by decide +kernel) hn hB
theorem sw_7302497 {n : Nat} {B : St} {L : List Nat} {k l : Nat} {w d a b f : Int32} (hn : 10 < n) (hB : L.length + 3 ≤ 64) : df_X18_say n 7302497 (RS B L k l w d a b f) = some (RS B (L ++ [97, 109, 111]) k l w d a b f) := sy_S (by decide +kernel) hn hB
theorem nw_7430446 {n : Nat} {B : St} {L : List Nat} {k l : Nat} {w d a b f : Int32} (hn : 10 < n) (hB : L.length + 3 ≤ 64) : df_X18_name n 7430446 (RS B L k l w d a b f) = some (RS B (L ++ [46, 97, 113]) 0 1 w d a b f) := nm_S (by decide +kernel) hn hB
theorem sw_7430446 {n : Nat} {B : St} {L : List Nat} {k l : Nat} {w d a b f : Int32} (hn : 10 < n) (hB : L.length + 3 ≤ 64) : df_X18_say n 7430446 (RS B L k l w d a b f) = some (RS B (L ++ [46, 97, 113]) k l w d a b f) := sy_S (by decide +kernel) hn hB
theorem nw_7431522 {n : Nat} {B : St} {L : List Nat} {k l : Nat} {w d a b f : Int32} (hn : 10 < n) (hB : L.length + 3 ≤ 64) : df_X18_name n 7431522 (RS B L k l w d a b f) = some (RS B (L ++ [98, 101, 113]) 0 1 w d a b f) := nm_S (by decide +kernel) hn hB
theorem sw_7431522 {n : Nat} {B : St} {L : List Nat} {k l : Nat} {w d a b f : Int32} (hn : 10 < n) (hB : L.length + 3 ≤ 64) : df_X18_say n 7431522 (RS B L k l w d a b f) = some (RS B (L ++ [98, 101, 113]) k l w d a b f) := sy_S (by decide +kernel) hn hB
theorem nw_7499640 {n : Nat} {B : St} {L : List Nat} {k l : Nat} {w d a b f : Int32} (hn : 10 < n) (hB : L.length + 3 ≤ 64) : df_X18_name n 7499640 (RS B L k l w d a b f) = some (RS B (L ++ [120, 111, 114]) 0 1 w d a b f) := nm_S (by decide +kernel) hn hB
theorem sw_7499640 {n : Nat} {B : St} {L : List Nat} {k l : Nat} {w d a b f : Int32} (hn : 10 < n) (hB : L.length + 3 ≤ 64) : df_X18_say n 7499640 (RS B L k l w d a b f) = some (RS B (L ++ [120, 111, 114]) k l w d a b f) := sy_S (by decide +kernel) hn hB
theorem nw_7629922 {n : Nat} {B : St} {L : List Nat} {k l : Nat} {w d a b f : Int32} (hn : 10 < n) (hB : L.length + 3 ≤ 64) : df_X18_name n 7629922 (RS B L k l w d a b f) = some (RS B (L ++ [98, 108, 116]) 0 1 w d a b f) := nm_S (by decide +kernel) hn hB
theorem sw_7629922 {n : Nat} {B : St} {L : List Nat} {k l : Nat} {w d a b f : Int32} (hn : 10 < n) (hB : L.length + 3 ≤ 64) : df_X18_say n 7629922 (RS B L k l w d a b f) = some (RS B (L ++ [98, 108, 116]) k l w d a b f) := sy_S (by decide +kernel) hn hB
theorem nw_7629939 {n : Nat} {B : St} {L : List Nat} {k l : Nat} {w d a b f : Int32} (hn : 10 < n) (hB : L.length + 3 ≤ 64) : df_X18_name n 7629939 (RS B L k l w d a b f) = some (RS B (L ++ [115, 108, 116]) 0 1 w d a b f) := nm_S (by decide +kernel) hn hB
theorem sw_7629939 {n : Nat} {B : St} {L : List Nat} {k l : Nat} {w d a b f : Int32} (hn : 10 < n) (hB : L.length + 3 ≤ 64) : df_X18_say n 7629939 (RS B L k l w d a b f) = some (RS B (L ++ [115, 108, 116]) k l w d a b f) := sy_S (by decide +kernel) hn hB
theorem nw_7692908 {n : Nat} {B : St} {L : List Nat} {k l : Nat} {w d a b f : Int32} (hn : 10 < n) (hB : L.length + 3 ≤ 64) : df_X18_name n 7692908 (RS B L k l w d a b f) = some (RS B (L ++ [108, 98, 117]) 0 1 w d a b f) := nm_S (by decide +kernel) hn hB
theorem sw_7692908 {n : Nat} {B : St} {L : List Nat} {k l : Nat} {w d a b f : Int32} (hn : 10 < n) (hB : L.length + 3 ≤ 64) : df_X18_say n 7692908 (RS B L k l w d a b f) = some (RS B (L ++ [108, 98, 117]) k l w d a b f) := sy_S (by decide +kernel) hn hB
theorem nw_7694444 {n : Nat} {B : St} {L : List Nat} {k l : Nat} {w d a b f : Int32} (hn : 10 < n) (hB : L.length + 3 ≤ 64) : df_X18_name n 7694444 (RS B L k l w d a b f) = some (RS B (L ++ [108, 104, 117]) 0 1 w d a b f) := nm_S (by decide +kernel) hn hB
theorem sw_7694444 {n : Nat} {B : St} {L : List Nat} {k l : Nat} {w d a b f : Int32} (hn : 10 < n) (hB : L.length + 3 ≤ 64) : df_X18_say n 7694444 (RS B L k l w d a b f) = some (RS B (L ++ [108, 104, 117]) k l w d a b f) := sy_S (by decide +kernel) hn hB
theorem nw_7760228 {n : Nat} {B : St} {L : List Nat} {k l : Nat} {w d a b f : Int32} (hn : 10 < n) (hB : L.length + 3 ≤ 64) : df_X18_name n 7760228 (RS B L k l w d a b f) = some (RS B (L ++ [100, 105, 118]) 0 1 w d a b f) := nm_S (by decide +kernel) hn hB
theorem sw_7760228 {n : Nat} {B : St} {L : List Nat} {k l : Nat} {w d a b f : Int32} (hn : 10 < n) (hB : L.length + 3 ≤ 64) : df_X18_say n 7760228 (RS B L k l w d a b f) = some (RS B (L ++ [100, 105, 118]) k l w d a b f) := sy_S (by decide +kernel) hn hB
theorem nw_7889261 {n : Nat} {B : St} {L : List Nat} {k l : Nat} {w d a b f : Int32} (hn : 10 < n) (hB : L.length + 3 ≤ 64) : df_X18_name n 7889261 (RS B L k l w d a b f) = some (RS B (L ++ [109, 97, 120]) 0 1 w d a b f) := nm_S (by decide +kernel) hn hB
theorem sw_7889261 {n : Nat} {B : St} {L : List Nat} {k l : Nat} {w d a b f : Int32} (hn : 10 < n) (hB : L.length + 3 ≤ 64) : df_X18_say n 7889261 (RS B L k l w d a b f) = some (RS B (L ++ [109, 97, 120]) k l w d a b f) := sy_S (by decide +kernel) hn hB
theorem nw_1701669236 {n : Nat} {B : St} {L : List Nat} {k l : Nat} {w d a b f : Int32} (hn : 10 < n) (hB : L.length + 4 ≤ 64) : df_X18_name n 1701669236 (RS B L k l w d a b f) = some (RS B (L ++ [116, 105, 109, 101]) 0 1 w d a b f) := nm_S (by decide +kernel) hn hB
theorem sw_1701669236 {n : Nat} {B : St} {L : List Nat} {k l : Nat} {w d a b f : Int32} (hn : 10 < n) (hB : L.length + 4 ≤ 64) : df_X18_say n 1701669236 (RS B L k l w d a b f) = some (RS B (L ++ [116, 105, 109, 101]) k l w d a b f) := sy_S (by decide +kernel) hn hB
theorem nw_1751938413 {n : Nat} {B : St} {L : List Nat} {k l : Nat} {w d a b f : Int32} (hn : 10 < n) (hB : L.length + 4 ≤ 64) : df_X18_name n 1751938413 (RS B L k l w d a b f) = some (RS B (L ++ [109, 117, 108, 104]) 0 1 w d a b f) := nm_S (by decide +kernel) hn hB
theorem sw_1751938413 {n : Nat} {B : St} {L : List Nat} {k l : Nat} {w d a b f : Int32} (hn : 10 < n) (hB : L.length + 4 ≤ 64) : df_X18_say n 1751938413 (RS B L k l w d a b f) = some (RS B (L ++ [109, 117, 108, 104]) k l w d a b f) := sy_S (by decide +kernel) hn hB
theorem nw_1767993971 {n : Nat} {B : St} {L : List Nat} {k l : Nat} {w d a b f : Int32} (hn : 10 < n) (hB : L.length + 4 ≤ 64) : df_X18_name n 1767993971 (RS B L k l w d a b f) = some (RS B (L ++ [115, 114, 97, 105]) 0 1 w d a b f) := nm_S (by decide +kernel) hn hB
theorem sw_1767993971 {n : Nat} {B : St} {L : List Nat} {k l : Nat} {w d a b f : Int32} (hn : 10 < n) (hB : L.length + 4 ≤ 64) : df_X18_say n 1767993971 (RS B L k l w d a b f) = some (RS B (L ++ [115, 114, 97, 105]) k l w d a b f) := sy_S (by decide +kernel) hn hB
theorem nw_1768186977 {n : Nat} {B : St} {L : List Nat} {k l : Nat} {w d a b f : Int32} (hn : 10 < n) (hB : L.length + 4 ≤ 64) : df_X18_name n 1768186977 (RS B L k l w d a b f) = some (RS B (L ++ [97, 100, 100, 105]) 0 1 w d a b f) := nm_S (by decide +kernel) hn hB
theorem sw_1768186977 {n : Nat} {B : St} {L : List Nat} {k l : Nat} {w d a b f : Int32} (hn : 10 < n) (hB : L.length + 4 ≤ 64) : df_X18_say n 1768186977 (RS B L k l w d a b f) = some (RS B (L ++ [97, 100, 100, 105]) k l w d a b f) := sy_S (by decide +kernel) hn hB
theorem nw_1768189537 {n : Nat} {B : St} {L : List Nat} {k l : Nat} {w d a b f : Int32} (hn : 10 < n) (hB : L.length + 4 ≤ 64) : df_X18_name n 1768189537 (RS B L k l w d a b f) = some (RS B (L ++ [97, 110, 100, 105]) 0 1 w d a b f) := nm_S (by decide +kernel) hn hB
theorem sw_1768189537 {n : Nat} {B : St} {L : List Nat} {k l : Nat} {w d a b f : Int32} (hn : 10 < n) (hB : L.length + 4 ≤ 64) : df_X18_say n 1768189537 (RS B L k l w d a b f) = some (RS B (L ++ [97, 110, 100, 105]) k l w d a b f) := sy_S (by decide +kernel) hn hB
theorem nw_1768697443 {n : Nat} {B : St} {L : List Nat} {k l : Nat} {w d a b f : Int32} (hn : 10 < n) (hB : L.length + 4 ≤ 64) : df_X18_name n 1768697443 (RS B L k l w d a b f) = some (RS B (L ++ [99, 46, 108, 105]) 0 1 w d a b f) := nm_S (by decide +kernel) hn hB
theorem sw_1768697443 {n : Nat} {B : St} {L : List Nat} {k l : Nat} {w d a b f : Int32} (hn : 10 < n) (hB : L.length + 4 ≤ 64) : df_X18_say n 1768697443 (RS B L k l w d a b f) = some (RS B (L ++ [99, 46, 108, 105]) k l w d a b f) := sy_S (by decide +kernel) hn hB
theorem nw_1768713331 {n : Nat} {B : St} {L : List Nat} {k l : Nat} {w d a b f : Int32} (hn : 10 < n) (hB : L.length + 4 ≤ 64) : df_X18_name n 1768713331 (RS B L k l w d a b f) = some (RS B (L ++ [115, 108, 108, 105]) 0 1 w d a b f) := nm_S (by decide +kernel) hn hB
theorem sw_1768713331 {n : Nat} {B : St} {L : List Nat} {k l : Nat} {w d a b f : Int32} (hn : 10 < n) (hB : L.length + 4 ≤ 64) : df_X18_say n 1768713331 (RS B L k l w d a b f) = some (RS B (L ++ [115, 108, 108, 105]) k l w d a b f) := sy_S (by decide +kernel) hn hB
theorem nw_1768714867 {n : Nat} {B : St} {L : List Nat} {k l : Nat} {w d a b f : Int32} (hn : 10 < n) (hB : L.length + 4 ≤ 64) : df_X18_name n 1768714867 (RS B L k l w d a b f) = some (RS B (L ++ [115, 114, 108, 105]) 0 1 w d a b f) := nm_S (by decide +kernel) hn hB
theorem sw_1768714867 {n : Nat} {B : St} {L : List Nat} {k l : Nat} {w d a b f : Int32} (hn : 10 < n) (hB : L.length + 4 ≤ 64) : df_X18_say n 1768714867 (RS B L k l w d a b f) = some (RS B (L ++ [115, 114, 108, 105]) k l w d a b f) := sy_S (by decide +kernel) hn hB
theorem nw_1769107320 {n : Nat} {B : St} {L : List Nat} {k l : Nat} {w d a b f : Int32} (hn : 10 < n) (hB : L.length + 4 ≤ 64) : df_X18_name n 1769107320 (RS B L k l w d a b f) = some (RS B (L ++ [120, 111, 114, 105]) 0 1 w d a b f) := nm_S (by decide +kernel) hn hB
theorem sw_1769107320 {n : Nat} {B : St} {L : List Nat} {k l : Nat} {w d a b f : Int32} (hn : 10 < n) (hB : L.length + 4 ≤ 64) : df_X18_say n 1769107320 (RS B L k l w d a b f) = some (RS B (L ++ [120, 111, 114, 105]) k l w d a b f) := sy_S (by decide +kernel) hn hB
theorem nw_1769237619 {n : Nat} {B : St} {L : List Nat} {k l : Nat} {w d a b f : Int32} (hn : 10 < n) (hB : L.length + 4 ≤ 64) : df_X18_name n 1769237619 (RS B L k l w d a b f) = some (RS B (L ++ [115, 108, 116, 105]) 0 1 w d a b f) := nm_S (by decide +kernel) hn hB
theorem sw_1769237619 {n : Nat} {B : St} {L : List Nat} {k l : Nat} {w d a b f : Int32} (hn : 10 < n) (hB : L.length + 4 ≤ 64) : df_X18_say n 1769237619 (RS B L k l w d a b f) = some (RS B (L ++ [115, 108, 116, 105]) k l w d a b f) := sy_S (by decide +kernel) hn hB
theorem nw_1885435763 {n : Nat} {B : St} {L : List Nat} {k l : Nat} {w d a b f : Int32} (hn : 10 < n) (hB : L.length + 4 ≤ 64) : df_X18_name n 1885435763 (RS B L k l w d a b f) = some (RS B (L ++ [115, 119, 97, 112]) 0 1 w d a b f) := nm_S (by decide +kernel) hn hB
theorem sw_1885435763 {n : Nat} {B : St} {L : List Nat} {k l : Nat} {w d a b f : Int32} (hn : 10 < n) (hB : L.length + 4 ≤ 64) : df_X18_say n 1885435763 (RS B L k l w d a b f) = some (RS B (L ++ [115, 119, 97, 112]) k l w d a b f) := sy_S (by decide +kernel) hn hB
theorem nw_1919561315 {n : Nat} {B : St} {L : List Nat} {k l : Nat} {w d a b f : Int32} (hn : 10 < n) (hB : L.length + 4 ≤ 64) : df_X18_name n 1919561315 (RS B L k l w d a b f) = some (RS B (L ++ [99, 46, 106, 114]) 0 1 w d a b f) := nm_S (by decide +kernel) hn hB
theorem sw_1919561315 {n : Nat} {B : St} {L : List Nat} {k l : Nat} {w d a b f : Int32} (hn : 10 < n) (hB : L.length + 4 ≤ 64) : df_X18_say n 1919561315 (RS B L k l w d a b f) = some (RS B (L ++ [99, 46, 106, 114]) k l w d a b f) := sy_S (by decide +kernel) hn hB
theorem nw_1919705450 {n : Nat} {B : St} {L : List Nat} {k l : Nat} {w d a b f : Int32} (hn : 10 < n) (hB : L.length + 4 ≤ 64) : df_X18_name n 1919705450 (RS B L k l w d a b f) = some (RS B (L ++ [106, 97, 108, 114]) 0 1 w d a b f) := nm_S (by decide +kernel) hn hB
theorem sw_1919705450 {n : Nat} {B : St} {L : List Nat} {k l : Nat} {w d a b f : Int32} (hn : 10 < n) (hB : L.length + 4 ≤ 64) : df_X18_say n 1919705450 (RS B L k l w d a b f) = some (RS B (L ++ [106, 97, 108, 114]) k l w d a b f) := sy_S (by decide +kernel) hn hB
theorem nw_1919888995 {n : Nat} {B : St} {L : List Nat} {k l : Nat} {w d a b f : Int32} (hn : 10 < n) (hB : L.length + 4 ≤ 64) : df_X18_name n 1919888995 (RS B L k l w d a b f) = some (RS B (L ++ [99, 46, 111, 114]) 0 1 w d a b f) := nm_S (by decide +kernel) hn hB
theorem sw_1919888995 {n : Nat} {B : St} {L : List Nat} {k l : Nat} {w d a b f : Int32} (hn : 10 < n) (hB : L.length + 4 ≤ 64) : df_X18_say n 1919888995 (RS B L k l w d a b f) = some (RS B (L ++ [99, 46, 111, 114]) k l w d a b f) := sy_S (by decide +kernel) hn hB
theorem nw_1969579874 {n : Nat} {B : St} {L : List Nat} {k l : Nat} {w d a b f : Int32} (hn : 10 < n) (hB : L.length + 4 ≤ 64) : df_X18_name n 1969579874 (RS B L k l w d a b f) = some (RS B (L ++ [98, 103, 101, 117]) 0 1 w d a b f) := nm_S (by decide +kernel) hn hB
theorem sw_1969579874 {n : Nat} {B : St} {L : List Nat} {k l : Nat} {w d a b f : Int32} (hn : 10 < n) (hB : L.length + 4 ≤ 64) : df_X18_say n 1969579874 (RS B L k l w d a b f) = some (RS B (L ++ [98, 103, 101, 117]) k l w d a b f) := sy_S (by decide +kernel) hn hB
theorem nw_1970103666 {n : Nat} {B : St} {L : List Nat} {k l : Nat} {w d a b f : Int32} (hn : 10 < n) (hB : L.length + 4 ≤ 64) : df_X18_name n 1970103666 (RS B L k l w d a b f) = some (RS B (L ++ [114, 101, 109, 117]) 0 1 w d a b f) := nm_S (by decide +kernel) hn hB
theorem sw_1970103666 {n : Nat} {B : St} {L : List Nat} {k l : Nat} {w d a b f : Int32} (hn : 10 < n) (hB : L.length + 4 ≤ 64) : df_X18_say n 1970103666 (RS B L k l w d a b f) = some (RS B (L ++ [114, 101, 109, 117]) k l w d a b f) := sy_S (by decide +kernel) hn hB
theorem nw_1970170221 {n : Nat} {B : St} {L : List Nat} {k l : Nat} {w d a b f : Int32} (hn : 10 < n) (hB : L.length + 4 ≤ 64) : df_X18_name n 1970170221 (RS B L k l w d a b f) = some (RS B (L ++ [109, 105, 110, 117]) 0 1 w d a b f) := nm_S (by decide +kernel) hn hB
theorem sw_1970170221 {n : Nat} {B : St} {L : List Nat} {k l : Nat} {w d a b f : Int32} (hn : 10 < n) (hB : L.length + 4 ≤ 64) : df_X18_say n 1970170221 (RS B L k l w d a b f) = some (RS B (L ++ [109, 105, 110, 117]) k l w d a b f) := sy_S (by decide +kernel) hn hB
theorem nw_1970564194 {n : Nat} {B : St} {L : List Nat} {k l : Nat} {w d a b f : Int32} (hn : 10 < n) (hB : L.length + 4 ≤ 64) : df_X18_name n 1970564194 (RS B L k l w d a b f) = some (RS B (L ++ [98, 108, 116, 117]) 0 1 w d a b f) := nm_S (by decide +kernel) hn hB
theorem sw_1970564194 {n : Nat} {B : St} {L : List Nat} {k l : Nat} {w d a b f : Int32} (hn : 10 < n) (hB : L.length + 4 ≤ 64) : df_X18_say n 1970564194 (RS B L k l w d a b f) = some (RS B (L ++ [98, 108, 116, 117]) k l w d a b f) := sy_S (by decide +kernel) hn hB
theorem nw_1970564211 {n : Nat} {B : St} {L : List Nat} {k l : Nat} {w d a b f : Int32} (hn : 10 < n) (hB : L.length + 4 ≤ 64) : df_X18_name n 1970564211 (RS B L k l w d a b f) = some (RS B (L ++ [115, 108, 116, 117]) 0 1 w d a b f) := nm_S (by decide +kernel) hn hB
theorem sw_1970564211 {n : Nat} {B : St} {L : List Nat} {k l : Nat} {w d a b f : Int32} (hn : 10 < n) (hB : L.length + 4 ≤ 64) : df_X18_say n 1970564211 (RS B L k l w d a b f) = some (RS B (L ++ [115, 108, 116, 117]) k l w d a b f) := sy_S (by decide +kernel) hn hB
theorem nw_1970694500 {n : Nat} {B : St} {L : List Nat} {k l : Nat} {w d a b f : Int32} (hn : 10 < n) (hB : L.length + 4 ≤ 64) : df_X18_name n 1970694500 (RS B L k l w d a b f) = some (RS B (L ++ [100, 105, 118, 117]) 0 1 w d a b f) := nm_S (by decide +kernel) hn hB
theorem sw_1970694500 {n : Nat} {B : St} {L : List Nat} {k l : Nat} {w d a b f : Int32} (hn : 10 < n) (hB : L.length + 4 ≤ 64) : df_X18_say n 1970694500 (RS B L k l w d a b f) = some (RS B (L ++ [100, 105, 118, 117]) k l w d a b f) := sy_S (by decide +kernel) hn hB
theorem nw_1970823533 {n : Nat} {B : St} {L : List Nat} {k l : Nat} {w d a b f : Int32} (hn : 10 < n) (hB : L.length + 4 ≤ 64) : df_X18_name n 1970823533 (RS B L k l w d a b f) = some (RS B (L ++ [109, 97, 120, 117]) 0 1 w d a b f) := nm_S (by decide +kernel) hn hB
theorem sw_1970823533 {n : Nat} {B : St} {L : List Nat} {k l : Nat} {w d a b f : Int32} (hn : 10 < n) (hB : L.length + 4 ≤ 64) : df_X18_say n 1970823533 (RS B L k l w d a b f) = some (RS B (L ++ [109, 97, 120, 117]) k l w d a b f) := sy_S (by decide +kernel) hn hB
theorem nw_1986866787 {n : Nat} {B : St} {L : List Nat} {k l : Nat} {w d a b f : Int32} (hn : 10 < n) (hB : L.length + 4 ≤ 64) : df_X18_name n 1986866787 (RS B L k l w d a b f) = some (RS B (L ++ [99, 46, 109, 118]) 0 1 w d a b f) := nm_S (by decide +kernel) hn hB
theorem sw_1986866787 {n : Nat} {B : St} {L : List Nat} {k l : Nat} {w d a b f : Int32} (hn : 10 < n) (hB : L.length + 4 ≤ 64) : df_X18_say n 1986866787 (RS B L k l w d a b f) = some (RS B (L ++ [99, 46, 109, 118]) k l w d a b f) := sy_S (by decide +kernel) hn hB
theorem nw_2003578467 {n : Nat} {B : St} {L : List Nat} {k l : Nat} {w d a b f : Int32} (hn : 10 < n) (hB : L.length + 4 ≤ 64) : df_X18_name n 2003578467 (RS B L k l w d a b f) = some (RS B (L ++ [99, 46, 108, 119]) 0 1 w d a b f) := nm_S (by decide +kernel) hn hB
theorem sw_2003578467 {n : Nat} {B : St} {L : List Nat} {k l : Nat} {w d a b f : Int32} (hn : 10 < n) (hB : L.length + 4 ≤ 64) : df_X18_say n 2003578467 (RS B L k l w d a b f) = some (RS B (L ++ [99, 46, 108, 119]) k l w d a b f) := sy_S (by decide +kernel) hn hB
theorem nw_2004037219 {n : Nat} {B : St} {L : List Nat} {k l : Nat} {w d a b f : Int32} (hn : 10 < n) (hB : L.length + 4 ≤ 64) : df_X18_name n 2004037219 (RS B L k l w d a b f) = some (RS B (L ++ [99, 46, 115, 119]) 0 1 w d a b f) := nm_S (by decide +kernel) hn hB
theorem sw_2004037219 {n : Nat} {B : St} {L : List Nat} {k l : Nat} {w d a b f : Int32} (hn : 10 < n) (hB : L.length + 4 ≤ 64) : df_X18_say n 2004037219 (RS B L k l w d a b f) = some (RS B (L ++ [99, 46, 115, 119]) k l w d a b f) := sy_S (by decide +kernel) hn hB
theorem nw_422877277795 {n : Nat} {B : St} {L : List Nat} {k l : Nat} {w d a b f : Int32} (hn : 10 < n) (hB : L.length + 5 ≤ 64) : df_X18_name n 422877277795 (RS B L k l w d a b f) = some (RS B (L ++ [99, 46, 115, 117, 98]) 0 1 w d a b f) := nm_S (by decide +kernel) hn hB
theorem sw_422877277795 {n : Nat} {B : St} {L : List Nat} {k l : Nat} {w d a b f : Int32} (hn : 10 < n) (hB : L.length + 5 ≤ 64) : df_X18_say n 422877277795 (RS B L k l w d a b f) = some (RS B (L ++ [99, 46, 115, 117, 98]) k l w d a b f) := sy_S (by decide +kernel) hn hB
theorem nw_427087721825 {n : Nat} {B : St} {L : List Nat} {k l : Nat} {w d a b f : Int32} (hn : 10 < n) (hB : L.length + 5 ≤ 64) : df_X18_name n 427087721825 (RS B L k l w d a b f) = some (RS B (L ++ [97, 117, 105, 112, 99]) 0 1 w d a b f) := nm_S (by decide +kernel) hn hB
theorem sw_427087721825 {n : Nat} {B : St} {L : List Nat} {k l : Nat} {w d a b f : Int32} (hn : 10 < n) (hB : L.length + 5 ≤ 64) : df_X18_say n 427087721825 (RS B L k l w d a b f) = some (RS B (L ++ [97, 117, 105, 112, 99]) k l w d a b f) := sy_S (by decide +kernel) hn hB
theorem nw_431180820067 {n : Nat} {B : St} {L : List Nat} {k l : Nat} {w d a b f : Int32} (hn : 10 < n) (hB : L.length + 5 ≤ 64) : df_X18_name n 431180820067 (RS B L k l w d a b f) = some (RS B (L ++ [99, 46, 97, 100, 100]) 0 1 w d a b f) := nm_S (by decide +kernel) hn hB
theorem sw_431180820067 {n : Nat} {B : St} {L : List Nat} {k l : Nat} {w d a b f : Int32} (hn : 10 < n) (hB : L.length + 5 ≤ 64) : df_X18_say n 431180820067 (RS B L k l w d a b f) = some (RS B (L ++ [99, 46, 97, 100, 100]) k l w d a b f) := sy_S (by decide +kernel) hn hB
theorem nw_431348592227 {n : Nat} {B : St} {L : List Nat} {k l : Nat} {w d a b f : Int32} (hn : 10 < n) (hB : L.length + 5 ≤ 64) : df_X18_name n 431348592227 (RS B L k l w d a b f) = some (RS B (L ++ [99, 46, 97, 110, 100]) 0 1 w d a b f) := nm_S (by decide +kernel) hn hB
theorem sw_431348592227 {n : Nat} {B : St} {L : List Nat} {k l : Nat} {w d a b f : Int32} (hn : 10 < n) (hB : L.length + 5 ≤ 64) : df_X18_say n 431348592227 (RS B L k l w d a b f) = some (RS B (L ++ [99, 46, 97, 110, 100]) k l w d a b f) := sy_S (by decide +kernel) hn hB
theorem nw_431416637230 {n : Nat} {B : St} {L : List Nat} {k l : Nat} {w d a b f : Int32} (hn : 10 < n) (hB : L.length + 5 ≤ 64) : df_X18_name n 431416637230 (RS B L k l w d a b f) = some (RS B (L ++ [46, 119, 111, 114, 100]) 0 1 w d a b f) := nm_S (by decide +kernel) hn hB
theorem sw_431416637230 {n : Nat} {B : St} {L : List Nat} {k l : Nat} {w d a b f : Int32} (hn : 10 < n) (hB : L.length + 5 ≤ 64) : df_X18_say n 431416637230 (RS B L k l w d a b f) = some (RS B (L ++ [46, 119, 111, 114, 100]) k l w d a b f) := sy_S (by decide +kernel) hn hB
theorem nw_435459876198 {n : Nat} {B : St} {L : List Nat} {k l : Nat} {w d a b f : Int32} (hn : 10 < n) (hB : L.length + 5 ≤ 64) : df_X18_name n 435459876198 (RS B L k l w d a b f) = some (RS B (L ++ [102, 101, 110, 99, 101]) 0 1 w d a b f) := nm_S (by decide +kernel) hn hB
theorem sw_435459876198 {n : Nat} {B : St} {L : List Nat} {k l : Nat} {w d a b f : Int32} (hn : 10 < n) (hB : L.length + 5 ≤ 64) : df_X18_say n 435459876198 (RS B L k l w d a b f) = some (RS B (L ++ [102, 101, 110, 99, 101]) k l w d a b f) := sy_S (by decide +kernel) hn hB
theorem nw_435610155363 {n : Nat} {B : St} {L : List Nat} {k l : Nat} {w d a b f : Int32} (hn : 10 < n) (hB : L.length + 5 ≤ 64) : df_X18_name n 435610155363 (RS B L k l w d a b f) = some (RS B (L ++ [99, 121, 99, 108, 101]) 0 1 w d a b f) := nm_S (by decide +kernel) hn hB
theorem sw_435610155363 {n : Nat} {B : St} {L : List Nat} {k l : Nat} {w d a b f : Int32} (hn : 10 < n) (hB : L.length + 5 ≤ 64) : df_X18_say n 435610155363 (RS B L k l w d a b f) = some (RS B (L ++ [99, 121, 99, 108, 101]) k l w d a b f) := sy_S (by decide +kernel) hn hB
theorem nw_439904987182 {n : Nat} {B : St} {L : List Nat} {k l : Nat} {w d a b f : Int32} (hn : 10 < n) (hB : L.length + 5 ≤ 64) : df_X18_name n 439904987182 (RS B L k l w d a b f) = some (RS B (L ++ [46, 104, 97, 108, 102]) 0 1 w d a b f) := nm_S (by decide +kernel) hn hB
theorem sw_439904987182 {n : Nat} {B : St} {L : List Nat} {k l : Nat} {w d a b f : Int32} (hn : 10 < n) (hB : L.length + 5 ≤ 64) : df_X18_say n 439904987182 (RS B L k l w d a b f) = some (RS B (L ++ [46, 104, 97, 108, 102]) k l w d a b f) := sy_S (by decide +kernel) hn hB
theorem nw_452941590115 {n : Nat} {B : St} {L : List Nat} {k l : Nat} {w d a b f : Int32} (hn : 10 < n) (hB : L.length + 5 ≤ 64) : df_X18_name n 452941590115 (RS B L k l w d a b f) = some (RS B (L ++ [99, 46, 108, 117, 105]) 0 1 w d a b f) := nm_S (by decide +kernel) hn hB
theorem sw_452941590115 {n : Nat} {B : St} {L : List Nat} {k l : Nat} {w d a b f : Int32} (hn : 10 < n) (hB : L.length + 5 ≤ 64) : df_X18_say n 452941590115 (RS B L k l w d a b f) = some (RS B (L ++ [99, 46, 108, 117, 105]) k l w d a b f) := sy_S (by decide +kernel) hn hB
theorem nw_465490816611 {n : Nat} {B : St} {L : List Nat} {k l : Nat} {w d a b f : Int32} (hn : 10 < n) (hB : L.length + 5 ≤ 64) : df_X18_name n 465490816611 (RS B L k l w d a b f) = some (RS B (L ++ [99, 46, 106, 97, 108]) 0 1 w d a b f) := nm_S (by decide +kernel) hn hB
theorem sw_465490816611 {n : Nat} {B : St} {L : List Nat} {k l : Nat} {w d a b f : Int32} (hn : 10 < n) (hB : L.length + 5 ≤ 64) : df_X18_say n 465490816611 (RS B L k l w d a b f) = some (RS B (L ++ [99, 46, 106, 97, 108]) k l w d a b f) := sy_S (by decide +kernel) hn hB
theorem nw_465674789733 {n : Nat} {B : St} {L : List Nat} {k l : Nat} {w d a b f : Int32} (hn : 10 < n) (hB : L.length + 5 ≤ 64) : df_X18_name n 465674789733 (RS B L k l w d a b f) = some (RS B (L ++ [101, 99, 97, 108, 108]) 0 1 w d a b f) := nm_S (by decide +kernel) hn hB
theorem sw_465674789733 {n : Nat} {B : St} {L : List Nat} {k l : Nat} {w d a b f : Int32} (hn : 10 < n) (hB : L.length + 5 ≤ 64) : df_X18_say n 465674789733 (RS B L k l w d a b f) = some (RS B (L ++ [101, 99, 97, 108, 108]) k l w d a b f) := sy_S (by decide +kernel) hn hB
theorem nw_465776501038 {n : Nat} {B : St} {L : List Nat} {k l : Nat} {w d a b f : Int32} (hn : 10 < n) (hB : L.length + 5 ≤ 64) : df_X18_name n 465776501038 (RS B L k l w d a b f) = some (RS B (L ++ [46, 97, 113, 114, 108]) 0 1 w d a b f) := nm_S (by decide +kernel) hn hB
theorem sw_465776501038 {n : Nat} {B : St} {L : List Nat} {k l : Nat} {w d a b f : Int32} (hn : 10 < n) (hB : L.length + 5 ≤ 64) : df_X18_say n 465776501038 (RS B L k l w d a b f) = some (RS B (L ++ [46, 97, 113, 114, 108]) k l w d a b f) := sy_S (by decide +kernel) hn hB
theorem nw_482905828963 {n : Nat} {B : St} {L : List Nat} {k l : Nat} {w d a b f : Int32} (hn : 10 < n) (hB : L.length + 5 ≤ 64) : df_X18_name n 482905828963 (RS B L k l w d a b f) = some (RS B (L ++ [99, 46, 110, 111, 112]) 0 1 w d a b f) := nm_S (by decide +kernel) hn hB
theorem sw_482905828963 {n : Nat} {B : St} {L : List Nat} {k l : Nat} {w d a b f : Int32} (hn : 10 < n) (hB : L.length + 5 ≤ 64) : df_X18_say n 482905828963 (RS B L k l w d a b f) = some (RS B (L ++ [99, 46, 110, 111, 112]) k l w d a b f) := sy_S (by decide +kernel) hn hB
theorem nw_491496418915 {n : Nat} {B : St} {L : List Nat} {k l : Nat} {w d a b f : Int32} (hn : 10 < n) (hB : L.length + 5 ≤ 64) : df_X18_name n 491496418915 (RS B L k l w d a b f) = some (RS B (L ++ [99, 46, 120, 111, 114]) 0 1 w d a b f) := nm_S (by decide +kernel) hn hB
theorem sw_491496418915 {n : Nat} {B : St} {L : List Nat} {k l : Nat} {w d a b f : Int32} (hn : 10 < n) (hB : L.length + 5 ≤ 64) : df_X18_say n 491496418915 (RS B L k l w d a b f) = some (RS B (L ++ [99, 46, 120, 111, 114]) k l w d a b f) := sy_S (by decide +kernel) hn hB
theorem nw_504263112045 {n : Nat} {B : St} {L : List Nat} {k l : Nat} {w d a b f : Int32} (hn : 10 < n) (hB : L.length + 5 ≤ 64) : df_X18_name n 504263112045 (RS B L k l w d a b f) = some (RS B (L ++ [109, 117, 108, 104, 117]) 0 1 w d a b f) := nm_S (by decide +kernel) hn hB
theorem sw_504263112045 {n : Nat} {B : St} {L : List Nat} {k l : Nat} {w d a b f : Int32} (hn : 10 < n) (hB : L.length + 5 ≤ 64) : df_X18_say n 504263112045 (RS B L k l w d a b f) = some (RS B (L ++ [109, 117, 108, 104, 117]) k l w d a b f) := sy_S (by decide +kernel) hn hB
theorem nw_504280411251 {n : Nat} {B : St} {L : List Nat} {k l : Nat} {w d a b f : Int32} (hn : 10 < n) (hB : L.length + 5 ≤ 64) : df_X18_name n 504280411251 (RS B L k l w d a b f) = some (RS B (L ++ [115, 108, 116, 105, 117]) 0 1 w d a b f) := nm_S (by decide +kernel) hn hB
theorem sw_504280411251 {n : Nat} {B : St} {L : List Nat} {k l : Nat} {w d a b f : Int32} (hn : 10 < n) (hB : L.length + 5 ≤ 64) : df_X18_say n 504280411251 (RS B L k l w d a b f) = some (RS B (L ++ [115, 108, 116, 105, 117]) k l w d a b f) := sy_S (by decide +kernel) hn hB
theorem nw_115867252895331 {n : Nat} {B : St} {L : List Nat} {k l : Nat} {w d a b f : Int32} (hn : 10 < n) (hB : L.length + 6 ≤ 64) : df_X18_name n 115867252895331 (RS B L k l w d a b f) = some (RS B (L ++ [99, 46, 115, 114, 97, 105]) 0 1 w d a b f) := nm_S (by decide +kernel) hn hB
theorem sw_115867252895331 {n : Nat} {B : St} {L : List Nat} {k l : Nat} {w d a b f : Int32} (hn : 10 < n) (hB : L.length + 6 ≤ 64) : df_X18_say n 115867252895331 (RS B L k l w d a b f) = some (RS B (L ++ [99, 46, 115, 114, 97, 105]) k l w d a b f) := sy_S (by decide +kernel) hn hB
theorem nw_115879901736547 {n : Nat} {B : St} {L : List Nat} {k l : Nat} {w d a b f : Int32} (hn : 10 < n) (hB : L.length + 6 ≤ 64) : df_X18_name n 115879901736547 (RS B L k l w d a b f) = some (RS B (L ++ [99, 46, 97, 100, 100, 105]) 0 1 w d a b f) := nm_S (by decide +kernel) hn hB
theorem sw_115879901736547 {n : Nat} {B : St} {L : List Nat} {k l : Nat} {w d a b f : Int32} (hn : 10 < n) (hB : L.length + 6 ≤ 64) : df_X18_say n 115879901736547 (RS B L k l w d a b f) = some (RS B (L ++ [99, 46, 97, 100, 100, 105]) k l w d a b f) := sy_S (by decide +kernel) hn hB
theorem nw_115880069508707 {n : Nat} {B : St} {L : List Nat} {k l : Nat} {w d a b f : Int32} (hn : 10 < n) (hB : L.length + 6 ≤ 64) : df_X18_name n 115880069508707 (RS B L k l w d a b f) = some (RS B (L ++ [99, 46, 97, 110, 100, 105]) 0 1 w d a b f) := nm_S (by decide +kernel) hn hB
theorem sw_115880069508707 {n : Nat} {B : St} {L : List Nat} {k l : Nat} {w d a b f : Int32} (hn : 10 < n) (hB : L.length + 6 ≤ 64) : df_X18_say n 115880069508707 (RS B L k l w d a b f) = some (RS B (L ++ [99, 46, 97, 110, 100, 105]) k l w d a b f) := sy_S (by decide +kernel) hn hB
theorem nw_115914396872291 {n : Nat} {B : St} {L : List Nat} {k l : Nat} {w d a b f : Int32} (hn : 10 < n) (hB : L.length + 6 ≤ 64) : df_X18_name n 115914396872291 (RS B L k l w d a b f) = some (RS B (L ++ [99, 46, 115, 108, 108, 105]) 0 1 w d a b f) := nm_S (by decide +kernel) hn hB
theorem sw_115914396872291 {n : Nat} {B : St} {L : List Nat} {k l : Nat} {w d a b f : Int32} (hn : 10 < n) (hB : L.length + 6 ≤ 64) : df_X18_say n 115914396872291 (RS B L k l w d a b f) = some (RS B (L ++ [99, 46, 115, 108, 108, 105]) k l w d a b f) := sy_S (by decide +kernel) hn hB
theorem nw_115914497535587 {n : Nat} {B : St} {L : List Nat} {k l : Nat} {w d a b f : Int32} (hn : 10 < n) (hB : L.length + 6 ≤ 64) : df_X18_name n 115914497535587 (RS B L k l w d a b f) = some (RS B (L ++ [99, 46, 115, 114, 108, 105]) 0 1 w d a b f) := nm_S (by decide +kernel) hn hB
theorem sw_115914497535587 {n : Nat} {B : St} {L : List Nat} {k l : Nat} {w d a b f : Int32} (hn : 10 < n) (hB : L.length + 6 ≤ 64) : df_X18_say n 115914497535587 (RS B L k l w d a b f) = some (RS B (L ++ [99, 46, 115, 114, 108, 105]) k l w d a b f) := sy_S (by decide +kernel) hn hB
theorem nw_118066057994853 {n : Nat} {B : St} {L : List Nat} {k l : Nat} {w d a b f : Int32} (hn : 10 < n) (hB : L.length + 6 ≤ 64) : df_X18_name n 118066057994853 (RS B L k l w d a b f) = some (RS B (L ++ [101, 98, 114, 101, 97, 107]) 0 1 w d a b f) := nm_S (by decide +kernel) hn hB
theorem sw_118066057994853 {n : Nat} {B : St} {L : List Nat} {k l : Nat} {w d a b f : Int32} (hn : 10 < n) (hB : L.length + 6 ≤ 64) : df_X18_say n 118066057994853 (RS B L k l w d a b f) = some (RS B (L ++ [101, 98, 114, 101, 97, 107]) k l w d a b f) := sy_S (by decide +kernel) hn hB
theorem nw_123641227128419 {n : Nat} {B : St} {L : List Nat} {k l : Nat} {w d a b f : Int32} (hn : 10 < n) (hB : L.length + 6 ≤ 64) : df_X18_name n 123641227128419 (RS B L k l w d a b f) = some (RS B (L ++ [99, 46, 108, 119, 115, 112]) 0 1 w d a b f) := nm_S (by decide +kernel) hn hB
theorem sw_123641227128419 {n : Nat} {B : St} {L : List Nat} {k l : Nat} {w d a b f : Int32} (hn : 10 < n) (hB : L.length + 6 ≤ 64) : df_X18_say n 123641227128419 (RS B L k l w d a b f) = some (RS B (L ++ [99, 46, 108, 119, 115, 112]) k l w d a b f) := sy_S (by decide +kernel) hn hB
theorem nw_123641227587171 {n : Nat} {B : St} {L : List Nat} {k l : Nat} {w d a b f : Int32} (hn : 10 < n) (hB : L.length + 6 ≤ 64) : df_X18_name n 123641227587171 (RS B L k l w d a b f) = some (RS B (L ++ [99, 46, 115, 119, 115, 112]) 0 1 w d a b f) := nm_S (by decide +kernel) hn hB
theorem sw_123641227587171 {n : Nat} {B : St} {L : List Nat} {k l : Nat} {w d a b f : Int32} (hn : 10 < n) (hB : L.length + 6 ≤ 64) : df_X18_say n 123641227587171 (RS B L k l w d a b f) = some (RS B (L ++ [99, 46, 115, 119, 115, 112]) k l w d a b f) := sy_S (by decide +kernel) hn hB
theorem nw_125809816383075 {n : Nat} {B : St} {L : List Nat} {k l : Nat} {w d a b f : Int32} (hn : 10 < n) (hB : L.length + 6 ≤ 64) : df_X18_name n 125809816383075 (RS B L k l w d a b f) = some (RS B (L ++ [99, 46, 106, 97, 108, 114]) 0 1 w d a b f) := nm_S (by decide +kernel) hn hB
theorem sw_125809816383075 {n : Nat} {B : St} {L : List Nat} {k l : Nat} {w d a b f : Int32} (hn : 10 < n) (hB : L.length + 6 ≤ 64) : df_X18_say n 125809816383075 (RS B L k l w d a b f) = some (RS B (L ++ [99, 46, 106, 97, 108, 114]) k l w d a b f) := sy_S (by decide +kernel) hn hB
theorem nw_129138533627245 {n : Nat} {B : St} {L : List Nat} {k l : Nat} {w d a b f : Int32} (hn : 10 < n) (hB : L.length + 6 ≤ 64) : df_X18_name n 129138533627245 (RS B L k l w d a b f) = some (RS B (L ++ [109, 117, 108, 104, 115, 117]) 0 1 w d a b f) := nm_S (by decide +kernel) hn hB
theorem sw_129138533627245 {n : Nat} {B : St} {L : List Nat} {k l : Nat} {w d a b f : Int32} (hn : 10 < n) (hB : L.length + 6 ≤ 64) : df_X18_say n 129138533627245 (RS B L k l w d a b f) = some (RS B (L ++ [109, 117, 108, 104, 115, 117]) k l w d a b f) := sy_S (by decide +kernel) hn hB
theorem nw_134576062213731 {n : Nat} {B : St} {L : List Nat} {k l : Nat} {w d a b f : Int32} (hn : 10 < n) (hB : L.length + 6 ≤ 64) : df_X18_name n 134576062213731 (RS B L k l w d a b f) = some (RS B (L ++ [99, 46, 98, 110, 101, 122]) 0 1 w d a b f) := nm_S (by decide +kernel) hn hB
theorem sw_134576062213731 {n : Nat} {B : St} {L : List Nat} {k l : Nat} {w d a b f : Int32} (hn : 10 < n) (hB : L.length + 6 ≤ 64) : df_X18_say n 134576062213731 (RS B L k l w d a b f) = some (RS B (L ++ [99, 46, 98, 110, 101, 122]) k l w d a b f) := sy_S (by decide +kernel) hn hB
theorem nw_134627450826339 {n : Nat} {B : St} {L : List Nat} {k l : Nat} {w d a b f : Int32} (hn : 10 < n) (hB : L.length + 6 ≤ 64) : df_X18_name n 134627450826339 (RS B L k l w d a b f) = some (RS B (L ++ [99, 46, 98, 101, 113, 122]) 0 1 w d a b f) := nm_S (by decide +kernel) hn hB
theorem sw_134627450826339 {n : Nat} {B : St} {L : List Nat} {k l : Nat} {w d a b f : Int32} (hn : 10 < n) (hB : L.length + 6 ≤ 64) : df_X18_say n 134627450826339 (RS B L k l w d a b f) = some (RS B (L ++ [99, 46, 98, 101, 113, 122]) k l w d a b f) := sy_S (by decide +kernel) hn hB
theorem nw_29605885549372774 {n : Nat} {B : St} {L : List Nat} {k l : Nat} {w d a b f : Int32} (hn : 10 < n) (hB : L.length + 7 ≤ 64) : df_X18_name n 29605885549372774 (RS B L k l w d a b f) = some (RS B (L ++ [102, 101, 110, 99, 101, 46, 105]) 0 1 w d a b f) := nm_S (by decide +kernel) hn hB
theorem sw_29605885549372774 {n : Nat} {B : St} {L : List Nat} {k l : Nat} {w d a b f : Int32} (hn : 10 < n) (hB : L.length + 7 ≤ 64) : df_X18_say n 29605885549372774 (RS B L k l w d a b f) = some (RS B (L ++ [102, 101, 110, 99, 101, 46, 105]) k l w d a b f) := sy_S (by decide +kernel) hn hB
theorem nw_32762639552835177 {n : Nat} {B : St} {L : List Nat} {k l : Nat} {w d a b f : Int32} (hn : 10 < n) (hB : L.length + 7 ≤ 64) : df_X18_name n 32762639552835177 (RS B L k l w d a b f) = some (RS B (L ++ [105, 110, 115, 116, 114, 101, 116]) 0 1 w d a b f) := nm_S (by decide +kernel) hn hB
theorem sw_32762639552835177 {n : Nat} {B : St} {L : List Nat} {k l : Nat} {w d a b f : Int32} (hn : 10 < n) (hB : L.length + 7 ≤ 64) : df_X18_say n 32762639552835177 (RS B L k l w d a b f) = some (RS B (L ++ [105, 110, 115, 116, 114, 101, 116]) k l w d a b f) := sy_S (by decide +kernel) hn hB
theorem nw_3905018231808667235 {n : Nat} {B : St} {L : List Nat} {k l : Nat} {w d a b f : Int32} (hn : 10 < n) (hB : L.length + 8 ≤ 64) : df_X18_name n 3905018231808667235 (RS B L k l w d a b f) = some (RS B (L ++ [99, 46, 97, 100, 100, 105, 49, 54]) 0 1 w d a b f) := nm_S (by decide +kernel) hn hB
theorem sw_3905018231808667235 {n : Nat} {B : St} {L : List Nat} {k l : Nat} {w d a b f : Int32} (hn : 10 < n) (hB : L.length + 8 ≤ 64) : df_X18_say n 3905018231808667235 (RS B L k l w d a b f) = some (RS B (L ++ [99, 46, 97, 100, 100, 105, 49, 54]) k l w d a b f) := sy_S (by decide +kernel) hn hB
theorem nw_7737577176750698083 {n : Nat} {B : St} {L : List Nat} {k l : Nat} {w d a b f : Int32} (hn : 10 < n) (hB : L.length + 8 ≤ 64) : df_X18_name n 7737577176750698083 (RS B L k l w d a b f) = some (RS B (L ++ [99, 46, 101, 98, 114, 101, 97, 107]) 0 1 w d a b f) := nm_S (by decide +kernel) hn hB
theorem sw_7737577176750698083 {n : Nat} {B : St} {L : List Nat} {k l : Nat} {w d a b f : Int32} (hn : 10 < n) (hB : L.length + 8 ≤ 64) : df_X18_say n 7737577176750698083 (RS B L k l w d a b f) = some (RS B (L ++ [99, 46, 101, 98, 114, 101, 97, 107]) k l w d a b f) := sy_S (by decide +kernel) hn hB
theorem nw_8301375893052403299 {n : Nat} {B : St} {L : List Nat} {k l : Nat} {w d a b f : Int32} (hn : 10 < n) (hB : L.length + 8 ≤ 64) : df_X18_name n 8301375893052403299 (RS B L k l w d a b f) = some (RS B (L ++ [99, 46, 97, 100, 100, 105, 52, 115]) 0 1 w d a b f) := nm_S (by decide +kernel) hn hB
theorem sw_8301375893052403299 {n : Nat} {B : St} {L : List Nat} {k l : Nat} {w d a b f : Int32} (hn : 10 < n) (hB : L.length + 8 ≤ 64) : df_X18_say n 8301375893052403299 (RS B L k l w d a b f) = some (RS B (L ++ [99, 46, 97, 100, 100, 105, 52, 115]) k l w d a b f) := sy_S (by decide +kernel) hn hB
theorem th_S {n : Nat} {B : St} {w f : Int32} {x : Int64} {M : List Nat} {D A Q : Nat} (hn10 : 10 < n) (hn20 : 20 < n) (hg : ∀ r : Nat, r < 32 → sR B 1 r = rgT r) (hm : sayL 8 x = some M) (hl : M.length ≤ 8) (hD : D < 32) (hA : A < 32) (hQ : Q < 32) : df_X18_threes n x (RS B [] 0 0 w (nI D) (nI A) (nI Q) f) = some (RS B (M ++ ([32] ++ (regL D ++ ([44, 32] ++ (regL A ++ ([44, 32] ++ (regL Q))))))) 3 1 w (nI D) (nI A) (nI Q) f) := by
  have lD : (regL D).length ≤ 4 := rg_4 ⟨D, hD⟩
  have lA : (regL A).length ≤ 4 := rg_4 ⟨A, hA⟩
  have lQ : (regL Q).length ≤ 4 := rg_4 ⟨Q, hQ⟩
  simp (disch := (first | assumption | decide | omega | (simp only [List.length_append, List.length_cons, List.length_nil, nxl_0, nxl_s] <;> omega))) only [df_X18_threes_0, df_X18_threes, reg_S hg hn10, im_S hn20, ta_S hn20, br_S hg hn10, me_S hg hn20, nx_S, nm_S hm hn10, RS_0, RS_1, RS_2, RS_3, RS_4, RS_5, RS_6, RS_7, RS_r1, RS_w1, RS_w2, RS_w3, RS_w4, RS_w5, RS_w6, RS_w7, pt_S, List.append_assoc, List.cons_append, List.nil_append, List.append_nil, nxl_0, nxl_s, eq_self, Nat.reduceEqDiff, Nat.reduceLeDiff, nl_4, nl_5, nl_6, no_1, no_1024, pk_mul, nI_add, nm_ck, nI_clamp, nI_ltI, nI_leI, nI_eq, nb_b2, nb_b1, ↓nb_let, nm_z0, nm_z1, nb_II, nb_IR, nb_RI, nb_RR, nm_IL, nm_IQ, nm_RL, nm_RQ, nm_LI, nm_LR, nm_LL, nm_LQ, nm_QI, nm_QR, nm_QL, nm_QQ, nm_rr, nm_ii, nm_eqm, not_false_eq_true, pk_sub, nm_div, nm_shl, nm_shr, nm_ush, nm_or8, nm_or64, nm_or256, nm_m1, nm_m3, nm_m7, nm_m15, nm_m31, nm_m63, nm_m255, nm_m511, nm_m1023, nm_m2047, nm_m65535, Nat.reduceMod, Nat.reducePow, Nat.reduceAdd, Nat.reduceSub, Nat.reduceMul, nm_bo, nm_bi, nm_rc, nm_ic, nm_ri, nm_rl, nm_rq, nm_ql, nm_qi, nm_li, nm_us, nm_uu, nm_cp, nm_sa31, nm_sa7, nm_m127, nm_m2, nm_nz, nm_nzk, nm_eq32, nm_nzf, if_true, if_false, ↓reduceIte, if_pos, if_neg]
theorem tw0_S {n : Nat} {B : St} {w f : Int32} {x : Int64} {M : List Nat} {D A Q : Nat} (hn10 : 10 < n) (hn20 : 20 < n) (hg : ∀ r : Nat, r < 32 → sR B 1 r = rgT r) (hm : sayL 8 x = some M) (hl : M.length ≤ 8) (hD : D < 32) (hA : A < 32) (hQ : Q < 32) : df_X18_twos_163 n (nI 0) x (RS B [] 0 0 w (nI D) (nI A) (nI Q) f) = some (RS B (M ++ ([32] ++ (regL D ++ ([44, 32] ++ (regL A ++ ([44, 32] ++ (decI (tvI w)))))))) 3 1 w (nI D) (nI A) (nI Q) f) := by
  have lD : (regL D).length ≤ 4 := rg_4 ⟨D, hD⟩
  have lA : (regL A).length ≤ 4 := rg_4 ⟨A, hA⟩
  have lQ : (regL Q).length ≤ 4 := rg_4 ⟨Q, hQ⟩
  have mI := nmv_I w
  have lI := de_l mI
  have vI : (w >>> nI 20) = tvI w := rfl
  simp (disch := (first | assumption | decide | omega | (simp only [List.length_append, List.length_cons, List.length_nil, nxl_0, nxl_s] <;> omega))) only [df_X18_twos_163, df_X18_twos_201, vI, reg_S hg hn10, im_S hn20, ta_S hn20, br_S hg hn10, me_S hg hn20, nx_S, nm_S hm hn10, RS_0, RS_1, RS_2, RS_3, RS_4, RS_5, RS_6, RS_7, RS_r1, RS_w1, RS_w2, RS_w3, RS_w4, RS_w5, RS_w6, RS_w7, pt_S, List.append_assoc, List.cons_append, List.nil_append, List.append_nil, nxl_0, nxl_s, eq_self, Nat.reduceEqDiff, Nat.reduceLeDiff, nl_0, nl_3, nl_4, nl_5, nl_6, nl_20, nl_31, no_1, no_1024, pk_mul, nI_add, nm_ck, nI_clamp, nI_ltI, nI_leI, nI_eq, nb_b2, nb_b1, ↓nb_let, nm_z0, nm_z1, nb_II, nb_IR, nb_RI, nb_RR, nm_IL, nm_IQ, nm_RL, nm_RQ, nm_LI, nm_LR, nm_LL, nm_LQ, nm_QI, nm_QR, nm_QL, nm_QQ, nm_rr, nm_ii, nm_eqm, not_false_eq_true, pk_sub, nm_div, nm_shl, nm_shr, nm_ush, nm_or8, nm_or64, nm_or256, nm_m1, nm_m3, nm_m7, nm_m15, nm_m31, nm_m63, nm_m255, nm_m511, nm_m1023, nm_m2047, nm_m65535, Nat.reduceMod, Nat.reducePow, Nat.reduceAdd, Nat.reduceSub, Nat.reduceMul, nm_bo, nm_bi, nm_rc, nm_ic, nm_ri, nm_rl, nm_rq, nm_ql, nm_qi, nm_li, nm_us, nm_uu, nm_cp, nm_sa31, nm_sa7, nm_m127, nm_m2, nm_nz, nm_nzk, nm_eq32, nm_nzf, if_true, if_false, ↓reduceIte, if_pos, if_neg]
theorem tw1_S {n : Nat} {B : St} {w f : Int32} {x : Int64} {M : List Nat} {D A Q : Nat} (hn10 : 10 < n) (hn20 : 20 < n) (hg : ∀ r : Nat, r < 32 → sR B 1 r = rgT r) (hm : sayL 8 x = some M) (hl : M.length ≤ 8) (hD : D < 32) (hA : A < 32) (hQ : Q < 32) (mQ : nI Q ≠ Int32.minValue) : df_X18_twos_163 n (nI 1) x (RS B [] 0 0 w (nI D) (nI A) (nI Q) f) = some (RS B (M ++ ([32] ++ (regL D ++ ([44, 32] ++ (regL A ++ ([44, 32] ++ (decI (nI Q)))))))) 3 1 w (nI D) (nI A) (nI Q) f) := by
  have lD : (regL D).length ≤ 4 := rg_4 ⟨D, hD⟩
  have lA : (regL A).length ≤ 4 := rg_4 ⟨A, hA⟩
  have lQ : (regL Q).length ≤ 4 := rg_4 ⟨Q, hQ⟩
  have lQ2 := de_l mQ
  simp (disch := (first | assumption | decide | omega | (simp only [List.length_append, List.length_cons, List.length_nil, nxl_0, nxl_s] <;> omega))) only [df_X18_twos_163, df_X18_twos_201, reg_S hg hn10, im_S hn20, ta_S hn20, br_S hg hn10, me_S hg hn20, nx_S, nm_S hm hn10, RS_0, RS_1, RS_2, RS_3, RS_4, RS_5, RS_6, RS_7, RS_r1, RS_w1, RS_w2, RS_w3, RS_w4, RS_w5, RS_w6, RS_w7, pt_S, List.append_assoc, List.cons_append, List.nil_append, List.append_nil, nxl_0, nxl_s, eq_self, Nat.reduceEqDiff, Nat.reduceLeDiff, nl_0, nl_3, nl_4, nl_5, nl_6, nl_20, nl_31, no_1, no_1024, pk_mul, nI_add, nm_ck, nI_clamp, nI_ltI, nI_leI, nI_eq, nb_b2, nb_b1, ↓nb_let, nm_z0, nm_z1, nb_II, nb_IR, nb_RI, nb_RR, nm_IL, nm_IQ, nm_RL, nm_RQ, nm_LI, nm_LR, nm_LL, nm_LQ, nm_QI, nm_QR, nm_QL, nm_QQ, nm_rr, nm_ii, nm_eqm, not_false_eq_true, pk_sub, nm_div, nm_shl, nm_shr, nm_ush, nm_or8, nm_or64, nm_or256, nm_m1, nm_m3, nm_m7, nm_m15, nm_m31, nm_m63, nm_m255, nm_m511, nm_m1023, nm_m2047, nm_m65535, Nat.reduceMod, Nat.reducePow, Nat.reduceAdd, Nat.reduceSub, Nat.reduceMul, nm_bo, nm_bi, nm_rc, nm_ic, nm_ri, nm_rl, nm_rq, nm_ql, nm_qi, nm_li, nm_us, nm_uu, nm_cp, nm_sa31, nm_sa7, nm_m127, nm_m2, nm_nz, nm_nzk, nm_eq32, nm_nzf, if_true, if_false, ↓reduceIte, if_pos, if_neg]
theorem ld_S {n : Nat} {B : St} {w f : Int32} {x : Int64} {M : List Nat} {D A Q : Nat} (hn10 : 10 < n) (hn20 : 20 < n) (hg : ∀ r : Nat, r < 32 → sR B 1 r = rgT r) (hm : sayL 8 x = some M) (hl : M.length ≤ 8) (hD : D < 32) (hA : A < 32) (hQ : Q < 32) : df_X18_loads_76 n x (RS B [] 0 0 w (nI D) (nI A) (nI Q) f) = some (RS B (M ++ ([32] ++ (regL D ++ ([44, 32] ++ (decI (tvI w) ++ ([40] ++ (regL A ++ ([41])))))))) 2 1 w (nI D) (nI A) (nI Q) f) := by
  have lD : (regL D).length ≤ 4 := rg_4 ⟨D, hD⟩
  have lA : (regL A).length ≤ 4 := rg_4 ⟨A, hA⟩
  have lQ : (regL Q).length ≤ 4 := rg_4 ⟨Q, hQ⟩
  have mI := nmv_I w
  have lI := de_l mI
  have vI : (w >>> nI 20) = tvI w := rfl
  simp (disch := (first | assumption | decide | omega | (simp only [List.length_append, List.length_cons, List.length_nil, nxl_0, nxl_s] <;> omega))) only [df_X18_loads_76, vI, reg_S hg hn10, im_S hn20, ta_S hn20, br_S hg hn10, me_S hg hn20, nx_S, nm_S hm hn10, RS_0, RS_1, RS_2, RS_3, RS_4, RS_5, RS_6, RS_7, RS_r1, RS_w1, RS_w2, RS_w3, RS_w4, RS_w5, RS_w6, RS_w7, pt_S, List.append_assoc, List.cons_append, List.nil_append, List.append_nil, nxl_0, nxl_s, eq_self, Nat.reduceEqDiff, Nat.reduceLeDiff, nl_3, nl_4, nl_5, nl_20, nl_31, no_1, no_1024, pk_mul, nI_add, nm_ck, nI_clamp, nI_ltI, nI_leI, nI_eq, nb_b2, nb_b1, ↓nb_let, nm_z0, nm_z1, nb_II, nb_IR, nb_RI, nb_RR, nm_IL, nm_IQ, nm_RL, nm_RQ, nm_LI, nm_LR, nm_LL, nm_LQ, nm_QI, nm_QR, nm_QL, nm_QQ, nm_rr, nm_ii, nm_eqm, not_false_eq_true, pk_sub, nm_div, nm_shl, nm_shr, nm_ush, nm_or8, nm_or64, nm_or256, nm_m1, nm_m3, nm_m7, nm_m15, nm_m31, nm_m63, nm_m255, nm_m511, nm_m1023, nm_m2047, nm_m65535, Nat.reduceMod, Nat.reducePow, Nat.reduceAdd, Nat.reduceSub, Nat.reduceMul, nm_bo, nm_bi, nm_rc, nm_ic, nm_ri, nm_rl, nm_rq, nm_ql, nm_qi, nm_li, nm_us, nm_uu, nm_cp, nm_sa31, nm_sa7, nm_m127, nm_m2, nm_nz, nm_nzk, nm_eq32, nm_nzf, if_true, if_false, ↓reduceIte, if_pos, if_neg]
theorem sto_S {n : Nat} {B : St} {w f : Int32} {x : Int64} {M : List Nat} {D A Q : Nat} (hn10 : 10 < n) (hn20 : 20 < n) (hg : ∀ r : Nat, r < 32 → sR B 1 r = rgT r) (hm : sayL 8 x = some M) (hl : M.length ≤ 8) (hD : D < 32) (hA : A < 32) (hQ : Q < 32) (eD : fpt w 7 5 = nI D) : df_X18_stores_40 n x (RS B [] 0 0 w (nI D) (nI A) (nI Q) f) = some (RS B (M ++ ([32] ++ (regL Q ++ ([44, 32] ++ (decI (tvS w) ++ ([40] ++ (regL A ++ ([41])))))))) 2 1 w (nI D) (nI A) (nI Q) f) := by
  have lD : (regL D).length ≤ 4 := rg_4 ⟨D, hD⟩
  have lA : (regL A).length ≤ 4 := rg_4 ⟨A, hA⟩
  have lQ : (regL Q).length ≤ 4 := rg_4 ⟨Q, hQ⟩
  have mS := nmv_S w
  have lS := de_l mS
  have vS : ((w >>> nI 25) <<< nI 5) ||| nI D = tvS w := by rw [← eD]; rfl
  simp (disch := (first | assumption | decide | omega | (simp only [List.length_append, List.length_cons, List.length_nil, nxl_0, nxl_s] <;> omega))) only [df_X18_stores_40, vS, reg_S hg hn10, im_S hn20, ta_S hn20, br_S hg hn10, me_S hg hn20, nx_S, nm_S hm hn10, RS_0, RS_1, RS_2, RS_3, RS_4, RS_5, RS_6, RS_7, RS_r1, RS_w1, RS_w2, RS_w3, RS_w4, RS_w5, RS_w6, RS_w7, pt_S, List.append_assoc, List.cons_append, List.nil_append, List.append_nil, nxl_0, nxl_s, eq_self, Nat.reduceEqDiff, Nat.reduceLeDiff, nl_3, nl_4, nl_5, nl_6, nl_25, nl_31, no_1, no_1024, pk_mul, nI_add, nm_ck, nI_clamp, nI_ltI, nI_leI, nI_eq, nb_b2, nb_b1, ↓nb_let, nm_z0, nm_z1, nb_II, nb_IR, nb_RI, nb_RR, nm_IL, nm_IQ, nm_RL, nm_RQ, nm_LI, nm_LR, nm_LL, nm_LQ, nm_QI, nm_QR, nm_QL, nm_QQ, nm_rr, nm_ii, nm_eqm, not_false_eq_true, pk_sub, nm_div, nm_shl, nm_shr, nm_ush, nm_or8, nm_or64, nm_or256, nm_m1, nm_m3, nm_m7, nm_m15, nm_m31, nm_m63, nm_m255, nm_m511, nm_m1023, nm_m2047, nm_m65535, Nat.reduceMod, Nat.reducePow, Nat.reduceAdd, Nat.reduceSub, Nat.reduceMul, nm_bo, nm_bi, nm_rc, nm_ic, nm_ri, nm_rl, nm_rq, nm_ql, nm_qi, nm_li, nm_us, nm_uu, nm_cp, nm_sa31, nm_sa7, nm_m127, nm_m2, nm_nz, nm_nzk, nm_eq32, nm_nzf, if_true, if_false, ↓reduceIte, if_pos, if_neg]
theorem brn_S {n : Nat} {B : St} {w f : Int32} {x : Int64} {M : List Nat} {D A Q : Nat} (hn10 : 10 < n) (hn20 : 20 < n) (hg : ∀ r : Nat, r < 32 → sR B 1 r = rgT r) (hm : sayL 8 x = some M) (hl : M.length ≤ 8) (hD : D < 32) (hA : A < 32) (hQ : Q < 32) : df_X18_branches_91 n x (RS B [] 0 0 w (nI D) (nI A) (nI Q) f) = some (RS B (M ++ ([32] ++ (regL A ++ ([44, 32] ++ (regL Q ++ ([44, 32] ++ (tgL (tvT w)))))))) 3 1 w (nI D) (nI A) (nI Q) f) := by
  have lD : (regL D).length ≤ 4 := rg_4 ⟨D, hD⟩
  have lA : (regL A).length ≤ 4 := rg_4 ⟨A, hA⟩
  have lQ : (regL Q).length ≤ 4 := rg_4 ⟨Q, hQ⟩
  have mT := nmv_T w
  have lT := de_l mT
  have vT : ((((w >>> ((31 : Int32) &&& 31)) <<< ((12 : Int32) &&& 31)) ||| ((fpt w 7 1) <<< ((11 : Int32) &&& 31))) ||| ((fpt w 25 6) <<< ((5 : Int32) &&& 31))) ||| ((fpt w 8 4) <<< ((1 : Int32) &&& 31)) = tvT w := by
    rw [show ((31 : Int32) &&& 31) = nI 31 from by decide, show ((12 : Int32) &&& 31) = nI 12 from by decide, show ((11 : Int32) &&& 31) = nI 11 from by decide, show ((5 : Int32) &&& 31) = nI 5 from by decide, show ((1 : Int32) &&& 31) = nI 1 from by decide]
    rfl
  unfold df_X18_branches_91
  rw [nm_S hm hn10 (by simp only [List.length_append, List.length_cons, List.length_nil, nxl_0, nxl_s]; omega), nb_b1, RS_5, reg_S hg hn10 hA (by decide) (by simp only [List.length_append, List.length_cons, List.length_nil, nxl_0, nxl_s]; omega), nb_b1, RS_6, reg_S hg hn10 hQ (by decide) (by simp only [List.length_append, List.length_cons, List.length_nil, nxl_0, nxl_s]; omega), nb_b1, show df_X18_part n 7 1 (RS B _ _ _ w _ _ _ _) = some (fpt w 7 1, _) from pt_S (q := 7) (m := 1) (by decide), nb_b2, show df_X18_part n 25 6 (RS B _ _ _ w _ _ _ _) = some (fpt w 25 6, _) from pt_S (q := 25) (m := 6) (by decide), nb_b2, show df_X18_part n 8 4 (RS B _ _ _ w _ _ _ _) = some (fpt w 8 4, _) from pt_S (q := 8) (m := 4) (by decide), nb_b2, RS_3, vT, ta_S hn20 mT (by decide) (by simp only [List.length_append, List.length_cons, List.length_nil, nxl_0, nxl_s]; omega), nb_b1]
  simp only [List.append_assoc, List.cons_append, List.nil_append, List.append_nil, nxl_0, nxl_s]
theorem jal_S {n : Nat} {B : St} {w f : Int32} {D A Q : Nat} (hn10 : 10 < n) (hn20 : 20 < n) (hg : ∀ r : Nat, r < 32 → sR B 1 r = rgT r) (hD : D < 32) (hA : A < 32) (hQ : Q < 32) : df_X18_others_107 n (nI 111) (RS B [] 0 0 w (nI D) (nI A) (nI Q) f) = some (RS B ([106, 97, 108] ++ ([32] ++ (regL D ++ ([44, 32] ++ (tgL (tvJ w)))))) 2 1 w (nI D) (nI A) (nI Q) f) := by
  have lD : (regL D).length ≤ 4 := rg_4 ⟨D, hD⟩
  have lA : (regL A).length ≤ 4 := rg_4 ⟨A, hA⟩
  have lQ : (regL Q).length ≤ 4 := rg_4 ⟨Q, hQ⟩
  have mJ := nmv_J w
  have lJ := de_l mJ
  have vJ : ((((w >>> ((31 : Int32) &&& 31)) <<< ((20 : Int32) &&& 31)) ||| ((fpt w 12 8) <<< ((12 : Int32) &&& 31))) ||| ((fpt w 20 1) <<< ((11 : Int32) &&& 31))) ||| ((fpt w 21 10) <<< ((1 : Int32) &&& 31)) = tvJ w := by
    rw [show ((31 : Int32) &&& 31) = nI 31 from by decide, show ((20 : Int32) &&& 31) = nI 20 from by decide, show ((12 : Int32) &&& 31) = nI 12 from by decide, show ((11 : Int32) &&& 31) = nI 11 from by decide, show ((1 : Int32) &&& 31) = nI 1 from by decide]
    rfl
  unfold df_X18_others_107 df_X18_others_215
  rw [if_pos (show nI 111 = (111 : Int32) from rfl), nw_7102826 hn10 (by simp only [List.length_append, List.length_cons, List.length_nil, nxl_0, nxl_s]; omega), nb_b1, RS_4, reg_S hg hn10 hD (by decide) (by simp only [List.length_append, List.length_cons, List.length_nil, nxl_0, nxl_s]; omega), nb_b1, show df_X18_part n 12 8 (RS B _ _ _ w _ _ _ _) = some (fpt w 12 8, _) from pt_S (q := 12) (m := 8) (by decide), nb_b2, show df_X18_part n 20 1 (RS B _ _ _ w _ _ _ _) = some (fpt w 20 1, _) from pt_S (q := 20) (m := 1) (by decide), nb_b2, show df_X18_part n 21 10 (RS B _ _ _ w _ _ _ _) = some (fpt w 21 10, _) from pt_S (q := 21) (m := 10) (by decide), nb_b2, RS_3, vJ, ta_S hn20 mJ (by decide) (by simp only [List.length_append, List.length_cons, List.length_nil, nxl_0, nxl_s]; omega), nb_b1]
  simp only [List.append_assoc, List.cons_append, List.nil_append, List.append_nil, nxl_0, nxl_s]
theorem lui_S {n : Nat} {B : St} {w f : Int32} {x : Int64} {M : List Nat} {D A Q : Nat} (hn10 : 10 < n) (hn20 : 20 < n) (hg : ∀ r : Nat, r < 32 → sR B 1 r = rgT r) (hm : sayL 8 x = some M) (hl : M.length ≤ 8) (hD : D < 32) (hA : A < 32) (hQ : Q < 32) : df_X18_others_36 n x (RS B [] 0 0 w (nI D) (nI A) (nI Q) f) = some (RS B (M ++ ([32] ++ (regL D ++ ([44, 32] ++ (decI (tvU w)))))) 2 1 w (nI D) (nI A) (nI Q) f) := by
  have lD : (regL D).length ≤ 4 := rg_4 ⟨D, hD⟩
  have lA : (regL A).length ≤ 4 := rg_4 ⟨A, hA⟩
  have lQ : (regL Q).length ≤ 4 := rg_4 ⟨Q, hQ⟩
  have mU := nmv_U w
  have lU := de_l mU
  have vU : ((w.toUInt32 >>> ((nI 12).toUInt32 &&& Int32.toUInt32 (nI 31))).toInt32) = tvU w := rfl
  simp (disch := (first | assumption | decide | omega | (simp only [List.length_append, List.length_cons, List.length_nil, nxl_0, nxl_s] <;> omega))) only [df_X18_others_36, df_X18_others_215, vU, reg_S hg hn10, im_S hn20, ta_S hn20, br_S hg hn10, me_S hg hn20, nx_S, nm_S hm hn10, RS_0, RS_1, RS_2, RS_3, RS_4, RS_5, RS_6, RS_7, RS_r1, RS_w1, RS_w2, RS_w3, RS_w4, RS_w5, RS_w6, RS_w7, pt_S, List.append_assoc, List.cons_append, List.nil_append, List.append_nil, nxl_0, nxl_s, eq_self, Nat.reduceEqDiff, Nat.reduceLeDiff, nl_3, nl_4, nl_12, nl_31, no_1, no_1024, pk_mul, nI_add, nm_ck, nI_clamp, nI_ltI, nI_leI, nI_eq, nb_b2, nb_b1, ↓nb_let, nm_z0, nm_z1, nb_II, nb_IR, nb_RI, nb_RR, nm_IL, nm_IQ, nm_RL, nm_RQ, nm_LI, nm_LR, nm_LL, nm_LQ, nm_QI, nm_QR, nm_QL, nm_QQ, nm_rr, nm_ii, nm_eqm, not_false_eq_true, pk_sub, nm_div, nm_shl, nm_shr, nm_ush, nm_or8, nm_or64, nm_or256, nm_m1, nm_m3, nm_m7, nm_m15, nm_m31, nm_m63, nm_m255, nm_m511, nm_m1023, nm_m2047, nm_m65535, Nat.reduceMod, Nat.reducePow, Nat.reduceAdd, Nat.reduceSub, Nat.reduceMul, nm_bo, nm_bi, nm_rc, nm_ic, nm_ri, nm_rl, nm_rq, nm_ql, nm_qi, nm_li, nm_us, nm_uu, nm_cp, nm_sa31, nm_sa7, nm_m127, nm_m2, nm_nz, nm_nzk, nm_eq32, nm_nzf, if_true, if_false, ↓reduceIte, if_pos, if_neg]
theorem lo_3 {n : Nat} {B : St} {L : List Nat} {k l : Nat} {w d a b f : Int32} {R : St} (hop : w &&& nI 127 = nI 3) (h : df_X18_loads n (RS B L k l w (fpt w 7 5) (fpt w 15 5) (fpt w 20 5) (fpt w 12 3)) = some R) : df_X18_longOne n (RS B L k l w d a b f) = some R := by
  have hop : w &&& (127 : Int32) = 3 := hop
  unfold df_X18_longOne df_X18_longOne_0
  rw [show df_X18_part n 7 5 (RS B L k l w d a b f) = some (fpt w 7 5, _) from pt_S (q := 7) (m := 5) (by decide), nb_b2, nb_let, RS_w4, show df_X18_part n 12 3 (RS B L k l w (fpt w 7 5) a b f) = some (fpt w 12 3, _) from pt_S (q := 12) (m := 3) (by decide), nb_b2, nb_let, RS_w7, show df_X18_part n 15 5 (RS B L k l w (fpt w 7 5) a b (fpt w 12 3)) = some (fpt w 15 5, _) from pt_S (q := 15) (m := 5) (by decide), nb_b2, nb_let, RS_w5, show df_X18_part n 20 5 (RS B L k l w (fpt w 7 5) (fpt w 15 5) b (fpt w 12 3)) = some (fpt w 20 5, _) from pt_S (q := 20) (m := 5) (by decide), nb_b2, nb_let, RS_w6, show df_X18_part n 25 7 (RS B L k l w (fpt w 7 5) (fpt w 15 5) (fpt w 20 5) (fpt w 12 3)) = some (fpt w 25 7, _) from pt_S (q := 25) (m := 7) (by decide), nb_b2, RS_3, hop, if_pos rfl, h, nb_b1]
  rfl
theorem lo_19 {n : Nat} {B : St} {L : List Nat} {k l : Nat} {w d a b f : Int32} {R : St} (hop : w &&& nI 127 = nI 19) (h : df_X18_twos n (fpt w 25 7) (RS B L k l w (fpt w 7 5) (fpt w 15 5) (fpt w 20 5) (fpt w 12 3)) = some R) : df_X18_longOne n (RS B L k l w d a b f) = some R := by
  have hop : w &&& (127 : Int32) = 19 := hop
  unfold df_X18_longOne df_X18_longOne_0
  rw [show df_X18_part n 7 5 (RS B L k l w d a b f) = some (fpt w 7 5, _) from pt_S (q := 7) (m := 5) (by decide), nb_b2, nb_let, RS_w4, show df_X18_part n 12 3 (RS B L k l w (fpt w 7 5) a b f) = some (fpt w 12 3, _) from pt_S (q := 12) (m := 3) (by decide), nb_b2, nb_let, RS_w7, show df_X18_part n 15 5 (RS B L k l w (fpt w 7 5) a b (fpt w 12 3)) = some (fpt w 15 5, _) from pt_S (q := 15) (m := 5) (by decide), nb_b2, nb_let, RS_w5, show df_X18_part n 20 5 (RS B L k l w (fpt w 7 5) (fpt w 15 5) b (fpt w 12 3)) = some (fpt w 20 5, _) from pt_S (q := 20) (m := 5) (by decide), nb_b2, nb_let, RS_w6, show df_X18_part n 25 7 (RS B L k l w (fpt w 7 5) (fpt w 15 5) (fpt w 20 5) (fpt w 12 3)) = some (fpt w 25 7, _) from pt_S (q := 25) (m := 7) (by decide), nb_b2, RS_3, hop, if_neg (by decide), if_pos rfl, h, nb_b1]
  rfl
theorem lo_35 {n : Nat} {B : St} {L : List Nat} {k l : Nat} {w d a b f : Int32} {R : St} (hop : w &&& nI 127 = nI 35) (h : df_X18_stores n (RS B L k l w (fpt w 7 5) (fpt w 15 5) (fpt w 20 5) (fpt w 12 3)) = some R) : df_X18_longOne n (RS B L k l w d a b f) = some R := by
  have hop : w &&& (127 : Int32) = 35 := hop
  unfold df_X18_longOne df_X18_longOne_0
  rw [show df_X18_part n 7 5 (RS B L k l w d a b f) = some (fpt w 7 5, _) from pt_S (q := 7) (m := 5) (by decide), nb_b2, nb_let, RS_w4, show df_X18_part n 12 3 (RS B L k l w (fpt w 7 5) a b f) = some (fpt w 12 3, _) from pt_S (q := 12) (m := 3) (by decide), nb_b2, nb_let, RS_w7, show df_X18_part n 15 5 (RS B L k l w (fpt w 7 5) a b (fpt w 12 3)) = some (fpt w 15 5, _) from pt_S (q := 15) (m := 5) (by decide), nb_b2, nb_let, RS_w5, show df_X18_part n 20 5 (RS B L k l w (fpt w 7 5) (fpt w 15 5) b (fpt w 12 3)) = some (fpt w 20 5, _) from pt_S (q := 20) (m := 5) (by decide), nb_b2, nb_let, RS_w6, show df_X18_part n 25 7 (RS B L k l w (fpt w 7 5) (fpt w 15 5) (fpt w 20 5) (fpt w 12 3)) = some (fpt w 25 7, _) from pt_S (q := 25) (m := 7) (by decide), nb_b2, RS_3, hop, if_neg (by decide), if_neg (by decide), if_pos rfl, h, nb_b1]
  rfl
theorem lo_51 {n : Nat} {B : St} {L : List Nat} {k l : Nat} {w d a b f : Int32} {R : St} (hop : w &&& nI 127 = nI 51) (h : df_X18_plain n (fpt w 25 7) (RS B L k l w (fpt w 7 5) (fpt w 15 5) (fpt w 20 5) (fpt w 12 3)) = some R) : df_X18_longOne n (RS B L k l w d a b f) = some R := by
  have hop : w &&& (127 : Int32) = 51 := hop
  unfold df_X18_longOne df_X18_longOne_0
  rw [show df_X18_part n 7 5 (RS B L k l w d a b f) = some (fpt w 7 5, _) from pt_S (q := 7) (m := 5) (by decide), nb_b2, nb_let, RS_w4, show df_X18_part n 12 3 (RS B L k l w (fpt w 7 5) a b f) = some (fpt w 12 3, _) from pt_S (q := 12) (m := 3) (by decide), nb_b2, nb_let, RS_w7, show df_X18_part n 15 5 (RS B L k l w (fpt w 7 5) a b (fpt w 12 3)) = some (fpt w 15 5, _) from pt_S (q := 15) (m := 5) (by decide), nb_b2, nb_let, RS_w5, show df_X18_part n 20 5 (RS B L k l w (fpt w 7 5) (fpt w 15 5) b (fpt w 12 3)) = some (fpt w 20 5, _) from pt_S (q := 20) (m := 5) (by decide), nb_b2, nb_let, RS_w6, show df_X18_part n 25 7 (RS B L k l w (fpt w 7 5) (fpt w 15 5) (fpt w 20 5) (fpt w 12 3)) = some (fpt w 25 7, _) from pt_S (q := 25) (m := 7) (by decide), nb_b2, RS_3, hop, if_neg (by decide), if_neg (by decide), if_neg (by decide), if_neg (by decide), if_pos rfl, h, nb_b1]
  rfl
theorem lo_99 {n : Nat} {B : St} {L : List Nat} {k l : Nat} {w d a b f : Int32} {R : St} (hop : w &&& nI 127 = nI 99) (h : df_X18_branches n (RS B L k l w (fpt w 7 5) (fpt w 15 5) (fpt w 20 5) (fpt w 12 3)) = some R) : df_X18_longOne n (RS B L k l w d a b f) = some R := by
  have hop : w &&& (127 : Int32) = 99 := hop
  unfold df_X18_longOne df_X18_longOne_0
  rw [show df_X18_part n 7 5 (RS B L k l w d a b f) = some (fpt w 7 5, _) from pt_S (q := 7) (m := 5) (by decide), nb_b2, nb_let, RS_w4, show df_X18_part n 12 3 (RS B L k l w (fpt w 7 5) a b f) = some (fpt w 12 3, _) from pt_S (q := 12) (m := 3) (by decide), nb_b2, nb_let, RS_w7, show df_X18_part n 15 5 (RS B L k l w (fpt w 7 5) a b (fpt w 12 3)) = some (fpt w 15 5, _) from pt_S (q := 15) (m := 5) (by decide), nb_b2, nb_let, RS_w5, show df_X18_part n 20 5 (RS B L k l w (fpt w 7 5) (fpt w 15 5) b (fpt w 12 3)) = some (fpt w 20 5, _) from pt_S (q := 20) (m := 5) (by decide), nb_b2, nb_let, RS_w6, show df_X18_part n 25 7 (RS B L k l w (fpt w 7 5) (fpt w 15 5) (fpt w 20 5) (fpt w 12 3)) = some (fpt w 25 7, _) from pt_S (q := 25) (m := 7) (by decide), nb_b2, RS_3, hop, if_neg (by decide), if_neg (by decide), if_neg (by decide), if_neg (by decide), if_neg (by decide), if_pos rfl, h, nb_b1]
  rfl
theorem lo_115 {n : Nat} {B : St} {L : List Nat} {k l : Nat} {w d a b f : Int32} {R : St} (hop : w &&& nI 127 = nI 115) (h : df_X18_system n (RS B L k l w (fpt w 7 5) (fpt w 15 5) (fpt w 20 5) (fpt w 12 3)) = some R) : df_X18_longOne n (RS B L k l w d a b f) = some R := by
  have hop : w &&& (127 : Int32) = 115 := hop
  unfold df_X18_longOne df_X18_longOne_0
  rw [show df_X18_part n 7 5 (RS B L k l w d a b f) = some (fpt w 7 5, _) from pt_S (q := 7) (m := 5) (by decide), nb_b2, nb_let, RS_w4, show df_X18_part n 12 3 (RS B L k l w (fpt w 7 5) a b f) = some (fpt w 12 3, _) from pt_S (q := 12) (m := 3) (by decide), nb_b2, nb_let, RS_w7, show df_X18_part n 15 5 (RS B L k l w (fpt w 7 5) a b (fpt w 12 3)) = some (fpt w 15 5, _) from pt_S (q := 15) (m := 5) (by decide), nb_b2, nb_let, RS_w5, show df_X18_part n 20 5 (RS B L k l w (fpt w 7 5) (fpt w 15 5) b (fpt w 12 3)) = some (fpt w 20 5, _) from pt_S (q := 20) (m := 5) (by decide), nb_b2, nb_let, RS_w6, show df_X18_part n 25 7 (RS B L k l w (fpt w 7 5) (fpt w 15 5) (fpt w 20 5) (fpt w 12 3)) = some (fpt w 25 7, _) from pt_S (q := 25) (m := 7) (by decide), nb_b2, RS_3, hop, if_neg (by decide), if_neg (by decide), if_neg (by decide), if_neg (by decide), if_neg (by decide), if_neg (by decide), if_pos rfl, h, nb_b1]
  rfl
theorem lo_103 {n : Nat} {B : St} {L : List Nat} {k l : Nat} {w d a b f : Int32} {R : St} (hop : w &&& nI 127 = nI 103) (h : df_X18_others n (RS B L k l w (fpt w 7 5) (fpt w 15 5) (fpt w 20 5) (fpt w 12 3)) = some R) : df_X18_longOne n (RS B L k l w d a b f) = some R := by
  have hop : w &&& (127 : Int32) = 103 := hop
  unfold df_X18_longOne df_X18_longOne_0
  rw [show df_X18_part n 7 5 (RS B L k l w d a b f) = some (fpt w 7 5, _) from pt_S (q := 7) (m := 5) (by decide), nb_b2, nb_let, RS_w4, show df_X18_part n 12 3 (RS B L k l w (fpt w 7 5) a b f) = some (fpt w 12 3, _) from pt_S (q := 12) (m := 3) (by decide), nb_b2, nb_let, RS_w7, show df_X18_part n 15 5 (RS B L k l w (fpt w 7 5) a b (fpt w 12 3)) = some (fpt w 15 5, _) from pt_S (q := 15) (m := 5) (by decide), nb_b2, nb_let, RS_w5, show df_X18_part n 20 5 (RS B L k l w (fpt w 7 5) (fpt w 15 5) b (fpt w 12 3)) = some (fpt w 20 5, _) from pt_S (q := 20) (m := 5) (by decide), nb_b2, nb_let, RS_w6, show df_X18_part n 25 7 (RS B L k l w (fpt w 7 5) (fpt w 15 5) (fpt w 20 5) (fpt w 12 3)) = some (fpt w 25 7, _) from pt_S (q := 25) (m := 7) (by decide), nb_b2, RS_3, hop, if_neg (by decide), if_neg (by decide), if_neg (by decide), if_neg (by decide), if_neg (by decide), if_neg (by decide), if_neg (by decide), h, nb_b1]
  rfl
theorem lo_55 {n : Nat} {B : St} {L : List Nat} {k l : Nat} {w d a b f : Int32} {R : St} (hop : w &&& nI 127 = nI 55) (h : df_X18_others n (RS B L k l w (fpt w 7 5) (fpt w 15 5) (fpt w 20 5) (fpt w 12 3)) = some R) : df_X18_longOne n (RS B L k l w d a b f) = some R := by
  have hop : w &&& (127 : Int32) = 55 := hop
  unfold df_X18_longOne df_X18_longOne_0
  rw [show df_X18_part n 7 5 (RS B L k l w d a b f) = some (fpt w 7 5, _) from pt_S (q := 7) (m := 5) (by decide), nb_b2, nb_let, RS_w4, show df_X18_part n 12 3 (RS B L k l w (fpt w 7 5) a b f) = some (fpt w 12 3, _) from pt_S (q := 12) (m := 3) (by decide), nb_b2, nb_let, RS_w7, show df_X18_part n 15 5 (RS B L k l w (fpt w 7 5) a b (fpt w 12 3)) = some (fpt w 15 5, _) from pt_S (q := 15) (m := 5) (by decide), nb_b2, nb_let, RS_w5, show df_X18_part n 20 5 (RS B L k l w (fpt w 7 5) (fpt w 15 5) b (fpt w 12 3)) = some (fpt w 20 5, _) from pt_S (q := 20) (m := 5) (by decide), nb_b2, nb_let, RS_w6, show df_X18_part n 25 7 (RS B L k l w (fpt w 7 5) (fpt w 15 5) (fpt w 20 5) (fpt w 12 3)) = some (fpt w 25 7, _) from pt_S (q := 25) (m := 7) (by decide), nb_b2, RS_3, hop, if_neg (by decide), if_neg (by decide), if_neg (by decide), if_neg (by decide), if_neg (by decide), if_neg (by decide), if_neg (by decide), h, nb_b1]
  rfl
theorem lo_23 {n : Nat} {B : St} {L : List Nat} {k l : Nat} {w d a b f : Int32} {R : St} (hop : w &&& nI 127 = nI 23) (h : df_X18_others n (RS B L k l w (fpt w 7 5) (fpt w 15 5) (fpt w 20 5) (fpt w 12 3)) = some R) : df_X18_longOne n (RS B L k l w d a b f) = some R := by
  have hop : w &&& (127 : Int32) = 23 := hop
  unfold df_X18_longOne df_X18_longOne_0
  rw [show df_X18_part n 7 5 (RS B L k l w d a b f) = some (fpt w 7 5, _) from pt_S (q := 7) (m := 5) (by decide), nb_b2, nb_let, RS_w4, show df_X18_part n 12 3 (RS B L k l w (fpt w 7 5) a b f) = some (fpt w 12 3, _) from pt_S (q := 12) (m := 3) (by decide), nb_b2, nb_let, RS_w7, show df_X18_part n 15 5 (RS B L k l w (fpt w 7 5) a b (fpt w 12 3)) = some (fpt w 15 5, _) from pt_S (q := 15) (m := 5) (by decide), nb_b2, nb_let, RS_w5, show df_X18_part n 20 5 (RS B L k l w (fpt w 7 5) (fpt w 15 5) b (fpt w 12 3)) = some (fpt w 20 5, _) from pt_S (q := 20) (m := 5) (by decide), nb_b2, nb_let, RS_w6, show df_X18_part n 25 7 (RS B L k l w (fpt w 7 5) (fpt w 15 5) (fpt w 20 5) (fpt w 12 3)) = some (fpt w 25 7, _) from pt_S (q := 25) (m := 7) (by decide), nb_b2, RS_3, hop, if_neg (by decide), if_neg (by decide), if_neg (by decide), if_neg (by decide), if_neg (by decide), if_neg (by decide), if_neg (by decide), h, nb_b1]
  rfl
theorem lo_111 {n : Nat} {B : St} {L : List Nat} {k l : Nat} {w d a b f : Int32} {R : St} (hop : w &&& nI 127 = nI 111) (h : df_X18_others n (RS B L k l w (fpt w 7 5) (fpt w 15 5) (fpt w 20 5) (fpt w 12 3)) = some R) : df_X18_longOne n (RS B L k l w d a b f) = some R := by
  have hop : w &&& (127 : Int32) = 111 := hop
  unfold df_X18_longOne df_X18_longOne_0
  rw [show df_X18_part n 7 5 (RS B L k l w d a b f) = some (fpt w 7 5, _) from pt_S (q := 7) (m := 5) (by decide), nb_b2, nb_let, RS_w4, show df_X18_part n 12 3 (RS B L k l w (fpt w 7 5) a b f) = some (fpt w 12 3, _) from pt_S (q := 12) (m := 3) (by decide), nb_b2, nb_let, RS_w7, show df_X18_part n 15 5 (RS B L k l w (fpt w 7 5) a b (fpt w 12 3)) = some (fpt w 15 5, _) from pt_S (q := 15) (m := 5) (by decide), nb_b2, nb_let, RS_w5, show df_X18_part n 20 5 (RS B L k l w (fpt w 7 5) (fpt w 15 5) b (fpt w 12 3)) = some (fpt w 20 5, _) from pt_S (q := 20) (m := 5) (by decide), nb_b2, nb_let, RS_w6, show df_X18_part n 25 7 (RS B L k l w (fpt w 7 5) (fpt w 15 5) (fpt w 20 5) (fpt w 12 3)) = some (fpt w 25 7, _) from pt_S (q := 25) (m := 7) (by decide), nb_b2, RS_3, hop, if_neg (by decide), if_neg (by decide), if_neg (by decide), if_neg (by decide), if_neg (by decide), if_neg (by decide), if_neg (by decide), h, nb_b1]
  rfl
theorem lo_15 {n : Nat} {B : St} {L : List Nat} {k l : Nat} {w d a b f : Int32} {R : St} (hop : w &&& nI 127 = nI 15) (h : df_X18_others n (RS B L k l w (fpt w 7 5) (fpt w 15 5) (fpt w 20 5) (fpt w 12 3)) = some R) : df_X18_longOne n (RS B L k l w d a b f) = some R := by
  have hop : w &&& (127 : Int32) = 15 := hop
  unfold df_X18_longOne df_X18_longOne_0
  rw [show df_X18_part n 7 5 (RS B L k l w d a b f) = some (fpt w 7 5, _) from pt_S (q := 7) (m := 5) (by decide), nb_b2, nb_let, RS_w4, show df_X18_part n 12 3 (RS B L k l w (fpt w 7 5) a b f) = some (fpt w 12 3, _) from pt_S (q := 12) (m := 3) (by decide), nb_b2, nb_let, RS_w7, show df_X18_part n 15 5 (RS B L k l w (fpt w 7 5) a b (fpt w 12 3)) = some (fpt w 15 5, _) from pt_S (q := 15) (m := 5) (by decide), nb_b2, nb_let, RS_w5, show df_X18_part n 20 5 (RS B L k l w (fpt w 7 5) (fpt w 15 5) b (fpt w 12 3)) = some (fpt w 20 5, _) from pt_S (q := 20) (m := 5) (by decide), nb_b2, nb_let, RS_w6, show df_X18_part n 25 7 (RS B L k l w (fpt w 7 5) (fpt w 15 5) (fpt w 20 5) (fpt w 12 3)) = some (fpt w 25 7, _) from pt_S (q := 25) (m := 7) (by decide), nb_b2, RS_3, hop, if_neg (by decide), if_neg (by decide), if_neg (by decide), if_neg (by decide), if_neg (by decide), if_neg (by decide), if_neg (by decide), h, nb_b1]
  rfl
theorem rtx_0 {n : Nat} {B : St} {w d0 a0 b0 f0 : Int32} (hn : 30 < n) (hg : ∀ r : Nat, r < 32 → sR B 1 r = rgT r) (hm : MKp 0 w) : ∃ (k : Nat) (d a b f : Int32), df_X18_longOne n (RS B [] 0 0 w d0 a0 b0 f0) = some (RS B (txL (fun c => tvA c w) 0 w) k 1 w d a b f) := by
  have hw : w &&& nI 4261441663 = nI 51 := hm.2.trans (by decide +kernel)
  have hn10 : 10 < n := by omega
  have hn20 : 20 < n := by omega
  obtain ⟨D, hD, eD⟩ := pt_n (w := w) (k := 7) (m := 5) (by decide) (by decide)
  have hD : D < 32 := hD
  obtain ⟨A, hA, eA⟩ := pt_n (w := w) (k := 15) (m := 5) (by decide) (by decide)
  have hA : A < 32 := hA
  obtain ⟨Q, hQ, eQ⟩ := pt_n (w := w) (k := 20) (m := 5) (by decide) (by decide)
  have hQ : Q < 32 := hQ
  have tx : txL (fun c => tvA c w) 0 w = ([97, 100, 100] ++ ([32] ++ (regL D ++ ([44, 32] ++ (regL A ++ ([44, 32] ++ (regL Q))))))) := by
    unfold txL sfxL
    rw [show strL (ko_w 0) = [97, 100, 100] from by decide +kernel, show strL (ko_f 0) = [100, 44, 97, 44, 98] from by decide +kernel, if_neg (show ¬ (ko_b 0 &&& 127 : Int32) = 47 by decide +kernel)]
    simp only [wrT, oc_44, (show oper 97 (tvA 97 w) = regL A from or_1 (by decide) (by decide) eA hA), (show oper 98 (tvA 98 w) = regL Q from or_1 (by decide) (by decide) eQ hQ), (show oper 100 (tvA 100 w) = regL D from or_1 (by decide) (by decide) eD hD), ne_eq, reduceCtorEq, not_false_eq_true, not_true_eq_false, if_true, if_false, ↓reduceIte, List.append_assoc, List.cons_append, List.nil_append, List.append_nil, nxl_0, nxl_s]
  have hop : w &&& nI 127 = nI 51 := (sub_3 hw (by decide)).trans (by decide)
  have f3 : fpt w 12 3 = nI 0 := pf_1 hw (by decide) (by decide) (by decide)
  have g7 : fpt w 25 7 = nI 0 := pf_1 hw (by decide) (by decide) (by decide)
  have hS := th_S (f := nI 0) (x := 6579297) (M := [97, 100, 100]) (w := w) hn10 hn20 hg (by decide +kernel) (by decide) hD hA hQ
  have key : df_X18_plain n (nI 0) (RS B [] 0 0 w (nI D) (nI A) (nI Q) (nI 0)) = some (RS B ([97, 100, 100] ++ ([32] ++ (regL D ++ ([44, 32] ++ (regL A ++ ([44, 32] ++ (regL Q))))))) 3 1 w (nI D) (nI A) (nI Q) (nI 0)) := by
    simp (disch := (first | assumption | decide | omega | (simp only [List.length_append, List.length_cons, List.length_nil, nxl_0, nxl_s] <;> omega))) only [df_X18_plain_266, df_X18_plain_263, df_X18_plain_246, df_X18_plain_219, df_X18_plain_106, df_X18_plain_0, df_X18_plain, hS, RS_0, RS_1, RS_2, RS_3, RS_4, RS_5, RS_6, RS_7, RS_r1, RS_w1, RS_w2, RS_w3, RS_w4, RS_w5, RS_w6, RS_w7, pt_S, List.append_assoc, List.cons_append, List.nil_append, List.append_nil, nxl_0, nxl_s, eq_self, Nat.reduceEqDiff, Nat.reduceLeDiff, nl_0, nl_1, nl_2, nl_3, nl_4, nl_5, nl_6, nl_7, nl_32, nl_29295, nl_6386291, nl_6452595, nl_6579297, nl_6581857, nl_7105651, nl_7107187, nl_7107949, nl_7169394, nl_7499640, nl_7629939, nl_7760228, nl_1751938413, nl_1970103666, nl_1970564211, nl_1970694500, no_1, no_1024, pk_mul, nI_add, nm_ck, nI_clamp, nI_ltI, nI_leI, nI_eq, nb_b2, nb_b1, ↓nb_let, nm_z0, nm_z1, nb_II, nb_IR, nb_RI, nb_RR, nm_IL, nm_IQ, nm_RL, nm_RQ, nm_LI, nm_LR, nm_LL, nm_LQ, nm_QI, nm_QR, nm_QL, nm_QQ, nm_rr, nm_ii, nm_eqm, not_false_eq_true, pk_sub, nm_div, nm_shl, nm_shr, nm_ush, nm_or8, nm_or64, nm_or256, nm_m1, nm_m3, nm_m7, nm_m15, nm_m31, nm_m63, nm_m255, nm_m511, nm_m1023, nm_m2047, nm_m65535, Nat.reduceMod, Nat.reducePow, Nat.reduceAdd, Nat.reduceSub, Nat.reduceMul, nm_bo, nm_bi, nm_rc, nm_ic, nm_ri, nm_rl, nm_rq, nm_ql, nm_qi, nm_li, nm_us, nm_uu, nm_cp, nm_sa31, nm_sa7, nm_m127, nm_m2, nm_nz, nm_nzk, nm_eq32, nm_nzf, if_true, if_false, ↓reduceIte, if_pos, if_neg]
  exact ⟨_, _, _, _, _, lo_51 hop (by rw [eD, eA, eQ, f3, g7, key, tx])⟩
theorem rtx_1 {n : Nat} {B : St} {w d0 a0 b0 f0 : Int32} (hn : 30 < n) (hg : ∀ r : Nat, r < 32 → sR B 1 r = rgT r) (hm : MKp 1 w) : ∃ (k : Nat) (d a b f : Int32), df_X18_longOne n (RS B [] 0 0 w d0 a0 b0 f0) = some (RS B (txL (fun c => tvA c w) 1 w) k 1 w d a b f) := by
  have hw : w &&& nI 4261441663 = nI 1073741875 := hm.2.trans (by decide +kernel)
  have hn10 : 10 < n := by omega
  have hn20 : 20 < n := by omega
  obtain ⟨D, hD, eD⟩ := pt_n (w := w) (k := 7) (m := 5) (by decide) (by decide)
  have hD : D < 32 := hD
  obtain ⟨A, hA, eA⟩ := pt_n (w := w) (k := 15) (m := 5) (by decide) (by decide)
  have hA : A < 32 := hA
  obtain ⟨Q, hQ, eQ⟩ := pt_n (w := w) (k := 20) (m := 5) (by decide) (by decide)
  have hQ : Q < 32 := hQ
  have tx : txL (fun c => tvA c w) 1 w = ([115, 117, 98] ++ ([32] ++ (regL D ++ ([44, 32] ++ (regL A ++ ([44, 32] ++ (regL Q))))))) := by
    unfold txL sfxL
    rw [show strL (ko_w 1) = [115, 117, 98] from by decide +kernel, show strL (ko_f 1) = [100, 44, 97, 44, 98] from by decide +kernel, if_neg (show ¬ (ko_b 1 &&& 127 : Int32) = 47 by decide +kernel)]
    simp only [wrT, oc_44, (show oper 97 (tvA 97 w) = regL A from or_1 (by decide) (by decide) eA hA), (show oper 98 (tvA 98 w) = regL Q from or_1 (by decide) (by decide) eQ hQ), (show oper 100 (tvA 100 w) = regL D from or_1 (by decide) (by decide) eD hD), ne_eq, reduceCtorEq, not_false_eq_true, not_true_eq_false, if_true, if_false, ↓reduceIte, List.append_assoc, List.cons_append, List.nil_append, List.append_nil, nxl_0, nxl_s]
  have hop : w &&& nI 127 = nI 51 := (sub_3 hw (by decide)).trans (by decide)
  have f3 : fpt w 12 3 = nI 0 := pf_1 hw (by decide) (by decide) (by decide)
  have g7 : fpt w 25 7 = nI 32 := pf_1 hw (by decide) (by decide) (by decide)
  have hS := th_S (f := nI 0) (x := 6452595) (M := [115, 117, 98]) (w := w) hn10 hn20 hg (by decide +kernel) (by decide) hD hA hQ
  have key : df_X18_plain n (nI 32) (RS B [] 0 0 w (nI D) (nI A) (nI Q) (nI 0)) = some (RS B ([115, 117, 98] ++ ([32] ++ (regL D ++ ([44, 32] ++ (regL A ++ ([44, 32] ++ (regL Q))))))) 3 1 w (nI D) (nI A) (nI Q) (nI 0)) := by
    simp (disch := (first | assumption | decide | omega | (simp only [List.length_append, List.length_cons, List.length_nil, nxl_0, nxl_s] <;> omega))) only [df_X18_plain_266, df_X18_plain_263, df_X18_plain_246, df_X18_plain_219, df_X18_plain_106, df_X18_plain_0, df_X18_plain, hS, RS_0, RS_1, RS_2, RS_3, RS_4, RS_5, RS_6, RS_7, RS_r1, RS_w1, RS_w2, RS_w3, RS_w4, RS_w5, RS_w6, RS_w7, pt_S, List.append_assoc, List.cons_append, List.nil_append, List.append_nil, nxl_0, nxl_s, eq_self, Nat.reduceEqDiff, Nat.reduceLeDiff, nl_0, nl_1, nl_2, nl_3, nl_4, nl_5, nl_6, nl_7, nl_32, nl_29295, nl_6386291, nl_6452595, nl_6579297, nl_6581857, nl_7105651, nl_7107187, nl_7107949, nl_7169394, nl_7499640, nl_7629939, nl_7760228, nl_1751938413, nl_1970103666, nl_1970564211, nl_1970694500, no_1, no_1024, pk_mul, nI_add, nm_ck, nI_clamp, nI_ltI, nI_leI, nI_eq, nb_b2, nb_b1, ↓nb_let, nm_z0, nm_z1, nb_II, nb_IR, nb_RI, nb_RR, nm_IL, nm_IQ, nm_RL, nm_RQ, nm_LI, nm_LR, nm_LL, nm_LQ, nm_QI, nm_QR, nm_QL, nm_QQ, nm_rr, nm_ii, nm_eqm, not_false_eq_true, pk_sub, nm_div, nm_shl, nm_shr, nm_ush, nm_or8, nm_or64, nm_or256, nm_m1, nm_m3, nm_m7, nm_m15, nm_m31, nm_m63, nm_m255, nm_m511, nm_m1023, nm_m2047, nm_m65535, Nat.reduceMod, Nat.reducePow, Nat.reduceAdd, Nat.reduceSub, Nat.reduceMul, nm_bo, nm_bi, nm_rc, nm_ic, nm_ri, nm_rl, nm_rq, nm_ql, nm_qi, nm_li, nm_us, nm_uu, nm_cp, nm_sa31, nm_sa7, nm_m127, nm_m2, nm_nz, nm_nzk, nm_eq32, nm_nzf, if_true, if_false, ↓reduceIte, if_pos, if_neg]
  exact ⟨_, _, _, _, _, lo_51 hop (by rw [eD, eA, eQ, f3, g7, key, tx])⟩
theorem rtx_2 {n : Nat} {B : St} {w d0 a0 b0 f0 : Int32} (hn : 30 < n) (hg : ∀ r : Nat, r < 32 → sR B 1 r = rgT r) (hm : MKp 2 w) : ∃ (k : Nat) (d a b f : Int32), df_X18_longOne n (RS B [] 0 0 w d0 a0 b0 f0) = some (RS B (txL (fun c => tvA c w) 2 w) k 1 w d a b f) := by
  have hw : w &&& nI 4261441663 = nI 4147 := hm.2.trans (by decide +kernel)
  have hn10 : 10 < n := by omega
  have hn20 : 20 < n := by omega
  obtain ⟨D, hD, eD⟩ := pt_n (w := w) (k := 7) (m := 5) (by decide) (by decide)
  have hD : D < 32 := hD
  obtain ⟨A, hA, eA⟩ := pt_n (w := w) (k := 15) (m := 5) (by decide) (by decide)
  have hA : A < 32 := hA
  obtain ⟨Q, hQ, eQ⟩ := pt_n (w := w) (k := 20) (m := 5) (by decide) (by decide)
  have hQ : Q < 32 := hQ
  have tx : txL (fun c => tvA c w) 2 w = ([115, 108, 108] ++ ([32] ++ (regL D ++ ([44, 32] ++ (regL A ++ ([44, 32] ++ (regL Q))))))) := by
    unfold txL sfxL
    rw [show strL (ko_w 2) = [115, 108, 108] from by decide +kernel, show strL (ko_f 2) = [100, 44, 97, 44, 98] from by decide +kernel, if_neg (show ¬ (ko_b 2 &&& 127 : Int32) = 47 by decide +kernel)]
    simp only [wrT, oc_44, (show oper 97 (tvA 97 w) = regL A from or_1 (by decide) (by decide) eA hA), (show oper 98 (tvA 98 w) = regL Q from or_1 (by decide) (by decide) eQ hQ), (show oper 100 (tvA 100 w) = regL D from or_1 (by decide) (by decide) eD hD), ne_eq, reduceCtorEq, not_false_eq_true, not_true_eq_false, if_true, if_false, ↓reduceIte, List.append_assoc, List.cons_append, List.nil_append, List.append_nil, nxl_0, nxl_s]
  have hop : w &&& nI 127 = nI 51 := (sub_3 hw (by decide)).trans (by decide)
  have f3 : fpt w 12 3 = nI 1 := pf_1 hw (by decide) (by decide) (by decide)
  have g7 : fpt w 25 7 = nI 0 := pf_1 hw (by decide) (by decide) (by decide)
  have hS := th_S (f := nI 1) (x := 7105651) (M := [115, 108, 108]) (w := w) hn10 hn20 hg (by decide +kernel) (by decide) hD hA hQ
  have key : df_X18_plain n (nI 0) (RS B [] 0 0 w (nI D) (nI A) (nI Q) (nI 1)) = some (RS B ([115, 108, 108] ++ ([32] ++ (regL D ++ ([44, 32] ++ (regL A ++ ([44, 32] ++ (regL Q))))))) 3 1 w (nI D) (nI A) (nI Q) (nI 1)) := by
    simp (disch := (first | assumption | decide | omega | (simp only [List.length_append, List.length_cons, List.length_nil, nxl_0, nxl_s] <;> omega))) only [df_X18_plain_266, df_X18_plain_263, df_X18_plain_246, df_X18_plain_219, df_X18_plain_106, df_X18_plain_0, df_X18_plain, hS, RS_0, RS_1, RS_2, RS_3, RS_4, RS_5, RS_6, RS_7, RS_r1, RS_w1, RS_w2, RS_w3, RS_w4, RS_w5, RS_w6, RS_w7, pt_S, List.append_assoc, List.cons_append, List.nil_append, List.append_nil, nxl_0, nxl_s, eq_self, Nat.reduceEqDiff, Nat.reduceLeDiff, nl_0, nl_1, nl_2, nl_3, nl_4, nl_5, nl_6, nl_7, nl_32, nl_29295, nl_6386291, nl_6452595, nl_6579297, nl_6581857, nl_7105651, nl_7107187, nl_7107949, nl_7169394, nl_7499640, nl_7629939, nl_7760228, nl_1751938413, nl_1970103666, nl_1970564211, nl_1970694500, no_1, no_1024, pk_mul, nI_add, nm_ck, nI_clamp, nI_ltI, nI_leI, nI_eq, nb_b2, nb_b1, ↓nb_let, nm_z0, nm_z1, nb_II, nb_IR, nb_RI, nb_RR, nm_IL, nm_IQ, nm_RL, nm_RQ, nm_LI, nm_LR, nm_LL, nm_LQ, nm_QI, nm_QR, nm_QL, nm_QQ, nm_rr, nm_ii, nm_eqm, not_false_eq_true, pk_sub, nm_div, nm_shl, nm_shr, nm_ush, nm_or8, nm_or64, nm_or256, nm_m1, nm_m3, nm_m7, nm_m15, nm_m31, nm_m63, nm_m255, nm_m511, nm_m1023, nm_m2047, nm_m65535, Nat.reduceMod, Nat.reducePow, Nat.reduceAdd, Nat.reduceSub, Nat.reduceMul, nm_bo, nm_bi, nm_rc, nm_ic, nm_ri, nm_rl, nm_rq, nm_ql, nm_qi, nm_li, nm_us, nm_uu, nm_cp, nm_sa31, nm_sa7, nm_m127, nm_m2, nm_nz, nm_nzk, nm_eq32, nm_nzf, if_true, if_false, ↓reduceIte, if_pos, if_neg]
  exact ⟨_, _, _, _, _, lo_51 hop (by rw [eD, eA, eQ, f3, g7, key, tx])⟩
theorem rtx_3 {n : Nat} {B : St} {w d0 a0 b0 f0 : Int32} (hn : 30 < n) (hg : ∀ r : Nat, r < 32 → sR B 1 r = rgT r) (hm : MKp 3 w) : ∃ (k : Nat) (d a b f : Int32), df_X18_longOne n (RS B [] 0 0 w d0 a0 b0 f0) = some (RS B (txL (fun c => tvA c w) 3 w) k 1 w d a b f) := by
  have hw : w &&& nI 4261441663 = nI 8243 := hm.2.trans (by decide +kernel)
  have hn10 : 10 < n := by omega
  have hn20 : 20 < n := by omega
  obtain ⟨D, hD, eD⟩ := pt_n (w := w) (k := 7) (m := 5) (by decide) (by decide)
  have hD : D < 32 := hD
  obtain ⟨A, hA, eA⟩ := pt_n (w := w) (k := 15) (m := 5) (by decide) (by decide)
  have hA : A < 32 := hA
  obtain ⟨Q, hQ, eQ⟩ := pt_n (w := w) (k := 20) (m := 5) (by decide) (by decide)
  have hQ : Q < 32 := hQ
  have tx : txL (fun c => tvA c w) 3 w = ([115, 108, 116] ++ ([32] ++ (regL D ++ ([44, 32] ++ (regL A ++ ([44, 32] ++ (regL Q))))))) := by
    unfold txL sfxL
    rw [show strL (ko_w 3) = [115, 108, 116] from by decide +kernel, show strL (ko_f 3) = [100, 44, 97, 44, 98] from by decide +kernel, if_neg (show ¬ (ko_b 3 &&& 127 : Int32) = 47 by decide +kernel)]
    simp only [wrT, oc_44, (show oper 97 (tvA 97 w) = regL A from or_1 (by decide) (by decide) eA hA), (show oper 98 (tvA 98 w) = regL Q from or_1 (by decide) (by decide) eQ hQ), (show oper 100 (tvA 100 w) = regL D from or_1 (by decide) (by decide) eD hD), ne_eq, reduceCtorEq, not_false_eq_true, not_true_eq_false, if_true, if_false, ↓reduceIte, List.append_assoc, List.cons_append, List.nil_append, List.append_nil, nxl_0, nxl_s]
  have hop : w &&& nI 127 = nI 51 := (sub_3 hw (by decide)).trans (by decide)
  have f3 : fpt w 12 3 = nI 2 := pf_1 hw (by decide) (by decide) (by decide)
  have g7 : fpt w 25 7 = nI 0 := pf_1 hw (by decide) (by decide) (by decide)
  have hS := th_S (f := nI 2) (x := 7629939) (M := [115, 108, 116]) (w := w) hn10 hn20 hg (by decide +kernel) (by decide) hD hA hQ
  have key : df_X18_plain n (nI 0) (RS B [] 0 0 w (nI D) (nI A) (nI Q) (nI 2)) = some (RS B ([115, 108, 116] ++ ([32] ++ (regL D ++ ([44, 32] ++ (regL A ++ ([44, 32] ++ (regL Q))))))) 3 1 w (nI D) (nI A) (nI Q) (nI 2)) := by
    simp (disch := (first | assumption | decide | omega | (simp only [List.length_append, List.length_cons, List.length_nil, nxl_0, nxl_s] <;> omega))) only [df_X18_plain_266, df_X18_plain_263, df_X18_plain_246, df_X18_plain_219, df_X18_plain_106, df_X18_plain_0, df_X18_plain, hS, RS_0, RS_1, RS_2, RS_3, RS_4, RS_5, RS_6, RS_7, RS_r1, RS_w1, RS_w2, RS_w3, RS_w4, RS_w5, RS_w6, RS_w7, pt_S, List.append_assoc, List.cons_append, List.nil_append, List.append_nil, nxl_0, nxl_s, eq_self, Nat.reduceEqDiff, Nat.reduceLeDiff, nl_0, nl_1, nl_2, nl_3, nl_4, nl_5, nl_6, nl_7, nl_32, nl_29295, nl_6386291, nl_6452595, nl_6579297, nl_6581857, nl_7105651, nl_7107187, nl_7107949, nl_7169394, nl_7499640, nl_7629939, nl_7760228, nl_1751938413, nl_1970103666, nl_1970564211, nl_1970694500, no_1, no_1024, pk_mul, nI_add, nm_ck, nI_clamp, nI_ltI, nI_leI, nI_eq, nb_b2, nb_b1, ↓nb_let, nm_z0, nm_z1, nb_II, nb_IR, nb_RI, nb_RR, nm_IL, nm_IQ, nm_RL, nm_RQ, nm_LI, nm_LR, nm_LL, nm_LQ, nm_QI, nm_QR, nm_QL, nm_QQ, nm_rr, nm_ii, nm_eqm, not_false_eq_true, pk_sub, nm_div, nm_shl, nm_shr, nm_ush, nm_or8, nm_or64, nm_or256, nm_m1, nm_m3, nm_m7, nm_m15, nm_m31, nm_m63, nm_m255, nm_m511, nm_m1023, nm_m2047, nm_m65535, Nat.reduceMod, Nat.reducePow, Nat.reduceAdd, Nat.reduceSub, Nat.reduceMul, nm_bo, nm_bi, nm_rc, nm_ic, nm_ri, nm_rl, nm_rq, nm_ql, nm_qi, nm_li, nm_us, nm_uu, nm_cp, nm_sa31, nm_sa7, nm_m127, nm_m2, nm_nz, nm_nzk, nm_eq32, nm_nzf, if_true, if_false, ↓reduceIte, if_pos, if_neg]
  exact ⟨_, _, _, _, _, lo_51 hop (by rw [eD, eA, eQ, f3, g7, key, tx])⟩
theorem rtx_4 {n : Nat} {B : St} {w d0 a0 b0 f0 : Int32} (hn : 30 < n) (hg : ∀ r : Nat, r < 32 → sR B 1 r = rgT r) (hm : MKp 4 w) : ∃ (k : Nat) (d a b f : Int32), df_X18_longOne n (RS B [] 0 0 w d0 a0 b0 f0) = some (RS B (txL (fun c => tvA c w) 4 w) k 1 w d a b f) := by
  have hw : w &&& nI 4261441663 = nI 12339 := hm.2.trans (by decide +kernel)
  have hn10 : 10 < n := by omega
  have hn20 : 20 < n := by omega
  obtain ⟨D, hD, eD⟩ := pt_n (w := w) (k := 7) (m := 5) (by decide) (by decide)
  have hD : D < 32 := hD
  obtain ⟨A, hA, eA⟩ := pt_n (w := w) (k := 15) (m := 5) (by decide) (by decide)
  have hA : A < 32 := hA
  obtain ⟨Q, hQ, eQ⟩ := pt_n (w := w) (k := 20) (m := 5) (by decide) (by decide)
  have hQ : Q < 32 := hQ
  have tx : txL (fun c => tvA c w) 4 w = ([115, 108, 116, 117] ++ ([32] ++ (regL D ++ ([44, 32] ++ (regL A ++ ([44, 32] ++ (regL Q))))))) := by
    unfold txL sfxL
    rw [show strL (ko_w 4) = [115, 108, 116, 117] from by decide +kernel, show strL (ko_f 4) = [100, 44, 97, 44, 98] from by decide +kernel, if_neg (show ¬ (ko_b 4 &&& 127 : Int32) = 47 by decide +kernel)]
    simp only [wrT, oc_44, (show oper 97 (tvA 97 w) = regL A from or_1 (by decide) (by decide) eA hA), (show oper 98 (tvA 98 w) = regL Q from or_1 (by decide) (by decide) eQ hQ), (show oper 100 (tvA 100 w) = regL D from or_1 (by decide) (by decide) eD hD), ne_eq, reduceCtorEq, not_false_eq_true, not_true_eq_false, if_true, if_false, ↓reduceIte, List.append_assoc, List.cons_append, List.nil_append, List.append_nil, nxl_0, nxl_s]
  have hop : w &&& nI 127 = nI 51 := (sub_3 hw (by decide)).trans (by decide)
  have f3 : fpt w 12 3 = nI 3 := pf_1 hw (by decide) (by decide) (by decide)
  have g7 : fpt w 25 7 = nI 0 := pf_1 hw (by decide) (by decide) (by decide)
  have hS := th_S (f := nI 3) (x := 1970564211) (M := [115, 108, 116, 117]) (w := w) hn10 hn20 hg (by decide +kernel) (by decide) hD hA hQ
  have key : df_X18_plain n (nI 0) (RS B [] 0 0 w (nI D) (nI A) (nI Q) (nI 3)) = some (RS B ([115, 108, 116, 117] ++ ([32] ++ (regL D ++ ([44, 32] ++ (regL A ++ ([44, 32] ++ (regL Q))))))) 3 1 w (nI D) (nI A) (nI Q) (nI 3)) := by
    simp (disch := (first | assumption | decide | omega | (simp only [List.length_append, List.length_cons, List.length_nil, nxl_0, nxl_s] <;> omega))) only [df_X18_plain_266, df_X18_plain_263, df_X18_plain_246, df_X18_plain_219, df_X18_plain_106, df_X18_plain_0, df_X18_plain, hS, RS_0, RS_1, RS_2, RS_3, RS_4, RS_5, RS_6, RS_7, RS_r1, RS_w1, RS_w2, RS_w3, RS_w4, RS_w5, RS_w6, RS_w7, pt_S, List.append_assoc, List.cons_append, List.nil_append, List.append_nil, nxl_0, nxl_s, eq_self, Nat.reduceEqDiff, Nat.reduceLeDiff, nl_0, nl_1, nl_2, nl_3, nl_4, nl_5, nl_6, nl_7, nl_32, nl_29295, nl_6386291, nl_6452595, nl_6579297, nl_6581857, nl_7105651, nl_7107187, nl_7107949, nl_7169394, nl_7499640, nl_7629939, nl_7760228, nl_1751938413, nl_1970103666, nl_1970564211, nl_1970694500, no_1, no_1024, pk_mul, nI_add, nm_ck, nI_clamp, nI_ltI, nI_leI, nI_eq, nb_b2, nb_b1, ↓nb_let, nm_z0, nm_z1, nb_II, nb_IR, nb_RI, nb_RR, nm_IL, nm_IQ, nm_RL, nm_RQ, nm_LI, nm_LR, nm_LL, nm_LQ, nm_QI, nm_QR, nm_QL, nm_QQ, nm_rr, nm_ii, nm_eqm, not_false_eq_true, pk_sub, nm_div, nm_shl, nm_shr, nm_ush, nm_or8, nm_or64, nm_or256, nm_m1, nm_m3, nm_m7, nm_m15, nm_m31, nm_m63, nm_m255, nm_m511, nm_m1023, nm_m2047, nm_m65535, Nat.reduceMod, Nat.reducePow, Nat.reduceAdd, Nat.reduceSub, Nat.reduceMul, nm_bo, nm_bi, nm_rc, nm_ic, nm_ri, nm_rl, nm_rq, nm_ql, nm_qi, nm_li, nm_us, nm_uu, nm_cp, nm_sa31, nm_sa7, nm_m127, nm_m2, nm_nz, nm_nzk, nm_eq32, nm_nzf, if_true, if_false, ↓reduceIte, if_pos, if_neg]
  exact ⟨_, _, _, _, _, lo_51 hop (by rw [eD, eA, eQ, f3, g7, key, tx])⟩
theorem rtx_5 {n : Nat} {B : St} {w d0 a0 b0 f0 : Int32} (hn : 30 < n) (hg : ∀ r : Nat, r < 32 → sR B 1 r = rgT r) (hm : MKp 5 w) : ∃ (k : Nat) (d a b f : Int32), df_X18_longOne n (RS B [] 0 0 w d0 a0 b0 f0) = some (RS B (txL (fun c => tvA c w) 5 w) k 1 w d a b f) := by
  have hw : w &&& nI 4261441663 = nI 16435 := hm.2.trans (by decide +kernel)
  have hn10 : 10 < n := by omega
  have hn20 : 20 < n := by omega
  obtain ⟨D, hD, eD⟩ := pt_n (w := w) (k := 7) (m := 5) (by decide) (by decide)
  have hD : D < 32 := hD
  obtain ⟨A, hA, eA⟩ := pt_n (w := w) (k := 15) (m := 5) (by decide) (by decide)
  have hA : A < 32 := hA
  obtain ⟨Q, hQ, eQ⟩ := pt_n (w := w) (k := 20) (m := 5) (by decide) (by decide)
  have hQ : Q < 32 := hQ
  have tx : txL (fun c => tvA c w) 5 w = ([120, 111, 114] ++ ([32] ++ (regL D ++ ([44, 32] ++ (regL A ++ ([44, 32] ++ (regL Q))))))) := by
    unfold txL sfxL
    rw [show strL (ko_w 5) = [120, 111, 114] from by decide +kernel, show strL (ko_f 5) = [100, 44, 97, 44, 98] from by decide +kernel, if_neg (show ¬ (ko_b 5 &&& 127 : Int32) = 47 by decide +kernel)]
    simp only [wrT, oc_44, (show oper 97 (tvA 97 w) = regL A from or_1 (by decide) (by decide) eA hA), (show oper 98 (tvA 98 w) = regL Q from or_1 (by decide) (by decide) eQ hQ), (show oper 100 (tvA 100 w) = regL D from or_1 (by decide) (by decide) eD hD), ne_eq, reduceCtorEq, not_false_eq_true, not_true_eq_false, if_true, if_false, ↓reduceIte, List.append_assoc, List.cons_append, List.nil_append, List.append_nil, nxl_0, nxl_s]
  have hop : w &&& nI 127 = nI 51 := (sub_3 hw (by decide)).trans (by decide)
  have f3 : fpt w 12 3 = nI 4 := pf_1 hw (by decide) (by decide) (by decide)
  have g7 : fpt w 25 7 = nI 0 := pf_1 hw (by decide) (by decide) (by decide)
  have hS := th_S (f := nI 4) (x := 7499640) (M := [120, 111, 114]) (w := w) hn10 hn20 hg (by decide +kernel) (by decide) hD hA hQ
  have key : df_X18_plain n (nI 0) (RS B [] 0 0 w (nI D) (nI A) (nI Q) (nI 4)) = some (RS B ([120, 111, 114] ++ ([32] ++ (regL D ++ ([44, 32] ++ (regL A ++ ([44, 32] ++ (regL Q))))))) 3 1 w (nI D) (nI A) (nI Q) (nI 4)) := by
    simp (disch := (first | assumption | decide | omega | (simp only [List.length_append, List.length_cons, List.length_nil, nxl_0, nxl_s] <;> omega))) only [df_X18_plain_266, df_X18_plain_263, df_X18_plain_246, df_X18_plain_219, df_X18_plain_106, df_X18_plain_0, df_X18_plain, hS, RS_0, RS_1, RS_2, RS_3, RS_4, RS_5, RS_6, RS_7, RS_r1, RS_w1, RS_w2, RS_w3, RS_w4, RS_w5, RS_w6, RS_w7, pt_S, List.append_assoc, List.cons_append, List.nil_append, List.append_nil, nxl_0, nxl_s, eq_self, Nat.reduceEqDiff, Nat.reduceLeDiff, nl_0, nl_1, nl_2, nl_3, nl_4, nl_5, nl_6, nl_7, nl_32, nl_29295, nl_6386291, nl_6452595, nl_6579297, nl_6581857, nl_7105651, nl_7107187, nl_7107949, nl_7169394, nl_7499640, nl_7629939, nl_7760228, nl_1751938413, nl_1970103666, nl_1970564211, nl_1970694500, no_1, no_1024, pk_mul, nI_add, nm_ck, nI_clamp, nI_ltI, nI_leI, nI_eq, nb_b2, nb_b1, ↓nb_let, nm_z0, nm_z1, nb_II, nb_IR, nb_RI, nb_RR, nm_IL, nm_IQ, nm_RL, nm_RQ, nm_LI, nm_LR, nm_LL, nm_LQ, nm_QI, nm_QR, nm_QL, nm_QQ, nm_rr, nm_ii, nm_eqm, not_false_eq_true, pk_sub, nm_div, nm_shl, nm_shr, nm_ush, nm_or8, nm_or64, nm_or256, nm_m1, nm_m3, nm_m7, nm_m15, nm_m31, nm_m63, nm_m255, nm_m511, nm_m1023, nm_m2047, nm_m65535, Nat.reduceMod, Nat.reducePow, Nat.reduceAdd, Nat.reduceSub, Nat.reduceMul, nm_bo, nm_bi, nm_rc, nm_ic, nm_ri, nm_rl, nm_rq, nm_ql, nm_qi, nm_li, nm_us, nm_uu, nm_cp, nm_sa31, nm_sa7, nm_m127, nm_m2, nm_nz, nm_nzk, nm_eq32, nm_nzf, if_true, if_false, ↓reduceIte, if_pos, if_neg]
  exact ⟨_, _, _, _, _, lo_51 hop (by rw [eD, eA, eQ, f3, g7, key, tx])⟩
theorem rtx_6 {n : Nat} {B : St} {w d0 a0 b0 f0 : Int32} (hn : 30 < n) (hg : ∀ r : Nat, r < 32 → sR B 1 r = rgT r) (hm : MKp 6 w) : ∃ (k : Nat) (d a b f : Int32), df_X18_longOne n (RS B [] 0 0 w d0 a0 b0 f0) = some (RS B (txL (fun c => tvA c w) 6 w) k 1 w d a b f) := by
  have hw : w &&& nI 4261441663 = nI 20531 := hm.2.trans (by decide +kernel)
  have hn10 : 10 < n := by omega
  have hn20 : 20 < n := by omega
  obtain ⟨D, hD, eD⟩ := pt_n (w := w) (k := 7) (m := 5) (by decide) (by decide)
  have hD : D < 32 := hD
  obtain ⟨A, hA, eA⟩ := pt_n (w := w) (k := 15) (m := 5) (by decide) (by decide)
  have hA : A < 32 := hA
  obtain ⟨Q, hQ, eQ⟩ := pt_n (w := w) (k := 20) (m := 5) (by decide) (by decide)
  have hQ : Q < 32 := hQ
  have tx : txL (fun c => tvA c w) 6 w = ([115, 114, 108] ++ ([32] ++ (regL D ++ ([44, 32] ++ (regL A ++ ([44, 32] ++ (regL Q))))))) := by
    unfold txL sfxL
    rw [show strL (ko_w 6) = [115, 114, 108] from by decide +kernel, show strL (ko_f 6) = [100, 44, 97, 44, 98] from by decide +kernel, if_neg (show ¬ (ko_b 6 &&& 127 : Int32) = 47 by decide +kernel)]
    simp only [wrT, oc_44, (show oper 97 (tvA 97 w) = regL A from or_1 (by decide) (by decide) eA hA), (show oper 98 (tvA 98 w) = regL Q from or_1 (by decide) (by decide) eQ hQ), (show oper 100 (tvA 100 w) = regL D from or_1 (by decide) (by decide) eD hD), ne_eq, reduceCtorEq, not_false_eq_true, not_true_eq_false, if_true, if_false, ↓reduceIte, List.append_assoc, List.cons_append, List.nil_append, List.append_nil, nxl_0, nxl_s]
  have hop : w &&& nI 127 = nI 51 := (sub_3 hw (by decide)).trans (by decide)
  have f3 : fpt w 12 3 = nI 5 := pf_1 hw (by decide) (by decide) (by decide)
  have g7 : fpt w 25 7 = nI 0 := pf_1 hw (by decide) (by decide) (by decide)
  have hS := th_S (f := nI 5) (x := 7107187) (M := [115, 114, 108]) (w := w) hn10 hn20 hg (by decide +kernel) (by decide) hD hA hQ
  have key : df_X18_plain n (nI 0) (RS B [] 0 0 w (nI D) (nI A) (nI Q) (nI 5)) = some (RS B ([115, 114, 108] ++ ([32] ++ (regL D ++ ([44, 32] ++ (regL A ++ ([44, 32] ++ (regL Q))))))) 3 1 w (nI D) (nI A) (nI Q) (nI 5)) := by
    simp (disch := (first | assumption | decide | omega | (simp only [List.length_append, List.length_cons, List.length_nil, nxl_0, nxl_s] <;> omega))) only [df_X18_plain_266, df_X18_plain_263, df_X18_plain_246, df_X18_plain_219, df_X18_plain_106, df_X18_plain_0, df_X18_plain, hS, RS_0, RS_1, RS_2, RS_3, RS_4, RS_5, RS_6, RS_7, RS_r1, RS_w1, RS_w2, RS_w3, RS_w4, RS_w5, RS_w6, RS_w7, pt_S, List.append_assoc, List.cons_append, List.nil_append, List.append_nil, nxl_0, nxl_s, eq_self, Nat.reduceEqDiff, Nat.reduceLeDiff, nl_0, nl_1, nl_2, nl_3, nl_4, nl_5, nl_6, nl_7, nl_32, nl_29295, nl_6386291, nl_6452595, nl_6579297, nl_6581857, nl_7105651, nl_7107187, nl_7107949, nl_7169394, nl_7499640, nl_7629939, nl_7760228, nl_1751938413, nl_1970103666, nl_1970564211, nl_1970694500, no_1, no_1024, pk_mul, nI_add, nm_ck, nI_clamp, nI_ltI, nI_leI, nI_eq, nb_b2, nb_b1, ↓nb_let, nm_z0, nm_z1, nb_II, nb_IR, nb_RI, nb_RR, nm_IL, nm_IQ, nm_RL, nm_RQ, nm_LI, nm_LR, nm_LL, nm_LQ, nm_QI, nm_QR, nm_QL, nm_QQ, nm_rr, nm_ii, nm_eqm, not_false_eq_true, pk_sub, nm_div, nm_shl, nm_shr, nm_ush, nm_or8, nm_or64, nm_or256, nm_m1, nm_m3, nm_m7, nm_m15, nm_m31, nm_m63, nm_m255, nm_m511, nm_m1023, nm_m2047, nm_m65535, Nat.reduceMod, Nat.reducePow, Nat.reduceAdd, Nat.reduceSub, Nat.reduceMul, nm_bo, nm_bi, nm_rc, nm_ic, nm_ri, nm_rl, nm_rq, nm_ql, nm_qi, nm_li, nm_us, nm_uu, nm_cp, nm_sa31, nm_sa7, nm_m127, nm_m2, nm_nz, nm_nzk, nm_eq32, nm_nzf, if_true, if_false, ↓reduceIte, if_pos, if_neg]
  exact ⟨_, _, _, _, _, lo_51 hop (by rw [eD, eA, eQ, f3, g7, key, tx])⟩
theorem rtx_7 {n : Nat} {B : St} {w d0 a0 b0 f0 : Int32} (hn : 30 < n) (hg : ∀ r : Nat, r < 32 → sR B 1 r = rgT r) (hm : MKp 7 w) : ∃ (k : Nat) (d a b f : Int32), df_X18_longOne n (RS B [] 0 0 w d0 a0 b0 f0) = some (RS B (txL (fun c => tvA c w) 7 w) k 1 w d a b f) := by
  have hw : w &&& nI 4261441663 = nI 1073762355 := hm.2.trans (by decide +kernel)
  have hn10 : 10 < n := by omega
  have hn20 : 20 < n := by omega
  obtain ⟨D, hD, eD⟩ := pt_n (w := w) (k := 7) (m := 5) (by decide) (by decide)
  have hD : D < 32 := hD
  obtain ⟨A, hA, eA⟩ := pt_n (w := w) (k := 15) (m := 5) (by decide) (by decide)
  have hA : A < 32 := hA
  obtain ⟨Q, hQ, eQ⟩ := pt_n (w := w) (k := 20) (m := 5) (by decide) (by decide)
  have hQ : Q < 32 := hQ
  have tx : txL (fun c => tvA c w) 7 w = ([115, 114, 97] ++ ([32] ++ (regL D ++ ([44, 32] ++ (regL A ++ ([44, 32] ++ (regL Q))))))) := by
    unfold txL sfxL
    rw [show strL (ko_w 7) = [115, 114, 97] from by decide +kernel, show strL (ko_f 7) = [100, 44, 97, 44, 98] from by decide +kernel, if_neg (show ¬ (ko_b 7 &&& 127 : Int32) = 47 by decide +kernel)]
    simp only [wrT, oc_44, (show oper 97 (tvA 97 w) = regL A from or_1 (by decide) (by decide) eA hA), (show oper 98 (tvA 98 w) = regL Q from or_1 (by decide) (by decide) eQ hQ), (show oper 100 (tvA 100 w) = regL D from or_1 (by decide) (by decide) eD hD), ne_eq, reduceCtorEq, not_false_eq_true, not_true_eq_false, if_true, if_false, ↓reduceIte, List.append_assoc, List.cons_append, List.nil_append, List.append_nil, nxl_0, nxl_s]
  have hop : w &&& nI 127 = nI 51 := (sub_3 hw (by decide)).trans (by decide)
  have f3 : fpt w 12 3 = nI 5 := pf_1 hw (by decide) (by decide) (by decide)
  have g7 : fpt w 25 7 = nI 32 := pf_1 hw (by decide) (by decide) (by decide)
  have hS := th_S (f := nI 5) (x := 6386291) (M := [115, 114, 97]) (w := w) hn10 hn20 hg (by decide +kernel) (by decide) hD hA hQ
  have key : df_X18_plain n (nI 32) (RS B [] 0 0 w (nI D) (nI A) (nI Q) (nI 5)) = some (RS B ([115, 114, 97] ++ ([32] ++ (regL D ++ ([44, 32] ++ (regL A ++ ([44, 32] ++ (regL Q))))))) 3 1 w (nI D) (nI A) (nI Q) (nI 5)) := by
    simp (disch := (first | assumption | decide | omega | (simp only [List.length_append, List.length_cons, List.length_nil, nxl_0, nxl_s] <;> omega))) only [df_X18_plain_266, df_X18_plain_263, df_X18_plain_246, df_X18_plain_219, df_X18_plain_106, df_X18_plain_0, df_X18_plain, hS, RS_0, RS_1, RS_2, RS_3, RS_4, RS_5, RS_6, RS_7, RS_r1, RS_w1, RS_w2, RS_w3, RS_w4, RS_w5, RS_w6, RS_w7, pt_S, List.append_assoc, List.cons_append, List.nil_append, List.append_nil, nxl_0, nxl_s, eq_self, Nat.reduceEqDiff, Nat.reduceLeDiff, nl_0, nl_1, nl_2, nl_3, nl_4, nl_5, nl_6, nl_7, nl_32, nl_29295, nl_6386291, nl_6452595, nl_6579297, nl_6581857, nl_7105651, nl_7107187, nl_7107949, nl_7169394, nl_7499640, nl_7629939, nl_7760228, nl_1751938413, nl_1970103666, nl_1970564211, nl_1970694500, no_1, no_1024, pk_mul, nI_add, nm_ck, nI_clamp, nI_ltI, nI_leI, nI_eq, nb_b2, nb_b1, ↓nb_let, nm_z0, nm_z1, nb_II, nb_IR, nb_RI, nb_RR, nm_IL, nm_IQ, nm_RL, nm_RQ, nm_LI, nm_LR, nm_LL, nm_LQ, nm_QI, nm_QR, nm_QL, nm_QQ, nm_rr, nm_ii, nm_eqm, not_false_eq_true, pk_sub, nm_div, nm_shl, nm_shr, nm_ush, nm_or8, nm_or64, nm_or256, nm_m1, nm_m3, nm_m7, nm_m15, nm_m31, nm_m63, nm_m255, nm_m511, nm_m1023, nm_m2047, nm_m65535, Nat.reduceMod, Nat.reducePow, Nat.reduceAdd, Nat.reduceSub, Nat.reduceMul, nm_bo, nm_bi, nm_rc, nm_ic, nm_ri, nm_rl, nm_rq, nm_ql, nm_qi, nm_li, nm_us, nm_uu, nm_cp, nm_sa31, nm_sa7, nm_m127, nm_m2, nm_nz, nm_nzk, nm_eq32, nm_nzf, if_true, if_false, ↓reduceIte, if_pos, if_neg]
  exact ⟨_, _, _, _, _, lo_51 hop (by rw [eD, eA, eQ, f3, g7, key, tx])⟩
theorem rtx_8 {n : Nat} {B : St} {w d0 a0 b0 f0 : Int32} (hn : 30 < n) (hg : ∀ r : Nat, r < 32 → sR B 1 r = rgT r) (hm : MKp 8 w) : ∃ (k : Nat) (d a b f : Int32), df_X18_longOne n (RS B [] 0 0 w d0 a0 b0 f0) = some (RS B (txL (fun c => tvA c w) 8 w) k 1 w d a b f) := by
  have hw : w &&& nI 4261441663 = nI 24627 := hm.2.trans (by decide +kernel)
  have hn10 : 10 < n := by omega
  have hn20 : 20 < n := by omega
  obtain ⟨D, hD, eD⟩ := pt_n (w := w) (k := 7) (m := 5) (by decide) (by decide)
  have hD : D < 32 := hD
  obtain ⟨A, hA, eA⟩ := pt_n (w := w) (k := 15) (m := 5) (by decide) (by decide)
  have hA : A < 32 := hA
  obtain ⟨Q, hQ, eQ⟩ := pt_n (w := w) (k := 20) (m := 5) (by decide) (by decide)
  have hQ : Q < 32 := hQ
  have tx : txL (fun c => tvA c w) 8 w = ([111, 114] ++ ([32] ++ (regL D ++ ([44, 32] ++ (regL A ++ ([44, 32] ++ (regL Q))))))) := by
    unfold txL sfxL
    rw [show strL (ko_w 8) = [111, 114] from by decide +kernel, show strL (ko_f 8) = [100, 44, 97, 44, 98] from by decide +kernel, if_neg (show ¬ (ko_b 8 &&& 127 : Int32) = 47 by decide +kernel)]
    simp only [wrT, oc_44, (show oper 97 (tvA 97 w) = regL A from or_1 (by decide) (by decide) eA hA), (show oper 98 (tvA 98 w) = regL Q from or_1 (by decide) (by decide) eQ hQ), (show oper 100 (tvA 100 w) = regL D from or_1 (by decide) (by decide) eD hD), ne_eq, reduceCtorEq, not_false_eq_true, not_true_eq_false, if_true, if_false, ↓reduceIte, List.append_assoc, List.cons_append, List.nil_append, List.append_nil, nxl_0, nxl_s]
  have hop : w &&& nI 127 = nI 51 := (sub_3 hw (by decide)).trans (by decide)
  have f3 : fpt w 12 3 = nI 6 := pf_1 hw (by decide) (by decide) (by decide)
  have g7 : fpt w 25 7 = nI 0 := pf_1 hw (by decide) (by decide) (by decide)
  have hS := th_S (f := nI 6) (x := 29295) (M := [111, 114]) (w := w) hn10 hn20 hg (by decide +kernel) (by decide) hD hA hQ
  have key : df_X18_plain n (nI 0) (RS B [] 0 0 w (nI D) (nI A) (nI Q) (nI 6)) = some (RS B ([111, 114] ++ ([32] ++ (regL D ++ ([44, 32] ++ (regL A ++ ([44, 32] ++ (regL Q))))))) 3 1 w (nI D) (nI A) (nI Q) (nI 6)) := by
    simp (disch := (first | assumption | decide | omega | (simp only [List.length_append, List.length_cons, List.length_nil, nxl_0, nxl_s] <;> omega))) only [df_X18_plain_266, df_X18_plain_263, df_X18_plain_246, df_X18_plain_219, df_X18_plain_106, df_X18_plain_0, df_X18_plain, hS, RS_0, RS_1, RS_2, RS_3, RS_4, RS_5, RS_6, RS_7, RS_r1, RS_w1, RS_w2, RS_w3, RS_w4, RS_w5, RS_w6, RS_w7, pt_S, List.append_assoc, List.cons_append, List.nil_append, List.append_nil, nxl_0, nxl_s, eq_self, Nat.reduceEqDiff, Nat.reduceLeDiff, nl_0, nl_1, nl_2, nl_3, nl_4, nl_5, nl_6, nl_7, nl_32, nl_29295, nl_6386291, nl_6452595, nl_6579297, nl_6581857, nl_7105651, nl_7107187, nl_7107949, nl_7169394, nl_7499640, nl_7629939, nl_7760228, nl_1751938413, nl_1970103666, nl_1970564211, nl_1970694500, no_1, no_1024, pk_mul, nI_add, nm_ck, nI_clamp, nI_ltI, nI_leI, nI_eq, nb_b2, nb_b1, ↓nb_let, nm_z0, nm_z1, nb_II, nb_IR, nb_RI, nb_RR, nm_IL, nm_IQ, nm_RL, nm_RQ, nm_LI, nm_LR, nm_LL, nm_LQ, nm_QI, nm_QR, nm_QL, nm_QQ, nm_rr, nm_ii, nm_eqm, not_false_eq_true, pk_sub, nm_div, nm_shl, nm_shr, nm_ush, nm_or8, nm_or64, nm_or256, nm_m1, nm_m3, nm_m7, nm_m15, nm_m31, nm_m63, nm_m255, nm_m511, nm_m1023, nm_m2047, nm_m65535, Nat.reduceMod, Nat.reducePow, Nat.reduceAdd, Nat.reduceSub, Nat.reduceMul, nm_bo, nm_bi, nm_rc, nm_ic, nm_ri, nm_rl, nm_rq, nm_ql, nm_qi, nm_li, nm_us, nm_uu, nm_cp, nm_sa31, nm_sa7, nm_m127, nm_m2, nm_nz, nm_nzk, nm_eq32, nm_nzf, if_true, if_false, ↓reduceIte, if_pos, if_neg]
  exact ⟨_, _, _, _, _, lo_51 hop (by rw [eD, eA, eQ, f3, g7, key, tx])⟩
theorem rtx_9 {n : Nat} {B : St} {w d0 a0 b0 f0 : Int32} (hn : 30 < n) (hg : ∀ r : Nat, r < 32 → sR B 1 r = rgT r) (hm : MKp 9 w) : ∃ (k : Nat) (d a b f : Int32), df_X18_longOne n (RS B [] 0 0 w d0 a0 b0 f0) = some (RS B (txL (fun c => tvA c w) 9 w) k 1 w d a b f) := by
  have hw : w &&& nI 4261441663 = nI 28723 := hm.2.trans (by decide +kernel)
  have hn10 : 10 < n := by omega
  have hn20 : 20 < n := by omega
  obtain ⟨D, hD, eD⟩ := pt_n (w := w) (k := 7) (m := 5) (by decide) (by decide)
  have hD : D < 32 := hD
  obtain ⟨A, hA, eA⟩ := pt_n (w := w) (k := 15) (m := 5) (by decide) (by decide)
  have hA : A < 32 := hA
  obtain ⟨Q, hQ, eQ⟩ := pt_n (w := w) (k := 20) (m := 5) (by decide) (by decide)
  have hQ : Q < 32 := hQ
  have tx : txL (fun c => tvA c w) 9 w = ([97, 110, 100] ++ ([32] ++ (regL D ++ ([44, 32] ++ (regL A ++ ([44, 32] ++ (regL Q))))))) := by
    unfold txL sfxL
    rw [show strL (ko_w 9) = [97, 110, 100] from by decide +kernel, show strL (ko_f 9) = [100, 44, 97, 44, 98] from by decide +kernel, if_neg (show ¬ (ko_b 9 &&& 127 : Int32) = 47 by decide +kernel)]
    simp only [wrT, oc_44, (show oper 97 (tvA 97 w) = regL A from or_1 (by decide) (by decide) eA hA), (show oper 98 (tvA 98 w) = regL Q from or_1 (by decide) (by decide) eQ hQ), (show oper 100 (tvA 100 w) = regL D from or_1 (by decide) (by decide) eD hD), ne_eq, reduceCtorEq, not_false_eq_true, not_true_eq_false, if_true, if_false, ↓reduceIte, List.append_assoc, List.cons_append, List.nil_append, List.append_nil, nxl_0, nxl_s]
  have hop : w &&& nI 127 = nI 51 := (sub_3 hw (by decide)).trans (by decide)
  have f3 : fpt w 12 3 = nI 7 := pf_1 hw (by decide) (by decide) (by decide)
  have g7 : fpt w 25 7 = nI 0 := pf_1 hw (by decide) (by decide) (by decide)
  have hS := th_S (f := nI 7) (x := 6581857) (M := [97, 110, 100]) (w := w) hn10 hn20 hg (by decide +kernel) (by decide) hD hA hQ
  have key : df_X18_plain n (nI 0) (RS B [] 0 0 w (nI D) (nI A) (nI Q) (nI 7)) = some (RS B ([97, 110, 100] ++ ([32] ++ (regL D ++ ([44, 32] ++ (regL A ++ ([44, 32] ++ (regL Q))))))) 3 1 w (nI D) (nI A) (nI Q) (nI 7)) := by
    simp (disch := (first | assumption | decide | omega | (simp only [List.length_append, List.length_cons, List.length_nil, nxl_0, nxl_s] <;> omega))) only [df_X18_plain_266, df_X18_plain_263, df_X18_plain_246, df_X18_plain_219, df_X18_plain_106, df_X18_plain_0, df_X18_plain, hS, RS_0, RS_1, RS_2, RS_3, RS_4, RS_5, RS_6, RS_7, RS_r1, RS_w1, RS_w2, RS_w3, RS_w4, RS_w5, RS_w6, RS_w7, pt_S, List.append_assoc, List.cons_append, List.nil_append, List.append_nil, nxl_0, nxl_s, eq_self, Nat.reduceEqDiff, Nat.reduceLeDiff, nl_0, nl_1, nl_2, nl_3, nl_4, nl_5, nl_6, nl_7, nl_32, nl_29295, nl_6386291, nl_6452595, nl_6579297, nl_6581857, nl_7105651, nl_7107187, nl_7107949, nl_7169394, nl_7499640, nl_7629939, nl_7760228, nl_1751938413, nl_1970103666, nl_1970564211, nl_1970694500, no_1, no_1024, pk_mul, nI_add, nm_ck, nI_clamp, nI_ltI, nI_leI, nI_eq, nb_b2, nb_b1, ↓nb_let, nm_z0, nm_z1, nb_II, nb_IR, nb_RI, nb_RR, nm_IL, nm_IQ, nm_RL, nm_RQ, nm_LI, nm_LR, nm_LL, nm_LQ, nm_QI, nm_QR, nm_QL, nm_QQ, nm_rr, nm_ii, nm_eqm, not_false_eq_true, pk_sub, nm_div, nm_shl, nm_shr, nm_ush, nm_or8, nm_or64, nm_or256, nm_m1, nm_m3, nm_m7, nm_m15, nm_m31, nm_m63, nm_m255, nm_m511, nm_m1023, nm_m2047, nm_m65535, Nat.reduceMod, Nat.reducePow, Nat.reduceAdd, Nat.reduceSub, Nat.reduceMul, nm_bo, nm_bi, nm_rc, nm_ic, nm_ri, nm_rl, nm_rq, nm_ql, nm_qi, nm_li, nm_us, nm_uu, nm_cp, nm_sa31, nm_sa7, nm_m127, nm_m2, nm_nz, nm_nzk, nm_eq32, nm_nzf, if_true, if_false, ↓reduceIte, if_pos, if_neg]
  exact ⟨_, _, _, _, _, lo_51 hop (by rw [eD, eA, eQ, f3, g7, key, tx])⟩
theorem rtx_10 {n : Nat} {B : St} {w d0 a0 b0 f0 : Int32} (hn : 30 < n) (hg : ∀ r : Nat, r < 32 → sR B 1 r = rgT r) (hm : MKp 10 w) : ∃ (k : Nat) (d a b f : Int32), df_X18_longOne n (RS B [] 0 0 w d0 a0 b0 f0) = some (RS B (txL (fun c => tvA c w) 10 w) k 1 w d a b f) := by
  have hw : w &&& nI 4261441663 = nI 33554483 := hm.2.trans (by decide +kernel)
  have hn10 : 10 < n := by omega
  have hn20 : 20 < n := by omega
  obtain ⟨D, hD, eD⟩ := pt_n (w := w) (k := 7) (m := 5) (by decide) (by decide)
  have hD : D < 32 := hD
  obtain ⟨A, hA, eA⟩ := pt_n (w := w) (k := 15) (m := 5) (by decide) (by decide)
  have hA : A < 32 := hA
  obtain ⟨Q, hQ, eQ⟩ := pt_n (w := w) (k := 20) (m := 5) (by decide) (by decide)
  have hQ : Q < 32 := hQ
  have tx : txL (fun c => tvA c w) 10 w = ([109, 117, 108] ++ ([32] ++ (regL D ++ ([44, 32] ++ (regL A ++ ([44, 32] ++ (regL Q))))))) := by
    unfold txL sfxL
    rw [show strL (ko_w 10) = [109, 117, 108] from by decide +kernel, show strL (ko_f 10) = [100, 44, 97, 44, 98] from by decide +kernel, if_neg (show ¬ (ko_b 10 &&& 127 : Int32) = 47 by decide +kernel)]
    simp only [wrT, oc_44, (show oper 97 (tvA 97 w) = regL A from or_1 (by decide) (by decide) eA hA), (show oper 98 (tvA 98 w) = regL Q from or_1 (by decide) (by decide) eQ hQ), (show oper 100 (tvA 100 w) = regL D from or_1 (by decide) (by decide) eD hD), ne_eq, reduceCtorEq, not_false_eq_true, not_true_eq_false, if_true, if_false, ↓reduceIte, List.append_assoc, List.cons_append, List.nil_append, List.append_nil, nxl_0, nxl_s]
  have hop : w &&& nI 127 = nI 51 := (sub_3 hw (by decide)).trans (by decide)
  have f3 : fpt w 12 3 = nI 0 := pf_1 hw (by decide) (by decide) (by decide)
  have g7 : fpt w 25 7 = nI 1 := pf_1 hw (by decide) (by decide) (by decide)
  have hS := th_S (f := nI 0) (x := 7107949) (M := [109, 117, 108]) (w := w) hn10 hn20 hg (by decide +kernel) (by decide) hD hA hQ
  have key : df_X18_plain n (nI 1) (RS B [] 0 0 w (nI D) (nI A) (nI Q) (nI 0)) = some (RS B ([109, 117, 108] ++ ([32] ++ (regL D ++ ([44, 32] ++ (regL A ++ ([44, 32] ++ (regL Q))))))) 3 1 w (nI D) (nI A) (nI Q) (nI 0)) := by
    simp (disch := (first | assumption | decide | omega | (simp only [List.length_append, List.length_cons, List.length_nil, nxl_0, nxl_s] <;> omega))) only [df_X18_plain_266, df_X18_plain_263, df_X18_plain_246, df_X18_plain_219, df_X18_plain_106, df_X18_plain_0, df_X18_plain, hS, RS_0, RS_1, RS_2, RS_3, RS_4, RS_5, RS_6, RS_7, RS_r1, RS_w1, RS_w2, RS_w3, RS_w4, RS_w5, RS_w6, RS_w7, pt_S, List.append_assoc, List.cons_append, List.nil_append, List.append_nil, nxl_0, nxl_s, eq_self, Nat.reduceEqDiff, Nat.reduceLeDiff, nl_0, nl_1, nl_2, nl_3, nl_4, nl_5, nl_6, nl_7, nl_32, nl_29295, nl_6386291, nl_6452595, nl_6579297, nl_6581857, nl_7105651, nl_7107187, nl_7107949, nl_7169394, nl_7499640, nl_7629939, nl_7760228, nl_1751938413, nl_1970103666, nl_1970564211, nl_1970694500, no_1, no_1024, pk_mul, nI_add, nm_ck, nI_clamp, nI_ltI, nI_leI, nI_eq, nb_b2, nb_b1, ↓nb_let, nm_z0, nm_z1, nb_II, nb_IR, nb_RI, nb_RR, nm_IL, nm_IQ, nm_RL, nm_RQ, nm_LI, nm_LR, nm_LL, nm_LQ, nm_QI, nm_QR, nm_QL, nm_QQ, nm_rr, nm_ii, nm_eqm, not_false_eq_true, pk_sub, nm_div, nm_shl, nm_shr, nm_ush, nm_or8, nm_or64, nm_or256, nm_m1, nm_m3, nm_m7, nm_m15, nm_m31, nm_m63, nm_m255, nm_m511, nm_m1023, nm_m2047, nm_m65535, Nat.reduceMod, Nat.reducePow, Nat.reduceAdd, Nat.reduceSub, Nat.reduceMul, nm_bo, nm_bi, nm_rc, nm_ic, nm_ri, nm_rl, nm_rq, nm_ql, nm_qi, nm_li, nm_us, nm_uu, nm_cp, nm_sa31, nm_sa7, nm_m127, nm_m2, nm_nz, nm_nzk, nm_eq32, nm_nzf, if_true, if_false, ↓reduceIte, if_pos, if_neg]
  exact ⟨_, _, _, _, _, lo_51 hop (by rw [eD, eA, eQ, f3, g7, key, tx])⟩
theorem rtx_11 {n : Nat} {B : St} {w d0 a0 b0 f0 : Int32} (hn : 30 < n) (hg : ∀ r : Nat, r < 32 → sR B 1 r = rgT r) (hm : MKp 11 w) : ∃ (k : Nat) (d a b f : Int32), df_X18_longOne n (RS B [] 0 0 w d0 a0 b0 f0) = some (RS B (txL (fun c => tvA c w) 11 w) k 1 w d a b f) := by
  have hw : w &&& nI 4261441663 = nI 33558579 := hm.2.trans (by decide +kernel)
  have hn10 : 10 < n := by omega
  have hn20 : 20 < n := by omega
  obtain ⟨D, hD, eD⟩ := pt_n (w := w) (k := 7) (m := 5) (by decide) (by decide)
  have hD : D < 32 := hD
  obtain ⟨A, hA, eA⟩ := pt_n (w := w) (k := 15) (m := 5) (by decide) (by decide)
  have hA : A < 32 := hA
  obtain ⟨Q, hQ, eQ⟩ := pt_n (w := w) (k := 20) (m := 5) (by decide) (by decide)
  have hQ : Q < 32 := hQ
  have tx : txL (fun c => tvA c w) 11 w = ([109, 117, 108, 104] ++ ([32] ++ (regL D ++ ([44, 32] ++ (regL A ++ ([44, 32] ++ (regL Q))))))) := by
    unfold txL sfxL
    rw [show strL (ko_w 11) = [109, 117, 108, 104] from by decide +kernel, show strL (ko_f 11) = [100, 44, 97, 44, 98] from by decide +kernel, if_neg (show ¬ (ko_b 11 &&& 127 : Int32) = 47 by decide +kernel)]
    simp only [wrT, oc_44, (show oper 97 (tvA 97 w) = regL A from or_1 (by decide) (by decide) eA hA), (show oper 98 (tvA 98 w) = regL Q from or_1 (by decide) (by decide) eQ hQ), (show oper 100 (tvA 100 w) = regL D from or_1 (by decide) (by decide) eD hD), ne_eq, reduceCtorEq, not_false_eq_true, not_true_eq_false, if_true, if_false, ↓reduceIte, List.append_assoc, List.cons_append, List.nil_append, List.append_nil, nxl_0, nxl_s]
  have hop : w &&& nI 127 = nI 51 := (sub_3 hw (by decide)).trans (by decide)
  have f3 : fpt w 12 3 = nI 1 := pf_1 hw (by decide) (by decide) (by decide)
  have g7 : fpt w 25 7 = nI 1 := pf_1 hw (by decide) (by decide) (by decide)
  have hS := th_S (f := nI 1) (x := 1751938413) (M := [109, 117, 108, 104]) (w := w) hn10 hn20 hg (by decide +kernel) (by decide) hD hA hQ
  have key : df_X18_plain n (nI 1) (RS B [] 0 0 w (nI D) (nI A) (nI Q) (nI 1)) = some (RS B ([109, 117, 108, 104] ++ ([32] ++ (regL D ++ ([44, 32] ++ (regL A ++ ([44, 32] ++ (regL Q))))))) 3 1 w (nI D) (nI A) (nI Q) (nI 1)) := by
    simp (disch := (first | assumption | decide | omega | (simp only [List.length_append, List.length_cons, List.length_nil, nxl_0, nxl_s] <;> omega))) only [df_X18_plain_266, df_X18_plain_263, df_X18_plain_246, df_X18_plain_219, df_X18_plain_106, df_X18_plain_0, df_X18_plain, hS, RS_0, RS_1, RS_2, RS_3, RS_4, RS_5, RS_6, RS_7, RS_r1, RS_w1, RS_w2, RS_w3, RS_w4, RS_w5, RS_w6, RS_w7, pt_S, List.append_assoc, List.cons_append, List.nil_append, List.append_nil, nxl_0, nxl_s, eq_self, Nat.reduceEqDiff, Nat.reduceLeDiff, nl_0, nl_1, nl_2, nl_3, nl_4, nl_5, nl_6, nl_7, nl_32, nl_29295, nl_6386291, nl_6452595, nl_6579297, nl_6581857, nl_7105651, nl_7107187, nl_7107949, nl_7169394, nl_7499640, nl_7629939, nl_7760228, nl_1751938413, nl_1970103666, nl_1970564211, nl_1970694500, no_1, no_1024, pk_mul, nI_add, nm_ck, nI_clamp, nI_ltI, nI_leI, nI_eq, nb_b2, nb_b1, ↓nb_let, nm_z0, nm_z1, nb_II, nb_IR, nb_RI, nb_RR, nm_IL, nm_IQ, nm_RL, nm_RQ, nm_LI, nm_LR, nm_LL, nm_LQ, nm_QI, nm_QR, nm_QL, nm_QQ, nm_rr, nm_ii, nm_eqm, not_false_eq_true, pk_sub, nm_div, nm_shl, nm_shr, nm_ush, nm_or8, nm_or64, nm_or256, nm_m1, nm_m3, nm_m7, nm_m15, nm_m31, nm_m63, nm_m255, nm_m511, nm_m1023, nm_m2047, nm_m65535, Nat.reduceMod, Nat.reducePow, Nat.reduceAdd, Nat.reduceSub, Nat.reduceMul, nm_bo, nm_bi, nm_rc, nm_ic, nm_ri, nm_rl, nm_rq, nm_ql, nm_qi, nm_li, nm_us, nm_uu, nm_cp, nm_sa31, nm_sa7, nm_m127, nm_m2, nm_nz, nm_nzk, nm_eq32, nm_nzf, if_true, if_false, ↓reduceIte, if_pos, if_neg]
  exact ⟨_, _, _, _, _, lo_51 hop (by rw [eD, eA, eQ, f3, g7, key, tx])⟩
theorem rtx_12 {n : Nat} {B : St} {w d0 a0 b0 f0 : Int32} (hn : 30 < n) (hg : ∀ r : Nat, r < 32 → sR B 1 r = rgT r) (hm : MKp 12 w) : ∃ (k : Nat) (d a b f : Int32), df_X18_longOne n (RS B [] 0 0 w d0 a0 b0 f0) = some (RS B (txL (fun c => tvA c w) 12 w) k 1 w d a b f) := by
  have hw : w &&& nI 4261441663 = nI 33562675 := hm.2.trans (by decide +kernel)
  have hn10 : 10 < n := by omega
  have hn20 : 20 < n := by omega
  obtain ⟨D, hD, eD⟩ := pt_n (w := w) (k := 7) (m := 5) (by decide) (by decide)
  have hD : D < 32 := hD
  obtain ⟨A, hA, eA⟩ := pt_n (w := w) (k := 15) (m := 5) (by decide) (by decide)
  have hA : A < 32 := hA
  obtain ⟨Q, hQ, eQ⟩ := pt_n (w := w) (k := 20) (m := 5) (by decide) (by decide)
  have hQ : Q < 32 := hQ
  have tx : txL (fun c => tvA c w) 12 w = ([109, 117, 108, 104, 115, 117] ++ ([32] ++ (regL D ++ ([44, 32] ++ (regL A ++ ([44, 32] ++ (regL Q))))))) := by
    unfold txL sfxL
    rw [show strL (ko_w 12) = [109, 117, 108, 104, 115, 117] from by decide +kernel, show strL (ko_f 12) = [100, 44, 97, 44, 98] from by decide +kernel, if_neg (show ¬ (ko_b 12 &&& 127 : Int32) = 47 by decide +kernel)]
    simp only [wrT, oc_44, (show oper 97 (tvA 97 w) = regL A from or_1 (by decide) (by decide) eA hA), (show oper 98 (tvA 98 w) = regL Q from or_1 (by decide) (by decide) eQ hQ), (show oper 100 (tvA 100 w) = regL D from or_1 (by decide) (by decide) eD hD), ne_eq, reduceCtorEq, not_false_eq_true, not_true_eq_false, if_true, if_false, ↓reduceIte, List.append_assoc, List.cons_append, List.nil_append, List.append_nil, nxl_0, nxl_s]
  have hop : w &&& nI 127 = nI 51 := (sub_3 hw (by decide)).trans (by decide)
  have f3 : fpt w 12 3 = nI 2 := pf_1 hw (by decide) (by decide) (by decide)
  have g7 : fpt w 25 7 = nI 1 := pf_1 hw (by decide) (by decide) (by decide)
  have hS := th_S (f := nI 2) (x := 129138533627245) (M := [109, 117, 108, 104, 115, 117]) (w := w) hn10 hn20 hg (by decide +kernel) (by decide) hD hA hQ
  have key : df_X18_plain n (nI 1) (RS B [] 0 0 w (nI D) (nI A) (nI Q) (nI 2)) = some (RS B ([109, 117, 108, 104, 115, 117] ++ ([32] ++ (regL D ++ ([44, 32] ++ (regL A ++ ([44, 32] ++ (regL Q))))))) 3 1 w (nI D) (nI A) (nI Q) (nI 2)) := by
    simp (disch := (first | assumption | decide | omega | (simp only [List.length_append, List.length_cons, List.length_nil, nxl_0, nxl_s] <;> omega))) only [df_X18_plain_266, df_X18_plain_263, df_X18_plain_246, df_X18_plain_219, df_X18_plain_106, df_X18_plain_0, df_X18_plain, hS, RS_0, RS_1, RS_2, RS_3, RS_4, RS_5, RS_6, RS_7, RS_r1, RS_w1, RS_w2, RS_w3, RS_w4, RS_w5, RS_w6, RS_w7, pt_S, List.append_assoc, List.cons_append, List.nil_append, List.append_nil, nxl_0, nxl_s, eq_self, Nat.reduceEqDiff, Nat.reduceLeDiff, nl_0, nl_1, nl_2, nl_3, nl_4, nl_5, nl_6, nl_7, nl_32, nl_29295, nl_6386291, nl_6452595, nl_6579297, nl_6581857, nl_7105651, nl_7107187, nl_7107949, nl_7169394, nl_7499640, nl_7629939, nl_7760228, nl_1751938413, nl_1970103666, nl_1970564211, nl_1970694500, no_1, no_1024, pk_mul, nI_add, nm_ck, nI_clamp, nI_ltI, nI_leI, nI_eq, nb_b2, nb_b1, ↓nb_let, nm_z0, nm_z1, nb_II, nb_IR, nb_RI, nb_RR, nm_IL, nm_IQ, nm_RL, nm_RQ, nm_LI, nm_LR, nm_LL, nm_LQ, nm_QI, nm_QR, nm_QL, nm_QQ, nm_rr, nm_ii, nm_eqm, not_false_eq_true, pk_sub, nm_div, nm_shl, nm_shr, nm_ush, nm_or8, nm_or64, nm_or256, nm_m1, nm_m3, nm_m7, nm_m15, nm_m31, nm_m63, nm_m255, nm_m511, nm_m1023, nm_m2047, nm_m65535, Nat.reduceMod, Nat.reducePow, Nat.reduceAdd, Nat.reduceSub, Nat.reduceMul, nm_bo, nm_bi, nm_rc, nm_ic, nm_ri, nm_rl, nm_rq, nm_ql, nm_qi, nm_li, nm_us, nm_uu, nm_cp, nm_sa31, nm_sa7, nm_m127, nm_m2, nm_nz, nm_nzk, nm_eq32, nm_nzf, if_true, if_false, ↓reduceIte, if_pos, if_neg]
  exact ⟨_, _, _, _, _, lo_51 hop (by rw [eD, eA, eQ, f3, g7, key, tx])⟩
theorem rtx_13 {n : Nat} {B : St} {w d0 a0 b0 f0 : Int32} (hn : 30 < n) (hg : ∀ r : Nat, r < 32 → sR B 1 r = rgT r) (hm : MKp 13 w) : ∃ (k : Nat) (d a b f : Int32), df_X18_longOne n (RS B [] 0 0 w d0 a0 b0 f0) = some (RS B (txL (fun c => tvA c w) 13 w) k 1 w d a b f) := by
  have hw : w &&& nI 4261441663 = nI 33566771 := hm.2.trans (by decide +kernel)
  have hn10 : 10 < n := by omega
  have hn20 : 20 < n := by omega
  obtain ⟨D, hD, eD⟩ := pt_n (w := w) (k := 7) (m := 5) (by decide) (by decide)
  have hD : D < 32 := hD
  obtain ⟨A, hA, eA⟩ := pt_n (w := w) (k := 15) (m := 5) (by decide) (by decide)
  have hA : A < 32 := hA
  obtain ⟨Q, hQ, eQ⟩ := pt_n (w := w) (k := 20) (m := 5) (by decide) (by decide)
  have hQ : Q < 32 := hQ
  have tx : txL (fun c => tvA c w) 13 w = ([109, 117, 108, 104, 117] ++ ([32] ++ (regL D ++ ([44, 32] ++ (regL A ++ ([44, 32] ++ (regL Q))))))) := by
    unfold txL sfxL
    rw [show strL (ko_w 13) = [109, 117, 108, 104, 117] from by decide +kernel, show strL (ko_f 13) = [100, 44, 97, 44, 98] from by decide +kernel, if_neg (show ¬ (ko_b 13 &&& 127 : Int32) = 47 by decide +kernel)]
    simp only [wrT, oc_44, (show oper 97 (tvA 97 w) = regL A from or_1 (by decide) (by decide) eA hA), (show oper 98 (tvA 98 w) = regL Q from or_1 (by decide) (by decide) eQ hQ), (show oper 100 (tvA 100 w) = regL D from or_1 (by decide) (by decide) eD hD), ne_eq, reduceCtorEq, not_false_eq_true, not_true_eq_false, if_true, if_false, ↓reduceIte, List.append_assoc, List.cons_append, List.nil_append, List.append_nil, nxl_0, nxl_s]
  have hop : w &&& nI 127 = nI 51 := (sub_3 hw (by decide)).trans (by decide)
  have f3 : fpt w 12 3 = nI 3 := pf_1 hw (by decide) (by decide) (by decide)
  have g7 : fpt w 25 7 = nI 1 := pf_1 hw (by decide) (by decide) (by decide)
  have hS := th_S (f := nI 3) (x := 504263112045) (M := [109, 117, 108, 104, 117]) (w := w) hn10 hn20 hg (by decide +kernel) (by decide) hD hA hQ
  have key : df_X18_plain n (nI 1) (RS B [] 0 0 w (nI D) (nI A) (nI Q) (nI 3)) = some (RS B ([109, 117, 108, 104, 117] ++ ([32] ++ (regL D ++ ([44, 32] ++ (regL A ++ ([44, 32] ++ (regL Q))))))) 3 1 w (nI D) (nI A) (nI Q) (nI 3)) := by
    simp (disch := (first | assumption | decide | omega | (simp only [List.length_append, List.length_cons, List.length_nil, nxl_0, nxl_s] <;> omega))) only [df_X18_plain_266, df_X18_plain_263, df_X18_plain_246, df_X18_plain_219, df_X18_plain_106, df_X18_plain_0, df_X18_plain, hS, RS_0, RS_1, RS_2, RS_3, RS_4, RS_5, RS_6, RS_7, RS_r1, RS_w1, RS_w2, RS_w3, RS_w4, RS_w5, RS_w6, RS_w7, pt_S, List.append_assoc, List.cons_append, List.nil_append, List.append_nil, nxl_0, nxl_s, eq_self, Nat.reduceEqDiff, Nat.reduceLeDiff, nl_0, nl_1, nl_2, nl_3, nl_4, nl_5, nl_6, nl_7, nl_32, nl_29295, nl_6386291, nl_6452595, nl_6579297, nl_6581857, nl_7105651, nl_7107187, nl_7107949, nl_7169394, nl_7499640, nl_7629939, nl_7760228, nl_1751938413, nl_1970103666, nl_1970564211, nl_1970694500, no_1, no_1024, pk_mul, nI_add, nm_ck, nI_clamp, nI_ltI, nI_leI, nI_eq, nb_b2, nb_b1, ↓nb_let, nm_z0, nm_z1, nb_II, nb_IR, nb_RI, nb_RR, nm_IL, nm_IQ, nm_RL, nm_RQ, nm_LI, nm_LR, nm_LL, nm_LQ, nm_QI, nm_QR, nm_QL, nm_QQ, nm_rr, nm_ii, nm_eqm, not_false_eq_true, pk_sub, nm_div, nm_shl, nm_shr, nm_ush, nm_or8, nm_or64, nm_or256, nm_m1, nm_m3, nm_m7, nm_m15, nm_m31, nm_m63, nm_m255, nm_m511, nm_m1023, nm_m2047, nm_m65535, Nat.reduceMod, Nat.reducePow, Nat.reduceAdd, Nat.reduceSub, Nat.reduceMul, nm_bo, nm_bi, nm_rc, nm_ic, nm_ri, nm_rl, nm_rq, nm_ql, nm_qi, nm_li, nm_us, nm_uu, nm_cp, nm_sa31, nm_sa7, nm_m127, nm_m2, nm_nz, nm_nzk, nm_eq32, nm_nzf, if_true, if_false, ↓reduceIte, if_pos, if_neg]
  exact ⟨_, _, _, _, _, lo_51 hop (by rw [eD, eA, eQ, f3, g7, key, tx])⟩
theorem rtx_14 {n : Nat} {B : St} {w d0 a0 b0 f0 : Int32} (hn : 30 < n) (hg : ∀ r : Nat, r < 32 → sR B 1 r = rgT r) (hm : MKp 14 w) : ∃ (k : Nat) (d a b f : Int32), df_X18_longOne n (RS B [] 0 0 w d0 a0 b0 f0) = some (RS B (txL (fun c => tvA c w) 14 w) k 1 w d a b f) := by
  have hw : w &&& nI 4261441663 = nI 33570867 := hm.2.trans (by decide +kernel)
  have hn10 : 10 < n := by omega
  have hn20 : 20 < n := by omega
  obtain ⟨D, hD, eD⟩ := pt_n (w := w) (k := 7) (m := 5) (by decide) (by decide)
  have hD : D < 32 := hD
  obtain ⟨A, hA, eA⟩ := pt_n (w := w) (k := 15) (m := 5) (by decide) (by decide)
  have hA : A < 32 := hA
  obtain ⟨Q, hQ, eQ⟩ := pt_n (w := w) (k := 20) (m := 5) (by decide) (by decide)
  have hQ : Q < 32 := hQ
  have tx : txL (fun c => tvA c w) 14 w = ([100, 105, 118] ++ ([32] ++ (regL D ++ ([44, 32] ++ (regL A ++ ([44, 32] ++ (regL Q))))))) := by
    unfold txL sfxL
    rw [show strL (ko_w 14) = [100, 105, 118] from by decide +kernel, show strL (ko_f 14) = [100, 44, 97, 44, 98] from by decide +kernel, if_neg (show ¬ (ko_b 14 &&& 127 : Int32) = 47 by decide +kernel)]
    simp only [wrT, oc_44, (show oper 97 (tvA 97 w) = regL A from or_1 (by decide) (by decide) eA hA), (show oper 98 (tvA 98 w) = regL Q from or_1 (by decide) (by decide) eQ hQ), (show oper 100 (tvA 100 w) = regL D from or_1 (by decide) (by decide) eD hD), ne_eq, reduceCtorEq, not_false_eq_true, not_true_eq_false, if_true, if_false, ↓reduceIte, List.append_assoc, List.cons_append, List.nil_append, List.append_nil, nxl_0, nxl_s]
  have hop : w &&& nI 127 = nI 51 := (sub_3 hw (by decide)).trans (by decide)
  have f3 : fpt w 12 3 = nI 4 := pf_1 hw (by decide) (by decide) (by decide)
  have g7 : fpt w 25 7 = nI 1 := pf_1 hw (by decide) (by decide) (by decide)
  have hS := th_S (f := nI 4) (x := 7760228) (M := [100, 105, 118]) (w := w) hn10 hn20 hg (by decide +kernel) (by decide) hD hA hQ
  have key : df_X18_plain n (nI 1) (RS B [] 0 0 w (nI D) (nI A) (nI Q) (nI 4)) = some (RS B ([100, 105, 118] ++ ([32] ++ (regL D ++ ([44, 32] ++ (regL A ++ ([44, 32] ++ (regL Q))))))) 3 1 w (nI D) (nI A) (nI Q) (nI 4)) := by
    simp (disch := (first | assumption | decide | omega | (simp only [List.length_append, List.length_cons, List.length_nil, nxl_0, nxl_s] <;> omega))) only [df_X18_plain_266, df_X18_plain_263, df_X18_plain_246, df_X18_plain_219, df_X18_plain_106, df_X18_plain_0, df_X18_plain, hS, RS_0, RS_1, RS_2, RS_3, RS_4, RS_5, RS_6, RS_7, RS_r1, RS_w1, RS_w2, RS_w3, RS_w4, RS_w5, RS_w6, RS_w7, pt_S, List.append_assoc, List.cons_append, List.nil_append, List.append_nil, nxl_0, nxl_s, eq_self, Nat.reduceEqDiff, Nat.reduceLeDiff, nl_0, nl_1, nl_2, nl_3, nl_4, nl_5, nl_6, nl_7, nl_32, nl_29295, nl_6386291, nl_6452595, nl_6579297, nl_6581857, nl_7105651, nl_7107187, nl_7107949, nl_7169394, nl_7499640, nl_7629939, nl_7760228, nl_1751938413, nl_1970103666, nl_1970564211, nl_1970694500, no_1, no_1024, pk_mul, nI_add, nm_ck, nI_clamp, nI_ltI, nI_leI, nI_eq, nb_b2, nb_b1, ↓nb_let, nm_z0, nm_z1, nb_II, nb_IR, nb_RI, nb_RR, nm_IL, nm_IQ, nm_RL, nm_RQ, nm_LI, nm_LR, nm_LL, nm_LQ, nm_QI, nm_QR, nm_QL, nm_QQ, nm_rr, nm_ii, nm_eqm, not_false_eq_true, pk_sub, nm_div, nm_shl, nm_shr, nm_ush, nm_or8, nm_or64, nm_or256, nm_m1, nm_m3, nm_m7, nm_m15, nm_m31, nm_m63, nm_m255, nm_m511, nm_m1023, nm_m2047, nm_m65535, Nat.reduceMod, Nat.reducePow, Nat.reduceAdd, Nat.reduceSub, Nat.reduceMul, nm_bo, nm_bi, nm_rc, nm_ic, nm_ri, nm_rl, nm_rq, nm_ql, nm_qi, nm_li, nm_us, nm_uu, nm_cp, nm_sa31, nm_sa7, nm_m127, nm_m2, nm_nz, nm_nzk, nm_eq32, nm_nzf, if_true, if_false, ↓reduceIte, if_pos, if_neg]
  exact ⟨_, _, _, _, _, lo_51 hop (by rw [eD, eA, eQ, f3, g7, key, tx])⟩
theorem rtx_15 {n : Nat} {B : St} {w d0 a0 b0 f0 : Int32} (hn : 30 < n) (hg : ∀ r : Nat, r < 32 → sR B 1 r = rgT r) (hm : MKp 15 w) : ∃ (k : Nat) (d a b f : Int32), df_X18_longOne n (RS B [] 0 0 w d0 a0 b0 f0) = some (RS B (txL (fun c => tvA c w) 15 w) k 1 w d a b f) := by
  have hw : w &&& nI 4261441663 = nI 33574963 := hm.2.trans (by decide +kernel)
  have hn10 : 10 < n := by omega
  have hn20 : 20 < n := by omega
  obtain ⟨D, hD, eD⟩ := pt_n (w := w) (k := 7) (m := 5) (by decide) (by decide)
  have hD : D < 32 := hD
  obtain ⟨A, hA, eA⟩ := pt_n (w := w) (k := 15) (m := 5) (by decide) (by decide)
  have hA : A < 32 := hA
  obtain ⟨Q, hQ, eQ⟩ := pt_n (w := w) (k := 20) (m := 5) (by decide) (by decide)
  have hQ : Q < 32 := hQ
  have tx : txL (fun c => tvA c w) 15 w = ([100, 105, 118, 117] ++ ([32] ++ (regL D ++ ([44, 32] ++ (regL A ++ ([44, 32] ++ (regL Q))))))) := by
    unfold txL sfxL
    rw [show strL (ko_w 15) = [100, 105, 118, 117] from by decide +kernel, show strL (ko_f 15) = [100, 44, 97, 44, 98] from by decide +kernel, if_neg (show ¬ (ko_b 15 &&& 127 : Int32) = 47 by decide +kernel)]
    simp only [wrT, oc_44, (show oper 97 (tvA 97 w) = regL A from or_1 (by decide) (by decide) eA hA), (show oper 98 (tvA 98 w) = regL Q from or_1 (by decide) (by decide) eQ hQ), (show oper 100 (tvA 100 w) = regL D from or_1 (by decide) (by decide) eD hD), ne_eq, reduceCtorEq, not_false_eq_true, not_true_eq_false, if_true, if_false, ↓reduceIte, List.append_assoc, List.cons_append, List.nil_append, List.append_nil, nxl_0, nxl_s]
  have hop : w &&& nI 127 = nI 51 := (sub_3 hw (by decide)).trans (by decide)
  have f3 : fpt w 12 3 = nI 5 := pf_1 hw (by decide) (by decide) (by decide)
  have g7 : fpt w 25 7 = nI 1 := pf_1 hw (by decide) (by decide) (by decide)
  have hS := th_S (f := nI 5) (x := 1970694500) (M := [100, 105, 118, 117]) (w := w) hn10 hn20 hg (by decide +kernel) (by decide) hD hA hQ
  have key : df_X18_plain n (nI 1) (RS B [] 0 0 w (nI D) (nI A) (nI Q) (nI 5)) = some (RS B ([100, 105, 118, 117] ++ ([32] ++ (regL D ++ ([44, 32] ++ (regL A ++ ([44, 32] ++ (regL Q))))))) 3 1 w (nI D) (nI A) (nI Q) (nI 5)) := by
    simp (disch := (first | assumption | decide | omega | (simp only [List.length_append, List.length_cons, List.length_nil, nxl_0, nxl_s] <;> omega))) only [df_X18_plain_266, df_X18_plain_263, df_X18_plain_246, df_X18_plain_219, df_X18_plain_106, df_X18_plain_0, df_X18_plain, hS, RS_0, RS_1, RS_2, RS_3, RS_4, RS_5, RS_6, RS_7, RS_r1, RS_w1, RS_w2, RS_w3, RS_w4, RS_w5, RS_w6, RS_w7, pt_S, List.append_assoc, List.cons_append, List.nil_append, List.append_nil, nxl_0, nxl_s, eq_self, Nat.reduceEqDiff, Nat.reduceLeDiff, nl_0, nl_1, nl_2, nl_3, nl_4, nl_5, nl_6, nl_7, nl_32, nl_29295, nl_6386291, nl_6452595, nl_6579297, nl_6581857, nl_7105651, nl_7107187, nl_7107949, nl_7169394, nl_7499640, nl_7629939, nl_7760228, nl_1751938413, nl_1970103666, nl_1970564211, nl_1970694500, no_1, no_1024, pk_mul, nI_add, nm_ck, nI_clamp, nI_ltI, nI_leI, nI_eq, nb_b2, nb_b1, ↓nb_let, nm_z0, nm_z1, nb_II, nb_IR, nb_RI, nb_RR, nm_IL, nm_IQ, nm_RL, nm_RQ, nm_LI, nm_LR, nm_LL, nm_LQ, nm_QI, nm_QR, nm_QL, nm_QQ, nm_rr, nm_ii, nm_eqm, not_false_eq_true, pk_sub, nm_div, nm_shl, nm_shr, nm_ush, nm_or8, nm_or64, nm_or256, nm_m1, nm_m3, nm_m7, nm_m15, nm_m31, nm_m63, nm_m255, nm_m511, nm_m1023, nm_m2047, nm_m65535, Nat.reduceMod, Nat.reducePow, Nat.reduceAdd, Nat.reduceSub, Nat.reduceMul, nm_bo, nm_bi, nm_rc, nm_ic, nm_ri, nm_rl, nm_rq, nm_ql, nm_qi, nm_li, nm_us, nm_uu, nm_cp, nm_sa31, nm_sa7, nm_m127, nm_m2, nm_nz, nm_nzk, nm_eq32, nm_nzf, if_true, if_false, ↓reduceIte, if_pos, if_neg]
  exact ⟨_, _, _, _, _, lo_51 hop (by rw [eD, eA, eQ, f3, g7, key, tx])⟩
theorem rtx_16 {n : Nat} {B : St} {w d0 a0 b0 f0 : Int32} (hn : 30 < n) (hg : ∀ r : Nat, r < 32 → sR B 1 r = rgT r) (hm : MKp 16 w) : ∃ (k : Nat) (d a b f : Int32), df_X18_longOne n (RS B [] 0 0 w d0 a0 b0 f0) = some (RS B (txL (fun c => tvA c w) 16 w) k 1 w d a b f) := by
  have hw : w &&& nI 4261441663 = nI 33579059 := hm.2.trans (by decide +kernel)
  have hn10 : 10 < n := by omega
  have hn20 : 20 < n := by omega
  obtain ⟨D, hD, eD⟩ := pt_n (w := w) (k := 7) (m := 5) (by decide) (by decide)
  have hD : D < 32 := hD
  obtain ⟨A, hA, eA⟩ := pt_n (w := w) (k := 15) (m := 5) (by decide) (by decide)
  have hA : A < 32 := hA
  obtain ⟨Q, hQ, eQ⟩ := pt_n (w := w) (k := 20) (m := 5) (by decide) (by decide)
  have hQ : Q < 32 := hQ
  have tx : txL (fun c => tvA c w) 16 w = ([114, 101, 109] ++ ([32] ++ (regL D ++ ([44, 32] ++ (regL A ++ ([44, 32] ++ (regL Q))))))) := by
    unfold txL sfxL
    rw [show strL (ko_w 16) = [114, 101, 109] from by decide +kernel, show strL (ko_f 16) = [100, 44, 97, 44, 98] from by decide +kernel, if_neg (show ¬ (ko_b 16 &&& 127 : Int32) = 47 by decide +kernel)]
    simp only [wrT, oc_44, (show oper 97 (tvA 97 w) = regL A from or_1 (by decide) (by decide) eA hA), (show oper 98 (tvA 98 w) = regL Q from or_1 (by decide) (by decide) eQ hQ), (show oper 100 (tvA 100 w) = regL D from or_1 (by decide) (by decide) eD hD), ne_eq, reduceCtorEq, not_false_eq_true, not_true_eq_false, if_true, if_false, ↓reduceIte, List.append_assoc, List.cons_append, List.nil_append, List.append_nil, nxl_0, nxl_s]
  have hop : w &&& nI 127 = nI 51 := (sub_3 hw (by decide)).trans (by decide)
  have f3 : fpt w 12 3 = nI 6 := pf_1 hw (by decide) (by decide) (by decide)
  have g7 : fpt w 25 7 = nI 1 := pf_1 hw (by decide) (by decide) (by decide)
  have hS := th_S (f := nI 6) (x := 7169394) (M := [114, 101, 109]) (w := w) hn10 hn20 hg (by decide +kernel) (by decide) hD hA hQ
  have key : df_X18_plain n (nI 1) (RS B [] 0 0 w (nI D) (nI A) (nI Q) (nI 6)) = some (RS B ([114, 101, 109] ++ ([32] ++ (regL D ++ ([44, 32] ++ (regL A ++ ([44, 32] ++ (regL Q))))))) 3 1 w (nI D) (nI A) (nI Q) (nI 6)) := by
    simp (disch := (first | assumption | decide | omega | (simp only [List.length_append, List.length_cons, List.length_nil, nxl_0, nxl_s] <;> omega))) only [df_X18_plain_266, df_X18_plain_263, df_X18_plain_246, df_X18_plain_219, df_X18_plain_106, df_X18_plain_0, df_X18_plain, hS, RS_0, RS_1, RS_2, RS_3, RS_4, RS_5, RS_6, RS_7, RS_r1, RS_w1, RS_w2, RS_w3, RS_w4, RS_w5, RS_w6, RS_w7, pt_S, List.append_assoc, List.cons_append, List.nil_append, List.append_nil, nxl_0, nxl_s, eq_self, Nat.reduceEqDiff, Nat.reduceLeDiff, nl_0, nl_1, nl_2, nl_3, nl_4, nl_5, nl_6, nl_7, nl_32, nl_29295, nl_6386291, nl_6452595, nl_6579297, nl_6581857, nl_7105651, nl_7107187, nl_7107949, nl_7169394, nl_7499640, nl_7629939, nl_7760228, nl_1751938413, nl_1970103666, nl_1970564211, nl_1970694500, no_1, no_1024, pk_mul, nI_add, nm_ck, nI_clamp, nI_ltI, nI_leI, nI_eq, nb_b2, nb_b1, ↓nb_let, nm_z0, nm_z1, nb_II, nb_IR, nb_RI, nb_RR, nm_IL, nm_IQ, nm_RL, nm_RQ, nm_LI, nm_LR, nm_LL, nm_LQ, nm_QI, nm_QR, nm_QL, nm_QQ, nm_rr, nm_ii, nm_eqm, not_false_eq_true, pk_sub, nm_div, nm_shl, nm_shr, nm_ush, nm_or8, nm_or64, nm_or256, nm_m1, nm_m3, nm_m7, nm_m15, nm_m31, nm_m63, nm_m255, nm_m511, nm_m1023, nm_m2047, nm_m65535, Nat.reduceMod, Nat.reducePow, Nat.reduceAdd, Nat.reduceSub, Nat.reduceMul, nm_bo, nm_bi, nm_rc, nm_ic, nm_ri, nm_rl, nm_rq, nm_ql, nm_qi, nm_li, nm_us, nm_uu, nm_cp, nm_sa31, nm_sa7, nm_m127, nm_m2, nm_nz, nm_nzk, nm_eq32, nm_nzf, if_true, if_false, ↓reduceIte, if_pos, if_neg]
  exact ⟨_, _, _, _, _, lo_51 hop (by rw [eD, eA, eQ, f3, g7, key, tx])⟩
theorem rtx_17 {n : Nat} {B : St} {w d0 a0 b0 f0 : Int32} (hn : 30 < n) (hg : ∀ r : Nat, r < 32 → sR B 1 r = rgT r) (hm : MKp 17 w) : ∃ (k : Nat) (d a b f : Int32), df_X18_longOne n (RS B [] 0 0 w d0 a0 b0 f0) = some (RS B (txL (fun c => tvA c w) 17 w) k 1 w d a b f) := by
  have hw : w &&& nI 4261441663 = nI 33583155 := hm.2.trans (by decide +kernel)
  have hn10 : 10 < n := by omega
  have hn20 : 20 < n := by omega
  obtain ⟨D, hD, eD⟩ := pt_n (w := w) (k := 7) (m := 5) (by decide) (by decide)
  have hD : D < 32 := hD
  obtain ⟨A, hA, eA⟩ := pt_n (w := w) (k := 15) (m := 5) (by decide) (by decide)
  have hA : A < 32 := hA
  obtain ⟨Q, hQ, eQ⟩ := pt_n (w := w) (k := 20) (m := 5) (by decide) (by decide)
  have hQ : Q < 32 := hQ
  have tx : txL (fun c => tvA c w) 17 w = ([114, 101, 109, 117] ++ ([32] ++ (regL D ++ ([44, 32] ++ (regL A ++ ([44, 32] ++ (regL Q))))))) := by
    unfold txL sfxL
    rw [show strL (ko_w 17) = [114, 101, 109, 117] from by decide +kernel, show strL (ko_f 17) = [100, 44, 97, 44, 98] from by decide +kernel, if_neg (show ¬ (ko_b 17 &&& 127 : Int32) = 47 by decide +kernel)]
    simp only [wrT, oc_44, (show oper 97 (tvA 97 w) = regL A from or_1 (by decide) (by decide) eA hA), (show oper 98 (tvA 98 w) = regL Q from or_1 (by decide) (by decide) eQ hQ), (show oper 100 (tvA 100 w) = regL D from or_1 (by decide) (by decide) eD hD), ne_eq, reduceCtorEq, not_false_eq_true, not_true_eq_false, if_true, if_false, ↓reduceIte, List.append_assoc, List.cons_append, List.nil_append, List.append_nil, nxl_0, nxl_s]
  have hop : w &&& nI 127 = nI 51 := (sub_3 hw (by decide)).trans (by decide)
  have f3 : fpt w 12 3 = nI 7 := pf_1 hw (by decide) (by decide) (by decide)
  have g7 : fpt w 25 7 = nI 1 := pf_1 hw (by decide) (by decide) (by decide)
  have hS := th_S (f := nI 7) (x := 1970103666) (M := [114, 101, 109, 117]) (w := w) hn10 hn20 hg (by decide +kernel) (by decide) hD hA hQ
  have key : df_X18_plain n (nI 1) (RS B [] 0 0 w (nI D) (nI A) (nI Q) (nI 7)) = some (RS B ([114, 101, 109, 117] ++ ([32] ++ (regL D ++ ([44, 32] ++ (regL A ++ ([44, 32] ++ (regL Q))))))) 3 1 w (nI D) (nI A) (nI Q) (nI 7)) := by
    simp (disch := (first | assumption | decide | omega | (simp only [List.length_append, List.length_cons, List.length_nil, nxl_0, nxl_s] <;> omega))) only [df_X18_plain_266, df_X18_plain_263, df_X18_plain_246, df_X18_plain_219, df_X18_plain_106, df_X18_plain_0, df_X18_plain, hS, RS_0, RS_1, RS_2, RS_3, RS_4, RS_5, RS_6, RS_7, RS_r1, RS_w1, RS_w2, RS_w3, RS_w4, RS_w5, RS_w6, RS_w7, pt_S, List.append_assoc, List.cons_append, List.nil_append, List.append_nil, nxl_0, nxl_s, eq_self, Nat.reduceEqDiff, Nat.reduceLeDiff, nl_0, nl_1, nl_2, nl_3, nl_4, nl_5, nl_6, nl_7, nl_32, nl_29295, nl_6386291, nl_6452595, nl_6579297, nl_6581857, nl_7105651, nl_7107187, nl_7107949, nl_7169394, nl_7499640, nl_7629939, nl_7760228, nl_1751938413, nl_1970103666, nl_1970564211, nl_1970694500, no_1, no_1024, pk_mul, nI_add, nm_ck, nI_clamp, nI_ltI, nI_leI, nI_eq, nb_b2, nb_b1, ↓nb_let, nm_z0, nm_z1, nb_II, nb_IR, nb_RI, nb_RR, nm_IL, nm_IQ, nm_RL, nm_RQ, nm_LI, nm_LR, nm_LL, nm_LQ, nm_QI, nm_QR, nm_QL, nm_QQ, nm_rr, nm_ii, nm_eqm, not_false_eq_true, pk_sub, nm_div, nm_shl, nm_shr, nm_ush, nm_or8, nm_or64, nm_or256, nm_m1, nm_m3, nm_m7, nm_m15, nm_m31, nm_m63, nm_m255, nm_m511, nm_m1023, nm_m2047, nm_m65535, Nat.reduceMod, Nat.reducePow, Nat.reduceAdd, Nat.reduceSub, Nat.reduceMul, nm_bo, nm_bi, nm_rc, nm_ic, nm_ri, nm_rl, nm_rq, nm_ql, nm_qi, nm_li, nm_us, nm_uu, nm_cp, nm_sa31, nm_sa7, nm_m127, nm_m2, nm_nz, nm_nzk, nm_eq32, nm_nzf, if_true, if_false, ↓reduceIte, if_pos, if_neg]
  exact ⟨_, _, _, _, _, lo_51 hop (by rw [eD, eA, eQ, f3, g7, key, tx])⟩
theorem rtx_18 {n : Nat} {B : St} {w d0 a0 b0 f0 : Int32} (hn : 30 < n) (hg : ∀ r : Nat, r < 32 → sR B 1 r = rgT r) (hm : MKp 18 w) : ∃ (k : Nat) (d a b f : Int32), df_X18_longOne n (RS B [] 0 0 w d0 a0 b0 f0) = some (RS B (txL (fun c => tvA c w) 18 w) k 1 w d a b f) := by
  have hw : w &&& nI 28799 = nI 19 := hm.2.trans (by decide +kernel)
  have hn10 : 10 < n := by omega
  have hn20 : 20 < n := by omega
  obtain ⟨D, hD, eD⟩ := pt_n (w := w) (k := 7) (m := 5) (by decide) (by decide)
  have hD : D < 32 := hD
  obtain ⟨A, hA, eA⟩ := pt_n (w := w) (k := 15) (m := 5) (by decide) (by decide)
  have hA : A < 32 := hA
  obtain ⟨Q, hQ, eQ⟩ := pt_n (w := w) (k := 20) (m := 5) (by decide) (by decide)
  have hQ : Q < 32 := hQ
  have tx : txL (fun c => tvA c w) 18 w = ([97, 100, 100, 105] ++ ([32] ++ (regL D ++ ([44, 32] ++ (regL A ++ ([44, 32] ++ (decI (tvI w)))))))) := by
    unfold txL sfxL
    rw [show strL (ko_w 18) = [97, 100, 100, 105] from by decide +kernel, show strL (ko_f 18) = [100, 44, 97, 44, 73] from by decide +kernel, if_neg (show ¬ (ko_b 18 &&& 127 : Int32) = 47 by decide +kernel)]
    simp only [wrT, oc_44, (show oper 73 (tvA 73 w) = decI (tvI w) from on_1 _ (by decide) (by decide) (by decide)), (show oper 97 (tvA 97 w) = regL A from or_1 (by decide) (by decide) eA hA), (show oper 100 (tvA 100 w) = regL D from or_1 (by decide) (by decide) eD hD), ne_eq, reduceCtorEq, not_false_eq_true, not_true_eq_false, if_true, if_false, ↓reduceIte, List.append_assoc, List.cons_append, List.nil_append, List.append_nil, nxl_0, nxl_s]
  have hop : w &&& nI 127 = nI 19 := (sub_3 hw (by decide)).trans (by decide)
  have f3 : fpt w 12 3 = nI 0 := pf_1 hw (by decide) (by decide) (by decide)
  have hS := tw0_S (f := nI 0) (x := 1768186977) (M := [97, 100, 100, 105]) (w := w) hn10 hn20 hg (by decide +kernel) (by decide) hD hA hQ
  have key : df_X18_twos n (fpt w 25 7) (RS B [] 0 0 w (nI D) (nI A) (nI Q) (nI 0)) = some (RS B ([97, 100, 100, 105] ++ ([32] ++ (regL D ++ ([44, 32] ++ (regL A ++ ([44, 32] ++ (decI (tvI w)))))))) 3 1 w (nI D) (nI A) (nI Q) (nI 0)) := by
    simp (disch := (first | assumption | decide | omega | (simp only [List.length_append, List.length_cons, List.length_nil, nxl_0, nxl_s] <;> omega))) only [df_X18_twos_62, df_X18_twos_45, df_X18_twos_44, df_X18_twos_21, df_X18_twos_16, df_X18_twos_0, df_X18_twos, hS, ite_self, RS_0, RS_1, RS_2, RS_3, RS_4, RS_5, RS_6, RS_7, RS_r1, RS_w1, RS_w2, RS_w3, RS_w4, RS_w5, RS_w6, RS_w7, pt_S, List.append_assoc, List.cons_append, List.nil_append, List.append_nil, nxl_0, nxl_s, eq_self, Nat.reduceEqDiff, Nat.reduceLeDiff, nl_0, nl_1, nl_2, nl_3, nl_4, nl_5, nl_6, nl_7, nl_32, nl_6910575, nl_1767993971, nl_1768186977, nl_1768189537, nl_1768713331, nl_1768714867, nl_1769107320, nl_1769237619, no_1, no_1024, pk_mul, nI_add, nm_ck, nI_clamp, nI_ltI, nI_leI, nI_eq, nb_b2, nb_b1, ↓nb_let, nm_z0, nm_z1, nb_II, nb_IR, nb_RI, nb_RR, nm_IL, nm_IQ, nm_RL, nm_RQ, nm_LI, nm_LR, nm_LL, nm_LQ, nm_QI, nm_QR, nm_QL, nm_QQ, nm_rr, nm_ii, nm_eqm, not_false_eq_true, pk_sub, nm_div, nm_shl, nm_shr, nm_ush, nm_or8, nm_or64, nm_or256, nm_m1, nm_m3, nm_m7, nm_m15, nm_m31, nm_m63, nm_m255, nm_m511, nm_m1023, nm_m2047, nm_m65535, Nat.reduceMod, Nat.reducePow, Nat.reduceAdd, Nat.reduceSub, Nat.reduceMul, nm_bo, nm_bi, nm_rc, nm_ic, nm_ri, nm_rl, nm_rq, nm_ql, nm_qi, nm_li, nm_us, nm_uu, nm_cp, nm_sa31, nm_sa7, nm_m127, nm_m2, nm_nz, nm_nzk, nm_eq32, nm_nzf, if_true, if_false, ↓reduceIte, if_pos, if_neg]
  exact ⟨_, _, _, _, _, lo_19 hop (by rw [eD, eA, eQ, f3, key, tx])⟩
theorem rtx_19 {n : Nat} {B : St} {w d0 a0 b0 f0 : Int32} (hn : 30 < n) (hg : ∀ r : Nat, r < 32 → sR B 1 r = rgT r) (hm : MKp 19 w) : ∃ (k : Nat) (d a b f : Int32), df_X18_longOne n (RS B [] 0 0 w d0 a0 b0 f0) = some (RS B (txL (fun c => tvA c w) 19 w) k 1 w d a b f) := by
  have hw : w &&& nI 28799 = nI 8211 := hm.2.trans (by decide +kernel)
  have hn10 : 10 < n := by omega
  have hn20 : 20 < n := by omega
  obtain ⟨D, hD, eD⟩ := pt_n (w := w) (k := 7) (m := 5) (by decide) (by decide)
  have hD : D < 32 := hD
  obtain ⟨A, hA, eA⟩ := pt_n (w := w) (k := 15) (m := 5) (by decide) (by decide)
  have hA : A < 32 := hA
  obtain ⟨Q, hQ, eQ⟩ := pt_n (w := w) (k := 20) (m := 5) (by decide) (by decide)
  have hQ : Q < 32 := hQ
  have tx : txL (fun c => tvA c w) 19 w = ([115, 108, 116, 105] ++ ([32] ++ (regL D ++ ([44, 32] ++ (regL A ++ ([44, 32] ++ (decI (tvI w)))))))) := by
    unfold txL sfxL
    rw [show strL (ko_w 19) = [115, 108, 116, 105] from by decide +kernel, show strL (ko_f 19) = [100, 44, 97, 44, 73] from by decide +kernel, if_neg (show ¬ (ko_b 19 &&& 127 : Int32) = 47 by decide +kernel)]
    simp only [wrT, oc_44, (show oper 73 (tvA 73 w) = decI (tvI w) from on_1 _ (by decide) (by decide) (by decide)), (show oper 97 (tvA 97 w) = regL A from or_1 (by decide) (by decide) eA hA), (show oper 100 (tvA 100 w) = regL D from or_1 (by decide) (by decide) eD hD), ne_eq, reduceCtorEq, not_false_eq_true, not_true_eq_false, if_true, if_false, ↓reduceIte, List.append_assoc, List.cons_append, List.nil_append, List.append_nil, nxl_0, nxl_s]
  have hop : w &&& nI 127 = nI 19 := (sub_3 hw (by decide)).trans (by decide)
  have f3 : fpt w 12 3 = nI 2 := pf_1 hw (by decide) (by decide) (by decide)
  have hS := tw0_S (f := nI 2) (x := 1769237619) (M := [115, 108, 116, 105]) (w := w) hn10 hn20 hg (by decide +kernel) (by decide) hD hA hQ
  have key : df_X18_twos n (fpt w 25 7) (RS B [] 0 0 w (nI D) (nI A) (nI Q) (nI 2)) = some (RS B ([115, 108, 116, 105] ++ ([32] ++ (regL D ++ ([44, 32] ++ (regL A ++ ([44, 32] ++ (decI (tvI w)))))))) 3 1 w (nI D) (nI A) (nI Q) (nI 2)) := by
    simp (disch := (first | assumption | decide | omega | (simp only [List.length_append, List.length_cons, List.length_nil, nxl_0, nxl_s] <;> omega))) only [df_X18_twos_62, df_X18_twos_45, df_X18_twos_44, df_X18_twos_21, df_X18_twos_16, df_X18_twos_0, df_X18_twos, hS, ite_self, RS_0, RS_1, RS_2, RS_3, RS_4, RS_5, RS_6, RS_7, RS_r1, RS_w1, RS_w2, RS_w3, RS_w4, RS_w5, RS_w6, RS_w7, pt_S, List.append_assoc, List.cons_append, List.nil_append, List.append_nil, nxl_0, nxl_s, eq_self, Nat.reduceEqDiff, Nat.reduceLeDiff, nl_0, nl_1, nl_2, nl_3, nl_4, nl_5, nl_6, nl_7, nl_32, nl_6910575, nl_1767993971, nl_1768186977, nl_1768189537, nl_1768713331, nl_1768714867, nl_1769107320, nl_1769237619, no_1, no_1024, pk_mul, nI_add, nm_ck, nI_clamp, nI_ltI, nI_leI, nI_eq, nb_b2, nb_b1, ↓nb_let, nm_z0, nm_z1, nb_II, nb_IR, nb_RI, nb_RR, nm_IL, nm_IQ, nm_RL, nm_RQ, nm_LI, nm_LR, nm_LL, nm_LQ, nm_QI, nm_QR, nm_QL, nm_QQ, nm_rr, nm_ii, nm_eqm, not_false_eq_true, pk_sub, nm_div, nm_shl, nm_shr, nm_ush, nm_or8, nm_or64, nm_or256, nm_m1, nm_m3, nm_m7, nm_m15, nm_m31, nm_m63, nm_m255, nm_m511, nm_m1023, nm_m2047, nm_m65535, Nat.reduceMod, Nat.reducePow, Nat.reduceAdd, Nat.reduceSub, Nat.reduceMul, nm_bo, nm_bi, nm_rc, nm_ic, nm_ri, nm_rl, nm_rq, nm_ql, nm_qi, nm_li, nm_us, nm_uu, nm_cp, nm_sa31, nm_sa7, nm_m127, nm_m2, nm_nz, nm_nzk, nm_eq32, nm_nzf, if_true, if_false, ↓reduceIte, if_pos, if_neg]
  exact ⟨_, _, _, _, _, lo_19 hop (by rw [eD, eA, eQ, f3, key, tx])⟩
theorem rtx_20 {n : Nat} {B : St} {w d0 a0 b0 f0 : Int32} (hn : 30 < n) (hg : ∀ r : Nat, r < 32 → sR B 1 r = rgT r) (hm : MKp 20 w) : ∃ (k : Nat) (d a b f : Int32), df_X18_longOne n (RS B [] 0 0 w d0 a0 b0 f0) = some (RS B (txL (fun c => tvA c w) 20 w) k 1 w d a b f) := by
  have hw : w &&& nI 28799 = nI 12307 := hm.2.trans (by decide +kernel)
  have hn10 : 10 < n := by omega
  have hn20 : 20 < n := by omega
  obtain ⟨D, hD, eD⟩ := pt_n (w := w) (k := 7) (m := 5) (by decide) (by decide)
  have hD : D < 32 := hD
  obtain ⟨A, hA, eA⟩ := pt_n (w := w) (k := 15) (m := 5) (by decide) (by decide)
  have hA : A < 32 := hA
  obtain ⟨Q, hQ, eQ⟩ := pt_n (w := w) (k := 20) (m := 5) (by decide) (by decide)
  have hQ : Q < 32 := hQ
  have tx : txL (fun c => tvA c w) 20 w = ([115, 108, 116, 105, 117] ++ ([32] ++ (regL D ++ ([44, 32] ++ (regL A ++ ([44, 32] ++ (decI (tvI w)))))))) := by
    unfold txL sfxL
    rw [show strL (ko_w 20) = [115, 108, 116, 105, 117] from by decide +kernel, show strL (ko_f 20) = [100, 44, 97, 44, 73] from by decide +kernel, if_neg (show ¬ (ko_b 20 &&& 127 : Int32) = 47 by decide +kernel)]
    simp only [wrT, oc_44, (show oper 73 (tvA 73 w) = decI (tvI w) from on_1 _ (by decide) (by decide) (by decide)), (show oper 97 (tvA 97 w) = regL A from or_1 (by decide) (by decide) eA hA), (show oper 100 (tvA 100 w) = regL D from or_1 (by decide) (by decide) eD hD), ne_eq, reduceCtorEq, not_false_eq_true, not_true_eq_false, if_true, if_false, ↓reduceIte, List.append_assoc, List.cons_append, List.nil_append, List.append_nil, nxl_0, nxl_s]
  have hop : w &&& nI 127 = nI 19 := (sub_3 hw (by decide)).trans (by decide)
  have f3 : fpt w 12 3 = nI 3 := pf_1 hw (by decide) (by decide) (by decide)
  have hS := tw0_S (f := nI 3) (x := 504280411251) (M := [115, 108, 116, 105, 117]) (w := w) hn10 hn20 hg (by decide +kernel) (by decide) hD hA hQ
  have key : df_X18_twos n (fpt w 25 7) (RS B [] 0 0 w (nI D) (nI A) (nI Q) (nI 3)) = some (RS B ([115, 108, 116, 105, 117] ++ ([32] ++ (regL D ++ ([44, 32] ++ (regL A ++ ([44, 32] ++ (decI (tvI w)))))))) 3 1 w (nI D) (nI A) (nI Q) (nI 3)) := by
    simp (disch := (first | assumption | decide | omega | (simp only [List.length_append, List.length_cons, List.length_nil, nxl_0, nxl_s] <;> omega))) only [df_X18_twos_62, df_X18_twos_45, df_X18_twos_44, df_X18_twos_21, df_X18_twos_16, df_X18_twos_0, df_X18_twos, hS, ite_self, RS_0, RS_1, RS_2, RS_3, RS_4, RS_5, RS_6, RS_7, RS_r1, RS_w1, RS_w2, RS_w3, RS_w4, RS_w5, RS_w6, RS_w7, pt_S, List.append_assoc, List.cons_append, List.nil_append, List.append_nil, nxl_0, nxl_s, eq_self, Nat.reduceEqDiff, Nat.reduceLeDiff, nl_0, nl_1, nl_2, nl_3, nl_4, nl_5, nl_6, nl_7, nl_32, nl_6910575, nl_1767993971, nl_1768186977, nl_1768189537, nl_1768713331, nl_1768714867, nl_1769107320, nl_1769237619, no_1, no_1024, pk_mul, nI_add, nm_ck, nI_clamp, nI_ltI, nI_leI, nI_eq, nb_b2, nb_b1, ↓nb_let, nm_z0, nm_z1, nb_II, nb_IR, nb_RI, nb_RR, nm_IL, nm_IQ, nm_RL, nm_RQ, nm_LI, nm_LR, nm_LL, nm_LQ, nm_QI, nm_QR, nm_QL, nm_QQ, nm_rr, nm_ii, nm_eqm, not_false_eq_true, pk_sub, nm_div, nm_shl, nm_shr, nm_ush, nm_or8, nm_or64, nm_or256, nm_m1, nm_m3, nm_m7, nm_m15, nm_m31, nm_m63, nm_m255, nm_m511, nm_m1023, nm_m2047, nm_m65535, Nat.reduceMod, Nat.reducePow, Nat.reduceAdd, Nat.reduceSub, Nat.reduceMul, nm_bo, nm_bi, nm_rc, nm_ic, nm_ri, nm_rl, nm_rq, nm_ql, nm_qi, nm_li, nm_us, nm_uu, nm_cp, nm_sa31, nm_sa7, nm_m127, nm_m2, nm_nz, nm_nzk, nm_eq32, nm_nzf, if_true, if_false, ↓reduceIte, if_pos, if_neg]
  exact ⟨_, _, _, _, _, lo_19 hop (by rw [eD, eA, eQ, f3, key, tx])⟩
theorem rtx_21 {n : Nat} {B : St} {w d0 a0 b0 f0 : Int32} (hn : 30 < n) (hg : ∀ r : Nat, r < 32 → sR B 1 r = rgT r) (hm : MKp 21 w) : ∃ (k : Nat) (d a b f : Int32), df_X18_longOne n (RS B [] 0 0 w d0 a0 b0 f0) = some (RS B (txL (fun c => tvA c w) 21 w) k 1 w d a b f) := by
  have hw : w &&& nI 28799 = nI 16403 := hm.2.trans (by decide +kernel)
  have hn10 : 10 < n := by omega
  have hn20 : 20 < n := by omega
  obtain ⟨D, hD, eD⟩ := pt_n (w := w) (k := 7) (m := 5) (by decide) (by decide)
  have hD : D < 32 := hD
  obtain ⟨A, hA, eA⟩ := pt_n (w := w) (k := 15) (m := 5) (by decide) (by decide)
  have hA : A < 32 := hA
  obtain ⟨Q, hQ, eQ⟩ := pt_n (w := w) (k := 20) (m := 5) (by decide) (by decide)
  have hQ : Q < 32 := hQ
  have tx : txL (fun c => tvA c w) 21 w = ([120, 111, 114, 105] ++ ([32] ++ (regL D ++ ([44, 32] ++ (regL A ++ ([44, 32] ++ (decI (tvI w)))))))) := by
    unfold txL sfxL
    rw [show strL (ko_w 21) = [120, 111, 114, 105] from by decide +kernel, show strL (ko_f 21) = [100, 44, 97, 44, 73] from by decide +kernel, if_neg (show ¬ (ko_b 21 &&& 127 : Int32) = 47 by decide +kernel)]
    simp only [wrT, oc_44, (show oper 73 (tvA 73 w) = decI (tvI w) from on_1 _ (by decide) (by decide) (by decide)), (show oper 97 (tvA 97 w) = regL A from or_1 (by decide) (by decide) eA hA), (show oper 100 (tvA 100 w) = regL D from or_1 (by decide) (by decide) eD hD), ne_eq, reduceCtorEq, not_false_eq_true, not_true_eq_false, if_true, if_false, ↓reduceIte, List.append_assoc, List.cons_append, List.nil_append, List.append_nil, nxl_0, nxl_s]
  have hop : w &&& nI 127 = nI 19 := (sub_3 hw (by decide)).trans (by decide)
  have f3 : fpt w 12 3 = nI 4 := pf_1 hw (by decide) (by decide) (by decide)
  have hS := tw0_S (f := nI 4) (x := 1769107320) (M := [120, 111, 114, 105]) (w := w) hn10 hn20 hg (by decide +kernel) (by decide) hD hA hQ
  have key : df_X18_twos n (fpt w 25 7) (RS B [] 0 0 w (nI D) (nI A) (nI Q) (nI 4)) = some (RS B ([120, 111, 114, 105] ++ ([32] ++ (regL D ++ ([44, 32] ++ (regL A ++ ([44, 32] ++ (decI (tvI w)))))))) 3 1 w (nI D) (nI A) (nI Q) (nI 4)) := by
    simp (disch := (first | assumption | decide | omega | (simp only [List.length_append, List.length_cons, List.length_nil, nxl_0, nxl_s] <;> omega))) only [df_X18_twos_62, df_X18_twos_45, df_X18_twos_44, df_X18_twos_21, df_X18_twos_16, df_X18_twos_0, df_X18_twos, hS, ite_self, RS_0, RS_1, RS_2, RS_3, RS_4, RS_5, RS_6, RS_7, RS_r1, RS_w1, RS_w2, RS_w3, RS_w4, RS_w5, RS_w6, RS_w7, pt_S, List.append_assoc, List.cons_append, List.nil_append, List.append_nil, nxl_0, nxl_s, eq_self, Nat.reduceEqDiff, Nat.reduceLeDiff, nl_0, nl_1, nl_2, nl_3, nl_4, nl_5, nl_6, nl_7, nl_32, nl_6910575, nl_1767993971, nl_1768186977, nl_1768189537, nl_1768713331, nl_1768714867, nl_1769107320, nl_1769237619, no_1, no_1024, pk_mul, nI_add, nm_ck, nI_clamp, nI_ltI, nI_leI, nI_eq, nb_b2, nb_b1, ↓nb_let, nm_z0, nm_z1, nb_II, nb_IR, nb_RI, nb_RR, nm_IL, nm_IQ, nm_RL, nm_RQ, nm_LI, nm_LR, nm_LL, nm_LQ, nm_QI, nm_QR, nm_QL, nm_QQ, nm_rr, nm_ii, nm_eqm, not_false_eq_true, pk_sub, nm_div, nm_shl, nm_shr, nm_ush, nm_or8, nm_or64, nm_or256, nm_m1, nm_m3, nm_m7, nm_m15, nm_m31, nm_m63, nm_m255, nm_m511, nm_m1023, nm_m2047, nm_m65535, Nat.reduceMod, Nat.reducePow, Nat.reduceAdd, Nat.reduceSub, Nat.reduceMul, nm_bo, nm_bi, nm_rc, nm_ic, nm_ri, nm_rl, nm_rq, nm_ql, nm_qi, nm_li, nm_us, nm_uu, nm_cp, nm_sa31, nm_sa7, nm_m127, nm_m2, nm_nz, nm_nzk, nm_eq32, nm_nzf, if_true, if_false, ↓reduceIte, if_pos, if_neg]
  exact ⟨_, _, _, _, _, lo_19 hop (by rw [eD, eA, eQ, f3, key, tx])⟩
theorem rtx_22 {n : Nat} {B : St} {w d0 a0 b0 f0 : Int32} (hn : 30 < n) (hg : ∀ r : Nat, r < 32 → sR B 1 r = rgT r) (hm : MKp 22 w) : ∃ (k : Nat) (d a b f : Int32), df_X18_longOne n (RS B [] 0 0 w d0 a0 b0 f0) = some (RS B (txL (fun c => tvA c w) 22 w) k 1 w d a b f) := by
  have hw : w &&& nI 28799 = nI 24595 := hm.2.trans (by decide +kernel)
  have hn10 : 10 < n := by omega
  have hn20 : 20 < n := by omega
  obtain ⟨D, hD, eD⟩ := pt_n (w := w) (k := 7) (m := 5) (by decide) (by decide)
  have hD : D < 32 := hD
  obtain ⟨A, hA, eA⟩ := pt_n (w := w) (k := 15) (m := 5) (by decide) (by decide)
  have hA : A < 32 := hA
  obtain ⟨Q, hQ, eQ⟩ := pt_n (w := w) (k := 20) (m := 5) (by decide) (by decide)
  have hQ : Q < 32 := hQ
  have tx : txL (fun c => tvA c w) 22 w = ([111, 114, 105] ++ ([32] ++ (regL D ++ ([44, 32] ++ (regL A ++ ([44, 32] ++ (decI (tvI w)))))))) := by
    unfold txL sfxL
    rw [show strL (ko_w 22) = [111, 114, 105] from by decide +kernel, show strL (ko_f 22) = [100, 44, 97, 44, 73] from by decide +kernel, if_neg (show ¬ (ko_b 22 &&& 127 : Int32) = 47 by decide +kernel)]
    simp only [wrT, oc_44, (show oper 73 (tvA 73 w) = decI (tvI w) from on_1 _ (by decide) (by decide) (by decide)), (show oper 97 (tvA 97 w) = regL A from or_1 (by decide) (by decide) eA hA), (show oper 100 (tvA 100 w) = regL D from or_1 (by decide) (by decide) eD hD), ne_eq, reduceCtorEq, not_false_eq_true, not_true_eq_false, if_true, if_false, ↓reduceIte, List.append_assoc, List.cons_append, List.nil_append, List.append_nil, nxl_0, nxl_s]
  have hop : w &&& nI 127 = nI 19 := (sub_3 hw (by decide)).trans (by decide)
  have f3 : fpt w 12 3 = nI 6 := pf_1 hw (by decide) (by decide) (by decide)
  have hS := tw0_S (f := nI 6) (x := 6910575) (M := [111, 114, 105]) (w := w) hn10 hn20 hg (by decide +kernel) (by decide) hD hA hQ
  have key : df_X18_twos n (fpt w 25 7) (RS B [] 0 0 w (nI D) (nI A) (nI Q) (nI 6)) = some (RS B ([111, 114, 105] ++ ([32] ++ (regL D ++ ([44, 32] ++ (regL A ++ ([44, 32] ++ (decI (tvI w)))))))) 3 1 w (nI D) (nI A) (nI Q) (nI 6)) := by
    simp (disch := (first | assumption | decide | omega | (simp only [List.length_append, List.length_cons, List.length_nil, nxl_0, nxl_s] <;> omega))) only [df_X18_twos_62, df_X18_twos_45, df_X18_twos_44, df_X18_twos_21, df_X18_twos_16, df_X18_twos_0, df_X18_twos, hS, ite_self, RS_0, RS_1, RS_2, RS_3, RS_4, RS_5, RS_6, RS_7, RS_r1, RS_w1, RS_w2, RS_w3, RS_w4, RS_w5, RS_w6, RS_w7, pt_S, List.append_assoc, List.cons_append, List.nil_append, List.append_nil, nxl_0, nxl_s, eq_self, Nat.reduceEqDiff, Nat.reduceLeDiff, nl_0, nl_1, nl_2, nl_3, nl_4, nl_5, nl_6, nl_7, nl_32, nl_6910575, nl_1767993971, nl_1768186977, nl_1768189537, nl_1768713331, nl_1768714867, nl_1769107320, nl_1769237619, no_1, no_1024, pk_mul, nI_add, nm_ck, nI_clamp, nI_ltI, nI_leI, nI_eq, nb_b2, nb_b1, ↓nb_let, nm_z0, nm_z1, nb_II, nb_IR, nb_RI, nb_RR, nm_IL, nm_IQ, nm_RL, nm_RQ, nm_LI, nm_LR, nm_LL, nm_LQ, nm_QI, nm_QR, nm_QL, nm_QQ, nm_rr, nm_ii, nm_eqm, not_false_eq_true, pk_sub, nm_div, nm_shl, nm_shr, nm_ush, nm_or8, nm_or64, nm_or256, nm_m1, nm_m3, nm_m7, nm_m15, nm_m31, nm_m63, nm_m255, nm_m511, nm_m1023, nm_m2047, nm_m65535, Nat.reduceMod, Nat.reducePow, Nat.reduceAdd, Nat.reduceSub, Nat.reduceMul, nm_bo, nm_bi, nm_rc, nm_ic, nm_ri, nm_rl, nm_rq, nm_ql, nm_qi, nm_li, nm_us, nm_uu, nm_cp, nm_sa31, nm_sa7, nm_m127, nm_m2, nm_nz, nm_nzk, nm_eq32, nm_nzf, if_true, if_false, ↓reduceIte, if_pos, if_neg]
  exact ⟨_, _, _, _, _, lo_19 hop (by rw [eD, eA, eQ, f3, key, tx])⟩
theorem rtx_23 {n : Nat} {B : St} {w d0 a0 b0 f0 : Int32} (hn : 30 < n) (hg : ∀ r : Nat, r < 32 → sR B 1 r = rgT r) (hm : MKp 23 w) : ∃ (k : Nat) (d a b f : Int32), df_X18_longOne n (RS B [] 0 0 w d0 a0 b0 f0) = some (RS B (txL (fun c => tvA c w) 23 w) k 1 w d a b f) := by
  have hw : w &&& nI 28799 = nI 28691 := hm.2.trans (by decide +kernel)
  have hn10 : 10 < n := by omega
  have hn20 : 20 < n := by omega
  obtain ⟨D, hD, eD⟩ := pt_n (w := w) (k := 7) (m := 5) (by decide) (by decide)
  have hD : D < 32 := hD
  obtain ⟨A, hA, eA⟩ := pt_n (w := w) (k := 15) (m := 5) (by decide) (by decide)
  have hA : A < 32 := hA
  obtain ⟨Q, hQ, eQ⟩ := pt_n (w := w) (k := 20) (m := 5) (by decide) (by decide)
  have hQ : Q < 32 := hQ
  have tx : txL (fun c => tvA c w) 23 w = ([97, 110, 100, 105] ++ ([32] ++ (regL D ++ ([44, 32] ++ (regL A ++ ([44, 32] ++ (decI (tvI w)))))))) := by
    unfold txL sfxL
    rw [show strL (ko_w 23) = [97, 110, 100, 105] from by decide +kernel, show strL (ko_f 23) = [100, 44, 97, 44, 73] from by decide +kernel, if_neg (show ¬ (ko_b 23 &&& 127 : Int32) = 47 by decide +kernel)]
    simp only [wrT, oc_44, (show oper 73 (tvA 73 w) = decI (tvI w) from on_1 _ (by decide) (by decide) (by decide)), (show oper 97 (tvA 97 w) = regL A from or_1 (by decide) (by decide) eA hA), (show oper 100 (tvA 100 w) = regL D from or_1 (by decide) (by decide) eD hD), ne_eq, reduceCtorEq, not_false_eq_true, not_true_eq_false, if_true, if_false, ↓reduceIte, List.append_assoc, List.cons_append, List.nil_append, List.append_nil, nxl_0, nxl_s]
  have hop : w &&& nI 127 = nI 19 := (sub_3 hw (by decide)).trans (by decide)
  have f3 : fpt w 12 3 = nI 7 := pf_1 hw (by decide) (by decide) (by decide)
  have hS := tw0_S (f := nI 7) (x := 1768189537) (M := [97, 110, 100, 105]) (w := w) hn10 hn20 hg (by decide +kernel) (by decide) hD hA hQ
  have key : df_X18_twos n (fpt w 25 7) (RS B [] 0 0 w (nI D) (nI A) (nI Q) (nI 7)) = some (RS B ([97, 110, 100, 105] ++ ([32] ++ (regL D ++ ([44, 32] ++ (regL A ++ ([44, 32] ++ (decI (tvI w)))))))) 3 1 w (nI D) (nI A) (nI Q) (nI 7)) := by
    simp (disch := (first | assumption | decide | omega | (simp only [List.length_append, List.length_cons, List.length_nil, nxl_0, nxl_s] <;> omega))) only [df_X18_twos_62, df_X18_twos_45, df_X18_twos_44, df_X18_twos_21, df_X18_twos_16, df_X18_twos_0, df_X18_twos, hS, ite_self, RS_0, RS_1, RS_2, RS_3, RS_4, RS_5, RS_6, RS_7, RS_r1, RS_w1, RS_w2, RS_w3, RS_w4, RS_w5, RS_w6, RS_w7, pt_S, List.append_assoc, List.cons_append, List.nil_append, List.append_nil, nxl_0, nxl_s, eq_self, Nat.reduceEqDiff, Nat.reduceLeDiff, nl_0, nl_1, nl_2, nl_3, nl_4, nl_5, nl_6, nl_7, nl_32, nl_6910575, nl_1767993971, nl_1768186977, nl_1768189537, nl_1768713331, nl_1768714867, nl_1769107320, nl_1769237619, no_1, no_1024, pk_mul, nI_add, nm_ck, nI_clamp, nI_ltI, nI_leI, nI_eq, nb_b2, nb_b1, ↓nb_let, nm_z0, nm_z1, nb_II, nb_IR, nb_RI, nb_RR, nm_IL, nm_IQ, nm_RL, nm_RQ, nm_LI, nm_LR, nm_LL, nm_LQ, nm_QI, nm_QR, nm_QL, nm_QQ, nm_rr, nm_ii, nm_eqm, not_false_eq_true, pk_sub, nm_div, nm_shl, nm_shr, nm_ush, nm_or8, nm_or64, nm_or256, nm_m1, nm_m3, nm_m7, nm_m15, nm_m31, nm_m63, nm_m255, nm_m511, nm_m1023, nm_m2047, nm_m65535, Nat.reduceMod, Nat.reducePow, Nat.reduceAdd, Nat.reduceSub, Nat.reduceMul, nm_bo, nm_bi, nm_rc, nm_ic, nm_ri, nm_rl, nm_rq, nm_ql, nm_qi, nm_li, nm_us, nm_uu, nm_cp, nm_sa31, nm_sa7, nm_m127, nm_m2, nm_nz, nm_nzk, nm_eq32, nm_nzf, if_true, if_false, ↓reduceIte, if_pos, if_neg]
  exact ⟨_, _, _, _, _, lo_19 hop (by rw [eD, eA, eQ, f3, key, tx])⟩
theorem rtx_24 {n : Nat} {B : St} {w d0 a0 b0 f0 : Int32} (hn : 30 < n) (hg : ∀ r : Nat, r < 32 → sR B 1 r = rgT r) (hm : MKp 24 w) : ∃ (k : Nat) (d a b f : Int32), df_X18_longOne n (RS B [] 0 0 w d0 a0 b0 f0) = some (RS B (txL (fun c => tvA c w) 24 w) k 1 w d a b f) := by
  have hw : w &&& nI 4261441663 = nI 4115 := hm.2.trans (by decide +kernel)
  have hn10 : 10 < n := by omega
  have hn20 : 20 < n := by omega
  obtain ⟨D, hD, eD⟩ := pt_n (w := w) (k := 7) (m := 5) (by decide) (by decide)
  have hD : D < 32 := hD
  obtain ⟨A, hA, eA⟩ := pt_n (w := w) (k := 15) (m := 5) (by decide) (by decide)
  have hA : A < 32 := hA
  obtain ⟨Q, hQ, eQ⟩ := pt_n (w := w) (k := 20) (m := 5) (by decide) (by decide)
  have hQ : Q < 32 := hQ
  have tx : txL (fun c => tvA c w) 24 w = ([115, 108, 108, 105] ++ ([32] ++ (regL D ++ ([44, 32] ++ (regL A ++ ([44, 32] ++ (decI (tvH w)))))))) := by
    unfold txL sfxL
    rw [show strL (ko_w 24) = [115, 108, 108, 105] from by decide +kernel, show strL (ko_f 24) = [100, 44, 97, 44, 72] from by decide +kernel, if_neg (show ¬ (ko_b 24 &&& 127 : Int32) = 47 by decide +kernel)]
    simp only [wrT, oc_44, (show oper 72 (tvA 72 w) = decI (tvH w) from on_1 _ (by decide) (by decide) (by decide)), (show oper 97 (tvA 97 w) = regL A from or_1 (by decide) (by decide) eA hA), (show oper 100 (tvA 100 w) = regL D from or_1 (by decide) (by decide) eD hD), ne_eq, reduceCtorEq, not_false_eq_true, not_true_eq_false, if_true, if_false, ↓reduceIte, List.append_assoc, List.cons_append, List.nil_append, List.append_nil, nxl_0, nxl_s]
  have hop : w &&& nI 127 = nI 19 := (sub_3 hw (by decide)).trans (by decide)
  have f3 : fpt w 12 3 = nI 1 := pf_1 hw (by decide) (by decide) (by decide)
  have g7 : fpt w 25 7 = nI 0 := pf_1 hw (by decide) (by decide) (by decide)
  have eH : tvH w = nI Q := eQ
  have mQ : nI Q ≠ Int32.minValue := eH ▸ nmv_H w
  rw [eH] at tx
  have hS := tw1_S (f := nI 1) (x := 1768713331) (M := [115, 108, 108, 105]) (w := w) hn10 hn20 hg (by decide +kernel) (by decide) hD hA hQ mQ
  have key : df_X18_twos n (nI 0) (RS B [] 0 0 w (nI D) (nI A) (nI Q) (nI 1)) = some (RS B ([115, 108, 108, 105] ++ ([32] ++ (regL D ++ ([44, 32] ++ (regL A ++ ([44, 32] ++ (decI (nI Q)))))))) 3 1 w (nI D) (nI A) (nI Q) (nI 1)) := by
    simp (disch := (first | assumption | decide | omega | (simp only [List.length_append, List.length_cons, List.length_nil, nxl_0, nxl_s] <;> omega))) only [df_X18_twos_62, df_X18_twos_45, df_X18_twos_44, df_X18_twos_21, df_X18_twos_16, df_X18_twos_0, df_X18_twos, hS, RS_0, RS_1, RS_2, RS_3, RS_4, RS_5, RS_6, RS_7, RS_r1, RS_w1, RS_w2, RS_w3, RS_w4, RS_w5, RS_w6, RS_w7, pt_S, List.append_assoc, List.cons_append, List.nil_append, List.append_nil, nxl_0, nxl_s, eq_self, Nat.reduceEqDiff, Nat.reduceLeDiff, nl_0, nl_1, nl_2, nl_3, nl_4, nl_5, nl_6, nl_7, nl_32, nl_6910575, nl_1767993971, nl_1768186977, nl_1768189537, nl_1768713331, nl_1768714867, nl_1769107320, nl_1769237619, no_1, no_1024, pk_mul, nI_add, nm_ck, nI_clamp, nI_ltI, nI_leI, nI_eq, nb_b2, nb_b1, ↓nb_let, nm_z0, nm_z1, nb_II, nb_IR, nb_RI, nb_RR, nm_IL, nm_IQ, nm_RL, nm_RQ, nm_LI, nm_LR, nm_LL, nm_LQ, nm_QI, nm_QR, nm_QL, nm_QQ, nm_rr, nm_ii, nm_eqm, not_false_eq_true, pk_sub, nm_div, nm_shl, nm_shr, nm_ush, nm_or8, nm_or64, nm_or256, nm_m1, nm_m3, nm_m7, nm_m15, nm_m31, nm_m63, nm_m255, nm_m511, nm_m1023, nm_m2047, nm_m65535, Nat.reduceMod, Nat.reducePow, Nat.reduceAdd, Nat.reduceSub, Nat.reduceMul, nm_bo, nm_bi, nm_rc, nm_ic, nm_ri, nm_rl, nm_rq, nm_ql, nm_qi, nm_li, nm_us, nm_uu, nm_cp, nm_sa31, nm_sa7, nm_m127, nm_m2, nm_nz, nm_nzk, nm_eq32, nm_nzf, if_true, if_false, ↓reduceIte, if_pos, if_neg]
  exact ⟨_, _, _, _, _, lo_19 hop (by rw [eD, eA, eQ, f3, g7, key, tx])⟩
theorem rtx_25 {n : Nat} {B : St} {w d0 a0 b0 f0 : Int32} (hn : 30 < n) (hg : ∀ r : Nat, r < 32 → sR B 1 r = rgT r) (hm : MKp 25 w) : ∃ (k : Nat) (d a b f : Int32), df_X18_longOne n (RS B [] 0 0 w d0 a0 b0 f0) = some (RS B (txL (fun c => tvA c w) 25 w) k 1 w d a b f) := by
  have hw : w &&& nI 4261441663 = nI 20499 := hm.2.trans (by decide +kernel)
  have hn10 : 10 < n := by omega
  have hn20 : 20 < n := by omega
  obtain ⟨D, hD, eD⟩ := pt_n (w := w) (k := 7) (m := 5) (by decide) (by decide)
  have hD : D < 32 := hD
  obtain ⟨A, hA, eA⟩ := pt_n (w := w) (k := 15) (m := 5) (by decide) (by decide)
  have hA : A < 32 := hA
  obtain ⟨Q, hQ, eQ⟩ := pt_n (w := w) (k := 20) (m := 5) (by decide) (by decide)
  have hQ : Q < 32 := hQ
  have tx : txL (fun c => tvA c w) 25 w = ([115, 114, 108, 105] ++ ([32] ++ (regL D ++ ([44, 32] ++ (regL A ++ ([44, 32] ++ (decI (tvH w)))))))) := by
    unfold txL sfxL
    rw [show strL (ko_w 25) = [115, 114, 108, 105] from by decide +kernel, show strL (ko_f 25) = [100, 44, 97, 44, 72] from by decide +kernel, if_neg (show ¬ (ko_b 25 &&& 127 : Int32) = 47 by decide +kernel)]
    simp only [wrT, oc_44, (show oper 72 (tvA 72 w) = decI (tvH w) from on_1 _ (by decide) (by decide) (by decide)), (show oper 97 (tvA 97 w) = regL A from or_1 (by decide) (by decide) eA hA), (show oper 100 (tvA 100 w) = regL D from or_1 (by decide) (by decide) eD hD), ne_eq, reduceCtorEq, not_false_eq_true, not_true_eq_false, if_true, if_false, ↓reduceIte, List.append_assoc, List.cons_append, List.nil_append, List.append_nil, nxl_0, nxl_s]
  have hop : w &&& nI 127 = nI 19 := (sub_3 hw (by decide)).trans (by decide)
  have f3 : fpt w 12 3 = nI 5 := pf_1 hw (by decide) (by decide) (by decide)
  have g7 : fpt w 25 7 = nI 0 := pf_1 hw (by decide) (by decide) (by decide)
  have eH : tvH w = nI Q := eQ
  have mQ : nI Q ≠ Int32.minValue := eH ▸ nmv_H w
  rw [eH] at tx
  have hS := tw1_S (f := nI 5) (x := 1768714867) (M := [115, 114, 108, 105]) (w := w) hn10 hn20 hg (by decide +kernel) (by decide) hD hA hQ mQ
  have key : df_X18_twos n (nI 0) (RS B [] 0 0 w (nI D) (nI A) (nI Q) (nI 5)) = some (RS B ([115, 114, 108, 105] ++ ([32] ++ (regL D ++ ([44, 32] ++ (regL A ++ ([44, 32] ++ (decI (nI Q)))))))) 3 1 w (nI D) (nI A) (nI Q) (nI 5)) := by
    simp (disch := (first | assumption | decide | omega | (simp only [List.length_append, List.length_cons, List.length_nil, nxl_0, nxl_s] <;> omega))) only [df_X18_twos_62, df_X18_twos_45, df_X18_twos_44, df_X18_twos_21, df_X18_twos_16, df_X18_twos_0, df_X18_twos, hS, RS_0, RS_1, RS_2, RS_3, RS_4, RS_5, RS_6, RS_7, RS_r1, RS_w1, RS_w2, RS_w3, RS_w4, RS_w5, RS_w6, RS_w7, pt_S, List.append_assoc, List.cons_append, List.nil_append, List.append_nil, nxl_0, nxl_s, eq_self, Nat.reduceEqDiff, Nat.reduceLeDiff, nl_0, nl_1, nl_2, nl_3, nl_4, nl_5, nl_6, nl_7, nl_32, nl_6910575, nl_1767993971, nl_1768186977, nl_1768189537, nl_1768713331, nl_1768714867, nl_1769107320, nl_1769237619, no_1, no_1024, pk_mul, nI_add, nm_ck, nI_clamp, nI_ltI, nI_leI, nI_eq, nb_b2, nb_b1, ↓nb_let, nm_z0, nm_z1, nb_II, nb_IR, nb_RI, nb_RR, nm_IL, nm_IQ, nm_RL, nm_RQ, nm_LI, nm_LR, nm_LL, nm_LQ, nm_QI, nm_QR, nm_QL, nm_QQ, nm_rr, nm_ii, nm_eqm, not_false_eq_true, pk_sub, nm_div, nm_shl, nm_shr, nm_ush, nm_or8, nm_or64, nm_or256, nm_m1, nm_m3, nm_m7, nm_m15, nm_m31, nm_m63, nm_m255, nm_m511, nm_m1023, nm_m2047, nm_m65535, Nat.reduceMod, Nat.reducePow, Nat.reduceAdd, Nat.reduceSub, Nat.reduceMul, nm_bo, nm_bi, nm_rc, nm_ic, nm_ri, nm_rl, nm_rq, nm_ql, nm_qi, nm_li, nm_us, nm_uu, nm_cp, nm_sa31, nm_sa7, nm_m127, nm_m2, nm_nz, nm_nzk, nm_eq32, nm_nzf, if_true, if_false, ↓reduceIte, if_pos, if_neg]
  exact ⟨_, _, _, _, _, lo_19 hop (by rw [eD, eA, eQ, f3, g7, key, tx])⟩
theorem rtx_26 {n : Nat} {B : St} {w d0 a0 b0 f0 : Int32} (hn : 30 < n) (hg : ∀ r : Nat, r < 32 → sR B 1 r = rgT r) (hm : MKp 26 w) : ∃ (k : Nat) (d a b f : Int32), df_X18_longOne n (RS B [] 0 0 w d0 a0 b0 f0) = some (RS B (txL (fun c => tvA c w) 26 w) k 1 w d a b f) := by
  have hw : w &&& nI 4261441663 = nI 1073762323 := hm.2.trans (by decide +kernel)
  have hn10 : 10 < n := by omega
  have hn20 : 20 < n := by omega
  obtain ⟨D, hD, eD⟩ := pt_n (w := w) (k := 7) (m := 5) (by decide) (by decide)
  have hD : D < 32 := hD
  obtain ⟨A, hA, eA⟩ := pt_n (w := w) (k := 15) (m := 5) (by decide) (by decide)
  have hA : A < 32 := hA
  obtain ⟨Q, hQ, eQ⟩ := pt_n (w := w) (k := 20) (m := 5) (by decide) (by decide)
  have hQ : Q < 32 := hQ
  have tx : txL (fun c => tvA c w) 26 w = ([115, 114, 97, 105] ++ ([32] ++ (regL D ++ ([44, 32] ++ (regL A ++ ([44, 32] ++ (decI (tvH w)))))))) := by
    unfold txL sfxL
    rw [show strL (ko_w 26) = [115, 114, 97, 105] from by decide +kernel, show strL (ko_f 26) = [100, 44, 97, 44, 72] from by decide +kernel, if_neg (show ¬ (ko_b 26 &&& 127 : Int32) = 47 by decide +kernel)]
    simp only [wrT, oc_44, (show oper 72 (tvA 72 w) = decI (tvH w) from on_1 _ (by decide) (by decide) (by decide)), (show oper 97 (tvA 97 w) = regL A from or_1 (by decide) (by decide) eA hA), (show oper 100 (tvA 100 w) = regL D from or_1 (by decide) (by decide) eD hD), ne_eq, reduceCtorEq, not_false_eq_true, not_true_eq_false, if_true, if_false, ↓reduceIte, List.append_assoc, List.cons_append, List.nil_append, List.append_nil, nxl_0, nxl_s]
  have hop : w &&& nI 127 = nI 19 := (sub_3 hw (by decide)).trans (by decide)
  have f3 : fpt w 12 3 = nI 5 := pf_1 hw (by decide) (by decide) (by decide)
  have g7 : fpt w 25 7 = nI 32 := pf_1 hw (by decide) (by decide) (by decide)
  have eH : tvH w = nI Q := eQ
  have mQ : nI Q ≠ Int32.minValue := eH ▸ nmv_H w
  rw [eH] at tx
  have hS := tw1_S (f := nI 5) (x := 1767993971) (M := [115, 114, 97, 105]) (w := w) hn10 hn20 hg (by decide +kernel) (by decide) hD hA hQ mQ
  have key : df_X18_twos n (nI 32) (RS B [] 0 0 w (nI D) (nI A) (nI Q) (nI 5)) = some (RS B ([115, 114, 97, 105] ++ ([32] ++ (regL D ++ ([44, 32] ++ (regL A ++ ([44, 32] ++ (decI (nI Q)))))))) 3 1 w (nI D) (nI A) (nI Q) (nI 5)) := by
    simp (disch := (first | assumption | decide | omega | (simp only [List.length_append, List.length_cons, List.length_nil, nxl_0, nxl_s] <;> omega))) only [df_X18_twos_62, df_X18_twos_45, df_X18_twos_44, df_X18_twos_21, df_X18_twos_16, df_X18_twos_0, df_X18_twos, hS, RS_0, RS_1, RS_2, RS_3, RS_4, RS_5, RS_6, RS_7, RS_r1, RS_w1, RS_w2, RS_w3, RS_w4, RS_w5, RS_w6, RS_w7, pt_S, List.append_assoc, List.cons_append, List.nil_append, List.append_nil, nxl_0, nxl_s, eq_self, Nat.reduceEqDiff, Nat.reduceLeDiff, nl_0, nl_1, nl_2, nl_3, nl_4, nl_5, nl_6, nl_7, nl_32, nl_6910575, nl_1767993971, nl_1768186977, nl_1768189537, nl_1768713331, nl_1768714867, nl_1769107320, nl_1769237619, no_1, no_1024, pk_mul, nI_add, nm_ck, nI_clamp, nI_ltI, nI_leI, nI_eq, nb_b2, nb_b1, ↓nb_let, nm_z0, nm_z1, nb_II, nb_IR, nb_RI, nb_RR, nm_IL, nm_IQ, nm_RL, nm_RQ, nm_LI, nm_LR, nm_LL, nm_LQ, nm_QI, nm_QR, nm_QL, nm_QQ, nm_rr, nm_ii, nm_eqm, not_false_eq_true, pk_sub, nm_div, nm_shl, nm_shr, nm_ush, nm_or8, nm_or64, nm_or256, nm_m1, nm_m3, nm_m7, nm_m15, nm_m31, nm_m63, nm_m255, nm_m511, nm_m1023, nm_m2047, nm_m65535, Nat.reduceMod, Nat.reducePow, Nat.reduceAdd, Nat.reduceSub, Nat.reduceMul, nm_bo, nm_bi, nm_rc, nm_ic, nm_ri, nm_rl, nm_rq, nm_ql, nm_qi, nm_li, nm_us, nm_uu, nm_cp, nm_sa31, nm_sa7, nm_m127, nm_m2, nm_nz, nm_nzk, nm_eq32, nm_nzf, if_true, if_false, ↓reduceIte, if_pos, if_neg]
  exact ⟨_, _, _, _, _, lo_19 hop (by rw [eD, eA, eQ, f3, g7, key, tx])⟩
theorem rtx_27 {n : Nat} {B : St} {w d0 a0 b0 f0 : Int32} (hn : 30 < n) (hg : ∀ r : Nat, r < 32 → sR B 1 r = rgT r) (hm : MKp 27 w) : ∃ (k : Nat) (d a b f : Int32), df_X18_longOne n (RS B [] 0 0 w d0 a0 b0 f0) = some (RS B (txL (fun c => tvA c w) 27 w) k 1 w d a b f) := by
  have hw : w &&& nI 28799 = nI 3 := hm.2.trans (by decide +kernel)
  have hn10 : 10 < n := by omega
  have hn20 : 20 < n := by omega
  obtain ⟨D, hD, eD⟩ := pt_n (w := w) (k := 7) (m := 5) (by decide) (by decide)
  have hD : D < 32 := hD
  obtain ⟨A, hA, eA⟩ := pt_n (w := w) (k := 15) (m := 5) (by decide) (by decide)
  have hA : A < 32 := hA
  obtain ⟨Q, hQ, eQ⟩ := pt_n (w := w) (k := 20) (m := 5) (by decide) (by decide)
  have hQ : Q < 32 := hQ
  have tx : txL (fun c => tvA c w) 27 w = ([108, 98] ++ ([32] ++ (regL D ++ ([44, 32] ++ (decI (tvI w) ++ ([40] ++ (regL A ++ ([41])))))))) := by
    unfold txL sfxL
    rw [show strL (ko_w 27) = [108, 98] from by decide +kernel, show strL (ko_f 27) = [100, 44, 73, 40, 97, 41] from by decide +kernel, if_neg (show ¬ (ko_b 27 &&& 127 : Int32) = 47 by decide +kernel)]
    simp only [wrT, oc_40, oc_41, oc_44, (show oper 73 (tvA 73 w) = decI (tvI w) from on_1 _ (by decide) (by decide) (by decide)), (show oper 97 (tvA 97 w) = regL A from or_1 (by decide) (by decide) eA hA), (show oper 100 (tvA 100 w) = regL D from or_1 (by decide) (by decide) eD hD), ne_eq, reduceCtorEq, not_false_eq_true, not_true_eq_false, if_true, if_false, ↓reduceIte, List.append_assoc, List.cons_append, List.nil_append, List.append_nil, nxl_0, nxl_s]
  have hop : w &&& nI 127 = nI 3 := (sub_3 hw (by decide)).trans (by decide)
  have f3 : fpt w 12 3 = nI 0 := pf_1 hw (by decide) (by decide) (by decide)
  have hS := ld_S (f := nI 0) (x := 25196) (M := [108, 98]) (w := w) hn10 hn20 hg (by decide +kernel) (by decide) hD hA hQ
  have key : df_X18_loads n  (RS B [] 0 0 w (nI D) (nI A) (nI Q) (nI 0)) = some (RS B ([108, 98] ++ ([32] ++ (regL D ++ ([44, 32] ++ (decI (tvI w) ++ ([40] ++ (regL A ++ ([41])))))))) 2 1 w (nI D) (nI A) (nI Q) (nI 0)) := by
    simp (disch := (first | assumption | decide | omega | (simp only [List.length_append, List.length_cons, List.length_nil, nxl_0, nxl_s] <;> omega))) only [df_X18_loads_16, df_X18_loads_0, df_X18_loads, hS, RS_0, RS_1, RS_2, RS_3, RS_4, RS_5, RS_6, RS_7, RS_r1, RS_w1, RS_w2, RS_w3, RS_w4, RS_w5, RS_w6, RS_w7, pt_S, List.append_assoc, List.cons_append, List.nil_append, List.append_nil, nxl_0, nxl_s, eq_self, Nat.reduceEqDiff, Nat.reduceLeDiff, nl_0, nl_1, nl_2, nl_3, nl_4, nl_5, nl_7, nl_25196, nl_26732, nl_30572, nl_7692908, nl_7694444, no_1, no_1024, pk_mul, nI_add, nm_ck, nI_clamp, nI_ltI, nI_leI, nI_eq, nb_b2, nb_b1, ↓nb_let, nm_z0, nm_z1, nb_II, nb_IR, nb_RI, nb_RR, nm_IL, nm_IQ, nm_RL, nm_RQ, nm_LI, nm_LR, nm_LL, nm_LQ, nm_QI, nm_QR, nm_QL, nm_QQ, nm_rr, nm_ii, nm_eqm, not_false_eq_true, pk_sub, nm_div, nm_shl, nm_shr, nm_ush, nm_or8, nm_or64, nm_or256, nm_m1, nm_m3, nm_m7, nm_m15, nm_m31, nm_m63, nm_m255, nm_m511, nm_m1023, nm_m2047, nm_m65535, Nat.reduceMod, Nat.reducePow, Nat.reduceAdd, Nat.reduceSub, Nat.reduceMul, nm_bo, nm_bi, nm_rc, nm_ic, nm_ri, nm_rl, nm_rq, nm_ql, nm_qi, nm_li, nm_us, nm_uu, nm_cp, nm_sa31, nm_sa7, nm_m127, nm_m2, nm_nz, nm_nzk, nm_eq32, nm_nzf, if_true, if_false, ↓reduceIte, if_pos, if_neg]
  exact ⟨_, _, _, _, _, lo_3 hop (by rw [eD, eA, eQ, f3, key, tx])⟩
theorem rtx_28 {n : Nat} {B : St} {w d0 a0 b0 f0 : Int32} (hn : 30 < n) (hg : ∀ r : Nat, r < 32 → sR B 1 r = rgT r) (hm : MKp 28 w) : ∃ (k : Nat) (d a b f : Int32), df_X18_longOne n (RS B [] 0 0 w d0 a0 b0 f0) = some (RS B (txL (fun c => tvA c w) 28 w) k 1 w d a b f) := by
  have hw : w &&& nI 28799 = nI 4099 := hm.2.trans (by decide +kernel)
  have hn10 : 10 < n := by omega
  have hn20 : 20 < n := by omega
  obtain ⟨D, hD, eD⟩ := pt_n (w := w) (k := 7) (m := 5) (by decide) (by decide)
  have hD : D < 32 := hD
  obtain ⟨A, hA, eA⟩ := pt_n (w := w) (k := 15) (m := 5) (by decide) (by decide)
  have hA : A < 32 := hA
  obtain ⟨Q, hQ, eQ⟩ := pt_n (w := w) (k := 20) (m := 5) (by decide) (by decide)
  have hQ : Q < 32 := hQ
  have tx : txL (fun c => tvA c w) 28 w = ([108, 104] ++ ([32] ++ (regL D ++ ([44, 32] ++ (decI (tvI w) ++ ([40] ++ (regL A ++ ([41])))))))) := by
    unfold txL sfxL
    rw [show strL (ko_w 28) = [108, 104] from by decide +kernel, show strL (ko_f 28) = [100, 44, 73, 40, 97, 41] from by decide +kernel, if_neg (show ¬ (ko_b 28 &&& 127 : Int32) = 47 by decide +kernel)]
    simp only [wrT, oc_40, oc_41, oc_44, (show oper 73 (tvA 73 w) = decI (tvI w) from on_1 _ (by decide) (by decide) (by decide)), (show oper 97 (tvA 97 w) = regL A from or_1 (by decide) (by decide) eA hA), (show oper 100 (tvA 100 w) = regL D from or_1 (by decide) (by decide) eD hD), ne_eq, reduceCtorEq, not_false_eq_true, not_true_eq_false, if_true, if_false, ↓reduceIte, List.append_assoc, List.cons_append, List.nil_append, List.append_nil, nxl_0, nxl_s]
  have hop : w &&& nI 127 = nI 3 := (sub_3 hw (by decide)).trans (by decide)
  have f3 : fpt w 12 3 = nI 1 := pf_1 hw (by decide) (by decide) (by decide)
  have hS := ld_S (f := nI 1) (x := 26732) (M := [108, 104]) (w := w) hn10 hn20 hg (by decide +kernel) (by decide) hD hA hQ
  have key : df_X18_loads n  (RS B [] 0 0 w (nI D) (nI A) (nI Q) (nI 1)) = some (RS B ([108, 104] ++ ([32] ++ (regL D ++ ([44, 32] ++ (decI (tvI w) ++ ([40] ++ (regL A ++ ([41])))))))) 2 1 w (nI D) (nI A) (nI Q) (nI 1)) := by
    simp (disch := (first | assumption | decide | omega | (simp only [List.length_append, List.length_cons, List.length_nil, nxl_0, nxl_s] <;> omega))) only [df_X18_loads_16, df_X18_loads_0, df_X18_loads, hS, RS_0, RS_1, RS_2, RS_3, RS_4, RS_5, RS_6, RS_7, RS_r1, RS_w1, RS_w2, RS_w3, RS_w4, RS_w5, RS_w6, RS_w7, pt_S, List.append_assoc, List.cons_append, List.nil_append, List.append_nil, nxl_0, nxl_s, eq_self, Nat.reduceEqDiff, Nat.reduceLeDiff, nl_0, nl_1, nl_2, nl_3, nl_4, nl_5, nl_7, nl_25196, nl_26732, nl_30572, nl_7692908, nl_7694444, no_1, no_1024, pk_mul, nI_add, nm_ck, nI_clamp, nI_ltI, nI_leI, nI_eq, nb_b2, nb_b1, ↓nb_let, nm_z0, nm_z1, nb_II, nb_IR, nb_RI, nb_RR, nm_IL, nm_IQ, nm_RL, nm_RQ, nm_LI, nm_LR, nm_LL, nm_LQ, nm_QI, nm_QR, nm_QL, nm_QQ, nm_rr, nm_ii, nm_eqm, not_false_eq_true, pk_sub, nm_div, nm_shl, nm_shr, nm_ush, nm_or8, nm_or64, nm_or256, nm_m1, nm_m3, nm_m7, nm_m15, nm_m31, nm_m63, nm_m255, nm_m511, nm_m1023, nm_m2047, nm_m65535, Nat.reduceMod, Nat.reducePow, Nat.reduceAdd, Nat.reduceSub, Nat.reduceMul, nm_bo, nm_bi, nm_rc, nm_ic, nm_ri, nm_rl, nm_rq, nm_ql, nm_qi, nm_li, nm_us, nm_uu, nm_cp, nm_sa31, nm_sa7, nm_m127, nm_m2, nm_nz, nm_nzk, nm_eq32, nm_nzf, if_true, if_false, ↓reduceIte, if_pos, if_neg]
  exact ⟨_, _, _, _, _, lo_3 hop (by rw [eD, eA, eQ, f3, key, tx])⟩
theorem rtx_29 {n : Nat} {B : St} {w d0 a0 b0 f0 : Int32} (hn : 30 < n) (hg : ∀ r : Nat, r < 32 → sR B 1 r = rgT r) (hm : MKp 29 w) : ∃ (k : Nat) (d a b f : Int32), df_X18_longOne n (RS B [] 0 0 w d0 a0 b0 f0) = some (RS B (txL (fun c => tvA c w) 29 w) k 1 w d a b f) := by
  have hw : w &&& nI 28799 = nI 8195 := hm.2.trans (by decide +kernel)
  have hn10 : 10 < n := by omega
  have hn20 : 20 < n := by omega
  obtain ⟨D, hD, eD⟩ := pt_n (w := w) (k := 7) (m := 5) (by decide) (by decide)
  have hD : D < 32 := hD
  obtain ⟨A, hA, eA⟩ := pt_n (w := w) (k := 15) (m := 5) (by decide) (by decide)
  have hA : A < 32 := hA
  obtain ⟨Q, hQ, eQ⟩ := pt_n (w := w) (k := 20) (m := 5) (by decide) (by decide)
  have hQ : Q < 32 := hQ
  have tx : txL (fun c => tvA c w) 29 w = ([108, 119] ++ ([32] ++ (regL D ++ ([44, 32] ++ (decI (tvI w) ++ ([40] ++ (regL A ++ ([41])))))))) := by
    unfold txL sfxL
    rw [show strL (ko_w 29) = [108, 119] from by decide +kernel, show strL (ko_f 29) = [100, 44, 73, 40, 97, 41] from by decide +kernel, if_neg (show ¬ (ko_b 29 &&& 127 : Int32) = 47 by decide +kernel)]
    simp only [wrT, oc_40, oc_41, oc_44, (show oper 73 (tvA 73 w) = decI (tvI w) from on_1 _ (by decide) (by decide) (by decide)), (show oper 97 (tvA 97 w) = regL A from or_1 (by decide) (by decide) eA hA), (show oper 100 (tvA 100 w) = regL D from or_1 (by decide) (by decide) eD hD), ne_eq, reduceCtorEq, not_false_eq_true, not_true_eq_false, if_true, if_false, ↓reduceIte, List.append_assoc, List.cons_append, List.nil_append, List.append_nil, nxl_0, nxl_s]
  have hop : w &&& nI 127 = nI 3 := (sub_3 hw (by decide)).trans (by decide)
  have f3 : fpt w 12 3 = nI 2 := pf_1 hw (by decide) (by decide) (by decide)
  have hS := ld_S (f := nI 2) (x := 30572) (M := [108, 119]) (w := w) hn10 hn20 hg (by decide +kernel) (by decide) hD hA hQ
  have key : df_X18_loads n  (RS B [] 0 0 w (nI D) (nI A) (nI Q) (nI 2)) = some (RS B ([108, 119] ++ ([32] ++ (regL D ++ ([44, 32] ++ (decI (tvI w) ++ ([40] ++ (regL A ++ ([41])))))))) 2 1 w (nI D) (nI A) (nI Q) (nI 2)) := by
    simp (disch := (first | assumption | decide | omega | (simp only [List.length_append, List.length_cons, List.length_nil, nxl_0, nxl_s] <;> omega))) only [df_X18_loads_16, df_X18_loads_0, df_X18_loads, hS, RS_0, RS_1, RS_2, RS_3, RS_4, RS_5, RS_6, RS_7, RS_r1, RS_w1, RS_w2, RS_w3, RS_w4, RS_w5, RS_w6, RS_w7, pt_S, List.append_assoc, List.cons_append, List.nil_append, List.append_nil, nxl_0, nxl_s, eq_self, Nat.reduceEqDiff, Nat.reduceLeDiff, nl_0, nl_1, nl_2, nl_3, nl_4, nl_5, nl_7, nl_25196, nl_26732, nl_30572, nl_7692908, nl_7694444, no_1, no_1024, pk_mul, nI_add, nm_ck, nI_clamp, nI_ltI, nI_leI, nI_eq, nb_b2, nb_b1, ↓nb_let, nm_z0, nm_z1, nb_II, nb_IR, nb_RI, nb_RR, nm_IL, nm_IQ, nm_RL, nm_RQ, nm_LI, nm_LR, nm_LL, nm_LQ, nm_QI, nm_QR, nm_QL, nm_QQ, nm_rr, nm_ii, nm_eqm, not_false_eq_true, pk_sub, nm_div, nm_shl, nm_shr, nm_ush, nm_or8, nm_or64, nm_or256, nm_m1, nm_m3, nm_m7, nm_m15, nm_m31, nm_m63, nm_m255, nm_m511, nm_m1023, nm_m2047, nm_m65535, Nat.reduceMod, Nat.reducePow, Nat.reduceAdd, Nat.reduceSub, Nat.reduceMul, nm_bo, nm_bi, nm_rc, nm_ic, nm_ri, nm_rl, nm_rq, nm_ql, nm_qi, nm_li, nm_us, nm_uu, nm_cp, nm_sa31, nm_sa7, nm_m127, nm_m2, nm_nz, nm_nzk, nm_eq32, nm_nzf, if_true, if_false, ↓reduceIte, if_pos, if_neg]
  exact ⟨_, _, _, _, _, lo_3 hop (by rw [eD, eA, eQ, f3, key, tx])⟩
theorem rtx_30 {n : Nat} {B : St} {w d0 a0 b0 f0 : Int32} (hn : 30 < n) (hg : ∀ r : Nat, r < 32 → sR B 1 r = rgT r) (hm : MKp 30 w) : ∃ (k : Nat) (d a b f : Int32), df_X18_longOne n (RS B [] 0 0 w d0 a0 b0 f0) = some (RS B (txL (fun c => tvA c w) 30 w) k 1 w d a b f) := by
  have hw : w &&& nI 28799 = nI 16387 := hm.2.trans (by decide +kernel)
  have hn10 : 10 < n := by omega
  have hn20 : 20 < n := by omega
  obtain ⟨D, hD, eD⟩ := pt_n (w := w) (k := 7) (m := 5) (by decide) (by decide)
  have hD : D < 32 := hD
  obtain ⟨A, hA, eA⟩ := pt_n (w := w) (k := 15) (m := 5) (by decide) (by decide)
  have hA : A < 32 := hA
  obtain ⟨Q, hQ, eQ⟩ := pt_n (w := w) (k := 20) (m := 5) (by decide) (by decide)
  have hQ : Q < 32 := hQ
  have tx : txL (fun c => tvA c w) 30 w = ([108, 98, 117] ++ ([32] ++ (regL D ++ ([44, 32] ++ (decI (tvI w) ++ ([40] ++ (regL A ++ ([41])))))))) := by
    unfold txL sfxL
    rw [show strL (ko_w 30) = [108, 98, 117] from by decide +kernel, show strL (ko_f 30) = [100, 44, 73, 40, 97, 41] from by decide +kernel, if_neg (show ¬ (ko_b 30 &&& 127 : Int32) = 47 by decide +kernel)]
    simp only [wrT, oc_40, oc_41, oc_44, (show oper 73 (tvA 73 w) = decI (tvI w) from on_1 _ (by decide) (by decide) (by decide)), (show oper 97 (tvA 97 w) = regL A from or_1 (by decide) (by decide) eA hA), (show oper 100 (tvA 100 w) = regL D from or_1 (by decide) (by decide) eD hD), ne_eq, reduceCtorEq, not_false_eq_true, not_true_eq_false, if_true, if_false, ↓reduceIte, List.append_assoc, List.cons_append, List.nil_append, List.append_nil, nxl_0, nxl_s]
  have hop : w &&& nI 127 = nI 3 := (sub_3 hw (by decide)).trans (by decide)
  have f3 : fpt w 12 3 = nI 4 := pf_1 hw (by decide) (by decide) (by decide)
  have hS := ld_S (f := nI 4) (x := 7692908) (M := [108, 98, 117]) (w := w) hn10 hn20 hg (by decide +kernel) (by decide) hD hA hQ
  have key : df_X18_loads n  (RS B [] 0 0 w (nI D) (nI A) (nI Q) (nI 4)) = some (RS B ([108, 98, 117] ++ ([32] ++ (regL D ++ ([44, 32] ++ (decI (tvI w) ++ ([40] ++ (regL A ++ ([41])))))))) 2 1 w (nI D) (nI A) (nI Q) (nI 4)) := by
    simp (disch := (first | assumption | decide | omega | (simp only [List.length_append, List.length_cons, List.length_nil, nxl_0, nxl_s] <;> omega))) only [df_X18_loads_16, df_X18_loads_0, df_X18_loads, hS, RS_0, RS_1, RS_2, RS_3, RS_4, RS_5, RS_6, RS_7, RS_r1, RS_w1, RS_w2, RS_w3, RS_w4, RS_w5, RS_w6, RS_w7, pt_S, List.append_assoc, List.cons_append, List.nil_append, List.append_nil, nxl_0, nxl_s, eq_self, Nat.reduceEqDiff, Nat.reduceLeDiff, nl_0, nl_1, nl_2, nl_3, nl_4, nl_5, nl_7, nl_25196, nl_26732, nl_30572, nl_7692908, nl_7694444, no_1, no_1024, pk_mul, nI_add, nm_ck, nI_clamp, nI_ltI, nI_leI, nI_eq, nb_b2, nb_b1, ↓nb_let, nm_z0, nm_z1, nb_II, nb_IR, nb_RI, nb_RR, nm_IL, nm_IQ, nm_RL, nm_RQ, nm_LI, nm_LR, nm_LL, nm_LQ, nm_QI, nm_QR, nm_QL, nm_QQ, nm_rr, nm_ii, nm_eqm, not_false_eq_true, pk_sub, nm_div, nm_shl, nm_shr, nm_ush, nm_or8, nm_or64, nm_or256, nm_m1, nm_m3, nm_m7, nm_m15, nm_m31, nm_m63, nm_m255, nm_m511, nm_m1023, nm_m2047, nm_m65535, Nat.reduceMod, Nat.reducePow, Nat.reduceAdd, Nat.reduceSub, Nat.reduceMul, nm_bo, nm_bi, nm_rc, nm_ic, nm_ri, nm_rl, nm_rq, nm_ql, nm_qi, nm_li, nm_us, nm_uu, nm_cp, nm_sa31, nm_sa7, nm_m127, nm_m2, nm_nz, nm_nzk, nm_eq32, nm_nzf, if_true, if_false, ↓reduceIte, if_pos, if_neg]
  exact ⟨_, _, _, _, _, lo_3 hop (by rw [eD, eA, eQ, f3, key, tx])⟩
theorem rtx_31 {n : Nat} {B : St} {w d0 a0 b0 f0 : Int32} (hn : 30 < n) (hg : ∀ r : Nat, r < 32 → sR B 1 r = rgT r) (hm : MKp 31 w) : ∃ (k : Nat) (d a b f : Int32), df_X18_longOne n (RS B [] 0 0 w d0 a0 b0 f0) = some (RS B (txL (fun c => tvA c w) 31 w) k 1 w d a b f) := by
  have hw : w &&& nI 28799 = nI 20483 := hm.2.trans (by decide +kernel)
  have hn10 : 10 < n := by omega
  have hn20 : 20 < n := by omega
  obtain ⟨D, hD, eD⟩ := pt_n (w := w) (k := 7) (m := 5) (by decide) (by decide)
  have hD : D < 32 := hD
  obtain ⟨A, hA, eA⟩ := pt_n (w := w) (k := 15) (m := 5) (by decide) (by decide)
  have hA : A < 32 := hA
  obtain ⟨Q, hQ, eQ⟩ := pt_n (w := w) (k := 20) (m := 5) (by decide) (by decide)
  have hQ : Q < 32 := hQ
  have tx : txL (fun c => tvA c w) 31 w = ([108, 104, 117] ++ ([32] ++ (regL D ++ ([44, 32] ++ (decI (tvI w) ++ ([40] ++ (regL A ++ ([41])))))))) := by
    unfold txL sfxL
    rw [show strL (ko_w 31) = [108, 104, 117] from by decide +kernel, show strL (ko_f 31) = [100, 44, 73, 40, 97, 41] from by decide +kernel, if_neg (show ¬ (ko_b 31 &&& 127 : Int32) = 47 by decide +kernel)]
    simp only [wrT, oc_40, oc_41, oc_44, (show oper 73 (tvA 73 w) = decI (tvI w) from on_1 _ (by decide) (by decide) (by decide)), (show oper 97 (tvA 97 w) = regL A from or_1 (by decide) (by decide) eA hA), (show oper 100 (tvA 100 w) = regL D from or_1 (by decide) (by decide) eD hD), ne_eq, reduceCtorEq, not_false_eq_true, not_true_eq_false, if_true, if_false, ↓reduceIte, List.append_assoc, List.cons_append, List.nil_append, List.append_nil, nxl_0, nxl_s]
  have hop : w &&& nI 127 = nI 3 := (sub_3 hw (by decide)).trans (by decide)
  have f3 : fpt w 12 3 = nI 5 := pf_1 hw (by decide) (by decide) (by decide)
  have hS := ld_S (f := nI 5) (x := 7694444) (M := [108, 104, 117]) (w := w) hn10 hn20 hg (by decide +kernel) (by decide) hD hA hQ
  have key : df_X18_loads n  (RS B [] 0 0 w (nI D) (nI A) (nI Q) (nI 5)) = some (RS B ([108, 104, 117] ++ ([32] ++ (regL D ++ ([44, 32] ++ (decI (tvI w) ++ ([40] ++ (regL A ++ ([41])))))))) 2 1 w (nI D) (nI A) (nI Q) (nI 5)) := by
    simp (disch := (first | assumption | decide | omega | (simp only [List.length_append, List.length_cons, List.length_nil, nxl_0, nxl_s] <;> omega))) only [df_X18_loads_16, df_X18_loads_0, df_X18_loads, hS, RS_0, RS_1, RS_2, RS_3, RS_4, RS_5, RS_6, RS_7, RS_r1, RS_w1, RS_w2, RS_w3, RS_w4, RS_w5, RS_w6, RS_w7, pt_S, List.append_assoc, List.cons_append, List.nil_append, List.append_nil, nxl_0, nxl_s, eq_self, Nat.reduceEqDiff, Nat.reduceLeDiff, nl_0, nl_1, nl_2, nl_3, nl_4, nl_5, nl_7, nl_25196, nl_26732, nl_30572, nl_7692908, nl_7694444, no_1, no_1024, pk_mul, nI_add, nm_ck, nI_clamp, nI_ltI, nI_leI, nI_eq, nb_b2, nb_b1, ↓nb_let, nm_z0, nm_z1, nb_II, nb_IR, nb_RI, nb_RR, nm_IL, nm_IQ, nm_RL, nm_RQ, nm_LI, nm_LR, nm_LL, nm_LQ, nm_QI, nm_QR, nm_QL, nm_QQ, nm_rr, nm_ii, nm_eqm, not_false_eq_true, pk_sub, nm_div, nm_shl, nm_shr, nm_ush, nm_or8, nm_or64, nm_or256, nm_m1, nm_m3, nm_m7, nm_m15, nm_m31, nm_m63, nm_m255, nm_m511, nm_m1023, nm_m2047, nm_m65535, Nat.reduceMod, Nat.reducePow, Nat.reduceAdd, Nat.reduceSub, Nat.reduceMul, nm_bo, nm_bi, nm_rc, nm_ic, nm_ri, nm_rl, nm_rq, nm_ql, nm_qi, nm_li, nm_us, nm_uu, nm_cp, nm_sa31, nm_sa7, nm_m127, nm_m2, nm_nz, nm_nzk, nm_eq32, nm_nzf, if_true, if_false, ↓reduceIte, if_pos, if_neg]
  exact ⟨_, _, _, _, _, lo_3 hop (by rw [eD, eA, eQ, f3, key, tx])⟩
theorem rtx_32 {n : Nat} {B : St} {w d0 a0 b0 f0 : Int32} (hn : 30 < n) (hg : ∀ r : Nat, r < 32 → sR B 1 r = rgT r) (hm : MKp 32 w) : ∃ (k : Nat) (d a b f : Int32), df_X18_longOne n (RS B [] 0 0 w d0 a0 b0 f0) = some (RS B (txL (fun c => tvA c w) 32 w) k 1 w d a b f) := by
  have hw : w &&& nI 28799 = nI 103 := hm.2.trans (by decide +kernel)
  have hn10 : 10 < n := by omega
  have hn20 : 20 < n := by omega
  obtain ⟨D, hD, eD⟩ := pt_n (w := w) (k := 7) (m := 5) (by decide) (by decide)
  have hD : D < 32 := hD
  obtain ⟨A, hA, eA⟩ := pt_n (w := w) (k := 15) (m := 5) (by decide) (by decide)
  have hA : A < 32 := hA
  obtain ⟨Q, hQ, eQ⟩ := pt_n (w := w) (k := 20) (m := 5) (by decide) (by decide)
  have hQ : Q < 32 := hQ
  have tx : txL (fun c => tvA c w) 32 w = ([106, 97, 108, 114] ++ ([32] ++ (regL D ++ ([44, 32] ++ (decI (tvI w) ++ ([40] ++ (regL A ++ ([41])))))))) := by
    unfold txL sfxL
    rw [show strL (ko_w 32) = [106, 97, 108, 114] from by decide +kernel, show strL (ko_f 32) = [100, 44, 73, 40, 97, 41] from by decide +kernel, if_neg (show ¬ (ko_b 32 &&& 127 : Int32) = 47 by decide +kernel)]
    simp only [wrT, oc_40, oc_41, oc_44, (show oper 73 (tvA 73 w) = decI (tvI w) from on_1 _ (by decide) (by decide) (by decide)), (show oper 97 (tvA 97 w) = regL A from or_1 (by decide) (by decide) eA hA), (show oper 100 (tvA 100 w) = regL D from or_1 (by decide) (by decide) eD hD), ne_eq, reduceCtorEq, not_false_eq_true, not_true_eq_false, if_true, if_false, ↓reduceIte, List.append_assoc, List.cons_append, List.nil_append, List.append_nil, nxl_0, nxl_s]
  have hop : w &&& nI 127 = nI 103 := (sub_3 hw (by decide)).trans (by decide)
  have f3 : fpt w 12 3 = nI 0 := pf_1 hw (by decide) (by decide) (by decide)
  have lD : (regL D).length ≤ 4 := rg_4 ⟨D, hD⟩
  have lA : (regL A).length ≤ 4 := rg_4 ⟨A, hA⟩
  have lQ : (regL Q).length ≤ 4 := rg_4 ⟨Q, hQ⟩
  have mI := nmv_I w
  have lI := de_l mI
  have vI : (w >>> nI 20) = tvI w := rfl
  have key : df_X18_others n  (RS B [] 0 0 w (nI D) (nI A) (nI Q) (nI 0)) = some (RS B ([106, 97, 108, 114] ++ ([32] ++ (regL D ++ ([44, 32] ++ (decI (tvI w) ++ ([40] ++ (regL A ++ ([41])))))))) 2 1 w (nI D) (nI A) (nI Q) (nI 0)) := by
    simp (disch := (first | assumption | decide | omega | (simp only [List.length_append, List.length_cons, List.length_nil, nxl_0, nxl_s] <;> omega))) only [df_X18_others_215, df_X18_others_36, df_X18_others_20, df_X18_others_107, df_X18_others_0, df_X18_others, reg_S hg hn10, im_S hn20, ta_S hn20, br_S hg hn10, me_S hg hn20, nx_S, pu_S, hop, nw_6911340, sw_6911340, nw_7102826, sw_7102826, nw_1919705450, sw_1919705450, nw_427087721825, sw_427087721825, nw_435459876198, sw_435459876198, nw_29605885549372774, sw_29605885549372774, vI, RS_0, RS_1, RS_2, RS_3, RS_4, RS_5, RS_6, RS_7, RS_r1, RS_w1, RS_w2, RS_w3, RS_w4, RS_w5, RS_w6, RS_w7, pt_S, List.append_assoc, List.cons_append, List.nil_append, List.append_nil, nxl_0, nxl_s, eq_self, Nat.reduceEqDiff, Nat.reduceLeDiff, nl_0, nl_1, nl_3, nl_4, nl_5, nl_7, nl_8, nl_10, nl_11, nl_12, nl_20, nl_21, nl_23, nl_31, nl_55, nl_103, nl_111, nl_127, nl_4111, nl_6911340, nl_7102826, nl_267386895, nl_1919705450, no_1, no_1024, pk_mul, nI_add, nm_ck, nI_clamp, nI_ltI, nI_leI, nI_eq, nb_b2, nb_b1, ↓nb_let, nm_z0, nm_z1, nb_II, nb_IR, nb_RI, nb_RR, nm_IL, nm_IQ, nm_RL, nm_RQ, nm_LI, nm_LR, nm_LL, nm_LQ, nm_QI, nm_QR, nm_QL, nm_QQ, nm_rr, nm_ii, nm_eqm, not_false_eq_true, pk_sub, nm_div, nm_shl, nm_shr, nm_ush, nm_or8, nm_or64, nm_or256, nm_m1, nm_m3, nm_m7, nm_m15, nm_m31, nm_m63, nm_m255, nm_m511, nm_m1023, nm_m2047, nm_m65535, Nat.reduceMod, Nat.reducePow, Nat.reduceAdd, Nat.reduceSub, Nat.reduceMul, nm_bo, nm_bi, nm_rc, nm_ic, nm_ri, nm_rl, nm_rq, nm_ql, nm_qi, nm_li, nm_us, nm_uu, nm_cp, nm_sa31, nm_sa7, nm_m127, nm_m2, nm_nz, nm_nzk, nm_eq32, nm_nzf, if_true, if_false, ↓reduceIte, if_pos, if_neg]
  exact ⟨_, _, _, _, _, lo_103 hop (by rw [eD, eA, eQ, f3, key, tx])⟩
theorem rtx_33 {n : Nat} {B : St} {w d0 a0 b0 f0 : Int32} (hn : 30 < n) (hg : ∀ r : Nat, r < 32 → sR B 1 r = rgT r) (hm : MKp 33 w) : ∃ (k : Nat) (d a b f : Int32), df_X18_longOne n (RS B [] 0 0 w d0 a0 b0 f0) = some (RS B (txL (fun c => tvA c w) 33 w) k 1 w d a b f) := by
  have hw : w &&& nI 28799 = nI 35 := hm.2.trans (by decide +kernel)
  have hn10 : 10 < n := by omega
  have hn20 : 20 < n := by omega
  obtain ⟨D, hD, eD⟩ := pt_n (w := w) (k := 7) (m := 5) (by decide) (by decide)
  have hD : D < 32 := hD
  obtain ⟨A, hA, eA⟩ := pt_n (w := w) (k := 15) (m := 5) (by decide) (by decide)
  have hA : A < 32 := hA
  obtain ⟨Q, hQ, eQ⟩ := pt_n (w := w) (k := 20) (m := 5) (by decide) (by decide)
  have hQ : Q < 32 := hQ
  have tx : txL (fun c => tvA c w) 33 w = ([115, 98] ++ ([32] ++ (regL Q ++ ([44, 32] ++ (decI (tvS w) ++ ([40] ++ (regL A ++ ([41])))))))) := by
    unfold txL sfxL
    rw [show strL (ko_w 33) = [115, 98] from by decide +kernel, show strL (ko_f 33) = [98, 44, 83, 40, 97, 41] from by decide +kernel, if_neg (show ¬ (ko_b 33 &&& 127 : Int32) = 47 by decide +kernel)]
    simp only [wrT, oc_40, oc_41, oc_44, (show oper 83 (tvA 83 w) = decI (tvS w) from on_1 _ (by decide) (by decide) (by decide)), (show oper 97 (tvA 97 w) = regL A from or_1 (by decide) (by decide) eA hA), (show oper 98 (tvA 98 w) = regL Q from or_1 (by decide) (by decide) eQ hQ), ne_eq, reduceCtorEq, not_false_eq_true, not_true_eq_false, if_true, if_false, ↓reduceIte, List.append_assoc, List.cons_append, List.nil_append, List.append_nil, nxl_0, nxl_s]
  have hop : w &&& nI 127 = nI 35 := (sub_3 hw (by decide)).trans (by decide)
  have f3 : fpt w 12 3 = nI 0 := pf_1 hw (by decide) (by decide) (by decide)
  have hS := sto_S (f := nI 0) (x := 25203) (M := [115, 98]) (w := w) hn10 hn20 hg (by decide +kernel) (by decide) hD hA hQ eD
  have key : df_X18_stores n  (RS B [] 0 0 w (nI D) (nI A) (nI Q) (nI 0)) = some (RS B ([115, 98] ++ ([32] ++ (regL Q ++ ([44, 32] ++ (decI (tvS w) ++ ([40] ++ (regL A ++ ([41])))))))) 2 1 w (nI D) (nI A) (nI Q) (nI 0)) := by
    simp (disch := (first | assumption | decide | omega | (simp only [List.length_append, List.length_cons, List.length_nil, nxl_0, nxl_s] <;> omega))) only [df_X18_stores_0, df_X18_stores, hS, RS_0, RS_1, RS_2, RS_3, RS_4, RS_5, RS_6, RS_7, RS_r1, RS_w1, RS_w2, RS_w3, RS_w4, RS_w5, RS_w6, RS_w7, pt_S, List.append_assoc, List.cons_append, List.nil_append, List.append_nil, nxl_0, nxl_s, eq_self, Nat.reduceEqDiff, Nat.reduceLeDiff, nl_0, nl_1, nl_2, nl_7, nl_25203, nl_26739, nl_30579, no_1, no_1024, pk_mul, nI_add, nm_ck, nI_clamp, nI_ltI, nI_leI, nI_eq, nb_b2, nb_b1, ↓nb_let, nm_z0, nm_z1, nb_II, nb_IR, nb_RI, nb_RR, nm_IL, nm_IQ, nm_RL, nm_RQ, nm_LI, nm_LR, nm_LL, nm_LQ, nm_QI, nm_QR, nm_QL, nm_QQ, nm_rr, nm_ii, nm_eqm, not_false_eq_true, pk_sub, nm_div, nm_shl, nm_shr, nm_ush, nm_or8, nm_or64, nm_or256, nm_m1, nm_m3, nm_m7, nm_m15, nm_m31, nm_m63, nm_m255, nm_m511, nm_m1023, nm_m2047, nm_m65535, Nat.reduceMod, Nat.reducePow, Nat.reduceAdd, Nat.reduceSub, Nat.reduceMul, nm_bo, nm_bi, nm_rc, nm_ic, nm_ri, nm_rl, nm_rq, nm_ql, nm_qi, nm_li, nm_us, nm_uu, nm_cp, nm_sa31, nm_sa7, nm_m127, nm_m2, nm_nz, nm_nzk, nm_eq32, nm_nzf, if_true, if_false, ↓reduceIte, if_pos, if_neg]
  exact ⟨_, _, _, _, _, lo_35 hop (by rw [eD, eA, eQ, f3, key, tx])⟩
theorem rtx_34 {n : Nat} {B : St} {w d0 a0 b0 f0 : Int32} (hn : 30 < n) (hg : ∀ r : Nat, r < 32 → sR B 1 r = rgT r) (hm : MKp 34 w) : ∃ (k : Nat) (d a b f : Int32), df_X18_longOne n (RS B [] 0 0 w d0 a0 b0 f0) = some (RS B (txL (fun c => tvA c w) 34 w) k 1 w d a b f) := by
  have hw : w &&& nI 28799 = nI 4131 := hm.2.trans (by decide +kernel)
  have hn10 : 10 < n := by omega
  have hn20 : 20 < n := by omega
  obtain ⟨D, hD, eD⟩ := pt_n (w := w) (k := 7) (m := 5) (by decide) (by decide)
  have hD : D < 32 := hD
  obtain ⟨A, hA, eA⟩ := pt_n (w := w) (k := 15) (m := 5) (by decide) (by decide)
  have hA : A < 32 := hA
  obtain ⟨Q, hQ, eQ⟩ := pt_n (w := w) (k := 20) (m := 5) (by decide) (by decide)
  have hQ : Q < 32 := hQ
  have tx : txL (fun c => tvA c w) 34 w = ([115, 104] ++ ([32] ++ (regL Q ++ ([44, 32] ++ (decI (tvS w) ++ ([40] ++ (regL A ++ ([41])))))))) := by
    unfold txL sfxL
    rw [show strL (ko_w 34) = [115, 104] from by decide +kernel, show strL (ko_f 34) = [98, 44, 83, 40, 97, 41] from by decide +kernel, if_neg (show ¬ (ko_b 34 &&& 127 : Int32) = 47 by decide +kernel)]
    simp only [wrT, oc_40, oc_41, oc_44, (show oper 83 (tvA 83 w) = decI (tvS w) from on_1 _ (by decide) (by decide) (by decide)), (show oper 97 (tvA 97 w) = regL A from or_1 (by decide) (by decide) eA hA), (show oper 98 (tvA 98 w) = regL Q from or_1 (by decide) (by decide) eQ hQ), ne_eq, reduceCtorEq, not_false_eq_true, not_true_eq_false, if_true, if_false, ↓reduceIte, List.append_assoc, List.cons_append, List.nil_append, List.append_nil, nxl_0, nxl_s]
  have hop : w &&& nI 127 = nI 35 := (sub_3 hw (by decide)).trans (by decide)
  have f3 : fpt w 12 3 = nI 1 := pf_1 hw (by decide) (by decide) (by decide)
  have hS := sto_S (f := nI 1) (x := 26739) (M := [115, 104]) (w := w) hn10 hn20 hg (by decide +kernel) (by decide) hD hA hQ eD
  have key : df_X18_stores n  (RS B [] 0 0 w (nI D) (nI A) (nI Q) (nI 1)) = some (RS B ([115, 104] ++ ([32] ++ (regL Q ++ ([44, 32] ++ (decI (tvS w) ++ ([40] ++ (regL A ++ ([41])))))))) 2 1 w (nI D) (nI A) (nI Q) (nI 1)) := by
    simp (disch := (first | assumption | decide | omega | (simp only [List.length_append, List.length_cons, List.length_nil, nxl_0, nxl_s] <;> omega))) only [df_X18_stores_0, df_X18_stores, hS, RS_0, RS_1, RS_2, RS_3, RS_4, RS_5, RS_6, RS_7, RS_r1, RS_w1, RS_w2, RS_w3, RS_w4, RS_w5, RS_w6, RS_w7, pt_S, List.append_assoc, List.cons_append, List.nil_append, List.append_nil, nxl_0, nxl_s, eq_self, Nat.reduceEqDiff, Nat.reduceLeDiff, nl_0, nl_1, nl_2, nl_7, nl_25203, nl_26739, nl_30579, no_1, no_1024, pk_mul, nI_add, nm_ck, nI_clamp, nI_ltI, nI_leI, nI_eq, nb_b2, nb_b1, ↓nb_let, nm_z0, nm_z1, nb_II, nb_IR, nb_RI, nb_RR, nm_IL, nm_IQ, nm_RL, nm_RQ, nm_LI, nm_LR, nm_LL, nm_LQ, nm_QI, nm_QR, nm_QL, nm_QQ, nm_rr, nm_ii, nm_eqm, not_false_eq_true, pk_sub, nm_div, nm_shl, nm_shr, nm_ush, nm_or8, nm_or64, nm_or256, nm_m1, nm_m3, nm_m7, nm_m15, nm_m31, nm_m63, nm_m255, nm_m511, nm_m1023, nm_m2047, nm_m65535, Nat.reduceMod, Nat.reducePow, Nat.reduceAdd, Nat.reduceSub, Nat.reduceMul, nm_bo, nm_bi, nm_rc, nm_ic, nm_ri, nm_rl, nm_rq, nm_ql, nm_qi, nm_li, nm_us, nm_uu, nm_cp, nm_sa31, nm_sa7, nm_m127, nm_m2, nm_nz, nm_nzk, nm_eq32, nm_nzf, if_true, if_false, ↓reduceIte, if_pos, if_neg]
  exact ⟨_, _, _, _, _, lo_35 hop (by rw [eD, eA, eQ, f3, key, tx])⟩
theorem rtx_35 {n : Nat} {B : St} {w d0 a0 b0 f0 : Int32} (hn : 30 < n) (hg : ∀ r : Nat, r < 32 → sR B 1 r = rgT r) (hm : MKp 35 w) : ∃ (k : Nat) (d a b f : Int32), df_X18_longOne n (RS B [] 0 0 w d0 a0 b0 f0) = some (RS B (txL (fun c => tvA c w) 35 w) k 1 w d a b f) := by
  have hw : w &&& nI 28799 = nI 8227 := hm.2.trans (by decide +kernel)
  have hn10 : 10 < n := by omega
  have hn20 : 20 < n := by omega
  obtain ⟨D, hD, eD⟩ := pt_n (w := w) (k := 7) (m := 5) (by decide) (by decide)
  have hD : D < 32 := hD
  obtain ⟨A, hA, eA⟩ := pt_n (w := w) (k := 15) (m := 5) (by decide) (by decide)
  have hA : A < 32 := hA
  obtain ⟨Q, hQ, eQ⟩ := pt_n (w := w) (k := 20) (m := 5) (by decide) (by decide)
  have hQ : Q < 32 := hQ
  have tx : txL (fun c => tvA c w) 35 w = ([115, 119] ++ ([32] ++ (regL Q ++ ([44, 32] ++ (decI (tvS w) ++ ([40] ++ (regL A ++ ([41])))))))) := by
    unfold txL sfxL
    rw [show strL (ko_w 35) = [115, 119] from by decide +kernel, show strL (ko_f 35) = [98, 44, 83, 40, 97, 41] from by decide +kernel, if_neg (show ¬ (ko_b 35 &&& 127 : Int32) = 47 by decide +kernel)]
    simp only [wrT, oc_40, oc_41, oc_44, (show oper 83 (tvA 83 w) = decI (tvS w) from on_1 _ (by decide) (by decide) (by decide)), (show oper 97 (tvA 97 w) = regL A from or_1 (by decide) (by decide) eA hA), (show oper 98 (tvA 98 w) = regL Q from or_1 (by decide) (by decide) eQ hQ), ne_eq, reduceCtorEq, not_false_eq_true, not_true_eq_false, if_true, if_false, ↓reduceIte, List.append_assoc, List.cons_append, List.nil_append, List.append_nil, nxl_0, nxl_s]
  have hop : w &&& nI 127 = nI 35 := (sub_3 hw (by decide)).trans (by decide)
  have f3 : fpt w 12 3 = nI 2 := pf_1 hw (by decide) (by decide) (by decide)
  have hS := sto_S (f := nI 2) (x := 30579) (M := [115, 119]) (w := w) hn10 hn20 hg (by decide +kernel) (by decide) hD hA hQ eD
  have key : df_X18_stores n  (RS B [] 0 0 w (nI D) (nI A) (nI Q) (nI 2)) = some (RS B ([115, 119] ++ ([32] ++ (regL Q ++ ([44, 32] ++ (decI (tvS w) ++ ([40] ++ (regL A ++ ([41])))))))) 2 1 w (nI D) (nI A) (nI Q) (nI 2)) := by
    simp (disch := (first | assumption | decide | omega | (simp only [List.length_append, List.length_cons, List.length_nil, nxl_0, nxl_s] <;> omega))) only [df_X18_stores_0, df_X18_stores, hS, RS_0, RS_1, RS_2, RS_3, RS_4, RS_5, RS_6, RS_7, RS_r1, RS_w1, RS_w2, RS_w3, RS_w4, RS_w5, RS_w6, RS_w7, pt_S, List.append_assoc, List.cons_append, List.nil_append, List.append_nil, nxl_0, nxl_s, eq_self, Nat.reduceEqDiff, Nat.reduceLeDiff, nl_0, nl_1, nl_2, nl_7, nl_25203, nl_26739, nl_30579, no_1, no_1024, pk_mul, nI_add, nm_ck, nI_clamp, nI_ltI, nI_leI, nI_eq, nb_b2, nb_b1, ↓nb_let, nm_z0, nm_z1, nb_II, nb_IR, nb_RI, nb_RR, nm_IL, nm_IQ, nm_RL, nm_RQ, nm_LI, nm_LR, nm_LL, nm_LQ, nm_QI, nm_QR, nm_QL, nm_QQ, nm_rr, nm_ii, nm_eqm, not_false_eq_true, pk_sub, nm_div, nm_shl, nm_shr, nm_ush, nm_or8, nm_or64, nm_or256, nm_m1, nm_m3, nm_m7, nm_m15, nm_m31, nm_m63, nm_m255, nm_m511, nm_m1023, nm_m2047, nm_m65535, Nat.reduceMod, Nat.reducePow, Nat.reduceAdd, Nat.reduceSub, Nat.reduceMul, nm_bo, nm_bi, nm_rc, nm_ic, nm_ri, nm_rl, nm_rq, nm_ql, nm_qi, nm_li, nm_us, nm_uu, nm_cp, nm_sa31, nm_sa7, nm_m127, nm_m2, nm_nz, nm_nzk, nm_eq32, nm_nzf, if_true, if_false, ↓reduceIte, if_pos, if_neg]
  exact ⟨_, _, _, _, _, lo_35 hop (by rw [eD, eA, eQ, f3, key, tx])⟩
theorem rtx_36 {n : Nat} {B : St} {w d0 a0 b0 f0 : Int32} (hn : 30 < n) (hg : ∀ r : Nat, r < 32 → sR B 1 r = rgT r) (hm : MKp 36 w) : ∃ (k : Nat) (d a b f : Int32), df_X18_longOne n (RS B [] 0 0 w d0 a0 b0 f0) = some (RS B (txL (fun c => tvA c w) 36 w) k 1 w d a b f) := by
  have hw : w &&& nI 127 = nI 55 := hm.2.trans (by decide +kernel)
  have hn10 : 10 < n := by omega
  have hn20 : 20 < n := by omega
  obtain ⟨D, hD, eD⟩ := pt_n (w := w) (k := 7) (m := 5) (by decide) (by decide)
  have hD : D < 32 := hD
  obtain ⟨A, hA, eA⟩ := pt_n (w := w) (k := 15) (m := 5) (by decide) (by decide)
  have hA : A < 32 := hA
  obtain ⟨Q, hQ, eQ⟩ := pt_n (w := w) (k := 20) (m := 5) (by decide) (by decide)
  have hQ : Q < 32 := hQ
  have tx : txL (fun c => tvA c w) 36 w = ([108, 117, 105] ++ ([32] ++ (regL D ++ ([44, 32] ++ (decI (tvU w)))))) := by
    unfold txL sfxL
    rw [show strL (ko_w 36) = [108, 117, 105] from by decide +kernel, show strL (ko_f 36) = [100, 44, 85] from by decide +kernel, if_neg (show ¬ (ko_b 36 &&& 127 : Int32) = 47 by decide +kernel)]
    simp only [wrT, oc_44, (show oper 85 (tvA 85 w) = decI (tvU w) from on_1 _ (by decide) (by decide) (by decide)), (show oper 100 (tvA 100 w) = regL D from or_1 (by decide) (by decide) eD hD), ne_eq, reduceCtorEq, not_false_eq_true, not_true_eq_false, if_true, if_false, ↓reduceIte, List.append_assoc, List.cons_append, List.nil_append, List.append_nil, nxl_0, nxl_s]
  have hop : w &&& nI 127 = nI 55 := (sub_3 hw (by decide)).trans (by decide)
  have hS := lui_S (f := fpt w 12 3) (x := 6911340) (M := [108, 117, 105]) (w := w) hn10 hn20 hg (by decide +kernel) (by decide) hD hA hQ
  have key : df_X18_others n  (RS B [] 0 0 w (nI D) (nI A) (nI Q) (fpt w 12 3)) = some (RS B ([108, 117, 105] ++ ([32] ++ (regL D ++ ([44, 32] ++ (decI (tvU w)))))) 2 1 w (nI D) (nI A) (nI Q) (fpt w 12 3)) := by
    simp (disch := (first | assumption | decide | omega | (simp only [List.length_append, List.length_cons, List.length_nil, nxl_0, nxl_s] <;> omega))) only [df_X18_others_215, df_X18_others_20, df_X18_others_107, df_X18_others_0, df_X18_others, hS, hop, RS_0, RS_1, RS_2, RS_3, RS_4, RS_5, RS_6, RS_7, RS_r1, RS_w1, RS_w2, RS_w3, RS_w4, RS_w5, RS_w6, RS_w7, pt_S, List.append_assoc, List.cons_append, List.nil_append, List.append_nil, nxl_0, nxl_s, eq_self, Nat.reduceEqDiff, Nat.reduceLeDiff, nl_0, nl_1, nl_3, nl_4, nl_5, nl_7, nl_8, nl_10, nl_11, nl_12, nl_20, nl_21, nl_23, nl_31, nl_55, nl_103, nl_111, nl_127, nl_4111, nl_6911340, nl_7102826, nl_267386895, nl_1919705450, no_1, no_1024, pk_mul, nI_add, nm_ck, nI_clamp, nI_ltI, nI_leI, nI_eq, nb_b2, nb_b1, ↓nb_let, nm_z0, nm_z1, nb_II, nb_IR, nb_RI, nb_RR, nm_IL, nm_IQ, nm_RL, nm_RQ, nm_LI, nm_LR, nm_LL, nm_LQ, nm_QI, nm_QR, nm_QL, nm_QQ, nm_rr, nm_ii, nm_eqm, not_false_eq_true, pk_sub, nm_div, nm_shl, nm_shr, nm_ush, nm_or8, nm_or64, nm_or256, nm_m1, nm_m3, nm_m7, nm_m15, nm_m31, nm_m63, nm_m255, nm_m511, nm_m1023, nm_m2047, nm_m65535, Nat.reduceMod, Nat.reducePow, Nat.reduceAdd, Nat.reduceSub, Nat.reduceMul, nm_bo, nm_bi, nm_rc, nm_ic, nm_ri, nm_rl, nm_rq, nm_ql, nm_qi, nm_li, nm_us, nm_uu, nm_cp, nm_sa31, nm_sa7, nm_m127, nm_m2, nm_nz, nm_nzk, nm_eq32, nm_nzf, if_true, if_false, ↓reduceIte, if_pos, if_neg]
  exact ⟨_, _, _, _, _, lo_55 hop (by rw [eD, eA, eQ, key, tx])⟩
theorem rtx_37 {n : Nat} {B : St} {w d0 a0 b0 f0 : Int32} (hn : 30 < n) (hg : ∀ r : Nat, r < 32 → sR B 1 r = rgT r) (hm : MKp 37 w) : ∃ (k : Nat) (d a b f : Int32), df_X18_longOne n (RS B [] 0 0 w d0 a0 b0 f0) = some (RS B (txL (fun c => tvA c w) 37 w) k 1 w d a b f) := by
  have hw : w &&& nI 127 = nI 23 := hm.2.trans (by decide +kernel)
  have hn10 : 10 < n := by omega
  have hn20 : 20 < n := by omega
  obtain ⟨D, hD, eD⟩ := pt_n (w := w) (k := 7) (m := 5) (by decide) (by decide)
  have hD : D < 32 := hD
  obtain ⟨A, hA, eA⟩ := pt_n (w := w) (k := 15) (m := 5) (by decide) (by decide)
  have hA : A < 32 := hA
  obtain ⟨Q, hQ, eQ⟩ := pt_n (w := w) (k := 20) (m := 5) (by decide) (by decide)
  have hQ : Q < 32 := hQ
  have tx : txL (fun c => tvA c w) 37 w = ([97, 117, 105, 112, 99] ++ ([32] ++ (regL D ++ ([44, 32] ++ (decI (tvU w)))))) := by
    unfold txL sfxL
    rw [show strL (ko_w 37) = [97, 117, 105, 112, 99] from by decide +kernel, show strL (ko_f 37) = [100, 44, 85] from by decide +kernel, if_neg (show ¬ (ko_b 37 &&& 127 : Int32) = 47 by decide +kernel)]
    simp only [wrT, oc_44, (show oper 85 (tvA 85 w) = decI (tvU w) from on_1 _ (by decide) (by decide) (by decide)), (show oper 100 (tvA 100 w) = regL D from or_1 (by decide) (by decide) eD hD), ne_eq, reduceCtorEq, not_false_eq_true, not_true_eq_false, if_true, if_false, ↓reduceIte, List.append_assoc, List.cons_append, List.nil_append, List.append_nil, nxl_0, nxl_s]
  have hop : w &&& nI 127 = nI 23 := (sub_3 hw (by decide)).trans (by decide)
  have hS := lui_S (f := fpt w 12 3) (x := 427087721825) (M := [97, 117, 105, 112, 99]) (w := w) hn10 hn20 hg (by decide +kernel) (by decide) hD hA hQ
  have key : df_X18_others n  (RS B [] 0 0 w (nI D) (nI A) (nI Q) (fpt w 12 3)) = some (RS B ([97, 117, 105, 112, 99] ++ ([32] ++ (regL D ++ ([44, 32] ++ (decI (tvU w)))))) 2 1 w (nI D) (nI A) (nI Q) (fpt w 12 3)) := by
    simp (disch := (first | assumption | decide | omega | (simp only [List.length_append, List.length_cons, List.length_nil, nxl_0, nxl_s] <;> omega))) only [df_X18_others_215, df_X18_others_20, df_X18_others_107, df_X18_others_0, df_X18_others, hS, hop, RS_0, RS_1, RS_2, RS_3, RS_4, RS_5, RS_6, RS_7, RS_r1, RS_w1, RS_w2, RS_w3, RS_w4, RS_w5, RS_w6, RS_w7, pt_S, List.append_assoc, List.cons_append, List.nil_append, List.append_nil, nxl_0, nxl_s, eq_self, Nat.reduceEqDiff, Nat.reduceLeDiff, nl_0, nl_1, nl_3, nl_4, nl_5, nl_7, nl_8, nl_10, nl_11, nl_12, nl_20, nl_21, nl_23, nl_31, nl_55, nl_103, nl_111, nl_127, nl_4111, nl_6911340, nl_7102826, nl_267386895, nl_1919705450, no_1, no_1024, pk_mul, nI_add, nm_ck, nI_clamp, nI_ltI, nI_leI, nI_eq, nb_b2, nb_b1, ↓nb_let, nm_z0, nm_z1, nb_II, nb_IR, nb_RI, nb_RR, nm_IL, nm_IQ, nm_RL, nm_RQ, nm_LI, nm_LR, nm_LL, nm_LQ, nm_QI, nm_QR, nm_QL, nm_QQ, nm_rr, nm_ii, nm_eqm, not_false_eq_true, pk_sub, nm_div, nm_shl, nm_shr, nm_ush, nm_or8, nm_or64, nm_or256, nm_m1, nm_m3, nm_m7, nm_m15, nm_m31, nm_m63, nm_m255, nm_m511, nm_m1023, nm_m2047, nm_m65535, Nat.reduceMod, Nat.reducePow, Nat.reduceAdd, Nat.reduceSub, Nat.reduceMul, nm_bo, nm_bi, nm_rc, nm_ic, nm_ri, nm_rl, nm_rq, nm_ql, nm_qi, nm_li, nm_us, nm_uu, nm_cp, nm_sa31, nm_sa7, nm_m127, nm_m2, nm_nz, nm_nzk, nm_eq32, nm_nzf, if_true, if_false, ↓reduceIte, if_pos, if_neg]
  exact ⟨_, _, _, _, _, lo_23 hop (by rw [eD, eA, eQ, key, tx])⟩
theorem rtx_38 {n : Nat} {B : St} {w d0 a0 b0 f0 : Int32} (hn : 30 < n) (hg : ∀ r : Nat, r < 32 → sR B 1 r = rgT r) (hm : MKp 38 w) : ∃ (k : Nat) (d a b f : Int32), df_X18_longOne n (RS B [] 0 0 w d0 a0 b0 f0) = some (RS B (txL (fun c => tvA c w) 38 w) k 1 w d a b f) := by
  have hw : w &&& nI 28799 = nI 99 := hm.2.trans (by decide +kernel)
  have hn10 : 10 < n := by omega
  have hn20 : 20 < n := by omega
  obtain ⟨D, hD, eD⟩ := pt_n (w := w) (k := 7) (m := 5) (by decide) (by decide)
  have hD : D < 32 := hD
  obtain ⟨A, hA, eA⟩ := pt_n (w := w) (k := 15) (m := 5) (by decide) (by decide)
  have hA : A < 32 := hA
  obtain ⟨Q, hQ, eQ⟩ := pt_n (w := w) (k := 20) (m := 5) (by decide) (by decide)
  have hQ : Q < 32 := hQ
  have tx : txL (fun c => tvA c w) 38 w = ([98, 101, 113] ++ ([32] ++ (regL A ++ ([44, 32] ++ (regL Q ++ ([44, 32] ++ (tgL (tvT w)))))))) := by
    unfold txL sfxL
    rw [show strL (ko_w 38) = [98, 101, 113] from by decide +kernel, show strL (ko_f 38) = [97, 44, 98, 44, 84] from by decide +kernel, if_neg (show ¬ (ko_b 38 &&& 127 : Int32) = 47 by decide +kernel)]
    simp only [wrT, oc_44, (show oper 84 (tvA 84 w) = tgL (tvT w) from ot_1 _ (by decide) (by decide) (by decide)), (show oper 97 (tvA 97 w) = regL A from or_1 (by decide) (by decide) eA hA), (show oper 98 (tvA 98 w) = regL Q from or_1 (by decide) (by decide) eQ hQ), ne_eq, reduceCtorEq, not_false_eq_true, not_true_eq_false, if_true, if_false, ↓reduceIte, List.append_assoc, List.cons_append, List.nil_append, List.append_nil, nxl_0, nxl_s]
  have hop : w &&& nI 127 = nI 99 := (sub_3 hw (by decide)).trans (by decide)
  have f3 : fpt w 12 3 = nI 0 := pf_1 hw (by decide) (by decide) (by decide)
  have hS := brn_S (f := nI 0) (x := 7431522) (M := [98, 101, 113]) (w := w) hn10 hn20 hg (by decide +kernel) (by decide) hD hA hQ
  have key : df_X18_branches n  (RS B [] 0 0 w (nI D) (nI A) (nI Q) (nI 0)) = some (RS B ([98, 101, 113] ++ ([32] ++ (regL A ++ ([44, 32] ++ (regL Q ++ ([44, 32] ++ (tgL (tvT w)))))))) 3 1 w (nI D) (nI A) (nI Q) (nI 0)) := by
    simp (disch := (first | assumption | decide | omega | (simp only [List.length_append, List.length_cons, List.length_nil, nxl_0, nxl_s] <;> omega))) only [df_X18_branches_16, df_X18_branches_0, df_X18_branches, hS, RS_0, RS_1, RS_2, RS_3, RS_4, RS_5, RS_6, RS_7, RS_r1, RS_w1, RS_w2, RS_w3, RS_w4, RS_w5, RS_w6, RS_w7, pt_S, List.append_assoc, List.cons_append, List.nil_append, List.append_nil, nxl_0, nxl_s, eq_self, Nat.reduceEqDiff, Nat.reduceLeDiff, nl_0, nl_1, nl_2, nl_3, nl_4, nl_5, nl_6, nl_7, nl_6645602, nl_6647394, nl_7431522, nl_7629922, nl_1969579874, nl_1970564194, no_1, no_1024, pk_mul, nI_add, nm_ck, nI_clamp, nI_ltI, nI_leI, nI_eq, nb_b2, nb_b1, ↓nb_let, nm_z0, nm_z1, nb_II, nb_IR, nb_RI, nb_RR, nm_IL, nm_IQ, nm_RL, nm_RQ, nm_LI, nm_LR, nm_LL, nm_LQ, nm_QI, nm_QR, nm_QL, nm_QQ, nm_rr, nm_ii, nm_eqm, not_false_eq_true, pk_sub, nm_div, nm_shl, nm_shr, nm_ush, nm_or8, nm_or64, nm_or256, nm_m1, nm_m3, nm_m7, nm_m15, nm_m31, nm_m63, nm_m255, nm_m511, nm_m1023, nm_m2047, nm_m65535, Nat.reduceMod, Nat.reducePow, Nat.reduceAdd, Nat.reduceSub, Nat.reduceMul, nm_bo, nm_bi, nm_rc, nm_ic, nm_ri, nm_rl, nm_rq, nm_ql, nm_qi, nm_li, nm_us, nm_uu, nm_cp, nm_sa31, nm_sa7, nm_m127, nm_m2, nm_nz, nm_nzk, nm_eq32, nm_nzf, if_true, if_false, ↓reduceIte, if_pos, if_neg]
  exact ⟨_, _, _, _, _, lo_99 hop (by rw [eD, eA, eQ, f3, key, tx])⟩
theorem rtx_39 {n : Nat} {B : St} {w d0 a0 b0 f0 : Int32} (hn : 30 < n) (hg : ∀ r : Nat, r < 32 → sR B 1 r = rgT r) (hm : MKp 39 w) : ∃ (k : Nat) (d a b f : Int32), df_X18_longOne n (RS B [] 0 0 w d0 a0 b0 f0) = some (RS B (txL (fun c => tvA c w) 39 w) k 1 w d a b f) := by
  have hw : w &&& nI 28799 = nI 4195 := hm.2.trans (by decide +kernel)
  have hn10 : 10 < n := by omega
  have hn20 : 20 < n := by omega
  obtain ⟨D, hD, eD⟩ := pt_n (w := w) (k := 7) (m := 5) (by decide) (by decide)
  have hD : D < 32 := hD
  obtain ⟨A, hA, eA⟩ := pt_n (w := w) (k := 15) (m := 5) (by decide) (by decide)
  have hA : A < 32 := hA
  obtain ⟨Q, hQ, eQ⟩ := pt_n (w := w) (k := 20) (m := 5) (by decide) (by decide)
  have hQ : Q < 32 := hQ
  have tx : txL (fun c => tvA c w) 39 w = ([98, 110, 101] ++ ([32] ++ (regL A ++ ([44, 32] ++ (regL Q ++ ([44, 32] ++ (tgL (tvT w)))))))) := by
    unfold txL sfxL
    rw [show strL (ko_w 39) = [98, 110, 101] from by decide +kernel, show strL (ko_f 39) = [97, 44, 98, 44, 84] from by decide +kernel, if_neg (show ¬ (ko_b 39 &&& 127 : Int32) = 47 by decide +kernel)]
    simp only [wrT, oc_44, (show oper 84 (tvA 84 w) = tgL (tvT w) from ot_1 _ (by decide) (by decide) (by decide)), (show oper 97 (tvA 97 w) = regL A from or_1 (by decide) (by decide) eA hA), (show oper 98 (tvA 98 w) = regL Q from or_1 (by decide) (by decide) eQ hQ), ne_eq, reduceCtorEq, not_false_eq_true, not_true_eq_false, if_true, if_false, ↓reduceIte, List.append_assoc, List.cons_append, List.nil_append, List.append_nil, nxl_0, nxl_s]
  have hop : w &&& nI 127 = nI 99 := (sub_3 hw (by decide)).trans (by decide)
  have f3 : fpt w 12 3 = nI 1 := pf_1 hw (by decide) (by decide) (by decide)
  have hS := brn_S (f := nI 1) (x := 6647394) (M := [98, 110, 101]) (w := w) hn10 hn20 hg (by decide +kernel) (by decide) hD hA hQ
  have key : df_X18_branches n  (RS B [] 0 0 w (nI D) (nI A) (nI Q) (nI 1)) = some (RS B ([98, 110, 101] ++ ([32] ++ (regL A ++ ([44, 32] ++ (regL Q ++ ([44, 32] ++ (tgL (tvT w)))))))) 3 1 w (nI D) (nI A) (nI Q) (nI 1)) := by
    simp (disch := (first | assumption | decide | omega | (simp only [List.length_append, List.length_cons, List.length_nil, nxl_0, nxl_s] <;> omega))) only [df_X18_branches_16, df_X18_branches_0, df_X18_branches, hS, RS_0, RS_1, RS_2, RS_3, RS_4, RS_5, RS_6, RS_7, RS_r1, RS_w1, RS_w2, RS_w3, RS_w4, RS_w5, RS_w6, RS_w7, pt_S, List.append_assoc, List.cons_append, List.nil_append, List.append_nil, nxl_0, nxl_s, eq_self, Nat.reduceEqDiff, Nat.reduceLeDiff, nl_0, nl_1, nl_2, nl_3, nl_4, nl_5, nl_6, nl_7, nl_6645602, nl_6647394, nl_7431522, nl_7629922, nl_1969579874, nl_1970564194, no_1, no_1024, pk_mul, nI_add, nm_ck, nI_clamp, nI_ltI, nI_leI, nI_eq, nb_b2, nb_b1, ↓nb_let, nm_z0, nm_z1, nb_II, nb_IR, nb_RI, nb_RR, nm_IL, nm_IQ, nm_RL, nm_RQ, nm_LI, nm_LR, nm_LL, nm_LQ, nm_QI, nm_QR, nm_QL, nm_QQ, nm_rr, nm_ii, nm_eqm, not_false_eq_true, pk_sub, nm_div, nm_shl, nm_shr, nm_ush, nm_or8, nm_or64, nm_or256, nm_m1, nm_m3, nm_m7, nm_m15, nm_m31, nm_m63, nm_m255, nm_m511, nm_m1023, nm_m2047, nm_m65535, Nat.reduceMod, Nat.reducePow, Nat.reduceAdd, Nat.reduceSub, Nat.reduceMul, nm_bo, nm_bi, nm_rc, nm_ic, nm_ri, nm_rl, nm_rq, nm_ql, nm_qi, nm_li, nm_us, nm_uu, nm_cp, nm_sa31, nm_sa7, nm_m127, nm_m2, nm_nz, nm_nzk, nm_eq32, nm_nzf, if_true, if_false, ↓reduceIte, if_pos, if_neg]
  exact ⟨_, _, _, _, _, lo_99 hop (by rw [eD, eA, eQ, f3, key, tx])⟩
theorem rtx_40 {n : Nat} {B : St} {w d0 a0 b0 f0 : Int32} (hn : 30 < n) (hg : ∀ r : Nat, r < 32 → sR B 1 r = rgT r) (hm : MKp 40 w) : ∃ (k : Nat) (d a b f : Int32), df_X18_longOne n (RS B [] 0 0 w d0 a0 b0 f0) = some (RS B (txL (fun c => tvA c w) 40 w) k 1 w d a b f) := by
  have hw : w &&& nI 28799 = nI 16483 := hm.2.trans (by decide +kernel)
  have hn10 : 10 < n := by omega
  have hn20 : 20 < n := by omega
  obtain ⟨D, hD, eD⟩ := pt_n (w := w) (k := 7) (m := 5) (by decide) (by decide)
  have hD : D < 32 := hD
  obtain ⟨A, hA, eA⟩ := pt_n (w := w) (k := 15) (m := 5) (by decide) (by decide)
  have hA : A < 32 := hA
  obtain ⟨Q, hQ, eQ⟩ := pt_n (w := w) (k := 20) (m := 5) (by decide) (by decide)
  have hQ : Q < 32 := hQ
  have tx : txL (fun c => tvA c w) 40 w = ([98, 108, 116] ++ ([32] ++ (regL A ++ ([44, 32] ++ (regL Q ++ ([44, 32] ++ (tgL (tvT w)))))))) := by
    unfold txL sfxL
    rw [show strL (ko_w 40) = [98, 108, 116] from by decide +kernel, show strL (ko_f 40) = [97, 44, 98, 44, 84] from by decide +kernel, if_neg (show ¬ (ko_b 40 &&& 127 : Int32) = 47 by decide +kernel)]
    simp only [wrT, oc_44, (show oper 84 (tvA 84 w) = tgL (tvT w) from ot_1 _ (by decide) (by decide) (by decide)), (show oper 97 (tvA 97 w) = regL A from or_1 (by decide) (by decide) eA hA), (show oper 98 (tvA 98 w) = regL Q from or_1 (by decide) (by decide) eQ hQ), ne_eq, reduceCtorEq, not_false_eq_true, not_true_eq_false, if_true, if_false, ↓reduceIte, List.append_assoc, List.cons_append, List.nil_append, List.append_nil, nxl_0, nxl_s]
  have hop : w &&& nI 127 = nI 99 := (sub_3 hw (by decide)).trans (by decide)
  have f3 : fpt w 12 3 = nI 4 := pf_1 hw (by decide) (by decide) (by decide)
  have hS := brn_S (f := nI 4) (x := 7629922) (M := [98, 108, 116]) (w := w) hn10 hn20 hg (by decide +kernel) (by decide) hD hA hQ
  have key : df_X18_branches n  (RS B [] 0 0 w (nI D) (nI A) (nI Q) (nI 4)) = some (RS B ([98, 108, 116] ++ ([32] ++ (regL A ++ ([44, 32] ++ (regL Q ++ ([44, 32] ++ (tgL (tvT w)))))))) 3 1 w (nI D) (nI A) (nI Q) (nI 4)) := by
    simp (disch := (first | assumption | decide | omega | (simp only [List.length_append, List.length_cons, List.length_nil, nxl_0, nxl_s] <;> omega))) only [df_X18_branches_16, df_X18_branches_0, df_X18_branches, hS, RS_0, RS_1, RS_2, RS_3, RS_4, RS_5, RS_6, RS_7, RS_r1, RS_w1, RS_w2, RS_w3, RS_w4, RS_w5, RS_w6, RS_w7, pt_S, List.append_assoc, List.cons_append, List.nil_append, List.append_nil, nxl_0, nxl_s, eq_self, Nat.reduceEqDiff, Nat.reduceLeDiff, nl_0, nl_1, nl_2, nl_3, nl_4, nl_5, nl_6, nl_7, nl_6645602, nl_6647394, nl_7431522, nl_7629922, nl_1969579874, nl_1970564194, no_1, no_1024, pk_mul, nI_add, nm_ck, nI_clamp, nI_ltI, nI_leI, nI_eq, nb_b2, nb_b1, ↓nb_let, nm_z0, nm_z1, nb_II, nb_IR, nb_RI, nb_RR, nm_IL, nm_IQ, nm_RL, nm_RQ, nm_LI, nm_LR, nm_LL, nm_LQ, nm_QI, nm_QR, nm_QL, nm_QQ, nm_rr, nm_ii, nm_eqm, not_false_eq_true, pk_sub, nm_div, nm_shl, nm_shr, nm_ush, nm_or8, nm_or64, nm_or256, nm_m1, nm_m3, nm_m7, nm_m15, nm_m31, nm_m63, nm_m255, nm_m511, nm_m1023, nm_m2047, nm_m65535, Nat.reduceMod, Nat.reducePow, Nat.reduceAdd, Nat.reduceSub, Nat.reduceMul, nm_bo, nm_bi, nm_rc, nm_ic, nm_ri, nm_rl, nm_rq, nm_ql, nm_qi, nm_li, nm_us, nm_uu, nm_cp, nm_sa31, nm_sa7, nm_m127, nm_m2, nm_nz, nm_nzk, nm_eq32, nm_nzf, if_true, if_false, ↓reduceIte, if_pos, if_neg]
  exact ⟨_, _, _, _, _, lo_99 hop (by rw [eD, eA, eQ, f3, key, tx])⟩
theorem rtx_41 {n : Nat} {B : St} {w d0 a0 b0 f0 : Int32} (hn : 30 < n) (hg : ∀ r : Nat, r < 32 → sR B 1 r = rgT r) (hm : MKp 41 w) : ∃ (k : Nat) (d a b f : Int32), df_X18_longOne n (RS B [] 0 0 w d0 a0 b0 f0) = some (RS B (txL (fun c => tvA c w) 41 w) k 1 w d a b f) := by
  have hw : w &&& nI 28799 = nI 20579 := hm.2.trans (by decide +kernel)
  have hn10 : 10 < n := by omega
  have hn20 : 20 < n := by omega
  obtain ⟨D, hD, eD⟩ := pt_n (w := w) (k := 7) (m := 5) (by decide) (by decide)
  have hD : D < 32 := hD
  obtain ⟨A, hA, eA⟩ := pt_n (w := w) (k := 15) (m := 5) (by decide) (by decide)
  have hA : A < 32 := hA
  obtain ⟨Q, hQ, eQ⟩ := pt_n (w := w) (k := 20) (m := 5) (by decide) (by decide)
  have hQ : Q < 32 := hQ
  have tx : txL (fun c => tvA c w) 41 w = ([98, 103, 101] ++ ([32] ++ (regL A ++ ([44, 32] ++ (regL Q ++ ([44, 32] ++ (tgL (tvT w)))))))) := by
    unfold txL sfxL
    rw [show strL (ko_w 41) = [98, 103, 101] from by decide +kernel, show strL (ko_f 41) = [97, 44, 98, 44, 84] from by decide +kernel, if_neg (show ¬ (ko_b 41 &&& 127 : Int32) = 47 by decide +kernel)]
    simp only [wrT, oc_44, (show oper 84 (tvA 84 w) = tgL (tvT w) from ot_1 _ (by decide) (by decide) (by decide)), (show oper 97 (tvA 97 w) = regL A from or_1 (by decide) (by decide) eA hA), (show oper 98 (tvA 98 w) = regL Q from or_1 (by decide) (by decide) eQ hQ), ne_eq, reduceCtorEq, not_false_eq_true, not_true_eq_false, if_true, if_false, ↓reduceIte, List.append_assoc, List.cons_append, List.nil_append, List.append_nil, nxl_0, nxl_s]
  have hop : w &&& nI 127 = nI 99 := (sub_3 hw (by decide)).trans (by decide)
  have f3 : fpt w 12 3 = nI 5 := pf_1 hw (by decide) (by decide) (by decide)
  have hS := brn_S (f := nI 5) (x := 6645602) (M := [98, 103, 101]) (w := w) hn10 hn20 hg (by decide +kernel) (by decide) hD hA hQ
  have key : df_X18_branches n  (RS B [] 0 0 w (nI D) (nI A) (nI Q) (nI 5)) = some (RS B ([98, 103, 101] ++ ([32] ++ (regL A ++ ([44, 32] ++ (regL Q ++ ([44, 32] ++ (tgL (tvT w)))))))) 3 1 w (nI D) (nI A) (nI Q) (nI 5)) := by
    simp (disch := (first | assumption | decide | omega | (simp only [List.length_append, List.length_cons, List.length_nil, nxl_0, nxl_s] <;> omega))) only [df_X18_branches_16, df_X18_branches_0, df_X18_branches, hS, RS_0, RS_1, RS_2, RS_3, RS_4, RS_5, RS_6, RS_7, RS_r1, RS_w1, RS_w2, RS_w3, RS_w4, RS_w5, RS_w6, RS_w7, pt_S, List.append_assoc, List.cons_append, List.nil_append, List.append_nil, nxl_0, nxl_s, eq_self, Nat.reduceEqDiff, Nat.reduceLeDiff, nl_0, nl_1, nl_2, nl_3, nl_4, nl_5, nl_6, nl_7, nl_6645602, nl_6647394, nl_7431522, nl_7629922, nl_1969579874, nl_1970564194, no_1, no_1024, pk_mul, nI_add, nm_ck, nI_clamp, nI_ltI, nI_leI, nI_eq, nb_b2, nb_b1, ↓nb_let, nm_z0, nm_z1, nb_II, nb_IR, nb_RI, nb_RR, nm_IL, nm_IQ, nm_RL, nm_RQ, nm_LI, nm_LR, nm_LL, nm_LQ, nm_QI, nm_QR, nm_QL, nm_QQ, nm_rr, nm_ii, nm_eqm, not_false_eq_true, pk_sub, nm_div, nm_shl, nm_shr, nm_ush, nm_or8, nm_or64, nm_or256, nm_m1, nm_m3, nm_m7, nm_m15, nm_m31, nm_m63, nm_m255, nm_m511, nm_m1023, nm_m2047, nm_m65535, Nat.reduceMod, Nat.reducePow, Nat.reduceAdd, Nat.reduceSub, Nat.reduceMul, nm_bo, nm_bi, nm_rc, nm_ic, nm_ri, nm_rl, nm_rq, nm_ql, nm_qi, nm_li, nm_us, nm_uu, nm_cp, nm_sa31, nm_sa7, nm_m127, nm_m2, nm_nz, nm_nzk, nm_eq32, nm_nzf, if_true, if_false, ↓reduceIte, if_pos, if_neg]
  exact ⟨_, _, _, _, _, lo_99 hop (by rw [eD, eA, eQ, f3, key, tx])⟩
theorem rtx_42 {n : Nat} {B : St} {w d0 a0 b0 f0 : Int32} (hn : 30 < n) (hg : ∀ r : Nat, r < 32 → sR B 1 r = rgT r) (hm : MKp 42 w) : ∃ (k : Nat) (d a b f : Int32), df_X18_longOne n (RS B [] 0 0 w d0 a0 b0 f0) = some (RS B (txL (fun c => tvA c w) 42 w) k 1 w d a b f) := by
  have hw : w &&& nI 28799 = nI 24675 := hm.2.trans (by decide +kernel)
  have hn10 : 10 < n := by omega
  have hn20 : 20 < n := by omega
  obtain ⟨D, hD, eD⟩ := pt_n (w := w) (k := 7) (m := 5) (by decide) (by decide)
  have hD : D < 32 := hD
  obtain ⟨A, hA, eA⟩ := pt_n (w := w) (k := 15) (m := 5) (by decide) (by decide)
  have hA : A < 32 := hA
  obtain ⟨Q, hQ, eQ⟩ := pt_n (w := w) (k := 20) (m := 5) (by decide) (by decide)
  have hQ : Q < 32 := hQ
  have tx : txL (fun c => tvA c w) 42 w = ([98, 108, 116, 117] ++ ([32] ++ (regL A ++ ([44, 32] ++ (regL Q ++ ([44, 32] ++ (tgL (tvT w)))))))) := by
    unfold txL sfxL
    rw [show strL (ko_w 42) = [98, 108, 116, 117] from by decide +kernel, show strL (ko_f 42) = [97, 44, 98, 44, 84] from by decide +kernel, if_neg (show ¬ (ko_b 42 &&& 127 : Int32) = 47 by decide +kernel)]
    simp only [wrT, oc_44, (show oper 84 (tvA 84 w) = tgL (tvT w) from ot_1 _ (by decide) (by decide) (by decide)), (show oper 97 (tvA 97 w) = regL A from or_1 (by decide) (by decide) eA hA), (show oper 98 (tvA 98 w) = regL Q from or_1 (by decide) (by decide) eQ hQ), ne_eq, reduceCtorEq, not_false_eq_true, not_true_eq_false, if_true, if_false, ↓reduceIte, List.append_assoc, List.cons_append, List.nil_append, List.append_nil, nxl_0, nxl_s]
  have hop : w &&& nI 127 = nI 99 := (sub_3 hw (by decide)).trans (by decide)
  have f3 : fpt w 12 3 = nI 6 := pf_1 hw (by decide) (by decide) (by decide)
  have hS := brn_S (f := nI 6) (x := 1970564194) (M := [98, 108, 116, 117]) (w := w) hn10 hn20 hg (by decide +kernel) (by decide) hD hA hQ
  have key : df_X18_branches n  (RS B [] 0 0 w (nI D) (nI A) (nI Q) (nI 6)) = some (RS B ([98, 108, 116, 117] ++ ([32] ++ (regL A ++ ([44, 32] ++ (regL Q ++ ([44, 32] ++ (tgL (tvT w)))))))) 3 1 w (nI D) (nI A) (nI Q) (nI 6)) := by
    simp (disch := (first | assumption | decide | omega | (simp only [List.length_append, List.length_cons, List.length_nil, nxl_0, nxl_s] <;> omega))) only [df_X18_branches_16, df_X18_branches_0, df_X18_branches, hS, RS_0, RS_1, RS_2, RS_3, RS_4, RS_5, RS_6, RS_7, RS_r1, RS_w1, RS_w2, RS_w3, RS_w4, RS_w5, RS_w6, RS_w7, pt_S, List.append_assoc, List.cons_append, List.nil_append, List.append_nil, nxl_0, nxl_s, eq_self, Nat.reduceEqDiff, Nat.reduceLeDiff, nl_0, nl_1, nl_2, nl_3, nl_4, nl_5, nl_6, nl_7, nl_6645602, nl_6647394, nl_7431522, nl_7629922, nl_1969579874, nl_1970564194, no_1, no_1024, pk_mul, nI_add, nm_ck, nI_clamp, nI_ltI, nI_leI, nI_eq, nb_b2, nb_b1, ↓nb_let, nm_z0, nm_z1, nb_II, nb_IR, nb_RI, nb_RR, nm_IL, nm_IQ, nm_RL, nm_RQ, nm_LI, nm_LR, nm_LL, nm_LQ, nm_QI, nm_QR, nm_QL, nm_QQ, nm_rr, nm_ii, nm_eqm, not_false_eq_true, pk_sub, nm_div, nm_shl, nm_shr, nm_ush, nm_or8, nm_or64, nm_or256, nm_m1, nm_m3, nm_m7, nm_m15, nm_m31, nm_m63, nm_m255, nm_m511, nm_m1023, nm_m2047, nm_m65535, Nat.reduceMod, Nat.reducePow, Nat.reduceAdd, Nat.reduceSub, Nat.reduceMul, nm_bo, nm_bi, nm_rc, nm_ic, nm_ri, nm_rl, nm_rq, nm_ql, nm_qi, nm_li, nm_us, nm_uu, nm_cp, nm_sa31, nm_sa7, nm_m127, nm_m2, nm_nz, nm_nzk, nm_eq32, nm_nzf, if_true, if_false, ↓reduceIte, if_pos, if_neg]
  exact ⟨_, _, _, _, _, lo_99 hop (by rw [eD, eA, eQ, f3, key, tx])⟩
theorem rtx_43 {n : Nat} {B : St} {w d0 a0 b0 f0 : Int32} (hn : 30 < n) (hg : ∀ r : Nat, r < 32 → sR B 1 r = rgT r) (hm : MKp 43 w) : ∃ (k : Nat) (d a b f : Int32), df_X18_longOne n (RS B [] 0 0 w d0 a0 b0 f0) = some (RS B (txL (fun c => tvA c w) 43 w) k 1 w d a b f) := by
  have hw : w &&& nI 28799 = nI 28771 := hm.2.trans (by decide +kernel)
  have hn10 : 10 < n := by omega
  have hn20 : 20 < n := by omega
  obtain ⟨D, hD, eD⟩ := pt_n (w := w) (k := 7) (m := 5) (by decide) (by decide)
  have hD : D < 32 := hD
  obtain ⟨A, hA, eA⟩ := pt_n (w := w) (k := 15) (m := 5) (by decide) (by decide)
  have hA : A < 32 := hA
  obtain ⟨Q, hQ, eQ⟩ := pt_n (w := w) (k := 20) (m := 5) (by decide) (by decide)
  have hQ : Q < 32 := hQ
  have tx : txL (fun c => tvA c w) 43 w = ([98, 103, 101, 117] ++ ([32] ++ (regL A ++ ([44, 32] ++ (regL Q ++ ([44, 32] ++ (tgL (tvT w)))))))) := by
    unfold txL sfxL
    rw [show strL (ko_w 43) = [98, 103, 101, 117] from by decide +kernel, show strL (ko_f 43) = [97, 44, 98, 44, 84] from by decide +kernel, if_neg (show ¬ (ko_b 43 &&& 127 : Int32) = 47 by decide +kernel)]
    simp only [wrT, oc_44, (show oper 84 (tvA 84 w) = tgL (tvT w) from ot_1 _ (by decide) (by decide) (by decide)), (show oper 97 (tvA 97 w) = regL A from or_1 (by decide) (by decide) eA hA), (show oper 98 (tvA 98 w) = regL Q from or_1 (by decide) (by decide) eQ hQ), ne_eq, reduceCtorEq, not_false_eq_true, not_true_eq_false, if_true, if_false, ↓reduceIte, List.append_assoc, List.cons_append, List.nil_append, List.append_nil, nxl_0, nxl_s]
  have hop : w &&& nI 127 = nI 99 := (sub_3 hw (by decide)).trans (by decide)
  have f3 : fpt w 12 3 = nI 7 := pf_1 hw (by decide) (by decide) (by decide)
  have hS := brn_S (f := nI 7) (x := 1969579874) (M := [98, 103, 101, 117]) (w := w) hn10 hn20 hg (by decide +kernel) (by decide) hD hA hQ
  have key : df_X18_branches n  (RS B [] 0 0 w (nI D) (nI A) (nI Q) (nI 7)) = some (RS B ([98, 103, 101, 117] ++ ([32] ++ (regL A ++ ([44, 32] ++ (regL Q ++ ([44, 32] ++ (tgL (tvT w)))))))) 3 1 w (nI D) (nI A) (nI Q) (nI 7)) := by
    simp (disch := (first | assumption | decide | omega | (simp only [List.length_append, List.length_cons, List.length_nil, nxl_0, nxl_s] <;> omega))) only [df_X18_branches_16, df_X18_branches_0, df_X18_branches, hS, RS_0, RS_1, RS_2, RS_3, RS_4, RS_5, RS_6, RS_7, RS_r1, RS_w1, RS_w2, RS_w3, RS_w4, RS_w5, RS_w6, RS_w7, pt_S, List.append_assoc, List.cons_append, List.nil_append, List.append_nil, nxl_0, nxl_s, eq_self, Nat.reduceEqDiff, Nat.reduceLeDiff, nl_0, nl_1, nl_2, nl_3, nl_4, nl_5, nl_6, nl_7, nl_6645602, nl_6647394, nl_7431522, nl_7629922, nl_1969579874, nl_1970564194, no_1, no_1024, pk_mul, nI_add, nm_ck, nI_clamp, nI_ltI, nI_leI, nI_eq, nb_b2, nb_b1, ↓nb_let, nm_z0, nm_z1, nb_II, nb_IR, nb_RI, nb_RR, nm_IL, nm_IQ, nm_RL, nm_RQ, nm_LI, nm_LR, nm_LL, nm_LQ, nm_QI, nm_QR, nm_QL, nm_QQ, nm_rr, nm_ii, nm_eqm, not_false_eq_true, pk_sub, nm_div, nm_shl, nm_shr, nm_ush, nm_or8, nm_or64, nm_or256, nm_m1, nm_m3, nm_m7, nm_m15, nm_m31, nm_m63, nm_m255, nm_m511, nm_m1023, nm_m2047, nm_m65535, Nat.reduceMod, Nat.reducePow, Nat.reduceAdd, Nat.reduceSub, Nat.reduceMul, nm_bo, nm_bi, nm_rc, nm_ic, nm_ri, nm_rl, nm_rq, nm_ql, nm_qi, nm_li, nm_us, nm_uu, nm_cp, nm_sa31, nm_sa7, nm_m127, nm_m2, nm_nz, nm_nzk, nm_eq32, nm_nzf, if_true, if_false, ↓reduceIte, if_pos, if_neg]
  exact ⟨_, _, _, _, _, lo_99 hop (by rw [eD, eA, eQ, f3, key, tx])⟩
theorem rtx_44 {n : Nat} {B : St} {w d0 a0 b0 f0 : Int32} (hn : 30 < n) (hg : ∀ r : Nat, r < 32 → sR B 1 r = rgT r) (hm : MKp 44 w) : ∃ (k : Nat) (d a b f : Int32), df_X18_longOne n (RS B [] 0 0 w d0 a0 b0 f0) = some (RS B (txL (fun c => tvA c w) 44 w) k 1 w d a b f) := by
  have hw : w &&& nI 127 = nI 111 := hm.2.trans (by decide +kernel)
  have hn10 : 10 < n := by omega
  have hn20 : 20 < n := by omega
  obtain ⟨D, hD, eD⟩ := pt_n (w := w) (k := 7) (m := 5) (by decide) (by decide)
  have hD : D < 32 := hD
  obtain ⟨A, hA, eA⟩ := pt_n (w := w) (k := 15) (m := 5) (by decide) (by decide)
  have hA : A < 32 := hA
  obtain ⟨Q, hQ, eQ⟩ := pt_n (w := w) (k := 20) (m := 5) (by decide) (by decide)
  have hQ : Q < 32 := hQ
  have tx : txL (fun c => tvA c w) 44 w = ([106, 97, 108] ++ ([32] ++ (regL D ++ ([44, 32] ++ (tgL (tvJ w)))))) := by
    unfold txL sfxL
    rw [show strL (ko_w 44) = [106, 97, 108] from by decide +kernel, show strL (ko_f 44) = [100, 44, 74] from by decide +kernel, if_neg (show ¬ (ko_b 44 &&& 127 : Int32) = 47 by decide +kernel)]
    simp only [wrT, oc_44, (show oper 74 (tvA 74 w) = tgL (tvJ w) from ot_1 _ (by decide) (by decide) (by decide)), (show oper 100 (tvA 100 w) = regL D from or_1 (by decide) (by decide) eD hD), ne_eq, reduceCtorEq, not_false_eq_true, not_true_eq_false, if_true, if_false, ↓reduceIte, List.append_assoc, List.cons_append, List.nil_append, List.append_nil, nxl_0, nxl_s]
  have hop : w &&& nI 127 = nI 111 := (sub_3 hw (by decide)).trans (by decide)
  have lD : (regL D).length ≤ 4 := rg_4 ⟨D, hD⟩
  have lA : (regL A).length ≤ 4 := rg_4 ⟨A, hA⟩
  have lQ : (regL Q).length ≤ 4 := rg_4 ⟨Q, hQ⟩
  have mJ := nmv_J w
  have lJ := de_l mJ
  have hS := jal_S (f := fpt w 12 3) (w := w) hn10 hn20 hg hD hA hQ
  have key : df_X18_others n  (RS B [] 0 0 w (nI D) (nI A) (nI Q) (fpt w 12 3)) = some (RS B ([106, 97, 108] ++ ([32] ++ (regL D ++ ([44, 32] ++ (tgL (tvJ w)))))) 2 1 w (nI D) (nI A) (nI Q) (fpt w 12 3)) := by
    simp (disch := (first | assumption | decide | omega | (simp only [List.length_append, List.length_cons, List.length_nil, nxl_0, nxl_s] <;> omega))) only [df_X18_others_215, df_X18_others_36, df_X18_others_20, df_X18_others_0, df_X18_others, hS, hop, RS_0, RS_1, RS_2, RS_3, RS_4, RS_5, RS_6, RS_7, RS_r1, RS_w1, RS_w2, RS_w3, RS_w4, RS_w5, RS_w6, RS_w7, pt_S, List.append_assoc, List.cons_append, List.nil_append, List.append_nil, nxl_0, nxl_s, eq_self, Nat.reduceEqDiff, Nat.reduceLeDiff, nl_0, nl_3, nl_4, nl_5, nl_7, nl_12, nl_20, nl_23, nl_31, nl_55, nl_103, nl_127, nl_6911340, nl_1919705450, no_1, no_1024, pk_mul, nI_add, nm_ck, nI_clamp, nI_ltI, nI_leI, nI_eq, nb_b2, nb_b1, ↓nb_let, nm_z0, nm_z1, nb_II, nb_IR, nb_RI, nb_RR, nm_IL, nm_IQ, nm_RL, nm_RQ, nm_LI, nm_LR, nm_LL, nm_LQ, nm_QI, nm_QR, nm_QL, nm_QQ, nm_rr, nm_ii, nm_eqm, not_false_eq_true, pk_sub, nm_div, nm_shl, nm_shr, nm_ush, nm_or8, nm_or64, nm_or256, nm_m1, nm_m3, nm_m7, nm_m15, nm_m31, nm_m63, nm_m255, nm_m511, nm_m1023, nm_m2047, nm_m65535, Nat.reduceMod, Nat.reducePow, Nat.reduceAdd, Nat.reduceSub, Nat.reduceMul, nm_bo, nm_bi, nm_rc, nm_ic, nm_ri, nm_rl, nm_rq, nm_ql, nm_qi, nm_li, nm_us, nm_uu, nm_cp, nm_sa31, nm_sa7, nm_m127, nm_m2, nm_nz, nm_nzk, nm_eq32, nm_nzf, if_true, if_false, ↓reduceIte, if_pos, if_neg]
  exact ⟨_, _, _, _, _, lo_111 hop (by rw [eD, eA, eQ, key, tx])⟩
theorem rtx_56 {n : Nat} {B : St} {w d0 a0 b0 f0 : Int32} (hn : 30 < n) (hg : ∀ r : Nat, r < 32 → sR B 1 r = rgT r) (hm : MKp 56 w) : ∃ (k : Nat) (d a b f : Int32), df_X18_longOne n (RS B [] 0 0 w d0 a0 b0 f0) = some (RS B (txL (fun c => tvA c w) 56 w) k 1 w d a b f) := by
  have hw : w &&& nI 4294963327 = nI 3221233779 := hm.2.trans (by decide +kernel)
  have hn10 : 10 < n := by omega
  have hn20 : 20 < n := by omega
  obtain ⟨D, hD, eD⟩ := pt_n (w := w) (k := 7) (m := 5) (by decide) (by decide)
  have hD : D < 32 := hD
  obtain ⟨A, hA, eA⟩ := pt_n (w := w) (k := 15) (m := 5) (by decide) (by decide)
  have hA : A < 32 := hA
  obtain ⟨Q, hQ, eQ⟩ := pt_n (w := w) (k := 20) (m := 5) (by decide) (by decide)
  have hQ : Q < 32 := hQ
  have tx : txL (fun c => tvA c w) 56 w = ([114, 100, 99, 121, 99, 108, 101] ++ ([32] ++ (regL D))) := by
    unfold txL sfxL
    rw [show strL (ko_w 56) = [114, 100, 99, 121, 99, 108, 101] from by decide +kernel, show strL (ko_f 56) = [100] from by decide +kernel, if_neg (show ¬ (ko_b 56 &&& 127 : Int32) = 47 by decide +kernel)]
    simp only [wrT, (show oper 100 (tvA 100 w) = regL D from or_1 (by decide) (by decide) eD hD), ne_eq, reduceCtorEq, not_false_eq_true, not_true_eq_false, if_true, if_false, ↓reduceIte, List.append_assoc, List.cons_append, List.nil_append, List.append_nil, nxl_0, nxl_s]
  have hop : w &&& nI 127 = nI 115 := (sub_3 hw (by decide)).trans (by decide)
  have f3 : fpt w 12 3 = nI 2 := pf_1 hw (by decide) (by decide) (by decide)
  have n12 : fpt w 20 12 = nI 3072 := pf_1 hw (by decide) (by decide) (by decide)
  have a5 : fpt w 15 5 = nI 0 := pf_1 hw (by decide) (by decide) (by decide)
  have lD : (regL D).length ≤ 4 := rg_4 ⟨D, hD⟩
  have lA : (regL A).length ≤ 4 := rg_4 ⟨A, hA⟩
  have lQ : (regL Q).length ≤ 4 := rg_4 ⟨Q, hQ⟩
  have w1 : ¬ w = nI 115 := fun z => by rw [z] at f3; exact absurd f3 (by decide +kernel)
  have w2 : ¬ w = nI 1048691 := fun z => by rw [z] at f3; exact absurd f3 (by decide +kernel)
  have key : df_X18_system n  (RS B [] 0 0 w (nI D) (nI 0) (nI Q) (nI 2)) = some (RS B ([114, 100, 99, 121, 99, 108, 101] ++ ([32] ++ (regL D))) 1 1 w (nI D) (nI 0) (nI Q) (nI 2)) := by
    simp (disch := (first | assumption | decide | omega | (simp only [List.length_append, List.length_cons, List.length_nil, nxl_0, nxl_s] <;> omega))) only [df_X18_system_92, df_X18_system_141, df_X18_system_125, df_X18_system_87, df_X18_system_40, df_X18_system_37, df_X18_system_18, df_X18_system_0, df_X18_system, reg_S hg hn10, im_S hn20, ta_S hn20, br_S hg hn10, me_S hg hn20, nx_S, pu_S, hop, nw_25714, sw_25714, nw_1701669236, sw_1701669236, nw_435610155363, sw_435610155363, nw_465674789733, sw_465674789733, nw_118066057994853, sw_118066057994853, nw_32762639552835177, sw_32762639552835177, w1, w2, n12, RS_0, RS_1, RS_2, RS_3, RS_4, RS_5, RS_6, RS_7, RS_r1, RS_w1, RS_w2, RS_w3, RS_w4, RS_w5, RS_w6, RS_w7, pt_S, List.append_assoc, List.cons_append, List.nil_append, List.append_nil, nxl_0, nxl_s, eq_self, Nat.reduceEqDiff, Nat.reduceLeDiff, nl_0, nl_1, nl_2, nl_3, nl_4, nl_5, nl_7, nl_12, nl_20, nl_104, nl_115, nl_127, nl_3072, nl_3200, nl_25714, nl_1048691, nl_1701669236, no_1, no_1024, pk_mul, nI_add, nm_ck, nI_clamp, nI_ltI, nI_leI, nI_eq, nb_b2, nb_b1, ↓nb_let, nm_z0, nm_z1, nb_II, nb_IR, nb_RI, nb_RR, nm_IL, nm_IQ, nm_RL, nm_RQ, nm_LI, nm_LR, nm_LL, nm_LQ, nm_QI, nm_QR, nm_QL, nm_QQ, nm_rr, nm_ii, nm_eqm, not_false_eq_true, pk_sub, nm_div, nm_shl, nm_shr, nm_ush, nm_or8, nm_or64, nm_or256, nm_m1, nm_m3, nm_m7, nm_m15, nm_m31, nm_m63, nm_m255, nm_m511, nm_m1023, nm_m2047, nm_m65535, Nat.reduceMod, Nat.reducePow, Nat.reduceAdd, Nat.reduceSub, Nat.reduceMul, nm_bo, nm_bi, nm_rc, nm_ic, nm_ri, nm_rl, nm_rq, nm_ql, nm_qi, nm_li, nm_us, nm_uu, nm_cp, nm_sa31, nm_sa7, nm_m127, nm_m2, nm_nz, nm_nzk, nm_eq32, nm_nzf, if_true, if_false, ↓reduceIte, if_pos, if_neg]
  exact ⟨_, _, _, _, _, lo_115 hop (by rw [eD, a5, eQ, f3, key, tx])⟩
theorem rtx_57 {n : Nat} {B : St} {w d0 a0 b0 f0 : Int32} (hn : 30 < n) (hg : ∀ r : Nat, r < 32 → sR B 1 r = rgT r) (hm : MKp 57 w) : ∃ (k : Nat) (d a b f : Int32), df_X18_longOne n (RS B [] 0 0 w d0 a0 b0 f0) = some (RS B (txL (fun c => tvA c w) 57 w) k 1 w d a b f) := by
  have hw : w &&& nI 4294963327 = nI 3222282355 := hm.2.trans (by decide +kernel)
  have hn10 : 10 < n := by omega
  have hn20 : 20 < n := by omega
  obtain ⟨D, hD, eD⟩ := pt_n (w := w) (k := 7) (m := 5) (by decide) (by decide)
  have hD : D < 32 := hD
  obtain ⟨A, hA, eA⟩ := pt_n (w := w) (k := 15) (m := 5) (by decide) (by decide)
  have hA : A < 32 := hA
  obtain ⟨Q, hQ, eQ⟩ := pt_n (w := w) (k := 20) (m := 5) (by decide) (by decide)
  have hQ : Q < 32 := hQ
  have tx : txL (fun c => tvA c w) 57 w = ([114, 100, 116, 105, 109, 101] ++ ([32] ++ (regL D))) := by
    unfold txL sfxL
    rw [show strL (ko_w 57) = [114, 100, 116, 105, 109, 101] from by decide +kernel, show strL (ko_f 57) = [100] from by decide +kernel, if_neg (show ¬ (ko_b 57 &&& 127 : Int32) = 47 by decide +kernel)]
    simp only [wrT, (show oper 100 (tvA 100 w) = regL D from or_1 (by decide) (by decide) eD hD), ne_eq, reduceCtorEq, not_false_eq_true, not_true_eq_false, if_true, if_false, ↓reduceIte, List.append_assoc, List.cons_append, List.nil_append, List.append_nil, nxl_0, nxl_s]
  have hop : w &&& nI 127 = nI 115 := (sub_3 hw (by decide)).trans (by decide)
  have f3 : fpt w 12 3 = nI 2 := pf_1 hw (by decide) (by decide) (by decide)
  have n12 : fpt w 20 12 = nI 3073 := pf_1 hw (by decide) (by decide) (by decide)
  have a5 : fpt w 15 5 = nI 0 := pf_1 hw (by decide) (by decide) (by decide)
  have lD : (regL D).length ≤ 4 := rg_4 ⟨D, hD⟩
  have lA : (regL A).length ≤ 4 := rg_4 ⟨A, hA⟩
  have lQ : (regL Q).length ≤ 4 := rg_4 ⟨Q, hQ⟩
  have w1 : ¬ w = nI 115 := fun z => by rw [z] at f3; exact absurd f3 (by decide +kernel)
  have w2 : ¬ w = nI 1048691 := fun z => by rw [z] at f3; exact absurd f3 (by decide +kernel)
  have key : df_X18_system n  (RS B [] 0 0 w (nI D) (nI 0) (nI Q) (nI 2)) = some (RS B ([114, 100, 116, 105, 109, 101] ++ ([32] ++ (regL D))) 1 1 w (nI D) (nI 0) (nI Q) (nI 2)) := by
    simp (disch := (first | assumption | decide | omega | (simp only [List.length_append, List.length_cons, List.length_nil, nxl_0, nxl_s] <;> omega))) only [df_X18_system_92, df_X18_system_141, df_X18_system_125, df_X18_system_87, df_X18_system_40, df_X18_system_37, df_X18_system_18, df_X18_system_0, df_X18_system, reg_S hg hn10, im_S hn20, ta_S hn20, br_S hg hn10, me_S hg hn20, nx_S, pu_S, hop, nw_25714, sw_25714, nw_1701669236, sw_1701669236, nw_435610155363, sw_435610155363, nw_465674789733, sw_465674789733, nw_118066057994853, sw_118066057994853, nw_32762639552835177, sw_32762639552835177, w1, w2, n12, RS_0, RS_1, RS_2, RS_3, RS_4, RS_5, RS_6, RS_7, RS_r1, RS_w1, RS_w2, RS_w3, RS_w4, RS_w5, RS_w6, RS_w7, pt_S, List.append_assoc, List.cons_append, List.nil_append, List.append_nil, nxl_0, nxl_s, eq_self, Nat.reduceEqDiff, Nat.reduceLeDiff, nl_0, nl_1, nl_2, nl_3, nl_4, nl_5, nl_7, nl_12, nl_20, nl_104, nl_115, nl_127, nl_3072, nl_3200, nl_25714, nl_1048691, nl_1701669236, no_1, no_1024, pk_mul, nI_add, nm_ck, nI_clamp, nI_ltI, nI_leI, nI_eq, nb_b2, nb_b1, ↓nb_let, nm_z0, nm_z1, nb_II, nb_IR, nb_RI, nb_RR, nm_IL, nm_IQ, nm_RL, nm_RQ, nm_LI, nm_LR, nm_LL, nm_LQ, nm_QI, nm_QR, nm_QL, nm_QQ, nm_rr, nm_ii, nm_eqm, not_false_eq_true, pk_sub, nm_div, nm_shl, nm_shr, nm_ush, nm_or8, nm_or64, nm_or256, nm_m1, nm_m3, nm_m7, nm_m15, nm_m31, nm_m63, nm_m255, nm_m511, nm_m1023, nm_m2047, nm_m65535, Nat.reduceMod, Nat.reducePow, Nat.reduceAdd, Nat.reduceSub, Nat.reduceMul, nm_bo, nm_bi, nm_rc, nm_ic, nm_ri, nm_rl, nm_rq, nm_ql, nm_qi, nm_li, nm_us, nm_uu, nm_cp, nm_sa31, nm_sa7, nm_m127, nm_m2, nm_nz, nm_nzk, nm_eq32, nm_nzf, if_true, if_false, ↓reduceIte, if_pos, if_neg]
  exact ⟨_, _, _, _, _, lo_115 hop (by rw [eD, a5, eQ, f3, key, tx])⟩
theorem rtx_58 {n : Nat} {B : St} {w d0 a0 b0 f0 : Int32} (hn : 30 < n) (hg : ∀ r : Nat, r < 32 → sR B 1 r = rgT r) (hm : MKp 58 w) : ∃ (k : Nat) (d a b f : Int32), df_X18_longOne n (RS B [] 0 0 w d0 a0 b0 f0) = some (RS B (txL (fun c => tvA c w) 58 w) k 1 w d a b f) := by
  have hw : w &&& nI 4294963327 = nI 3223330931 := hm.2.trans (by decide +kernel)
  have hn10 : 10 < n := by omega
  have hn20 : 20 < n := by omega
  obtain ⟨D, hD, eD⟩ := pt_n (w := w) (k := 7) (m := 5) (by decide) (by decide)
  have hD : D < 32 := hD
  obtain ⟨A, hA, eA⟩ := pt_n (w := w) (k := 15) (m := 5) (by decide) (by decide)
  have hA : A < 32 := hA
  obtain ⟨Q, hQ, eQ⟩ := pt_n (w := w) (k := 20) (m := 5) (by decide) (by decide)
  have hQ : Q < 32 := hQ
  have tx : txL (fun c => tvA c w) 58 w = ([114, 100, 105, 110, 115, 116, 114, 101, 116] ++ ([32] ++ (regL D))) := by
    unfold txL sfxL
    rw [show strL (ko_w 58) = [114, 100, 105, 110, 115, 116, 114, 101, 116] from by decide +kernel, show strL (ko_f 58) = [100] from by decide +kernel, if_neg (show ¬ (ko_b 58 &&& 127 : Int32) = 47 by decide +kernel)]
    simp only [wrT, (show oper 100 (tvA 100 w) = regL D from or_1 (by decide) (by decide) eD hD), ne_eq, reduceCtorEq, not_false_eq_true, not_true_eq_false, if_true, if_false, ↓reduceIte, List.append_assoc, List.cons_append, List.nil_append, List.append_nil, nxl_0, nxl_s]
  have hop : w &&& nI 127 = nI 115 := (sub_3 hw (by decide)).trans (by decide)
  have f3 : fpt w 12 3 = nI 2 := pf_1 hw (by decide) (by decide) (by decide)
  have n12 : fpt w 20 12 = nI 3074 := pf_1 hw (by decide) (by decide) (by decide)
  have a5 : fpt w 15 5 = nI 0 := pf_1 hw (by decide) (by decide) (by decide)
  have lD : (regL D).length ≤ 4 := rg_4 ⟨D, hD⟩
  have lA : (regL A).length ≤ 4 := rg_4 ⟨A, hA⟩
  have lQ : (regL Q).length ≤ 4 := rg_4 ⟨Q, hQ⟩
  have w1 : ¬ w = nI 115 := fun z => by rw [z] at f3; exact absurd f3 (by decide +kernel)
  have w2 : ¬ w = nI 1048691 := fun z => by rw [z] at f3; exact absurd f3 (by decide +kernel)
  have key : df_X18_system n  (RS B [] 0 0 w (nI D) (nI 0) (nI Q) (nI 2)) = some (RS B ([114, 100, 105, 110, 115, 116, 114, 101, 116] ++ ([32] ++ (regL D))) 1 1 w (nI D) (nI 0) (nI Q) (nI 2)) := by
    simp (disch := (first | assumption | decide | omega | (simp only [List.length_append, List.length_cons, List.length_nil, nxl_0, nxl_s] <;> omega))) only [df_X18_system_92, df_X18_system_141, df_X18_system_125, df_X18_system_87, df_X18_system_40, df_X18_system_37, df_X18_system_18, df_X18_system_0, df_X18_system, reg_S hg hn10, im_S hn20, ta_S hn20, br_S hg hn10, me_S hg hn20, nx_S, pu_S, hop, nw_25714, sw_25714, nw_1701669236, sw_1701669236, nw_435610155363, sw_435610155363, nw_465674789733, sw_465674789733, nw_118066057994853, sw_118066057994853, nw_32762639552835177, sw_32762639552835177, w1, w2, n12, RS_0, RS_1, RS_2, RS_3, RS_4, RS_5, RS_6, RS_7, RS_r1, RS_w1, RS_w2, RS_w3, RS_w4, RS_w5, RS_w6, RS_w7, pt_S, List.append_assoc, List.cons_append, List.nil_append, List.append_nil, nxl_0, nxl_s, eq_self, Nat.reduceEqDiff, Nat.reduceLeDiff, nl_0, nl_1, nl_2, nl_3, nl_4, nl_5, nl_7, nl_12, nl_20, nl_104, nl_115, nl_127, nl_3072, nl_3200, nl_25714, nl_1048691, nl_1701669236, no_1, no_1024, pk_mul, nI_add, nm_ck, nI_clamp, nI_ltI, nI_leI, nI_eq, nb_b2, nb_b1, ↓nb_let, nm_z0, nm_z1, nb_II, nb_IR, nb_RI, nb_RR, nm_IL, nm_IQ, nm_RL, nm_RQ, nm_LI, nm_LR, nm_LL, nm_LQ, nm_QI, nm_QR, nm_QL, nm_QQ, nm_rr, nm_ii, nm_eqm, not_false_eq_true, pk_sub, nm_div, nm_shl, nm_shr, nm_ush, nm_or8, nm_or64, nm_or256, nm_m1, nm_m3, nm_m7, nm_m15, nm_m31, nm_m63, nm_m255, nm_m511, nm_m1023, nm_m2047, nm_m65535, Nat.reduceMod, Nat.reducePow, Nat.reduceAdd, Nat.reduceSub, Nat.reduceMul, nm_bo, nm_bi, nm_rc, nm_ic, nm_ri, nm_rl, nm_rq, nm_ql, nm_qi, nm_li, nm_us, nm_uu, nm_cp, nm_sa31, nm_sa7, nm_m127, nm_m2, nm_nz, nm_nzk, nm_eq32, nm_nzf, if_true, if_false, ↓reduceIte, if_pos, if_neg]
  exact ⟨_, _, _, _, _, lo_115 hop (by rw [eD, a5, eQ, f3, key, tx])⟩
theorem rtx_59 {n : Nat} {B : St} {w d0 a0 b0 f0 : Int32} (hn : 30 < n) (hg : ∀ r : Nat, r < 32 → sR B 1 r = rgT r) (hm : MKp 59 w) : ∃ (k : Nat) (d a b f : Int32), df_X18_longOne n (RS B [] 0 0 w d0 a0 b0 f0) = some (RS B (txL (fun c => tvA c w) 59 w) k 1 w d a b f) := by
  have hw : w &&& nI 4294963327 = nI 3355451507 := hm.2.trans (by decide +kernel)
  have hn10 : 10 < n := by omega
  have hn20 : 20 < n := by omega
  obtain ⟨D, hD, eD⟩ := pt_n (w := w) (k := 7) (m := 5) (by decide) (by decide)
  have hD : D < 32 := hD
  obtain ⟨A, hA, eA⟩ := pt_n (w := w) (k := 15) (m := 5) (by decide) (by decide)
  have hA : A < 32 := hA
  obtain ⟨Q, hQ, eQ⟩ := pt_n (w := w) (k := 20) (m := 5) (by decide) (by decide)
  have hQ : Q < 32 := hQ
  have tx : txL (fun c => tvA c w) 59 w = ([114, 100, 99, 121, 99, 108, 101, 104] ++ ([32] ++ (regL D))) := by
    unfold txL sfxL
    rw [show strL (ko_w 59) = [114, 100, 99, 121, 99, 108, 101, 104] from by decide +kernel, show strL (ko_f 59) = [100] from by decide +kernel, if_neg (show ¬ (ko_b 59 &&& 127 : Int32) = 47 by decide +kernel)]
    simp only [wrT, (show oper 100 (tvA 100 w) = regL D from or_1 (by decide) (by decide) eD hD), ne_eq, reduceCtorEq, not_false_eq_true, not_true_eq_false, if_true, if_false, ↓reduceIte, List.append_assoc, List.cons_append, List.nil_append, List.append_nil, nxl_0, nxl_s]
  have hop : w &&& nI 127 = nI 115 := (sub_3 hw (by decide)).trans (by decide)
  have f3 : fpt w 12 3 = nI 2 := pf_1 hw (by decide) (by decide) (by decide)
  have n12 : fpt w 20 12 = nI 3200 := pf_1 hw (by decide) (by decide) (by decide)
  have a5 : fpt w 15 5 = nI 0 := pf_1 hw (by decide) (by decide) (by decide)
  have lD : (regL D).length ≤ 4 := rg_4 ⟨D, hD⟩
  have lA : (regL A).length ≤ 4 := rg_4 ⟨A, hA⟩
  have lQ : (regL Q).length ≤ 4 := rg_4 ⟨Q, hQ⟩
  have w1 : ¬ w = nI 115 := fun z => by rw [z] at f3; exact absurd f3 (by decide +kernel)
  have w2 : ¬ w = nI 1048691 := fun z => by rw [z] at f3; exact absurd f3 (by decide +kernel)
  have key : df_X18_system n  (RS B [] 0 0 w (nI D) (nI 0) (nI Q) (nI 2)) = some (RS B ([114, 100, 99, 121, 99, 108, 101, 104] ++ ([32] ++ (regL D))) 1 1 w (nI D) (nI 0) (nI Q) (nI 2)) := by
    simp (disch := (first | assumption | decide | omega | (simp only [List.length_append, List.length_cons, List.length_nil, nxl_0, nxl_s] <;> omega))) only [df_X18_system_92, df_X18_system_141, df_X18_system_125, df_X18_system_87, df_X18_system_40, df_X18_system_37, df_X18_system_18, df_X18_system_0, df_X18_system, reg_S hg hn10, im_S hn20, ta_S hn20, br_S hg hn10, me_S hg hn20, nx_S, pu_S, hop, nw_25714, sw_25714, nw_1701669236, sw_1701669236, nw_435610155363, sw_435610155363, nw_465674789733, sw_465674789733, nw_118066057994853, sw_118066057994853, nw_32762639552835177, sw_32762639552835177, w1, w2, n12, RS_0, RS_1, RS_2, RS_3, RS_4, RS_5, RS_6, RS_7, RS_r1, RS_w1, RS_w2, RS_w3, RS_w4, RS_w5, RS_w6, RS_w7, pt_S, List.append_assoc, List.cons_append, List.nil_append, List.append_nil, nxl_0, nxl_s, eq_self, Nat.reduceEqDiff, Nat.reduceLeDiff, nl_0, nl_1, nl_2, nl_3, nl_4, nl_5, nl_7, nl_12, nl_20, nl_104, nl_115, nl_127, nl_3072, nl_3200, nl_25714, nl_1048691, nl_1701669236, no_1, no_1024, pk_mul, nI_add, nm_ck, nI_clamp, nI_ltI, nI_leI, nI_eq, nb_b2, nb_b1, ↓nb_let, nm_z0, nm_z1, nb_II, nb_IR, nb_RI, nb_RR, nm_IL, nm_IQ, nm_RL, nm_RQ, nm_LI, nm_LR, nm_LL, nm_LQ, nm_QI, nm_QR, nm_QL, nm_QQ, nm_rr, nm_ii, nm_eqm, not_false_eq_true, pk_sub, nm_div, nm_shl, nm_shr, nm_ush, nm_or8, nm_or64, nm_or256, nm_m1, nm_m3, nm_m7, nm_m15, nm_m31, nm_m63, nm_m255, nm_m511, nm_m1023, nm_m2047, nm_m65535, Nat.reduceMod, Nat.reducePow, Nat.reduceAdd, Nat.reduceSub, Nat.reduceMul, nm_bo, nm_bi, nm_rc, nm_ic, nm_ri, nm_rl, nm_rq, nm_ql, nm_qi, nm_li, nm_us, nm_uu, nm_cp, nm_sa31, nm_sa7, nm_m127, nm_m2, nm_nz, nm_nzk, nm_eq32, nm_nzf, if_true, if_false, ↓reduceIte, if_pos, if_neg]
  exact ⟨_, _, _, _, _, lo_115 hop (by rw [eD, a5, eQ, f3, key, tx])⟩
theorem rtx_60 {n : Nat} {B : St} {w d0 a0 b0 f0 : Int32} (hn : 30 < n) (hg : ∀ r : Nat, r < 32 → sR B 1 r = rgT r) (hm : MKp 60 w) : ∃ (k : Nat) (d a b f : Int32), df_X18_longOne n (RS B [] 0 0 w d0 a0 b0 f0) = some (RS B (txL (fun c => tvA c w) 60 w) k 1 w d a b f) := by
  have hw : w &&& nI 4294963327 = nI 3356500083 := hm.2.trans (by decide +kernel)
  have hn10 : 10 < n := by omega
  have hn20 : 20 < n := by omega
  obtain ⟨D, hD, eD⟩ := pt_n (w := w) (k := 7) (m := 5) (by decide) (by decide)
  have hD : D < 32 := hD
  obtain ⟨A, hA, eA⟩ := pt_n (w := w) (k := 15) (m := 5) (by decide) (by decide)
  have hA : A < 32 := hA
  obtain ⟨Q, hQ, eQ⟩ := pt_n (w := w) (k := 20) (m := 5) (by decide) (by decide)
  have hQ : Q < 32 := hQ
  have tx : txL (fun c => tvA c w) 60 w = ([114, 100, 116, 105, 109, 101, 104] ++ ([32] ++ (regL D))) := by
    unfold txL sfxL
    rw [show strL (ko_w 60) = [114, 100, 116, 105, 109, 101, 104] from by decide +kernel, show strL (ko_f 60) = [100] from by decide +kernel, if_neg (show ¬ (ko_b 60 &&& 127 : Int32) = 47 by decide +kernel)]
    simp only [wrT, (show oper 100 (tvA 100 w) = regL D from or_1 (by decide) (by decide) eD hD), ne_eq, reduceCtorEq, not_false_eq_true, not_true_eq_false, if_true, if_false, ↓reduceIte, List.append_assoc, List.cons_append, List.nil_append, List.append_nil, nxl_0, nxl_s]
  have hop : w &&& nI 127 = nI 115 := (sub_3 hw (by decide)).trans (by decide)
  have f3 : fpt w 12 3 = nI 2 := pf_1 hw (by decide) (by decide) (by decide)
  have n12 : fpt w 20 12 = nI 3201 := pf_1 hw (by decide) (by decide) (by decide)
  have a5 : fpt w 15 5 = nI 0 := pf_1 hw (by decide) (by decide) (by decide)
  have lD : (regL D).length ≤ 4 := rg_4 ⟨D, hD⟩
  have lA : (regL A).length ≤ 4 := rg_4 ⟨A, hA⟩
  have lQ : (regL Q).length ≤ 4 := rg_4 ⟨Q, hQ⟩
  have w1 : ¬ w = nI 115 := fun z => by rw [z] at f3; exact absurd f3 (by decide +kernel)
  have w2 : ¬ w = nI 1048691 := fun z => by rw [z] at f3; exact absurd f3 (by decide +kernel)
  have key : df_X18_system n  (RS B [] 0 0 w (nI D) (nI 0) (nI Q) (nI 2)) = some (RS B ([114, 100, 116, 105, 109, 101, 104] ++ ([32] ++ (regL D))) 1 1 w (nI D) (nI 0) (nI Q) (nI 2)) := by
    simp (disch := (first | assumption | decide | omega | (simp only [List.length_append, List.length_cons, List.length_nil, nxl_0, nxl_s] <;> omega))) only [df_X18_system_92, df_X18_system_141, df_X18_system_125, df_X18_system_87, df_X18_system_40, df_X18_system_37, df_X18_system_18, df_X18_system_0, df_X18_system, reg_S hg hn10, im_S hn20, ta_S hn20, br_S hg hn10, me_S hg hn20, nx_S, pu_S, hop, nw_25714, sw_25714, nw_1701669236, sw_1701669236, nw_435610155363, sw_435610155363, nw_465674789733, sw_465674789733, nw_118066057994853, sw_118066057994853, nw_32762639552835177, sw_32762639552835177, w1, w2, n12, RS_0, RS_1, RS_2, RS_3, RS_4, RS_5, RS_6, RS_7, RS_r1, RS_w1, RS_w2, RS_w3, RS_w4, RS_w5, RS_w6, RS_w7, pt_S, List.append_assoc, List.cons_append, List.nil_append, List.append_nil, nxl_0, nxl_s, eq_self, Nat.reduceEqDiff, Nat.reduceLeDiff, nl_0, nl_1, nl_2, nl_3, nl_4, nl_5, nl_7, nl_12, nl_20, nl_104, nl_115, nl_127, nl_3072, nl_3200, nl_25714, nl_1048691, nl_1701669236, no_1, no_1024, pk_mul, nI_add, nm_ck, nI_clamp, nI_ltI, nI_leI, nI_eq, nb_b2, nb_b1, ↓nb_let, nm_z0, nm_z1, nb_II, nb_IR, nb_RI, nb_RR, nm_IL, nm_IQ, nm_RL, nm_RQ, nm_LI, nm_LR, nm_LL, nm_LQ, nm_QI, nm_QR, nm_QL, nm_QQ, nm_rr, nm_ii, nm_eqm, not_false_eq_true, pk_sub, nm_div, nm_shl, nm_shr, nm_ush, nm_or8, nm_or64, nm_or256, nm_m1, nm_m3, nm_m7, nm_m15, nm_m31, nm_m63, nm_m255, nm_m511, nm_m1023, nm_m2047, nm_m65535, Nat.reduceMod, Nat.reducePow, Nat.reduceAdd, Nat.reduceSub, Nat.reduceMul, nm_bo, nm_bi, nm_rc, nm_ic, nm_ri, nm_rl, nm_rq, nm_ql, nm_qi, nm_li, nm_us, nm_uu, nm_cp, nm_sa31, nm_sa7, nm_m127, nm_m2, nm_nz, nm_nzk, nm_eq32, nm_nzf, if_true, if_false, ↓reduceIte, if_pos, if_neg]
  exact ⟨_, _, _, _, _, lo_115 hop (by rw [eD, a5, eQ, f3, key, tx])⟩
theorem rtx_61 {n : Nat} {B : St} {w d0 a0 b0 f0 : Int32} (hn : 30 < n) (hg : ∀ r : Nat, r < 32 → sR B 1 r = rgT r) (hm : MKp 61 w) : ∃ (k : Nat) (d a b f : Int32), df_X18_longOne n (RS B [] 0 0 w d0 a0 b0 f0) = some (RS B (txL (fun c => tvA c w) 61 w) k 1 w d a b f) := by
  have hw : w &&& nI 4294963327 = nI 3357548659 := hm.2.trans (by decide +kernel)
  have hn10 : 10 < n := by omega
  have hn20 : 20 < n := by omega
  obtain ⟨D, hD, eD⟩ := pt_n (w := w) (k := 7) (m := 5) (by decide) (by decide)
  have hD : D < 32 := hD
  obtain ⟨A, hA, eA⟩ := pt_n (w := w) (k := 15) (m := 5) (by decide) (by decide)
  have hA : A < 32 := hA
  obtain ⟨Q, hQ, eQ⟩ := pt_n (w := w) (k := 20) (m := 5) (by decide) (by decide)
  have hQ : Q < 32 := hQ
  have tx : txL (fun c => tvA c w) 61 w = ([114, 100, 105, 110, 115, 116, 114, 101, 116, 104] ++ ([32] ++ (regL D))) := by
    unfold txL sfxL
    rw [show strL (ko_w 61) = [114, 100, 105, 110, 115, 116, 114, 101, 116, 104] from by decide +kernel, show strL (ko_f 61) = [100] from by decide +kernel, if_neg (show ¬ (ko_b 61 &&& 127 : Int32) = 47 by decide +kernel)]
    simp only [wrT, (show oper 100 (tvA 100 w) = regL D from or_1 (by decide) (by decide) eD hD), ne_eq, reduceCtorEq, not_false_eq_true, not_true_eq_false, if_true, if_false, ↓reduceIte, List.append_assoc, List.cons_append, List.nil_append, List.append_nil, nxl_0, nxl_s]
  have hop : w &&& nI 127 = nI 115 := (sub_3 hw (by decide)).trans (by decide)
  have f3 : fpt w 12 3 = nI 2 := pf_1 hw (by decide) (by decide) (by decide)
  have n12 : fpt w 20 12 = nI 3202 := pf_1 hw (by decide) (by decide) (by decide)
  have a5 : fpt w 15 5 = nI 0 := pf_1 hw (by decide) (by decide) (by decide)
  have lD : (regL D).length ≤ 4 := rg_4 ⟨D, hD⟩
  have lA : (regL A).length ≤ 4 := rg_4 ⟨A, hA⟩
  have lQ : (regL Q).length ≤ 4 := rg_4 ⟨Q, hQ⟩
  have w1 : ¬ w = nI 115 := fun z => by rw [z] at f3; exact absurd f3 (by decide +kernel)
  have w2 : ¬ w = nI 1048691 := fun z => by rw [z] at f3; exact absurd f3 (by decide +kernel)
  have key : df_X18_system n  (RS B [] 0 0 w (nI D) (nI 0) (nI Q) (nI 2)) = some (RS B ([114, 100, 105, 110, 115, 116, 114, 101, 116, 104] ++ ([32] ++ (regL D))) 1 1 w (nI D) (nI 0) (nI Q) (nI 2)) := by
    simp (disch := (first | assumption | decide | omega | (simp only [List.length_append, List.length_cons, List.length_nil, nxl_0, nxl_s] <;> omega))) only [df_X18_system_92, df_X18_system_141, df_X18_system_125, df_X18_system_87, df_X18_system_40, df_X18_system_37, df_X18_system_18, df_X18_system_0, df_X18_system, reg_S hg hn10, im_S hn20, ta_S hn20, br_S hg hn10, me_S hg hn20, nx_S, pu_S, hop, nw_25714, sw_25714, nw_1701669236, sw_1701669236, nw_435610155363, sw_435610155363, nw_465674789733, sw_465674789733, nw_118066057994853, sw_118066057994853, nw_32762639552835177, sw_32762639552835177, w1, w2, n12, RS_0, RS_1, RS_2, RS_3, RS_4, RS_5, RS_6, RS_7, RS_r1, RS_w1, RS_w2, RS_w3, RS_w4, RS_w5, RS_w6, RS_w7, pt_S, List.append_assoc, List.cons_append, List.nil_append, List.append_nil, nxl_0, nxl_s, eq_self, Nat.reduceEqDiff, Nat.reduceLeDiff, nl_0, nl_1, nl_2, nl_3, nl_4, nl_5, nl_7, nl_12, nl_20, nl_104, nl_115, nl_127, nl_3072, nl_3200, nl_25714, nl_1048691, nl_1701669236, no_1, no_1024, pk_mul, nI_add, nm_ck, nI_clamp, nI_ltI, nI_leI, nI_eq, nb_b2, nb_b1, ↓nb_let, nm_z0, nm_z1, nb_II, nb_IR, nb_RI, nb_RR, nm_IL, nm_IQ, nm_RL, nm_RQ, nm_LI, nm_LR, nm_LL, nm_LQ, nm_QI, nm_QR, nm_QL, nm_QQ, nm_rr, nm_ii, nm_eqm, not_false_eq_true, pk_sub, nm_div, nm_shl, nm_shr, nm_ush, nm_or8, nm_or64, nm_or256, nm_m1, nm_m3, nm_m7, nm_m15, nm_m31, nm_m63, nm_m255, nm_m511, nm_m1023, nm_m2047, nm_m65535, Nat.reduceMod, Nat.reducePow, Nat.reduceAdd, Nat.reduceSub, Nat.reduceMul, nm_bo, nm_bi, nm_rc, nm_ic, nm_ri, nm_rl, nm_rq, nm_ql, nm_qi, nm_li, nm_us, nm_uu, nm_cp, nm_sa31, nm_sa7, nm_m127, nm_m2, nm_nz, nm_nzk, nm_eq32, nm_nzf, if_true, if_false, ↓reduceIte, if_pos, if_neg]
  exact ⟨_, _, _, _, _, lo_115 hop (by rw [eD, a5, eQ, f3, key, tx])⟩
theorem rtx_62 {n : Nat} {B : St} {w d0 a0 b0 f0 : Int32} (hn : 30 < n) (hg : ∀ r : Nat, r < 32 → sR B 1 r = rgT r) (hm : MKp 62 w) : ∃ (k : Nat) (d a b f : Int32), df_X18_longOne n (RS B [] 0 0 w d0 a0 b0 f0) = some (RS B (txL (fun c => tvA c w) 62 w) k 1 w d a b f) := by
  have hw : w &&& nI 4294967295 = nI 267386895 := hm.2.trans (by decide +kernel)
  have hn10 : 10 < n := by omega
  have hn20 : 20 < n := by omega
  obtain ⟨D, hD, eD⟩ := pt_n (w := w) (k := 7) (m := 5) (by decide) (by decide)
  have hD : D < 32 := hD
  obtain ⟨A, hA, eA⟩ := pt_n (w := w) (k := 15) (m := 5) (by decide) (by decide)
  have hA : A < 32 := hA
  obtain ⟨Q, hQ, eQ⟩ := pt_n (w := w) (k := 20) (m := 5) (by decide) (by decide)
  have hQ : Q < 32 := hQ
  have tx : txL (fun c => tvA c w) 62 w = ([102, 101, 110, 99, 101]) := by
    unfold txL sfxL
    rw [show strL (ko_w 62) = [102, 101, 110, 99, 101] from by decide +kernel, show strL (ko_f 62) = [] from by decide +kernel, if_neg (show ¬ (ko_b 62 &&& 127 : Int32) = 47 by decide +kernel)]
    simp only [wrT, oc_44, ne_eq, reduceCtorEq, not_false_eq_true, not_true_eq_false, if_true, if_false, ↓reduceIte, List.append_assoc, List.cons_append, List.nil_append, List.append_nil, nxl_0, nxl_s]
  have hop : w &&& nI 127 = nI 15 := (sub_3 hw (by decide)).trans (by decide)
  have f3 : fpt w 12 3 = nI 0 := pf_1 hw (by decide) (by decide) (by decide)
  have lD : (regL D).length ≤ 4 := rg_4 ⟨D, hD⟩
  have lA : (regL A).length ≤ 4 := rg_4 ⟨A, hA⟩
  have lQ : (regL Q).length ≤ 4 := rg_4 ⟨Q, hQ⟩
  have hwx : w = nI 267386895 := by
    have z := hw
    rw [show w &&& nI 4294967295 = w from by
      (apply gb_ext; apply all32; simp (disch := decide) only [gb_or, gb_and, gb_xor, gb_shl, gb_shr, gb_ush, gb_u, gb_n, gb_m, gb_hi, Nat.reduceAdd, Nat.reduceSub, Nat.reducePow, Nat.reduceLT, Nat.reduceLeDiff, Nat.testBit, Nat.reduceShiftRight, Nat.reduceBNe, Nat.reduceAnd, Nat.one_and_eq_mod_two, Nat.reduceMod, decide_true, decide_false, Bool.and_true, Bool.true_and, Bool.and_false, Bool.false_and, Bool.or_false, Bool.false_or, Bool.or_true, Bool.true_or, Bool.not_true, Bool.not_false, if_true, if_false, ↓reduceIte, and_self, bne_self_eq_false, Bool.or_self, Bool.and_self, Bool.not_not])] at z
    exact z
  subst hwx
  have key : df_X18_others n  (RS B [] 0 0 (nI 267386895) (nI D) (nI A) (nI Q) (nI 0)) = some (RS B ([102, 101, 110, 99, 101]) 0 1 (nI 267386895) (nI D) (nI A) (nI Q) (nI 0)) := by
    simp (disch := (first | assumption | decide | omega | (simp only [List.length_append, List.length_cons, List.length_nil, nxl_0, nxl_s] <;> omega))) only [df_X18_others_215, df_X18_others_36, df_X18_others_20, df_X18_others_107, df_X18_others_0, df_X18_others, reg_S hg hn10, im_S hn20, ta_S hn20, br_S hg hn10, me_S hg hn20, nx_S, pu_S, hop, nw_6911340, sw_6911340, nw_7102826, sw_7102826, nw_1919705450, sw_1919705450, nw_427087721825, sw_427087721825, nw_435459876198, sw_435459876198, nw_29605885549372774, sw_29605885549372774, RS_0, RS_1, RS_2, RS_3, RS_4, RS_5, RS_6, RS_7, RS_r1, RS_w1, RS_w2, RS_w3, RS_w4, RS_w5, RS_w6, RS_w7, pt_S, List.append_assoc, List.cons_append, List.nil_append, List.append_nil, nxl_0, nxl_s, eq_self, Nat.reduceEqDiff, Nat.reduceLeDiff, nl_0, nl_1, nl_3, nl_4, nl_5, nl_7, nl_8, nl_10, nl_11, nl_12, nl_20, nl_21, nl_23, nl_31, nl_55, nl_103, nl_111, nl_127, nl_4111, nl_6911340, nl_7102826, nl_267386895, nl_1919705450, no_1, no_1024, pk_mul, nI_add, nm_ck, nI_clamp, nI_ltI, nI_leI, nI_eq, nb_b2, nb_b1, ↓nb_let, nm_z0, nm_z1, nb_II, nb_IR, nb_RI, nb_RR, nm_IL, nm_IQ, nm_RL, nm_RQ, nm_LI, nm_LR, nm_LL, nm_LQ, nm_QI, nm_QR, nm_QL, nm_QQ, nm_rr, nm_ii, nm_eqm, not_false_eq_true, pk_sub, nm_div, nm_shl, nm_shr, nm_ush, nm_or8, nm_or64, nm_or256, nm_m1, nm_m3, nm_m7, nm_m15, nm_m31, nm_m63, nm_m255, nm_m511, nm_m1023, nm_m2047, nm_m65535, Nat.reduceMod, Nat.reducePow, Nat.reduceAdd, Nat.reduceSub, Nat.reduceMul, nm_bo, nm_bi, nm_rc, nm_ic, nm_ri, nm_rl, nm_rq, nm_ql, nm_qi, nm_li, nm_us, nm_uu, nm_cp, nm_sa31, nm_sa7, nm_m127, nm_m2, nm_nz, nm_nzk, nm_eq32, nm_nzf, if_true, if_false, ↓reduceIte, if_pos, if_neg]
  exact ⟨_, _, _, _, _, lo_15 hop (by rw [eD, eA, eQ, f3, key, tx])⟩
theorem rtx_63 {n : Nat} {B : St} {w d0 a0 b0 f0 : Int32} (hn : 30 < n) (hg : ∀ r : Nat, r < 32 → sR B 1 r = rgT r) (hm : MKp 63 w) : ∃ (k : Nat) (d a b f : Int32), df_X18_longOne n (RS B [] 0 0 w d0 a0 b0 f0) = some (RS B (txL (fun c => tvA c w) 63 w) k 1 w d a b f) := by
  have hw : w &&& nI 4294967295 = nI 4111 := hm.2.trans (by decide +kernel)
  have hn10 : 10 < n := by omega
  have hn20 : 20 < n := by omega
  obtain ⟨D, hD, eD⟩ := pt_n (w := w) (k := 7) (m := 5) (by decide) (by decide)
  have hD : D < 32 := hD
  obtain ⟨A, hA, eA⟩ := pt_n (w := w) (k := 15) (m := 5) (by decide) (by decide)
  have hA : A < 32 := hA
  obtain ⟨Q, hQ, eQ⟩ := pt_n (w := w) (k := 20) (m := 5) (by decide) (by decide)
  have hQ : Q < 32 := hQ
  have tx : txL (fun c => tvA c w) 63 w = ([102, 101, 110, 99, 101, 46, 105]) := by
    unfold txL sfxL
    rw [show strL (ko_w 63) = [102, 101, 110, 99, 101, 46, 105] from by decide +kernel, show strL (ko_f 63) = [] from by decide +kernel, if_neg (show ¬ (ko_b 63 &&& 127 : Int32) = 47 by decide +kernel)]
    simp only [wrT, oc_44, ne_eq, reduceCtorEq, not_false_eq_true, not_true_eq_false, if_true, if_false, ↓reduceIte, List.append_assoc, List.cons_append, List.nil_append, List.append_nil, nxl_0, nxl_s]
  have hop : w &&& nI 127 = nI 15 := (sub_3 hw (by decide)).trans (by decide)
  have f3 : fpt w 12 3 = nI 1 := pf_1 hw (by decide) (by decide) (by decide)
  have lD : (regL D).length ≤ 4 := rg_4 ⟨D, hD⟩
  have lA : (regL A).length ≤ 4 := rg_4 ⟨A, hA⟩
  have lQ : (regL Q).length ≤ 4 := rg_4 ⟨Q, hQ⟩
  have hwx : w = nI 4111 := by
    have z := hw
    rw [show w &&& nI 4294967295 = w from by
      (apply gb_ext; apply all32; simp (disch := decide) only [gb_or, gb_and, gb_xor, gb_shl, gb_shr, gb_ush, gb_u, gb_n, gb_m, gb_hi, Nat.reduceAdd, Nat.reduceSub, Nat.reducePow, Nat.reduceLT, Nat.reduceLeDiff, Nat.testBit, Nat.reduceShiftRight, Nat.reduceBNe, Nat.reduceAnd, Nat.one_and_eq_mod_two, Nat.reduceMod, decide_true, decide_false, Bool.and_true, Bool.true_and, Bool.and_false, Bool.false_and, Bool.or_false, Bool.false_or, Bool.or_true, Bool.true_or, Bool.not_true, Bool.not_false, if_true, if_false, ↓reduceIte, and_self, bne_self_eq_false, Bool.or_self, Bool.and_self, Bool.not_not])] at z
    exact z
  subst hwx
  have key : df_X18_others n  (RS B [] 0 0 (nI 4111) (nI D) (nI A) (nI Q) (nI 1)) = some (RS B ([102, 101, 110, 99, 101, 46, 105]) 0 1 (nI 4111) (nI D) (nI A) (nI Q) (nI 1)) := by
    simp (disch := (first | assumption | decide | omega | (simp only [List.length_append, List.length_cons, List.length_nil, nxl_0, nxl_s] <;> omega))) only [df_X18_others_215, df_X18_others_36, df_X18_others_20, df_X18_others_107, df_X18_others_0, df_X18_others, reg_S hg hn10, im_S hn20, ta_S hn20, br_S hg hn10, me_S hg hn20, nx_S, pu_S, hop, nw_6911340, sw_6911340, nw_7102826, sw_7102826, nw_1919705450, sw_1919705450, nw_427087721825, sw_427087721825, nw_435459876198, sw_435459876198, nw_29605885549372774, sw_29605885549372774, RS_0, RS_1, RS_2, RS_3, RS_4, RS_5, RS_6, RS_7, RS_r1, RS_w1, RS_w2, RS_w3, RS_w4, RS_w5, RS_w6, RS_w7, pt_S, List.append_assoc, List.cons_append, List.nil_append, List.append_nil, nxl_0, nxl_s, eq_self, Nat.reduceEqDiff, Nat.reduceLeDiff, nl_0, nl_1, nl_3, nl_4, nl_5, nl_7, nl_8, nl_10, nl_11, nl_12, nl_20, nl_21, nl_23, nl_31, nl_55, nl_103, nl_111, nl_127, nl_4111, nl_6911340, nl_7102826, nl_267386895, nl_1919705450, no_1, no_1024, pk_mul, nI_add, nm_ck, nI_clamp, nI_ltI, nI_leI, nI_eq, nb_b2, nb_b1, ↓nb_let, nm_z0, nm_z1, nb_II, nb_IR, nb_RI, nb_RR, nm_IL, nm_IQ, nm_RL, nm_RQ, nm_LI, nm_LR, nm_LL, nm_LQ, nm_QI, nm_QR, nm_QL, nm_QQ, nm_rr, nm_ii, nm_eqm, not_false_eq_true, pk_sub, nm_div, nm_shl, nm_shr, nm_ush, nm_or8, nm_or64, nm_or256, nm_m1, nm_m3, nm_m7, nm_m15, nm_m31, nm_m63, nm_m255, nm_m511, nm_m1023, nm_m2047, nm_m65535, Nat.reduceMod, Nat.reducePow, Nat.reduceAdd, Nat.reduceSub, Nat.reduceMul, nm_bo, nm_bi, nm_rc, nm_ic, nm_ri, nm_rl, nm_rq, nm_ql, nm_qi, nm_li, nm_us, nm_uu, nm_cp, nm_sa31, nm_sa7, nm_m127, nm_m2, nm_nz, nm_nzk, nm_eq32, nm_nzf, if_true, if_false, ↓reduceIte, if_pos, if_neg]
  exact ⟨_, _, _, _, _, lo_15 hop (by rw [eD, eA, eQ, f3, key, tx])⟩
theorem rtx_64 {n : Nat} {B : St} {w d0 a0 b0 f0 : Int32} (hn : 30 < n) (hg : ∀ r : Nat, r < 32 → sR B 1 r = rgT r) (hm : MKp 64 w) : ∃ (k : Nat) (d a b f : Int32), df_X18_longOne n (RS B [] 0 0 w d0 a0 b0 f0) = some (RS B (txL (fun c => tvA c w) 64 w) k 1 w d a b f) := by
  have hw : w &&& nI 4294967295 = nI 115 := hm.2.trans (by decide +kernel)
  have hn10 : 10 < n := by omega
  have hn20 : 20 < n := by omega
  obtain ⟨D, hD, eD⟩ := pt_n (w := w) (k := 7) (m := 5) (by decide) (by decide)
  have hD : D < 32 := hD
  obtain ⟨A, hA, eA⟩ := pt_n (w := w) (k := 15) (m := 5) (by decide) (by decide)
  have hA : A < 32 := hA
  obtain ⟨Q, hQ, eQ⟩ := pt_n (w := w) (k := 20) (m := 5) (by decide) (by decide)
  have hQ : Q < 32 := hQ
  have tx : txL (fun c => tvA c w) 64 w = ([101, 99, 97, 108, 108]) := by
    unfold txL sfxL
    rw [show strL (ko_w 64) = [101, 99, 97, 108, 108] from by decide +kernel, show strL (ko_f 64) = [] from by decide +kernel, if_neg (show ¬ (ko_b 64 &&& 127 : Int32) = 47 by decide +kernel)]
    simp only [wrT, oc_44, ne_eq, reduceCtorEq, not_false_eq_true, not_true_eq_false, if_true, if_false, ↓reduceIte, List.append_assoc, List.cons_append, List.nil_append, List.append_nil, nxl_0, nxl_s]
  have hop : w &&& nI 127 = nI 115 := (sub_3 hw (by decide)).trans (by decide)
  have f3 : fpt w 12 3 = nI 0 := pf_1 hw (by decide) (by decide) (by decide)
  have n12 : fpt w 20 12 = nI 0 := pf_1 hw (by decide) (by decide) (by decide)
  have lD : (regL D).length ≤ 4 := rg_4 ⟨D, hD⟩
  have lA : (regL A).length ≤ 4 := rg_4 ⟨A, hA⟩
  have lQ : (regL Q).length ≤ 4 := rg_4 ⟨Q, hQ⟩
  have hwx : w = nI 115 := by
    have z := hw
    rw [show w &&& nI 4294967295 = w from by
      (apply gb_ext; apply all32; simp (disch := decide) only [gb_or, gb_and, gb_xor, gb_shl, gb_shr, gb_ush, gb_u, gb_n, gb_m, gb_hi, Nat.reduceAdd, Nat.reduceSub, Nat.reducePow, Nat.reduceLT, Nat.reduceLeDiff, Nat.testBit, Nat.reduceShiftRight, Nat.reduceBNe, Nat.reduceAnd, Nat.one_and_eq_mod_two, Nat.reduceMod, decide_true, decide_false, Bool.and_true, Bool.true_and, Bool.and_false, Bool.false_and, Bool.or_false, Bool.false_or, Bool.or_true, Bool.true_or, Bool.not_true, Bool.not_false, if_true, if_false, ↓reduceIte, and_self, bne_self_eq_false, Bool.or_self, Bool.and_self, Bool.not_not])] at z
    exact z
  subst hwx
  have key : df_X18_system n  (RS B [] 0 0 (nI 115) (nI D) (nI A) (nI Q) (nI 0)) = some (RS B ([101, 99, 97, 108, 108]) 0 1 (nI 115) (nI D) (nI A) (nI Q) (nI 0)) := by
    simp (disch := (first | assumption | decide | omega | (simp only [List.length_append, List.length_cons, List.length_nil, nxl_0, nxl_s] <;> omega))) only [df_X18_system_92, df_X18_system_141, df_X18_system_125, df_X18_system_87, df_X18_system_40, df_X18_system_37, df_X18_system_18, df_X18_system_0, df_X18_system, reg_S hg hn10, im_S hn20, ta_S hn20, br_S hg hn10, me_S hg hn20, nx_S, pu_S, hop, nw_25714, sw_25714, nw_1701669236, sw_1701669236, nw_435610155363, sw_435610155363, nw_465674789733, sw_465674789733, nw_118066057994853, sw_118066057994853, nw_32762639552835177, sw_32762639552835177, n12, RS_0, RS_1, RS_2, RS_3, RS_4, RS_5, RS_6, RS_7, RS_r1, RS_w1, RS_w2, RS_w3, RS_w4, RS_w5, RS_w6, RS_w7, pt_S, List.append_assoc, List.cons_append, List.nil_append, List.append_nil, nxl_0, nxl_s, eq_self, Nat.reduceEqDiff, Nat.reduceLeDiff, nl_0, nl_1, nl_2, nl_3, nl_4, nl_5, nl_7, nl_12, nl_20, nl_104, nl_115, nl_127, nl_3072, nl_3200, nl_25714, nl_1048691, nl_1701669236, no_1, no_1024, pk_mul, nI_add, nm_ck, nI_clamp, nI_ltI, nI_leI, nI_eq, nb_b2, nb_b1, ↓nb_let, nm_z0, nm_z1, nb_II, nb_IR, nb_RI, nb_RR, nm_IL, nm_IQ, nm_RL, nm_RQ, nm_LI, nm_LR, nm_LL, nm_LQ, nm_QI, nm_QR, nm_QL, nm_QQ, nm_rr, nm_ii, nm_eqm, not_false_eq_true, pk_sub, nm_div, nm_shl, nm_shr, nm_ush, nm_or8, nm_or64, nm_or256, nm_m1, nm_m3, nm_m7, nm_m15, nm_m31, nm_m63, nm_m255, nm_m511, nm_m1023, nm_m2047, nm_m65535, Nat.reduceMod, Nat.reducePow, Nat.reduceAdd, Nat.reduceSub, Nat.reduceMul, nm_bo, nm_bi, nm_rc, nm_ic, nm_ri, nm_rl, nm_rq, nm_ql, nm_qi, nm_li, nm_us, nm_uu, nm_cp, nm_sa31, nm_sa7, nm_m127, nm_m2, nm_nz, nm_nzk, nm_eq32, nm_nzf, if_true, if_false, ↓reduceIte, if_pos, if_neg]
  exact ⟨_, _, _, _, _, lo_115 hop (by rw [eD, eA, eQ, f3, key, tx])⟩
theorem rtx_65 {n : Nat} {B : St} {w d0 a0 b0 f0 : Int32} (hn : 30 < n) (hg : ∀ r : Nat, r < 32 → sR B 1 r = rgT r) (hm : MKp 65 w) : ∃ (k : Nat) (d a b f : Int32), df_X18_longOne n (RS B [] 0 0 w d0 a0 b0 f0) = some (RS B (txL (fun c => tvA c w) 65 w) k 1 w d a b f) := by
  have hw : w &&& nI 4294967295 = nI 1048691 := hm.2.trans (by decide +kernel)
  have hn10 : 10 < n := by omega
  have hn20 : 20 < n := by omega
  obtain ⟨D, hD, eD⟩ := pt_n (w := w) (k := 7) (m := 5) (by decide) (by decide)
  have hD : D < 32 := hD
  obtain ⟨A, hA, eA⟩ := pt_n (w := w) (k := 15) (m := 5) (by decide) (by decide)
  have hA : A < 32 := hA
  obtain ⟨Q, hQ, eQ⟩ := pt_n (w := w) (k := 20) (m := 5) (by decide) (by decide)
  have hQ : Q < 32 := hQ
  have tx : txL (fun c => tvA c w) 65 w = ([101, 98, 114, 101, 97, 107]) := by
    unfold txL sfxL
    rw [show strL (ko_w 65) = [101, 98, 114, 101, 97, 107] from by decide +kernel, show strL (ko_f 65) = [] from by decide +kernel, if_neg (show ¬ (ko_b 65 &&& 127 : Int32) = 47 by decide +kernel)]
    simp only [wrT, oc_44, ne_eq, reduceCtorEq, not_false_eq_true, not_true_eq_false, if_true, if_false, ↓reduceIte, List.append_assoc, List.cons_append, List.nil_append, List.append_nil, nxl_0, nxl_s]
  have hop : w &&& nI 127 = nI 115 := (sub_3 hw (by decide)).trans (by decide)
  have f3 : fpt w 12 3 = nI 0 := pf_1 hw (by decide) (by decide) (by decide)
  have n12 : fpt w 20 12 = nI 1 := pf_1 hw (by decide) (by decide) (by decide)
  have lD : (regL D).length ≤ 4 := rg_4 ⟨D, hD⟩
  have lA : (regL A).length ≤ 4 := rg_4 ⟨A, hA⟩
  have lQ : (regL Q).length ≤ 4 := rg_4 ⟨Q, hQ⟩
  have hwx : w = nI 1048691 := by
    have z := hw
    rw [show w &&& nI 4294967295 = w from by
      (apply gb_ext; apply all32; simp (disch := decide) only [gb_or, gb_and, gb_xor, gb_shl, gb_shr, gb_ush, gb_u, gb_n, gb_m, gb_hi, Nat.reduceAdd, Nat.reduceSub, Nat.reducePow, Nat.reduceLT, Nat.reduceLeDiff, Nat.testBit, Nat.reduceShiftRight, Nat.reduceBNe, Nat.reduceAnd, Nat.one_and_eq_mod_two, Nat.reduceMod, decide_true, decide_false, Bool.and_true, Bool.true_and, Bool.and_false, Bool.false_and, Bool.or_false, Bool.false_or, Bool.or_true, Bool.true_or, Bool.not_true, Bool.not_false, if_true, if_false, ↓reduceIte, and_self, bne_self_eq_false, Bool.or_self, Bool.and_self, Bool.not_not])] at z
    exact z
  subst hwx
  have key : df_X18_system n  (RS B [] 0 0 (nI 1048691) (nI D) (nI A) (nI Q) (nI 0)) = some (RS B ([101, 98, 114, 101, 97, 107]) 0 1 (nI 1048691) (nI D) (nI A) (nI Q) (nI 0)) := by
    simp (disch := (first | assumption | decide | omega | (simp only [List.length_append, List.length_cons, List.length_nil, nxl_0, nxl_s] <;> omega))) only [df_X18_system_92, df_X18_system_141, df_X18_system_125, df_X18_system_87, df_X18_system_40, df_X18_system_37, df_X18_system_18, df_X18_system_0, df_X18_system, reg_S hg hn10, im_S hn20, ta_S hn20, br_S hg hn10, me_S hg hn20, nx_S, pu_S, hop, nw_25714, sw_25714, nw_1701669236, sw_1701669236, nw_435610155363, sw_435610155363, nw_465674789733, sw_465674789733, nw_118066057994853, sw_118066057994853, nw_32762639552835177, sw_32762639552835177, n12, RS_0, RS_1, RS_2, RS_3, RS_4, RS_5, RS_6, RS_7, RS_r1, RS_w1, RS_w2, RS_w3, RS_w4, RS_w5, RS_w6, RS_w7, pt_S, List.append_assoc, List.cons_append, List.nil_append, List.append_nil, nxl_0, nxl_s, eq_self, Nat.reduceEqDiff, Nat.reduceLeDiff, nl_0, nl_1, nl_2, nl_3, nl_4, nl_5, nl_7, nl_12, nl_20, nl_104, nl_115, nl_127, nl_3072, nl_3200, nl_25714, nl_1048691, nl_1701669236, no_1, no_1024, pk_mul, nI_add, nm_ck, nI_clamp, nI_ltI, nI_leI, nI_eq, nb_b2, nb_b1, ↓nb_let, nm_z0, nm_z1, nb_II, nb_IR, nb_RI, nb_RR, nm_IL, nm_IQ, nm_RL, nm_RQ, nm_LI, nm_LR, nm_LL, nm_LQ, nm_QI, nm_QR, nm_QL, nm_QQ, nm_rr, nm_ii, nm_eqm, not_false_eq_true, pk_sub, nm_div, nm_shl, nm_shr, nm_ush, nm_or8, nm_or64, nm_or256, nm_m1, nm_m3, nm_m7, nm_m15, nm_m31, nm_m63, nm_m255, nm_m511, nm_m1023, nm_m2047, nm_m65535, Nat.reduceMod, Nat.reducePow, Nat.reduceAdd, Nat.reduceSub, Nat.reduceMul, nm_bo, nm_bi, nm_rc, nm_ic, nm_ri, nm_rl, nm_rq, nm_ql, nm_qi, nm_li, nm_us, nm_uu, nm_cp, nm_sa31, nm_sa7, nm_m127, nm_m2, nm_nz, nm_nzk, nm_eq32, nm_nzf, if_true, if_false, ↓reduceIte, if_pos, if_neg]
  exact ⟨_, _, _, _, _, lo_115 hop (by rw [eD, eA, eQ, f3, key, tx])⟩

