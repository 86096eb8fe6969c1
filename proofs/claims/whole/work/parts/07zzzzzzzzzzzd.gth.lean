/-- the class's operand out of an instruction's bits: where its bits stand (letters HIJKLMNPQSTUVWXY) -/
def pbL : List (List Int32) := [[1048576, 2097152, 4194304, 8388608, 16777216, 0, 0, 0, 0, 0, 0, 0, 0, 0, 0, 0, 0, 0, 0, 0, 0], [1048576, 2097152, 4194304, 8388608, 16777216, 33554432, 67108864, 134217728, 268435456, 536870912, 1073741824, (-2147483648), 0, 0, 0, 0, 0, 0, 0, 0, 0], [0, 2097152, 4194304, 8388608, 16777216, 33554432, 67108864, 134217728, 268435456, 536870912, 1073741824, 1048576, 4096, 8192, 16384, 32768, 65536, 131072, 262144, 524288, (-2147483648)], [0, 8, 16, 32, 2048, 4, 128, 64, 512, 1024, 256, 4096, 0, 0, 0, 0, 0, 0, 0, 0, 0], [0, 8, 16, 1024, 2048, 4, 32, 64, 4096, 0, 0, 0, 0, 0, 0, 0, 0, 0, 0, 0, 0], [4, 8, 16, 32, 64, 4096, 0, 0, 0, 0, 0, 0, 0, 0, 0, 0, 0, 0, 0, 0, 0], [4, 8, 16, 32, 64, 4096, 0, 0, 0, 0, 0, 0, 0, 0, 0, 0, 0, 0, 0, 0, 0], [0, 0, 16, 32, 64, 4096, 4, 8, 0, 0, 0, 0, 0, 0, 0, 0, 0, 0, 0, 0, 0], [0, 0, 512, 1024, 2048, 4096, 128, 256, 0, 0, 0, 0, 0, 0, 0, 0, 0, 0, 0, 0, 0], [128, 256, 512, 1024, 2048, 33554432, 67108864, 134217728, 268435456, 536870912, 1073741824, (-2147483648), 0, 0, 0, 0, 0, 0, 0, 0, 0], [0, 256, 512, 1024, 2048, 33554432, 67108864, 134217728, 268435456, 536870912, 1073741824, 128, (-2147483648), 0, 0, 0, 0, 0, 0, 0, 0], [4096, 8192, 16384, 32768, 65536, 131072, 262144, 524288, 1048576, 2097152, 4194304, 8388608, 16777216, 33554432, 67108864, 134217728, 268435456, 536870912, 1073741824, (-2147483648), 0], [4, 8, 16, 32, 64, 0, 0, 0, 0, 0, 0, 0, 0, 0, 0, 0, 0, 0, 0, 0, 0], [0, 0, 64, 1024, 2048, 4096, 32, 0, 0, 0, 0, 0, 0, 0, 0, 0, 0, 0, 0, 0, 0], [0, 0, 64, 32, 2048, 4096, 128, 256, 512, 1024, 0, 0, 0, 0, 0, 0, 0, 0, 0, 0, 0], [0, 0, 0, 0, 64, 4, 32, 8, 16, 4096, 0, 0, 0, 0, 0, 0, 0, 0, 0, 0, 0]]
def pbT (j k : Nat) : Int32 := (pbL.getD j []).getD k 0
def gaL (j : Nat) : Int32 := ([72, 73, 74, 75, 76, 77, 78, 80, 81, 83, 84, 85, 86, 87, 88, 89] : List Int32).getD j 0
theorem pb_1 : ∀ (j : Fin 16) (k : Fin 21), df_X7_placed 0 (gaL j.1) ((1 : Int32) <<< (nI k.1 &&& 31)) () = some (pbT j.1 k.1, ()) := by decide +kernel
theorem pb_n {n j k : Nat} (hj : j < 16) (hk : k < 21) : df_X7_placed n (gaL j) ((1 : Int32) <<< (nI k &&& 31)) () = some (pbT j k, ()) := (show df_X7_placed n (gaL j) ((1 : Int32) <<< (nI k &&& 31)) () = df_X7_placed 0 (gaL j) ((1 : Int32) <<< (nI k &&& 31)) () from rfl).trans (pb_1 ⟨j, hj⟩ ⟨k, hk⟩)
def gaV (pb : Nat → Int32) (w : Int32) : Nat → Int32
  | 0 => 0
  | k + 1 => if pb k = 0 then gaV pb w k else gaV pb w k ||| (if w &&& pb k = 0 then 0 else (1 : Int32) <<< (nI k &&& 31))
def gaH (pb : Nat → Int32) : Nat → Nat
  | 0 => 0
  | k + 1 => if pb k = 0 then gaH pb k else k
theorem gaV_n (pb : Nat → Int32) (w : Int32) (k : Nat) : gaV pb w (k + 1) = if pb k = 0 then gaV pb w k else gaV pb w k ||| (if w &&& pb k = 0 then 0 else (1 : Int32) <<< (nI k &&& 31)) := rfl
theorem gaH_n (pb : Nat → Int32) (k : Nat) : gaH pb (k + 1) = if pb k = 0 then gaH pb k else k := rfl
def gaE (n : Nat) (lt V : Int32) (H : Nat) : Option (Int32 × Unit) := nd_b2 (df_X7_fits n lt (-16) ()) (fun (q2 : Int32) (_ : Unit) => if q2 = 0 then some (V, ()) else (if ((V >>> (nI H &&& 31)) &&& 1) = 0 then some (V, ()) else some (V - ((2 : Int32) <<< (nI H &&& 31)), ())))
theorem ga_7 {n : Nat} {w lt : Int32} {pb : Nat → Int32} (hp : ∀ k : Nat, k < 21 → df_X7_placed n lt ((1 : Int32) <<< (nI k &&& 31)) () = some (pb k, ())) : ∀ m k g : Nat, k + m = 21 → m < g → df_X7_gathered_7 n g lt w (gaV pb w k) (nI (gaH pb k)) (nI k) () = gaE n lt (gaV pb w 21) (gaH pb 21) := fun m => by
  induction m with
  | zero =>
    intro k g h1 h2
    obtain ⟨g, rfl⟩ : ∃ k : Nat, g = k + 1 := ⟨g - 1, by omega⟩
    have e : k = 21 := by omega
    subst e
    show dF_X7_gathered_7 n (df_X7_gathered_7 n g) lt w (gaV pb w 21) (nI (gaH pb 21)) (nI 21) () = _
    unfold dF_X7_gathered_7 df_X7_gathered_85 df_X7_gathered_86 gaE
    rw [if_pos (show (20 : Int32) < nI 21 by decide)]
  | succ m ih =>
    intro k g h1 h2
    obtain ⟨g, rfl⟩ : ∃ k : Nat, g = k + 1 := ⟨g - 1, by omega⟩
    have i1 := ih (k + 1) g (by omega) (by omega)
    rw [gaV_n, gaH_n] at i1
    show dF_X7_gathered_7 n (df_X7_gathered_7 n g) lt w (gaV pb w k) (nI (gaH pb k)) (nI k) () = _
    unfold dF_X7_gathered_7 df_X7_gathered_48 df_X7_gathered_50
    rw [if_neg (show ¬ (20 : Int32) < nI k from znl (a := 20) (by omega) (by omega)), hp k (by omega), nb_b2, show nI k + Int32.ofInt 1 = nI (k + 1) from nI_add k 1]
    by_cases y : pb k = 0
    · rw [if_pos y, if_pos y] at i1
      rw [if_pos y, nb_let]
      exact i1
    · rw [if_neg y, if_neg y] at i1
      rw [if_neg y]
      by_cases z : w &&& pb k = 0
      · rw [if_pos z] at i1
        rw [if_pos z, nb_let, nb_let]
        exact i1
      · rw [if_neg z] at i1
        rw [if_neg z, nb_let, nb_let]
        exact i1
theorem ga_1 {n j : Nat} (hn : 30 < n) (hj : j < 16) (w : Int32) : df_X7_gathered n (gaL j) w () = gaE n (gaL j) (gaV (pbT j) w 21) (gaH (pbT j) 21) := ga_7 (fun k hk => pb_n hj hk) 21 0 n (by omega) (by omega)
