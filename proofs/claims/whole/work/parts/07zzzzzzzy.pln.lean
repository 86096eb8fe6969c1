/-- which method of the reference reads a statement -/
theorem dsp_1 {n : Nat} {S : St} (hc : cstS S) (k : Nat) (hk : k < 128) (hs : shT k = 1) (od : Int32) : df_X13_statement_136 n (nI k) od S = nd_b1 (df_X13_longs n 1 (ptT k ||| od) S) (fun (s : St) => df_X13_statement_326 n s) := by
  unfold df_X13_statement_136
  rw [if_pos (show (0 : Int32) ≤ nI k from zle (a := 0) (Nat.zero_le _) (by omega)), nm_ck (by omega) (by omega), nI_clamp (by omega), (hc k hk).2.1, hs, nb_let, nm_ck (by omega) (by omega), (hc k hk).2.2, nb_let, if_pos (show (1 : Int32) ≤ 39 by decide), if_neg (show ¬ (1 : Int32) = 12 by decide), if_neg (show ¬ (1 : Int32) = 16 by decide), if_neg (show ¬ (1 : Int32) = 8 by decide), if_neg (show ¬ (1 : Int32) = 34 by decide), if_neg (show ¬ (1 : Int32) = 7 by decide), if_pos (show (1 : Int32) ≤ 34 by decide)]
  unfold df_X13_statement_275
  rw [if_pos (show (1 : Int32) < 12 by decide)]
  unfold df_X13_statement_289
  rfl
theorem dsp_2 {n : Nat} {S : St} (hc : cstS S) (k : Nat) (hk : k < 128) (hs : shT k = 2) (od : Int32) : df_X13_statement_136 n (nI k) od S = nd_b1 (df_X13_longs n 2 (ptT k ||| od) S) (fun (s : St) => df_X13_statement_326 n s) := by
  unfold df_X13_statement_136
  rw [if_pos (show (0 : Int32) ≤ nI k from zle (a := 0) (Nat.zero_le _) (by omega)), nm_ck (by omega) (by omega), nI_clamp (by omega), (hc k hk).2.1, hs, nb_let, nm_ck (by omega) (by omega), (hc k hk).2.2, nb_let, if_pos (show (2 : Int32) ≤ 39 by decide), if_neg (show ¬ (2 : Int32) = 12 by decide), if_neg (show ¬ (2 : Int32) = 16 by decide), if_neg (show ¬ (2 : Int32) = 8 by decide), if_neg (show ¬ (2 : Int32) = 34 by decide), if_neg (show ¬ (2 : Int32) = 7 by decide), if_pos (show (2 : Int32) ≤ 34 by decide)]
  unfold df_X13_statement_275
  rw [if_pos (show (2 : Int32) < 12 by decide)]
  unfold df_X13_statement_289
  rfl
theorem dsp_3 {n : Nat} {S : St} (hc : cstS S) (k : Nat) (hk : k < 128) (hs : shT k = 3) (od : Int32) : df_X13_statement_136 n (nI k) od S = nd_b1 (df_X13_longs n 3 (ptT k ||| od) S) (fun (s : St) => df_X13_statement_326 n s) := by
  unfold df_X13_statement_136
  rw [if_pos (show (0 : Int32) ≤ nI k from zle (a := 0) (Nat.zero_le _) (by omega)), nm_ck (by omega) (by omega), nI_clamp (by omega), (hc k hk).2.1, hs, nb_let, nm_ck (by omega) (by omega), (hc k hk).2.2, nb_let, if_pos (show (3 : Int32) ≤ 39 by decide), if_neg (show ¬ (3 : Int32) = 12 by decide), if_neg (show ¬ (3 : Int32) = 16 by decide), if_neg (show ¬ (3 : Int32) = 8 by decide), if_neg (show ¬ (3 : Int32) = 34 by decide), if_neg (show ¬ (3 : Int32) = 7 by decide), if_pos (show (3 : Int32) ≤ 34 by decide)]
  unfold df_X13_statement_275
  rw [if_pos (show (3 : Int32) < 12 by decide)]
  unfold df_X13_statement_289
  rfl
theorem dsp_4 {n : Nat} {S : St} (hc : cstS S) (k : Nat) (hk : k < 128) (hs : shT k = 4) (od : Int32) : df_X13_statement_136 n (nI k) od S = nd_b1 (df_X13_longs n 4 (ptT k ||| od) S) (fun (s : St) => df_X13_statement_326 n s) := by
  unfold df_X13_statement_136
  rw [if_pos (show (0 : Int32) ≤ nI k from zle (a := 0) (Nat.zero_le _) (by omega)), nm_ck (by omega) (by omega), nI_clamp (by omega), (hc k hk).2.1, hs, nb_let, nm_ck (by omega) (by omega), (hc k hk).2.2, nb_let, if_pos (show (4 : Int32) ≤ 39 by decide), if_neg (show ¬ (4 : Int32) = 12 by decide), if_neg (show ¬ (4 : Int32) = 16 by decide), if_neg (show ¬ (4 : Int32) = 8 by decide), if_neg (show ¬ (4 : Int32) = 34 by decide), if_neg (show ¬ (4 : Int32) = 7 by decide), if_pos (show (4 : Int32) ≤ 34 by decide)]
  unfold df_X13_statement_275
  rw [if_pos (show (4 : Int32) < 12 by decide)]
  unfold df_X13_statement_289
  rfl
theorem dsp_5 {n : Nat} {S : St} (hc : cstS S) (k : Nat) (hk : k < 128) (hs : shT k = 5) (od : Int32) : df_X13_statement_136 n (nI k) od S = nd_b1 (df_X13_longs n 5 (ptT k ||| od) S) (fun (s : St) => df_X13_statement_326 n s) := by
  unfold df_X13_statement_136
  rw [if_pos (show (0 : Int32) ≤ nI k from zle (a := 0) (Nat.zero_le _) (by omega)), nm_ck (by omega) (by omega), nI_clamp (by omega), (hc k hk).2.1, hs, nb_let, nm_ck (by omega) (by omega), (hc k hk).2.2, nb_let, if_pos (show (5 : Int32) ≤ 39 by decide), if_neg (show ¬ (5 : Int32) = 12 by decide), if_neg (show ¬ (5 : Int32) = 16 by decide), if_neg (show ¬ (5 : Int32) = 8 by decide), if_neg (show ¬ (5 : Int32) = 34 by decide), if_neg (show ¬ (5 : Int32) = 7 by decide), if_pos (show (5 : Int32) ≤ 34 by decide)]
  unfold df_X13_statement_275
  rw [if_pos (show (5 : Int32) < 12 by decide)]
  unfold df_X13_statement_289
  rfl
theorem dsp_6 {n : Nat} {S : St} (hc : cstS S) (k : Nat) (hk : k < 128) (hs : shT k = 6) (od : Int32) : df_X13_statement_136 n (nI k) od S = nd_b1 (df_X13_longs n 6 (ptT k ||| od) S) (fun (s : St) => df_X13_statement_326 n s) := by
  unfold df_X13_statement_136
  rw [if_pos (show (0 : Int32) ≤ nI k from zle (a := 0) (Nat.zero_le _) (by omega)), nm_ck (by omega) (by omega), nI_clamp (by omega), (hc k hk).2.1, hs, nb_let, nm_ck (by omega) (by omega), (hc k hk).2.2, nb_let, if_pos (show (6 : Int32) ≤ 39 by decide), if_neg (show ¬ (6 : Int32) = 12 by decide), if_neg (show ¬ (6 : Int32) = 16 by decide), if_neg (show ¬ (6 : Int32) = 8 by decide), if_neg (show ¬ (6 : Int32) = 34 by decide), if_neg (show ¬ (6 : Int32) = 7 by decide), if_pos (show (6 : Int32) ≤ 34 by decide)]
  unfold df_X13_statement_275
  rw [if_pos (show (6 : Int32) < 12 by decide)]
  unfold df_X13_statement_289
  rfl
theorem dsp_7 {n : Nat} {S : St} (hc : cstS S) (k : Nat) (hk : k < 128) (hs : shT k = 7) (od : Int32) : df_X13_statement_136 n (nI k) od S = nd_b1 (df_X13_branches n 7 (ptT k ||| od) S) (fun (s : St) => df_X13_statement_326 n s) := by
  unfold df_X13_statement_136
  rw [if_pos (show (0 : Int32) ≤ nI k from zle (a := 0) (Nat.zero_le _) (by omega)), nm_ck (by omega) (by omega), nI_clamp (by omega), (hc k hk).2.1, hs, nb_let, nm_ck (by omega) (by omega), (hc k hk).2.2, nb_let, if_pos (show (7 : Int32) ≤ 39 by decide), if_neg (show ¬ (7 : Int32) = 12 by decide), if_neg (show ¬ (7 : Int32) = 16 by decide), if_neg (show ¬ (7 : Int32) = 8 by decide), if_neg (show ¬ (7 : Int32) = 34 by decide), if_pos (show (7 : Int32) = 7 from rfl)]
  unfold df_X13_statement_264
  rfl
theorem dsp_8 {n : Nat} {S : St} (hc : cstS S) (k : Nat) (hk : k < 128) (hs : shT k = 8) (od : Int32) : df_X13_statement_136 n (nI k) od S = nd_b1 (df_X13_jumps n 8 (ptT k ||| od) S) (fun (s : St) => df_X13_statement_326 n s) := by
  unfold df_X13_statement_136
  rw [if_pos (show (0 : Int32) ≤ nI k from zle (a := 0) (Nat.zero_le _) (by omega)), nm_ck (by omega) (by omega), nI_clamp (by omega), (hc k hk).2.1, hs, nb_let, nm_ck (by omega) (by omega), (hc k hk).2.2, nb_let, if_pos (show (8 : Int32) ≤ 39 by decide), if_neg (show ¬ (8 : Int32) = 12 by decide), if_neg (show ¬ (8 : Int32) = 16 by decide), if_pos (show (8 : Int32) = 8 from rfl)]
  unfold df_X13_statement_232
  rfl
theorem dsp_9 {n : Nat} {S : St} (hc : cstS S) (k : Nat) (hk : k < 128) (hs : shT k = 9) (od : Int32) : df_X13_statement_136 n (nI k) od S = nd_b1 (df_X13_longs n 9 (ptT k ||| od) S) (fun (s : St) => df_X13_statement_326 n s) := by
  unfold df_X13_statement_136
  rw [if_pos (show (0 : Int32) ≤ nI k from zle (a := 0) (Nat.zero_le _) (by omega)), nm_ck (by omega) (by omega), nI_clamp (by omega), (hc k hk).2.1, hs, nb_let, nm_ck (by omega) (by omega), (hc k hk).2.2, nb_let, if_pos (show (9 : Int32) ≤ 39 by decide), if_neg (show ¬ (9 : Int32) = 12 by decide), if_neg (show ¬ (9 : Int32) = 16 by decide), if_neg (show ¬ (9 : Int32) = 8 by decide), if_neg (show ¬ (9 : Int32) = 34 by decide), if_neg (show ¬ (9 : Int32) = 7 by decide), if_pos (show (9 : Int32) ≤ 34 by decide)]
  unfold df_X13_statement_275
  rw [if_pos (show (9 : Int32) < 12 by decide)]
  unfold df_X13_statement_289
  rfl
theorem dsp_10 {n : Nat} {S : St} (hc : cstS S) (k : Nat) (hk : k < 128) (hs : shT k = 10) (od : Int32) : df_X13_statement_136 n (nI k) od S = nd_b1 (df_X13_longs n 10 (ptT k ||| od) S) (fun (s : St) => df_X13_statement_326 n s) := by
  unfold df_X13_statement_136
  rw [if_pos (show (0 : Int32) ≤ nI k from zle (a := 0) (Nat.zero_le _) (by omega)), nm_ck (by omega) (by omega), nI_clamp (by omega), (hc k hk).2.1, hs, nb_let, nm_ck (by omega) (by omega), (hc k hk).2.2, nb_let, if_pos (show (10 : Int32) ≤ 39 by decide), if_neg (show ¬ (10 : Int32) = 12 by decide), if_neg (show ¬ (10 : Int32) = 16 by decide), if_neg (show ¬ (10 : Int32) = 8 by decide), if_neg (show ¬ (10 : Int32) = 34 by decide), if_neg (show ¬ (10 : Int32) = 7 by decide), if_pos (show (10 : Int32) ≤ 34 by decide)]
  unfold df_X13_statement_275
  rw [if_pos (show (10 : Int32) < 12 by decide)]
  unfold df_X13_statement_289
  rfl
theorem dsp_11 {n : Nat} {S : St} (hc : cstS S) (k : Nat) (hk : k < 128) (hs : shT k = 11) (od : Int32) : df_X13_statement_136 n (nI k) od S = nd_b1 (df_X13_longs n 11 (ptT k ||| od) S) (fun (s : St) => df_X13_statement_326 n s) := by
  unfold df_X13_statement_136
  rw [if_pos (show (0 : Int32) ≤ nI k from zle (a := 0) (Nat.zero_le _) (by omega)), nm_ck (by omega) (by omega), nI_clamp (by omega), (hc k hk).2.1, hs, nb_let, nm_ck (by omega) (by omega), (hc k hk).2.2, nb_let, if_pos (show (11 : Int32) ≤ 39 by decide), if_neg (show ¬ (11 : Int32) = 12 by decide), if_neg (show ¬ (11 : Int32) = 16 by decide), if_neg (show ¬ (11 : Int32) = 8 by decide), if_neg (show ¬ (11 : Int32) = 34 by decide), if_neg (show ¬ (11 : Int32) = 7 by decide), if_pos (show (11 : Int32) ≤ 34 by decide)]
  unfold df_X13_statement_275
  rw [if_pos (show (11 : Int32) < 12 by decide)]
  unfold df_X13_statement_289
  rfl
theorem dsp_12 {n : Nat} {S : St} (hc : cstS S) (k : Nat) (hk : k < 128) (hs : shT k = 12) (od : Int32) : df_X13_statement_136 n (nI k) od S = nd_b1 (df_X13_word n (ptT k ||| od) S) (fun (s : St) => df_X13_statement_326 n s) := by
  unfold df_X13_statement_136
  rw [if_pos (show (0 : Int32) ≤ nI k from zle (a := 0) (Nat.zero_le _) (by omega)), nm_ck (by omega) (by omega), nI_clamp (by omega), (hc k hk).2.1, hs, nb_let, nm_ck (by omega) (by omega), (hc k hk).2.2, nb_let, if_pos (show (12 : Int32) ≤ 39 by decide), if_pos (show (12 : Int32) = 12 from rfl)]
theorem dsp_13 {n : Nat} {S : St} (hc : cstS S) (k : Nat) (hk : k < 128) (hs : shT k = 13) (od : Int32) : df_X13_statement_136 n (nI k) od S = nd_b1 (df_X13_shorts n 13 (ptT k ||| od) S) (fun (s : St) => df_X13_statement_326 n s) := by
  unfold df_X13_statement_136
  rw [if_pos (show (0 : Int32) ≤ nI k from zle (a := 0) (Nat.zero_le _) (by omega)), nm_ck (by omega) (by omega), nI_clamp (by omega), (hc k hk).2.1, hs, nb_let, nm_ck (by omega) (by omega), (hc k hk).2.2, nb_let, if_pos (show (13 : Int32) ≤ 39 by decide), if_neg (show ¬ (13 : Int32) = 12 by decide), if_neg (show ¬ (13 : Int32) = 16 by decide), if_neg (show ¬ (13 : Int32) = 8 by decide), if_neg (show ¬ (13 : Int32) = 34 by decide), if_neg (show ¬ (13 : Int32) = 7 by decide), if_pos (show (13 : Int32) ≤ 34 by decide)]
  unfold df_X13_statement_275
  rw [if_neg (show ¬ (13 : Int32) < 12 by decide), if_neg (show ¬ (13 : Int32) = 30 by decide), if_neg (show ¬ (30 : Int32) ≤ 13 by decide)]
theorem dsp_14 {n : Nat} {S : St} (hc : cstS S) (k : Nat) (hk : k < 128) (hs : shT k = 14) (od : Int32) : df_X13_statement_136 n (nI k) od S = nd_b1 (df_X13_shorts n 14 (ptT k ||| od) S) (fun (s : St) => df_X13_statement_326 n s) := by
  unfold df_X13_statement_136
  rw [if_pos (show (0 : Int32) ≤ nI k from zle (a := 0) (Nat.zero_le _) (by omega)), nm_ck (by omega) (by omega), nI_clamp (by omega), (hc k hk).2.1, hs, nb_let, nm_ck (by omega) (by omega), (hc k hk).2.2, nb_let, if_pos (show (14 : Int32) ≤ 39 by decide), if_neg (show ¬ (14 : Int32) = 12 by decide), if_neg (show ¬ (14 : Int32) = 16 by decide), if_neg (show ¬ (14 : Int32) = 8 by decide), if_neg (show ¬ (14 : Int32) = 34 by decide), if_neg (show ¬ (14 : Int32) = 7 by decide), if_pos (show (14 : Int32) ≤ 34 by decide)]
  unfold df_X13_statement_275
  rw [if_neg (show ¬ (14 : Int32) < 12 by decide), if_neg (show ¬ (14 : Int32) = 30 by decide), if_neg (show ¬ (30 : Int32) ≤ 14 by decide)]
theorem dsp_16 {n : Nat} {S : St} (hc : cstS S) (k : Nat) (hk : k < 128) (hs : shT k = 16) (od : Int32) : df_X13_statement_136 n (nI k) od S = nd_b1 (df_X13_half n (ptT k ||| od) S) (fun (s : St) => df_X13_statement_326 n s) := by
  unfold df_X13_statement_136
  rw [if_pos (show (0 : Int32) ≤ nI k from zle (a := 0) (Nat.zero_le _) (by omega)), nm_ck (by omega) (by omega), nI_clamp (by omega), (hc k hk).2.1, hs, nb_let, nm_ck (by omega) (by omega), (hc k hk).2.2, nb_let, if_pos (show (16 : Int32) ≤ 39 by decide), if_neg (show ¬ (16 : Int32) = 12 by decide), if_pos (show (16 : Int32) = 16 from rfl)]
theorem dsp_17 {n : Nat} {S : St} (hc : cstS S) (k : Nat) (hk : k < 128) (hs : shT k = 17) (od : Int32) : df_X13_statement_136 n (nI k) od S = nd_b1 (df_X13_shorts n 17 (ptT k ||| od) S) (fun (s : St) => df_X13_statement_326 n s) := by
  unfold df_X13_statement_136
  rw [if_pos (show (0 : Int32) ≤ nI k from zle (a := 0) (Nat.zero_le _) (by omega)), nm_ck (by omega) (by omega), nI_clamp (by omega), (hc k hk).2.1, hs, nb_let, nm_ck (by omega) (by omega), (hc k hk).2.2, nb_let, if_pos (show (17 : Int32) ≤ 39 by decide), if_neg (show ¬ (17 : Int32) = 12 by decide), if_neg (show ¬ (17 : Int32) = 16 by decide), if_neg (show ¬ (17 : Int32) = 8 by decide), if_neg (show ¬ (17 : Int32) = 34 by decide), if_neg (show ¬ (17 : Int32) = 7 by decide), if_pos (show (17 : Int32) ≤ 34 by decide)]
  unfold df_X13_statement_275
  rw [if_neg (show ¬ (17 : Int32) < 12 by decide), if_neg (show ¬ (17 : Int32) = 30 by decide), if_neg (show ¬ (30 : Int32) ≤ 17 by decide)]
theorem dsp_18 {n : Nat} {S : St} (hc : cstS S) (k : Nat) (hk : k < 128) (hs : shT k = 18) (od : Int32) : df_X13_statement_136 n (nI k) od S = nd_b1 (df_X13_shorts n 18 (ptT k ||| od) S) (fun (s : St) => df_X13_statement_326 n s) := by
  unfold df_X13_statement_136
  rw [if_pos (show (0 : Int32) ≤ nI k from zle (a := 0) (Nat.zero_le _) (by omega)), nm_ck (by omega) (by omega), nI_clamp (by omega), (hc k hk).2.1, hs, nb_let, nm_ck (by omega) (by omega), (hc k hk).2.2, nb_let, if_pos (show (18 : Int32) ≤ 39 by decide), if_neg (show ¬ (18 : Int32) = 12 by decide), if_neg (show ¬ (18 : Int32) = 16 by decide), if_neg (show ¬ (18 : Int32) = 8 by decide), if_neg (show ¬ (18 : Int32) = 34 by decide), if_neg (show ¬ (18 : Int32) = 7 by decide), if_pos (show (18 : Int32) ≤ 34 by decide)]
  unfold df_X13_statement_275
  rw [if_neg (show ¬ (18 : Int32) < 12 by decide), if_neg (show ¬ (18 : Int32) = 30 by decide), if_neg (show ¬ (30 : Int32) ≤ 18 by decide)]
theorem dsp_19 {n : Nat} {S : St} (hc : cstS S) (k : Nat) (hk : k < 128) (hs : shT k = 19) (od : Int32) : df_X13_statement_136 n (nI k) od S = nd_b1 (df_X13_shorts n 19 (ptT k ||| od) S) (fun (s : St) => df_X13_statement_326 n s) := by
  unfold df_X13_statement_136
  rw [if_pos (show (0 : Int32) ≤ nI k from zle (a := 0) (Nat.zero_le _) (by omega)), nm_ck (by omega) (by omega), nI_clamp (by omega), (hc k hk).2.1, hs, nb_let, nm_ck (by omega) (by omega), (hc k hk).2.2, nb_let, if_pos (show (19 : Int32) ≤ 39 by decide), if_neg (show ¬ (19 : Int32) = 12 by decide), if_neg (show ¬ (19 : Int32) = 16 by decide), if_neg (show ¬ (19 : Int32) = 8 by decide), if_neg (show ¬ (19 : Int32) = 34 by decide), if_neg (show ¬ (19 : Int32) = 7 by decide), if_pos (show (19 : Int32) ≤ 34 by decide)]
  unfold df_X13_statement_275
  rw [if_neg (show ¬ (19 : Int32) < 12 by decide), if_neg (show ¬ (19 : Int32) = 30 by decide), if_neg (show ¬ (30 : Int32) ≤ 19 by decide)]
theorem dsp_20 {n : Nat} {S : St} (hc : cstS S) (k : Nat) (hk : k < 128) (hs : shT k = 20) (od : Int32) : df_X13_statement_136 n (nI k) od S = nd_b1 (df_X13_shorts n 20 (ptT k ||| od) S) (fun (s : St) => df_X13_statement_326 n s) := by
  unfold df_X13_statement_136
  rw [if_pos (show (0 : Int32) ≤ nI k from zle (a := 0) (Nat.zero_le _) (by omega)), nm_ck (by omega) (by omega), nI_clamp (by omega), (hc k hk).2.1, hs, nb_let, nm_ck (by omega) (by omega), (hc k hk).2.2, nb_let, if_pos (show (20 : Int32) ≤ 39 by decide), if_neg (show ¬ (20 : Int32) = 12 by decide), if_neg (show ¬ (20 : Int32) = 16 by decide), if_neg (show ¬ (20 : Int32) = 8 by decide), if_neg (show ¬ (20 : Int32) = 34 by decide), if_neg (show ¬ (20 : Int32) = 7 by decide), if_pos (show (20 : Int32) ≤ 34 by decide)]
  unfold df_X13_statement_275
  rw [if_neg (show ¬ (20 : Int32) < 12 by decide), if_neg (show ¬ (20 : Int32) = 30 by decide), if_neg (show ¬ (30 : Int32) ≤ 20 by decide)]
theorem dsp_21 {n : Nat} {S : St} (hc : cstS S) (k : Nat) (hk : k < 128) (hs : shT k = 21) (od : Int32) : df_X13_statement_136 n (nI k) od S = nd_b1 (df_X13_shorts n 21 (ptT k ||| od) S) (fun (s : St) => df_X13_statement_326 n s) := by
  unfold df_X13_statement_136
  rw [if_pos (show (0 : Int32) ≤ nI k from zle (a := 0) (Nat.zero_le _) (by omega)), nm_ck (by omega) (by omega), nI_clamp (by omega), (hc k hk).2.1, hs, nb_let, nm_ck (by omega) (by omega), (hc k hk).2.2, nb_let, if_pos (show (21 : Int32) ≤ 39 by decide), if_neg (show ¬ (21 : Int32) = 12 by decide), if_neg (show ¬ (21 : Int32) = 16 by decide), if_neg (show ¬ (21 : Int32) = 8 by decide), if_neg (show ¬ (21 : Int32) = 34 by decide), if_neg (show ¬ (21 : Int32) = 7 by decide), if_pos (show (21 : Int32) ≤ 34 by decide)]
  unfold df_X13_statement_275
  rw [if_neg (show ¬ (21 : Int32) < 12 by decide), if_neg (show ¬ (21 : Int32) = 30 by decide), if_neg (show ¬ (30 : Int32) ≤ 21 by decide)]
theorem dsp_22 {n : Nat} {S : St} (hc : cstS S) (k : Nat) (hk : k < 128) (hs : shT k = 22) (od : Int32) : df_X13_statement_136 n (nI k) od S = nd_b1 (df_X13_shorts n 22 (ptT k ||| od) S) (fun (s : St) => df_X13_statement_326 n s) := by
  unfold df_X13_statement_136
  rw [if_pos (show (0 : Int32) ≤ nI k from zle (a := 0) (Nat.zero_le _) (by omega)), nm_ck (by omega) (by omega), nI_clamp (by omega), (hc k hk).2.1, hs, nb_let, nm_ck (by omega) (by omega), (hc k hk).2.2, nb_let, if_pos (show (22 : Int32) ≤ 39 by decide), if_neg (show ¬ (22 : Int32) = 12 by decide), if_neg (show ¬ (22 : Int32) = 16 by decide), if_neg (show ¬ (22 : Int32) = 8 by decide), if_neg (show ¬ (22 : Int32) = 34 by decide), if_neg (show ¬ (22 : Int32) = 7 by decide), if_pos (show (22 : Int32) ≤ 34 by decide)]
  unfold df_X13_statement_275
  rw [if_neg (show ¬ (22 : Int32) < 12 by decide), if_neg (show ¬ (22 : Int32) = 30 by decide), if_neg (show ¬ (30 : Int32) ≤ 22 by decide)]
theorem dsp_23 {n : Nat} {S : St} (hc : cstS S) (k : Nat) (hk : k < 128) (hs : shT k = 23) (od : Int32) : df_X13_statement_136 n (nI k) od S = nd_b1 (df_X13_shorts n 23 (ptT k ||| od) S) (fun (s : St) => df_X13_statement_326 n s) := by
  unfold df_X13_statement_136
  rw [if_pos (show (0 : Int32) ≤ nI k from zle (a := 0) (Nat.zero_le _) (by omega)), nm_ck (by omega) (by omega), nI_clamp (by omega), (hc k hk).2.1, hs, nb_let, nm_ck (by omega) (by omega), (hc k hk).2.2, nb_let, if_pos (show (23 : Int32) ≤ 39 by decide), if_neg (show ¬ (23 : Int32) = 12 by decide), if_neg (show ¬ (23 : Int32) = 16 by decide), if_neg (show ¬ (23 : Int32) = 8 by decide), if_neg (show ¬ (23 : Int32) = 34 by decide), if_neg (show ¬ (23 : Int32) = 7 by decide), if_pos (show (23 : Int32) ≤ 34 by decide)]
  unfold df_X13_statement_275
  rw [if_neg (show ¬ (23 : Int32) < 12 by decide), if_neg (show ¬ (23 : Int32) = 30 by decide), if_neg (show ¬ (30 : Int32) ≤ 23 by decide)]
theorem dsp_24 {n : Nat} {S : St} (hc : cstS S) (k : Nat) (hk : k < 128) (hs : shT k = 24) (od : Int32) : df_X13_statement_136 n (nI k) od S = nd_b1 (df_X13_shorts n 24 (ptT k ||| od) S) (fun (s : St) => df_X13_statement_326 n s) := by
  unfold df_X13_statement_136
  rw [if_pos (show (0 : Int32) ≤ nI k from zle (a := 0) (Nat.zero_le _) (by omega)), nm_ck (by omega) (by omega), nI_clamp (by omega), (hc k hk).2.1, hs, nb_let, nm_ck (by omega) (by omega), (hc k hk).2.2, nb_let, if_pos (show (24 : Int32) ≤ 39 by decide), if_neg (show ¬ (24 : Int32) = 12 by decide), if_neg (show ¬ (24 : Int32) = 16 by decide), if_neg (show ¬ (24 : Int32) = 8 by decide), if_neg (show ¬ (24 : Int32) = 34 by decide), if_neg (show ¬ (24 : Int32) = 7 by decide), if_pos (show (24 : Int32) ≤ 34 by decide)]
  unfold df_X13_statement_275
  rw [if_neg (show ¬ (24 : Int32) < 12 by decide), if_neg (show ¬ (24 : Int32) = 30 by decide), if_neg (show ¬ (30 : Int32) ≤ 24 by decide)]
theorem dsp_25 {n : Nat} {S : St} (hc : cstS S) (k : Nat) (hk : k < 128) (hs : shT k = 25) (od : Int32) : df_X13_statement_136 n (nI k) od S = nd_b1 (df_X13_shorts n 25 (ptT k ||| od) S) (fun (s : St) => df_X13_statement_326 n s) := by
  unfold df_X13_statement_136
  rw [if_pos (show (0 : Int32) ≤ nI k from zle (a := 0) (Nat.zero_le _) (by omega)), nm_ck (by omega) (by omega), nI_clamp (by omega), (hc k hk).2.1, hs, nb_let, nm_ck (by omega) (by omega), (hc k hk).2.2, nb_let, if_pos (show (25 : Int32) ≤ 39 by decide), if_neg (show ¬ (25 : Int32) = 12 by decide), if_neg (show ¬ (25 : Int32) = 16 by decide), if_neg (show ¬ (25 : Int32) = 8 by decide), if_neg (show ¬ (25 : Int32) = 34 by decide), if_neg (show ¬ (25 : Int32) = 7 by decide), if_pos (show (25 : Int32) ≤ 34 by decide)]
  unfold df_X13_statement_275
  rw [if_neg (show ¬ (25 : Int32) < 12 by decide), if_neg (show ¬ (25 : Int32) = 30 by decide), if_neg (show ¬ (30 : Int32) ≤ 25 by decide)]
theorem dsp_26 {n : Nat} {S : St} (hc : cstS S) (k : Nat) (hk : k < 128) (hs : shT k = 26) (od : Int32) : df_X13_statement_136 n (nI k) od S = nd_b1 (df_X13_shorts n 26 (ptT k ||| od) S) (fun (s : St) => df_X13_statement_326 n s) := by
  unfold df_X13_statement_136
  rw [if_pos (show (0 : Int32) ≤ nI k from zle (a := 0) (Nat.zero_le _) (by omega)), nm_ck (by omega) (by omega), nI_clamp (by omega), (hc k hk).2.1, hs, nb_let, nm_ck (by omega) (by omega), (hc k hk).2.2, nb_let, if_pos (show (26 : Int32) ≤ 39 by decide), if_neg (show ¬ (26 : Int32) = 12 by decide), if_neg (show ¬ (26 : Int32) = 16 by decide), if_neg (show ¬ (26 : Int32) = 8 by decide), if_neg (show ¬ (26 : Int32) = 34 by decide), if_neg (show ¬ (26 : Int32) = 7 by decide), if_pos (show (26 : Int32) ≤ 34 by decide)]
  unfold df_X13_statement_275
  rw [if_neg (show ¬ (26 : Int32) < 12 by decide), if_neg (show ¬ (26 : Int32) = 30 by decide), if_neg (show ¬ (30 : Int32) ≤ 26 by decide)]
theorem dsp_27 {n : Nat} {S : St} (hc : cstS S) (k : Nat) (hk : k < 128) (hs : shT k = 27) (od : Int32) : df_X13_statement_136 n (nI k) od S = nd_b1 (df_X13_shorts n 27 (ptT k ||| od) S) (fun (s : St) => df_X13_statement_326 n s) := by
  unfold df_X13_statement_136
  rw [if_pos (show (0 : Int32) ≤ nI k from zle (a := 0) (Nat.zero_le _) (by omega)), nm_ck (by omega) (by omega), nI_clamp (by omega), (hc k hk).2.1, hs, nb_let, nm_ck (by omega) (by omega), (hc k hk).2.2, nb_let, if_pos (show (27 : Int32) ≤ 39 by decide), if_neg (show ¬ (27 : Int32) = 12 by decide), if_neg (show ¬ (27 : Int32) = 16 by decide), if_neg (show ¬ (27 : Int32) = 8 by decide), if_neg (show ¬ (27 : Int32) = 34 by decide), if_neg (show ¬ (27 : Int32) = 7 by decide), if_pos (show (27 : Int32) ≤ 34 by decide)]
  unfold df_X13_statement_275
  rw [if_neg (show ¬ (27 : Int32) < 12 by decide), if_neg (show ¬ (27 : Int32) = 30 by decide), if_neg (show ¬ (30 : Int32) ≤ 27 by decide)]
theorem dsp_28 {n : Nat} {S : St} (hc : cstS S) (k : Nat) (hk : k < 128) (hs : shT k = 28) (od : Int32) : df_X13_statement_136 n (nI k) od S = nd_b1 (df_X13_shorts n 28 (ptT k ||| od) S) (fun (s : St) => df_X13_statement_326 n s) := by
  unfold df_X13_statement_136
  rw [if_pos (show (0 : Int32) ≤ nI k from zle (a := 0) (Nat.zero_le _) (by omega)), nm_ck (by omega) (by omega), nI_clamp (by omega), (hc k hk).2.1, hs, nb_let, nm_ck (by omega) (by omega), (hc k hk).2.2, nb_let, if_pos (show (28 : Int32) ≤ 39 by decide), if_neg (show ¬ (28 : Int32) = 12 by decide), if_neg (show ¬ (28 : Int32) = 16 by decide), if_neg (show ¬ (28 : Int32) = 8 by decide), if_neg (show ¬ (28 : Int32) = 34 by decide), if_neg (show ¬ (28 : Int32) = 7 by decide), if_pos (show (28 : Int32) ≤ 34 by decide)]
  unfold df_X13_statement_275
  rw [if_neg (show ¬ (28 : Int32) < 12 by decide), if_neg (show ¬ (28 : Int32) = 30 by decide), if_neg (show ¬ (30 : Int32) ≤ 28 by decide)]
theorem dsp_29 {n : Nat} {S : St} (hc : cstS S) (k : Nat) (hk : k < 128) (hs : shT k = 29) (od : Int32) : df_X13_statement_136 n (nI k) od S = nd_b1 (df_X13_shorts n 29 (ptT k ||| od) S) (fun (s : St) => df_X13_statement_326 n s) := by
  unfold df_X13_statement_136
  rw [if_pos (show (0 : Int32) ≤ nI k from zle (a := 0) (Nat.zero_le _) (by omega)), nm_ck (by omega) (by omega), nI_clamp (by omega), (hc k hk).2.1, hs, nb_let, nm_ck (by omega) (by omega), (hc k hk).2.2, nb_let, if_pos (show (29 : Int32) ≤ 39 by decide), if_neg (show ¬ (29 : Int32) = 12 by decide), if_neg (show ¬ (29 : Int32) = 16 by decide), if_neg (show ¬ (29 : Int32) = 8 by decide), if_neg (show ¬ (29 : Int32) = 34 by decide), if_neg (show ¬ (29 : Int32) = 7 by decide), if_pos (show (29 : Int32) ≤ 34 by decide)]
  unfold df_X13_statement_275
  rw [if_neg (show ¬ (29 : Int32) < 12 by decide), if_neg (show ¬ (29 : Int32) = 30 by decide), if_neg (show ¬ (30 : Int32) ≤ 29 by decide)]
theorem dsp_30 {n : Nat} {S : St} (hc : cstS S) (k : Nat) (hk : k < 128) (hs : shT k = 30) (od : Int32) : df_X13_statement_136 n (nI k) od S = nd_b1 (df_X13_longs n 30 (ptT k ||| od) S) (fun (s : St) => df_X13_statement_326 n s) := by
  unfold df_X13_statement_136
  rw [if_pos (show (0 : Int32) ≤ nI k from zle (a := 0) (Nat.zero_le _) (by omega)), nm_ck (by omega) (by omega), nI_clamp (by omega), (hc k hk).2.1, hs, nb_let, nm_ck (by omega) (by omega), (hc k hk).2.2, nb_let, if_pos (show (30 : Int32) ≤ 39 by decide), if_neg (show ¬ (30 : Int32) = 12 by decide), if_neg (show ¬ (30 : Int32) = 16 by decide), if_neg (show ¬ (30 : Int32) = 8 by decide), if_neg (show ¬ (30 : Int32) = 34 by decide), if_neg (show ¬ (30 : Int32) = 7 by decide), if_pos (show (30 : Int32) ≤ 34 by decide)]
  unfold df_X13_statement_275
  rw [if_neg (show ¬ (30 : Int32) < 12 by decide), if_pos (show (30 : Int32) = 30 from rfl)]
  unfold df_X13_statement_289
  rfl
theorem dsp_31 {n : Nat} {S : St} (hc : cstS S) (k : Nat) (hk : k < 128) (hs : shT k = 31) (od : Int32) : df_X13_statement_136 n (nI k) od S = nd_b1 (df_X13_others n 31 (ptT k ||| od) S) (fun (s : St) => df_X13_statement_326 n s) := by
  unfold df_X13_statement_136
  rw [if_pos (show (0 : Int32) ≤ nI k from zle (a := 0) (Nat.zero_le _) (by omega)), nm_ck (by omega) (by omega), nI_clamp (by omega), (hc k hk).2.1, hs, nb_let, nm_ck (by omega) (by omega), (hc k hk).2.2, nb_let, if_pos (show (31 : Int32) ≤ 39 by decide), if_neg (show ¬ (31 : Int32) = 12 by decide), if_neg (show ¬ (31 : Int32) = 16 by decide), if_neg (show ¬ (31 : Int32) = 8 by decide), if_neg (show ¬ (31 : Int32) = 34 by decide), if_neg (show ¬ (31 : Int32) = 7 by decide), if_pos (show (31 : Int32) ≤ 34 by decide)]
  unfold df_X13_statement_275
  rw [if_neg (show ¬ (31 : Int32) < 12 by decide), if_neg (show ¬ (31 : Int32) = 30 by decide), if_pos (show (30 : Int32) ≤ 31 by decide)]
theorem dsp_32 {n : Nat} {S : St} (hc : cstS S) (k : Nat) (hk : k < 128) (hs : shT k = 32) (od : Int32) : df_X13_statement_136 n (nI k) od S = nd_b1 (df_X13_others n 32 (ptT k ||| od) S) (fun (s : St) => df_X13_statement_326 n s) := by
  unfold df_X13_statement_136
  rw [if_pos (show (0 : Int32) ≤ nI k from zle (a := 0) (Nat.zero_le _) (by omega)), nm_ck (by omega) (by omega), nI_clamp (by omega), (hc k hk).2.1, hs, nb_let, nm_ck (by omega) (by omega), (hc k hk).2.2, nb_let, if_pos (show (32 : Int32) ≤ 39 by decide), if_neg (show ¬ (32 : Int32) = 12 by decide), if_neg (show ¬ (32 : Int32) = 16 by decide), if_neg (show ¬ (32 : Int32) = 8 by decide), if_neg (show ¬ (32 : Int32) = 34 by decide), if_neg (show ¬ (32 : Int32) = 7 by decide), if_pos (show (32 : Int32) ≤ 34 by decide)]
  unfold df_X13_statement_275
  rw [if_neg (show ¬ (32 : Int32) < 12 by decide), if_neg (show ¬ (32 : Int32) = 30 by decide), if_pos (show (30 : Int32) ≤ 32 by decide)]
theorem dsp_33 {n : Nat} {S : St} (hc : cstS S) (k : Nat) (hk : k < 128) (hs : shT k = 33) (od : Int32) : df_X13_statement_136 n (nI k) od S = nd_b1 (df_X13_others n 33 (ptT k ||| od) S) (fun (s : St) => df_X13_statement_326 n s) := by
  unfold df_X13_statement_136
  rw [if_pos (show (0 : Int32) ≤ nI k from zle (a := 0) (Nat.zero_le _) (by omega)), nm_ck (by omega) (by omega), nI_clamp (by omega), (hc k hk).2.1, hs, nb_let, nm_ck (by omega) (by omega), (hc k hk).2.2, nb_let, if_pos (show (33 : Int32) ≤ 39 by decide), if_neg (show ¬ (33 : Int32) = 12 by decide), if_neg (show ¬ (33 : Int32) = 16 by decide), if_neg (show ¬ (33 : Int32) = 8 by decide), if_neg (show ¬ (33 : Int32) = 34 by decide), if_neg (show ¬ (33 : Int32) = 7 by decide), if_pos (show (33 : Int32) ≤ 34 by decide)]
  unfold df_X13_statement_275
  rw [if_neg (show ¬ (33 : Int32) < 12 by decide), if_neg (show ¬ (33 : Int32) = 30 by decide), if_pos (show (30 : Int32) ≤ 33 by decide)]
theorem dsp_34 {n : Nat} {S : St} (hc : cstS S) (k : Nat) (hk : k < 128) (hs : shT k = 34) (od : Int32) : df_X13_statement_136 n (nI k) od S = nd_b1 (df_X13_jumps n 34 (ptT k ||| od) S) (fun (s : St) => df_X13_statement_326 n s) := by
  unfold df_X13_statement_136
  rw [if_pos (show (0 : Int32) ≤ nI k from zle (a := 0) (Nat.zero_le _) (by omega)), nm_ck (by omega) (by omega), nI_clamp (by omega), (hc k hk).2.1, hs, nb_let, nm_ck (by omega) (by omega), (hc k hk).2.2, nb_let, if_pos (show (34 : Int32) ≤ 39 by decide), if_neg (show ¬ (34 : Int32) = 12 by decide), if_neg (show ¬ (34 : Int32) = 16 by decide), if_neg (show ¬ (34 : Int32) = 8 by decide), if_pos (show (34 : Int32) = 34 from rfl)]
  unfold df_X13_statement_232
  rfl
theorem dsp_35 {n : Nat} {S : St} (hc : cstS S) (k : Nat) (hk : k < 128) (hs : shT k = 35) (od : Int32) : df_X13_statement_136 n (nI k) od S = nd_b1 (df_X13_branches n 35 (ptT k ||| od) S) (fun (s : St) => df_X13_statement_326 n s) := by
  unfold df_X13_statement_136
  rw [if_pos (show (0 : Int32) ≤ nI k from zle (a := 0) (Nat.zero_le _) (by omega)), nm_ck (by omega) (by omega), nI_clamp (by omega), (hc k hk).2.1, hs, nb_let, nm_ck (by omega) (by omega), (hc k hk).2.2, nb_let, if_pos (show (35 : Int32) ≤ 39 by decide), if_neg (show ¬ (35 : Int32) = 12 by decide), if_neg (show ¬ (35 : Int32) = 16 by decide), if_neg (show ¬ (35 : Int32) = 8 by decide), if_neg (show ¬ (35 : Int32) = 34 by decide), if_neg (show ¬ (35 : Int32) = 7 by decide), if_neg (show ¬ (35 : Int32) ≤ 34 by decide), if_neg (show ¬ (38 : Int32) ≤ 35 by decide)]
  unfold df_X13_statement_264
  rfl
theorem dsp_36 {n : Nat} {S : St} (hc : cstS S) (k : Nat) (hk : k < 128) (hs : shT k = 36) (od : Int32) : df_X13_statement_136 n (nI k) od S = nd_b1 (df_X13_branches n 36 (ptT k ||| od) S) (fun (s : St) => df_X13_statement_326 n s) := by
  unfold df_X13_statement_136
  rw [if_pos (show (0 : Int32) ≤ nI k from zle (a := 0) (Nat.zero_le _) (by omega)), nm_ck (by omega) (by omega), nI_clamp (by omega), (hc k hk).2.1, hs, nb_let, nm_ck (by omega) (by omega), (hc k hk).2.2, nb_let, if_pos (show (36 : Int32) ≤ 39 by decide), if_neg (show ¬ (36 : Int32) = 12 by decide), if_neg (show ¬ (36 : Int32) = 16 by decide), if_neg (show ¬ (36 : Int32) = 8 by decide), if_neg (show ¬ (36 : Int32) = 34 by decide), if_neg (show ¬ (36 : Int32) = 7 by decide), if_neg (show ¬ (36 : Int32) ≤ 34 by decide), if_neg (show ¬ (38 : Int32) ≤ 36 by decide)]
  unfold df_X13_statement_264
  rfl
theorem dsp_37 {n : Nat} {S : St} (hc : cstS S) (k : Nat) (hk : k < 128) (hs : shT k = 37) (od : Int32) : df_X13_statement_136 n (nI k) od S = nd_b1 (df_X13_branches n 37 (ptT k ||| od) S) (fun (s : St) => df_X13_statement_326 n s) := by
  unfold df_X13_statement_136
  rw [if_pos (show (0 : Int32) ≤ nI k from zle (a := 0) (Nat.zero_le _) (by omega)), nm_ck (by omega) (by omega), nI_clamp (by omega), (hc k hk).2.1, hs, nb_let, nm_ck (by omega) (by omega), (hc k hk).2.2, nb_let, if_pos (show (37 : Int32) ≤ 39 by decide), if_neg (show ¬ (37 : Int32) = 12 by decide), if_neg (show ¬ (37 : Int32) = 16 by decide), if_neg (show ¬ (37 : Int32) = 8 by decide), if_neg (show ¬ (37 : Int32) = 34 by decide), if_neg (show ¬ (37 : Int32) = 7 by decide), if_neg (show ¬ (37 : Int32) ≤ 34 by decide), if_neg (show ¬ (38 : Int32) ≤ 37 by decide)]
  unfold df_X13_statement_264
  rfl
theorem dsp_38 {n : Nat} {S : St} (hc : cstS S) (k : Nat) (hk : k < 128) (hs : shT k = 38) (od : Int32) : df_X13_statement_136 n (nI k) od S = nd_b1 (df_X13_others n 38 (ptT k ||| od) S) (fun (s : St) => df_X13_statement_326 n s) := by
  unfold df_X13_statement_136
  rw [if_pos (show (0 : Int32) ≤ nI k from zle (a := 0) (Nat.zero_le _) (by omega)), nm_ck (by omega) (by omega), nI_clamp (by omega), (hc k hk).2.1, hs, nb_let, nm_ck (by omega) (by omega), (hc k hk).2.2, nb_let, if_pos (show (38 : Int32) ≤ 39 by decide), if_neg (show ¬ (38 : Int32) = 12 by decide), if_neg (show ¬ (38 : Int32) = 16 by decide), if_neg (show ¬ (38 : Int32) = 8 by decide), if_neg (show ¬ (38 : Int32) = 34 by decide), if_neg (show ¬ (38 : Int32) = 7 by decide), if_neg (show ¬ (38 : Int32) ≤ 34 by decide), if_pos (show (38 : Int32) ≤ 38 by decide)]
  unfold df_X13_statement_275
  rw [if_neg (show ¬ (38 : Int32) < 12 by decide), if_neg (show ¬ (38 : Int32) = 30 by decide), if_pos (show (30 : Int32) ≤ 38 by decide)]
theorem dsp_39 {n : Nat} {S : St} (hc : cstS S) (k : Nat) (hk : k < 128) (hs : shT k = 39) (od : Int32) : df_X13_statement_136 n (nI k) od S = nd_b1 (df_X13_others n 39 (ptT k ||| od) S) (fun (s : St) => df_X13_statement_326 n s) := by
  unfold df_X13_statement_136
  rw [if_pos (show (0 : Int32) ≤ nI k from zle (a := 0) (Nat.zero_le _) (by omega)), nm_ck (by omega) (by omega), nI_clamp (by omega), (hc k hk).2.1, hs, nb_let, nm_ck (by omega) (by omega), (hc k hk).2.2, nb_let, if_pos (show (39 : Int32) ≤ 39 by decide), if_neg (show ¬ (39 : Int32) = 12 by decide), if_neg (show ¬ (39 : Int32) = 16 by decide), if_neg (show ¬ (39 : Int32) = 8 by decide), if_neg (show ¬ (39 : Int32) = 34 by decide), if_neg (show ¬ (39 : Int32) = 7 by decide), if_neg (show ¬ (39 : Int32) ≤ 34 by decide), if_pos (show (38 : Int32) ≤ 39 by decide)]
  unfold df_X13_statement_275
  rw [if_neg (show ¬ (39 : Int32) < 12 by decide), if_neg (show ¬ (39 : Int32) = 30 by decide), if_pos (show (30 : Int32) ≤ 39 by decide)]
theorem frs_1 : ∀ y : Fin 128, shT (sgm y.1) = 1 → FRM y.1 = [100, 44, 97, 44, 98] ∧ ptT (sgm y.1) = ko_b y.1 ∧ ko_b y.1 &&& 3 = 3 := by decide +kernel
theorem frs_2 : ∀ y : Fin 128, shT (sgm y.1) = 2 → FRM y.1 = [100, 44, 97, 44, 73] ∧ ptT (sgm y.1) = ko_b y.1 ∧ ko_b y.1 &&& 3 = 3 := by decide +kernel
theorem frs_3 : ∀ y : Fin 128, shT (sgm y.1) = 3 → FRM y.1 = [100, 44, 97, 44, 72] ∧ ptT (sgm y.1) = ko_b y.1 ∧ ko_b y.1 &&& 3 = 3 := by decide +kernel
theorem frs_4 : ∀ y : Fin 128, shT (sgm y.1) = 4 → FRM y.1 = [100, 44, 73, 40, 97, 41] ∧ ptT (sgm y.1) = ko_b y.1 ∧ ko_b y.1 &&& 3 = 3 := by decide +kernel
theorem frs_5 : ∀ y : Fin 128, shT (sgm y.1) = 5 → FRM y.1 = [98, 44, 83, 40, 97, 41] ∧ ptT (sgm y.1) = ko_b y.1 ∧ ko_b y.1 &&& 3 = 3 := by decide +kernel
theorem frs_6 : ∀ y : Fin 128, shT (sgm y.1) = 6 → FRM y.1 = [100, 44, 85] ∧ ptT (sgm y.1) = ko_b y.1 ∧ ko_b y.1 &&& 3 = 3 := by decide +kernel
theorem frs_9 : ∀ y : Fin 128, shT (sgm y.1) = 9 → FRM y.1 = [100, 44, 98, 44, 40, 97, 41] ∧ ptT (sgm y.1) = ko_b y.1 ∧ ko_b y.1 &&& 3 = 3 := by decide +kernel
theorem frs_10 : ∀ y : Fin 128, shT (sgm y.1) = 10 → FRM y.1 = [100, 44, 40, 97, 41] ∧ ptT (sgm y.1) = ko_b y.1 ∧ ko_b y.1 &&& 3 = 3 := by decide +kernel
theorem frs_11 : ∀ y : Fin 128, shT (sgm y.1) = 11 → FRM y.1 = [100] ∧ ptT (sgm y.1) = ko_b y.1 ∧ ko_b y.1 &&& 3 = 3 := by decide +kernel
theorem frs_12 : ∀ y : Fin 128, shT (sgm y.1) = 12 → FRM y.1 = [] ∧ ptT (sgm y.1) = ko_b y.1 ∧ ko_b y.1 &&& 3 = 3 := by decide +kernel
theorem frs_13 : ∀ y : Fin 128, shT (sgm y.1) = 13 → FRM y.1 = [112, 44, 88] ∧ ptT (sgm y.1) = ko_b y.1 ∧ ¬ ko_b y.1 &&& 3 = 3 := by decide +kernel
theorem frs_14 : ∀ y : Fin 128, shT (sgm y.1) = 14 → FRM y.1 = [112, 44, 87, 40, 113, 41] ∧ ptT (sgm y.1) = ko_b y.1 ∧ ¬ ko_b y.1 &&& 3 = 3 := by decide +kernel
theorem frs_16 : ∀ y : Fin 128, shT (sgm y.1) = 16 → FRM y.1 = [] ∧ ptT (sgm y.1) = ko_b y.1 ∧ ¬ ko_b y.1 &&& 3 = 3 := by decide +kernel
theorem frs_17 : ∀ y : Fin 128, shT (sgm y.1) = 17 → FRM y.1 = [100, 44, 78] ∧ ptT (sgm y.1) = ko_b y.1 ∧ ¬ ko_b y.1 &&& 3 = 3 := by decide +kernel
theorem frs_18 : ∀ y : Fin 128, shT (sgm y.1) = 18 → FRM y.1 = [109, 44, 77] ∧ ptT (sgm y.1) = ko_b y.1 ∧ ¬ ko_b y.1 &&& 3 = 3 := by decide +kernel
theorem frs_19 : ∀ y : Fin 128, shT (sgm y.1) = 19 → FRM y.1 = [75] ∧ ptT (sgm y.1) = ko_b y.1 ∧ ¬ ko_b y.1 &&& 3 = 3 := by decide +kernel
theorem frs_20 : ∀ y : Fin 128, shT (sgm y.1) = 20 → FRM y.1 = [89] ∧ ptT (sgm y.1) = ko_b y.1 ∧ ¬ ko_b y.1 &&& 3 = 3 := by decide +kernel
theorem frs_21 : ∀ y : Fin 128, shT (sgm y.1) = 21 → FRM y.1 = [113, 44, 86] ∧ ptT (sgm y.1) = ko_b y.1 ∧ ¬ ko_b y.1 &&& 3 = 3 := by decide +kernel
theorem frs_22 : ∀ y : Fin 128, shT (sgm y.1) = 22 → FRM y.1 = [113, 44, 78] ∧ ptT (sgm y.1) = ko_b y.1 ∧ ¬ ko_b y.1 &&& 3 = 3 := by decide +kernel
theorem frs_23 : ∀ y : Fin 128, shT (sgm y.1) = 23 → FRM y.1 = [113, 44, 112] ∧ ptT (sgm y.1) = ko_b y.1 ∧ ¬ ko_b y.1 &&& 3 = 3 := by decide +kernel
theorem frs_24 : ∀ y : Fin 128, shT (sgm y.1) = 24 → FRM y.1 = [113, 44, 76] ∧ ptT (sgm y.1) = ko_b y.1 ∧ ¬ ko_b y.1 &&& 3 = 3 := by decide +kernel
theorem frs_25 : ∀ y : Fin 128, shT (sgm y.1) = 25 → FRM y.1 = [100, 44, 86] ∧ ptT (sgm y.1) = ko_b y.1 ∧ ¬ ko_b y.1 &&& 3 = 3 := by decide +kernel
theorem frs_26 : ∀ y : Fin 128, shT (sgm y.1) = 26 → FRM y.1 = [110, 44, 80] ∧ ptT (sgm y.1) = ko_b y.1 ∧ ¬ ko_b y.1 &&& 3 = 3 := by decide +kernel
theorem frs_27 : ∀ y : Fin 128, shT (sgm y.1) = 27 → FRM y.1 = [110] ∧ ptT (sgm y.1) = ko_b y.1 ∧ ¬ ko_b y.1 &&& 3 = 3 := by decide +kernel
theorem frs_28 : ∀ y : Fin 128, shT (sgm y.1) = 28 → FRM y.1 = [100, 44, 122] ∧ ptT (sgm y.1) = ko_b y.1 ∧ ¬ ko_b y.1 &&& 3 = 3 := by decide +kernel
theorem frs_29 : ∀ y : Fin 128, shT (sgm y.1) = 29 → FRM y.1 = [115, 44, 81] ∧ ptT (sgm y.1) = ko_b y.1 ∧ ¬ ko_b y.1 &&& 3 = 3 := by decide +kernel
theorem frs_31 : ∀ y : Fin 128, shT (sgm y.1) = 31 → FRM y.1 = [100, 44, 97] ∧ ptT (sgm y.1) = ko_b y.1 ∧ ko_b y.1 &&& 3 = 3 := by decide +kernel
theorem frs_32 : ∀ y : Fin 128, shT (sgm y.1) = 32 → FRM y.1 = [100, 44, 98] ∧ ptT (sgm y.1) = ko_b y.1 ∧ ko_b y.1 &&& 3 = 3 := by decide +kernel
theorem frs_33 : ∀ y : Fin 128, shT (sgm y.1) = 33 → FRM y.1 = [97] ∧ ptT (sgm y.1) = ko_b y.1 ∧ ko_b y.1 &&& 3 = 3 := by decide +kernel
def isPl (y : Nat) : Prop := shT (sgm y) = 1 ∨ shT (sgm y) = 2 ∨ shT (sgm y) = 3 ∨ shT (sgm y) = 4 ∨ shT (sgm y) = 5 ∨ shT (sgm y) = 6 ∨ shT (sgm y) = 9 ∨ shT (sgm y) = 10 ∨ shT (sgm y) = 11 ∨ shT (sgm y) = 12 ∨ shT (sgm y) = 13 ∨ shT (sgm y) = 14 ∨ shT (sgm y) = 16 ∨ shT (sgm y) = 17 ∨ shT (sgm y) = 18 ∨ shT (sgm y) = 19 ∨ shT (sgm y) = 20 ∨ shT (sgm y) = 21 ∨ shT (sgm y) = 22 ∨ shT (sgm y) = 23 ∨ shT (sgm y) = 24 ∨ shT (sgm y) = 25 ∨ shT (sgm y) = 26 ∨ shT (sgm y) = 27 ∨ shT (sgm y) = 28 ∨ shT (sgm y) = 29 ∨ shT (sgm y) = 31 ∨ shT (sgm y) = 32 ∨ shT (sgm y) = 33
def byY (y : Nat) (v : Int32) : List Int32 := if ko_b y &&& 3 = 3 then by4 v else by2 v
/-- what such a statement leaves -/
def plnP (e : Nat) (B : St) (ct : Nat) (gr : Bool) (PA BY OU : Nat → Int32) (p2 : Nat) (V : Tp → Int32 × Bool) (P : Nat → Tp) (m l : Nat) (bs : Int32 → List Int32) (w : Int32) (S : St) : Prop := (l = 0 → PLO e B ct gr PA BY OU p2 0 (bs w) S) ∧ (¬ l = 0 → ∃ (z : Int32) (ms dv : Bool), rnF V P m = ([z], ms, dv) ∧ PLO e B ct gr PA BY OU p2 (wiF B ms dv (lfO l (vtO l (sI B 17) z))) (bs (w ||| lbO l (vtO l (sI B 17) z))) S)
theorem pln_R {y : Nat} {n L e : Nat} {c : Nat → Nat} {BC B : St} {X : Nat → Nat} {nL st cu : Nat} (hV : RV n L e c BC B X nL cu) {ct : Nat} {gr : Bool} {PA BY OU : Nat → Int32} (hY : PY PA cu st) {p : Nat} {S : St} (h : SR B ct gr PA BY OU 0 p S) (hw : OKW B (ct + if ko_b y &&& 3 = 3 then 4 else 2)) {f p2 : Nat} {rs : List Nat} {m : Nat} {P : Nat → Tp} (h0 : ¬ f = 0 → sI B 15 = 0) (hc : cstS S) (hy : y < 128) (od : Int32) (hp : isPl y) (hTr : Tr n L e c BC (FRM y) p f p2 rs m P) : ∃ S' : St, df_X13_statement_136 n (nI (sgm y)) od S = df_X13_statement_326 n S' ∧ (¬ f = 0 → FL e B (nI f + 16 * sI B 13) S') ∧ (f = 0 → plnP e B ct gr PA BY OU p2 (VW c X e nL st B) P m (eL (FRM y)) (byY y) (ko_b y ||| od ||| RGB (FRM y) rs) S') := by
  rcases hp with hs | hs | hs | hs | hs | hs | hs | hs | hs | hs | hs | hs | hs | hs | hs | hs | hs | hs | hs | hs | hs | hs | hs | hs | hs | hs | hs | hs | hs
  · obtain ⟨f1, f2, f3⟩ := frs_1 ⟨y, hy⟩ hs
    have f1 : FRM y = [100, 44, 97, 44, 98] := f1
    have f2 : ptT (sgm y) = ko_b y := f2
    have bY : byY y = by4 := funext fun v => if_pos f3
    have hw : OKW B (ct + 4) := by rw [if_pos f3] at hw; exact hw
    rw [f1] at hTr ⊢
    rw [bY]
    obtain ⟨S', e1, e2, e3⟩ := shp_1 hV hY h hw (ko_b y ||| od) h0 hTr
    refine ⟨S', ?_, e2, fun u => ?_⟩
    · rw [dsp_1 hc (sgm y) (sgm_l hy) hs od, f2, e1, nb_b1]
    · exact ⟨fun _ => e3 u, fun z => absurd rfl z⟩
  · obtain ⟨f1, f2, f3⟩ := frs_2 ⟨y, hy⟩ hs
    have f1 : FRM y = [100, 44, 97, 44, 73] := f1
    have f2 : ptT (sgm y) = ko_b y := f2
    have bY : byY y = by4 := funext fun v => if_pos f3
    have hw : OKW B (ct + 4) := by rw [if_pos f3] at hw; exact hw
    rw [f1] at hTr ⊢
    rw [bY]
    obtain ⟨S', e1, e2, e3⟩ := shp_2 hV hY h hw (ko_b y ||| od) h0 hTr
    refine ⟨S', ?_, e2, fun u => ?_⟩
    · rw [dsp_2 hc (sgm y) (sgm_l hy) hs od, f2, e1, nb_b1]
    · exact ⟨fun z => absurd z (by decide), fun _ => e3 u⟩
  · obtain ⟨f1, f2, f3⟩ := frs_3 ⟨y, hy⟩ hs
    have f1 : FRM y = [100, 44, 97, 44, 72] := f1
    have f2 : ptT (sgm y) = ko_b y := f2
    have bY : byY y = by4 := funext fun v => if_pos f3
    have hw : OKW B (ct + 4) := by rw [if_pos f3] at hw; exact hw
    rw [f1] at hTr ⊢
    rw [bY]
    obtain ⟨S', e1, e2, e3⟩ := shp_3 hV hY h hw (ko_b y ||| od) h0 hTr
    refine ⟨S', ?_, e2, fun u => ?_⟩
    · rw [dsp_3 hc (sgm y) (sgm_l hy) hs od, f2, e1, nb_b1]
    · exact ⟨fun z => absurd z (by decide), fun _ => e3 u⟩
  · obtain ⟨f1, f2, f3⟩ := frs_4 ⟨y, hy⟩ hs
    have f1 : FRM y = [100, 44, 73, 40, 97, 41] := f1
    have f2 : ptT (sgm y) = ko_b y := f2
    have bY : byY y = by4 := funext fun v => if_pos f3
    have hw : OKW B (ct + 4) := by rw [if_pos f3] at hw; exact hw
    rw [f1] at hTr ⊢
    rw [bY]
    obtain ⟨S', e1, e2, e3⟩ := shp_4 hV hY h hw (ko_b y ||| od) h0 hTr
    refine ⟨S', ?_, e2, fun u => ?_⟩
    · rw [dsp_4 hc (sgm y) (sgm_l hy) hs od, f2, e1, nb_b1]
    · exact ⟨fun z => absurd z (by decide), fun _ => e3 u⟩
  · obtain ⟨f1, f2, f3⟩ := frs_5 ⟨y, hy⟩ hs
    have f1 : FRM y = [98, 44, 83, 40, 97, 41] := f1
    have f2 : ptT (sgm y) = ko_b y := f2
    have bY : byY y = by4 := funext fun v => if_pos f3
    have hw : OKW B (ct + 4) := by rw [if_pos f3] at hw; exact hw
    rw [f1] at hTr ⊢
    rw [bY]
    obtain ⟨S', e1, e2, e3⟩ := shp_5 hV hY h hw (ko_b y ||| od) h0 hTr
    refine ⟨S', ?_, e2, fun u => ?_⟩
    · rw [dsp_5 hc (sgm y) (sgm_l hy) hs od, f2, e1, nb_b1]
    · exact ⟨fun z => absurd z (by decide), fun _ => e3 u⟩
  · obtain ⟨f1, f2, f3⟩ := frs_6 ⟨y, hy⟩ hs
    have f1 : FRM y = [100, 44, 85] := f1
    have f2 : ptT (sgm y) = ko_b y := f2
    have bY : byY y = by4 := funext fun v => if_pos f3
    have hw : OKW B (ct + 4) := by rw [if_pos f3] at hw; exact hw
    rw [f1] at hTr ⊢
    rw [bY]
    obtain ⟨S', e1, e2, e3⟩ := shp_6 hV hY h hw (ko_b y ||| od) h0 hTr
    refine ⟨S', ?_, e2, fun u => ?_⟩
    · rw [dsp_6 hc (sgm y) (sgm_l hy) hs od, f2, e1, nb_b1]
    · exact ⟨fun z => absurd z (by decide), fun _ => e3 u⟩
  · obtain ⟨f1, f2, f3⟩ := frs_9 ⟨y, hy⟩ hs
    have f1 : FRM y = [100, 44, 98, 44, 40, 97, 41] := f1
    have f2 : ptT (sgm y) = ko_b y := f2
    have bY : byY y = by4 := funext fun v => if_pos f3
    have hw : OKW B (ct + 4) := by rw [if_pos f3] at hw; exact hw
    rw [f1] at hTr ⊢
    rw [bY]
    obtain ⟨S', e1, e2, e3⟩ := shp_9 hV hY h hw (ko_b y ||| od) h0 hTr
    refine ⟨S', ?_, e2, fun u => ?_⟩
    · rw [dsp_9 hc (sgm y) (sgm_l hy) hs od, f2, e1, nb_b1]
    · exact ⟨fun _ => e3 u, fun z => absurd rfl z⟩
  · obtain ⟨f1, f2, f3⟩ := frs_10 ⟨y, hy⟩ hs
    have f1 : FRM y = [100, 44, 40, 97, 41] := f1
    have f2 : ptT (sgm y) = ko_b y := f2
    have bY : byY y = by4 := funext fun v => if_pos f3
    have hw : OKW B (ct + 4) := by rw [if_pos f3] at hw; exact hw
    rw [f1] at hTr ⊢
    rw [bY]
    obtain ⟨S', e1, e2, e3⟩ := shp_10 hV hY h hw (ko_b y ||| od) h0 hTr
    refine ⟨S', ?_, e2, fun u => ?_⟩
    · rw [dsp_10 hc (sgm y) (sgm_l hy) hs od, f2, e1, nb_b1]
    · exact ⟨fun _ => e3 u, fun z => absurd rfl z⟩
  · obtain ⟨f1, f2, f3⟩ := frs_11 ⟨y, hy⟩ hs
    have f1 : FRM y = [100] := f1
    have f2 : ptT (sgm y) = ko_b y := f2
    have bY : byY y = by4 := funext fun v => if_pos f3
    have hw : OKW B (ct + 4) := by rw [if_pos f3] at hw; exact hw
    rw [f1] at hTr ⊢
    rw [bY]
    obtain ⟨S', e1, e2, e3⟩ := shp_11 hV hY h hw (ko_b y ||| od) h0 hTr
    refine ⟨S', ?_, e2, fun u => ?_⟩
    · rw [dsp_11 hc (sgm y) (sgm_l hy) hs od, f2, e1, nb_b1]
    · exact ⟨fun _ => e3 u, fun z => absurd rfl z⟩
  · obtain ⟨f1, f2, f3⟩ := frs_12 ⟨y, hy⟩ hs
    have f1 : FRM y = [] := f1
    have f2 : ptT (sgm y) = ko_b y := f2
    have bY : byY y = by4 := funext fun v => if_pos f3
    have hw : OKW B (ct + 4) := by rw [if_pos f3] at hw; exact hw
    rw [f1] at hTr ⊢
    rw [bY]
    obtain ⟨rfl, rfl, rfl⟩ := hTr
    obtain ⟨S', e1, e2⟩ := wor_S (n := n) h (OKW_m hw (by omega)) (ko_b y ||| od)
    refine ⟨S', ?_, fun u => absurd rfl u, fun _ => ⟨fun _ => plo4 rfl e2 (or_0 _).symm, fun z => absurd rfl z⟩⟩
    rw [dsp_12 hc (sgm y) (sgm_l hy) hs od, f2, e1, nb_b1]
  · obtain ⟨f1, f2, f3⟩ := frs_13 ⟨y, hy⟩ hs
    have f1 : FRM y = [112, 44, 88] := f1
    have f2 : ptT (sgm y) = ko_b y := f2
    have bY : byY y = by2 := funext fun v => if_neg f3
    have hw : OKW B (ct + 2) := by rw [if_neg f3] at hw; exact hw
    rw [f1] at hTr ⊢
    rw [bY]
    obtain ⟨S', e1, e2, e3⟩ := shp_13 hV hY h hw (ko_b y ||| od) h0 hTr
    refine ⟨S', ?_, e2, fun u => ?_⟩
    · rw [dsp_13 hc (sgm y) (sgm_l hy) hs od, f2, e1, nb_b1]
    · exact ⟨fun z => absurd z (by decide), fun _ => e3 u⟩
  · obtain ⟨f1, f2, f3⟩ := frs_14 ⟨y, hy⟩ hs
    have f1 : FRM y = [112, 44, 87, 40, 113, 41] := f1
    have f2 : ptT (sgm y) = ko_b y := f2
    have bY : byY y = by2 := funext fun v => if_neg f3
    have hw : OKW B (ct + 2) := by rw [if_neg f3] at hw; exact hw
    rw [f1] at hTr ⊢
    rw [bY]
    obtain ⟨S', e1, e2, e3⟩ := shp_14 hV hY h hw (ko_b y ||| od) h0 hTr
    refine ⟨S', ?_, e2, fun u => ?_⟩
    · rw [dsp_14 hc (sgm y) (sgm_l hy) hs od, f2, e1, nb_b1]
    · exact ⟨fun z => absurd z (by decide), fun _ => e3 u⟩
  · obtain ⟨f1, f2, f3⟩ := frs_16 ⟨y, hy⟩ hs
    have f1 : FRM y = [] := f1
    have f2 : ptT (sgm y) = ko_b y := f2
    have bY : byY y = by2 := funext fun v => if_neg f3
    have hw : OKW B (ct + 2) := by rw [if_neg f3] at hw; exact hw
    rw [f1] at hTr ⊢
    rw [bY]
    obtain ⟨rfl, rfl, rfl⟩ := hTr
    obtain ⟨S', e1, e2⟩ := hal_S (n := n) h (OKW_m hw (by omega)) (ko_b y ||| od)
    refine ⟨S', ?_, fun u => absurd rfl u, fun _ => ⟨fun _ => plo2 rfl e2 (or_0 _).symm, fun z => absurd rfl z⟩⟩
    rw [dsp_16 hc (sgm y) (sgm_l hy) hs od, f2, e1, nb_b1]
  · obtain ⟨f1, f2, f3⟩ := frs_17 ⟨y, hy⟩ hs
    have f1 : FRM y = [100, 44, 78] := f1
    have f2 : ptT (sgm y) = ko_b y := f2
    have bY : byY y = by2 := funext fun v => if_neg f3
    have hw : OKW B (ct + 2) := by rw [if_neg f3] at hw; exact hw
    rw [f1] at hTr ⊢
    rw [bY]
    obtain ⟨S', e1, e2, e3⟩ := shp_17 hV hY h hw (ko_b y ||| od) h0 hTr
    refine ⟨S', ?_, e2, fun u => ?_⟩
    · rw [dsp_17 hc (sgm y) (sgm_l hy) hs od, f2, e1, nb_b1]
    · exact ⟨fun z => absurd z (by decide), fun _ => e3 u⟩
  · obtain ⟨f1, f2, f3⟩ := frs_18 ⟨y, hy⟩ hs
    have f1 : FRM y = [109, 44, 77] := f1
    have f2 : ptT (sgm y) = ko_b y := f2
    have bY : byY y = by2 := funext fun v => if_neg f3
    have hw : OKW B (ct + 2) := by rw [if_neg f3] at hw; exact hw
    rw [f1] at hTr ⊢
    rw [bY]
    obtain ⟨S', e1, e2, e3⟩ := shp_18 hV hY h hw (ko_b y ||| od) h0 hTr
    refine ⟨S', ?_, e2, fun u => ?_⟩
    · rw [dsp_18 hc (sgm y) (sgm_l hy) hs od, f2, e1, nb_b1]
    · exact ⟨fun z => absurd z (by decide), fun _ => e3 u⟩
  · obtain ⟨f1, f2, f3⟩ := frs_19 ⟨y, hy⟩ hs
    have f1 : FRM y = [75] := f1
    have f2 : ptT (sgm y) = ko_b y := f2
    have bY : byY y = by2 := funext fun v => if_neg f3
    have hw : OKW B (ct + 2) := by rw [if_neg f3] at hw; exact hw
    rw [f1] at hTr ⊢
    rw [bY]
    obtain ⟨S', e1, e2, e3⟩ := shp_19 hV hY h hw (ko_b y ||| od) h0 hTr
    refine ⟨S', ?_, e2, fun u => ?_⟩
    · rw [dsp_19 hc (sgm y) (sgm_l hy) hs od, f2, e1, nb_b1]
    · exact ⟨fun z => absurd z (by decide), fun _ => e3 u⟩
  · obtain ⟨f1, f2, f3⟩ := frs_20 ⟨y, hy⟩ hs
    have f1 : FRM y = [89] := f1
    have f2 : ptT (sgm y) = ko_b y := f2
    have bY : byY y = by2 := funext fun v => if_neg f3
    have hw : OKW B (ct + 2) := by rw [if_neg f3] at hw; exact hw
    rw [f1] at hTr ⊢
    rw [bY]
    obtain ⟨S', e1, e2, e3⟩ := shp_20 hV hY h hw (ko_b y ||| od) h0 hTr
    refine ⟨S', ?_, e2, fun u => ?_⟩
    · rw [dsp_20 hc (sgm y) (sgm_l hy) hs od, f2, e1, nb_b1]
    · exact ⟨fun z => absurd z (by decide), fun _ => e3 u⟩
  · obtain ⟨f1, f2, f3⟩ := frs_21 ⟨y, hy⟩ hs
    have f1 : FRM y = [113, 44, 86] := f1
    have f2 : ptT (sgm y) = ko_b y := f2
    have bY : byY y = by2 := funext fun v => if_neg f3
    have hw : OKW B (ct + 2) := by rw [if_neg f3] at hw; exact hw
    rw [f1] at hTr ⊢
    rw [bY]
    obtain ⟨S', e1, e2, e3⟩ := shp_21 hV hY h hw (ko_b y ||| od) h0 hTr
    refine ⟨S', ?_, e2, fun u => ?_⟩
    · rw [dsp_21 hc (sgm y) (sgm_l hy) hs od, f2, e1, nb_b1]
    · exact ⟨fun z => absurd z (by decide), fun _ => e3 u⟩
  · obtain ⟨f1, f2, f3⟩ := frs_22 ⟨y, hy⟩ hs
    have f1 : FRM y = [113, 44, 78] := f1
    have f2 : ptT (sgm y) = ko_b y := f2
    have bY : byY y = by2 := funext fun v => if_neg f3
    have hw : OKW B (ct + 2) := by rw [if_neg f3] at hw; exact hw
    rw [f1] at hTr ⊢
    rw [bY]
    obtain ⟨S', e1, e2, e3⟩ := shp_22 hV hY h hw (ko_b y ||| od) h0 hTr
    refine ⟨S', ?_, e2, fun u => ?_⟩
    · rw [dsp_22 hc (sgm y) (sgm_l hy) hs od, f2, e1, nb_b1]
    · exact ⟨fun z => absurd z (by decide), fun _ => e3 u⟩
  · obtain ⟨f1, f2, f3⟩ := frs_23 ⟨y, hy⟩ hs
    have f1 : FRM y = [113, 44, 112] := f1
    have f2 : ptT (sgm y) = ko_b y := f2
    have bY : byY y = by2 := funext fun v => if_neg f3
    have hw : OKW B (ct + 2) := by rw [if_neg f3] at hw; exact hw
    rw [f1] at hTr ⊢
    rw [bY]
    obtain ⟨S', e1, e2, e3⟩ := shp_23 hV hY h hw (ko_b y ||| od) h0 hTr
    refine ⟨S', ?_, e2, fun u => ?_⟩
    · rw [dsp_23 hc (sgm y) (sgm_l hy) hs od, f2, e1, nb_b1]
    · exact ⟨fun _ => e3 u, fun z => absurd rfl z⟩
  · obtain ⟨f1, f2, f3⟩ := frs_24 ⟨y, hy⟩ hs
    have f1 : FRM y = [113, 44, 76] := f1
    have f2 : ptT (sgm y) = ko_b y := f2
    have bY : byY y = by2 := funext fun v => if_neg f3
    have hw : OKW B (ct + 2) := by rw [if_neg f3] at hw; exact hw
    rw [f1] at hTr ⊢
    rw [bY]
    obtain ⟨S', e1, e2, e3⟩ := shp_24 hV hY h hw (ko_b y ||| od) h0 hTr
    refine ⟨S', ?_, e2, fun u => ?_⟩
    · rw [dsp_24 hc (sgm y) (sgm_l hy) hs od, f2, e1, nb_b1]
    · exact ⟨fun z => absurd z (by decide), fun _ => e3 u⟩
  · obtain ⟨f1, f2, f3⟩ := frs_25 ⟨y, hy⟩ hs
    have f1 : FRM y = [100, 44, 86] := f1
    have f2 : ptT (sgm y) = ko_b y := f2
    have bY : byY y = by2 := funext fun v => if_neg f3
    have hw : OKW B (ct + 2) := by rw [if_neg f3] at hw; exact hw
    rw [f1] at hTr ⊢
    rw [bY]
    obtain ⟨S', e1, e2, e3⟩ := shp_25 hV hY h hw (ko_b y ||| od) h0 hTr
    refine ⟨S', ?_, e2, fun u => ?_⟩
    · rw [dsp_25 hc (sgm y) (sgm_l hy) hs od, f2, e1, nb_b1]
    · exact ⟨fun z => absurd z (by decide), fun _ => e3 u⟩
  · obtain ⟨f1, f2, f3⟩ := frs_26 ⟨y, hy⟩ hs
    have f1 : FRM y = [110, 44, 80] := f1
    have f2 : ptT (sgm y) = ko_b y := f2
    have bY : byY y = by2 := funext fun v => if_neg f3
    have hw : OKW B (ct + 2) := by rw [if_neg f3] at hw; exact hw
    rw [f1] at hTr ⊢
    rw [bY]
    obtain ⟨S', e1, e2, e3⟩ := shp_26 hV hY h hw (ko_b y ||| od) h0 hTr
    refine ⟨S', ?_, e2, fun u => ?_⟩
    · rw [dsp_26 hc (sgm y) (sgm_l hy) hs od, f2, e1, nb_b1]
    · exact ⟨fun z => absurd z (by decide), fun _ => e3 u⟩
  · obtain ⟨f1, f2, f3⟩ := frs_27 ⟨y, hy⟩ hs
    have f1 : FRM y = [110] := f1
    have f2 : ptT (sgm y) = ko_b y := f2
    have bY : byY y = by2 := funext fun v => if_neg f3
    have hw : OKW B (ct + 2) := by rw [if_neg f3] at hw; exact hw
    rw [f1] at hTr ⊢
    rw [bY]
    obtain ⟨S', e1, e2, e3⟩ := shp_27 hV hY h hw (ko_b y ||| od) h0 hTr
    refine ⟨S', ?_, e2, fun u => ?_⟩
    · rw [dsp_27 hc (sgm y) (sgm_l hy) hs od, f2, e1, nb_b1]
    · exact ⟨fun _ => e3 u, fun z => absurd rfl z⟩
  · obtain ⟨f1, f2, f3⟩ := frs_28 ⟨y, hy⟩ hs
    have f1 : FRM y = [100, 44, 122] := f1
    have f2 : ptT (sgm y) = ko_b y := f2
    have bY : byY y = by2 := funext fun v => if_neg f3
    have hw : OKW B (ct + 2) := by rw [if_neg f3] at hw; exact hw
    rw [f1] at hTr ⊢
    rw [bY]
    obtain ⟨S', e1, e2, e3⟩ := shp_28 hV hY h hw (ko_b y ||| od) h0 hTr
    refine ⟨S', ?_, e2, fun u => ?_⟩
    · rw [dsp_28 hc (sgm y) (sgm_l hy) hs od, f2, e1, nb_b1]
    · exact ⟨fun _ => e3 u, fun z => absurd rfl z⟩
  · obtain ⟨f1, f2, f3⟩ := frs_29 ⟨y, hy⟩ hs
    have f1 : FRM y = [115, 44, 81] := f1
    have f2 : ptT (sgm y) = ko_b y := f2
    have bY : byY y = by2 := funext fun v => if_neg f3
    have hw : OKW B (ct + 2) := by rw [if_neg f3] at hw; exact hw
    rw [f1] at hTr ⊢
    rw [bY]
    obtain ⟨S', e1, e2, e3⟩ := shp_29 hV hY h hw (ko_b y ||| od) h0 hTr
    refine ⟨S', ?_, e2, fun u => ?_⟩
    · rw [dsp_29 hc (sgm y) (sgm_l hy) hs od, f2, e1, nb_b1]
    · exact ⟨fun z => absurd z (by decide), fun _ => e3 u⟩
  · obtain ⟨f1, f2, f3⟩ := frs_31 ⟨y, hy⟩ hs
    have f1 : FRM y = [100, 44, 97] := f1
    have f2 : ptT (sgm y) = ko_b y := f2
    have bY : byY y = by4 := funext fun v => if_pos f3
    have hw : OKW B (ct + 4) := by rw [if_pos f3] at hw; exact hw
    rw [f1] at hTr ⊢
    rw [bY]
    obtain ⟨S', e1, e2, e3⟩ := shp_31 hV hY h hw (ko_b y ||| od) h0 hTr
    refine ⟨S', ?_, e2, fun u => ?_⟩
    · rw [dsp_31 hc (sgm y) (sgm_l hy) hs od, f2, e1, nb_b1]
    · exact ⟨fun _ => e3 u, fun z => absurd rfl z⟩
  · obtain ⟨f1, f2, f3⟩ := frs_32 ⟨y, hy⟩ hs
    have f1 : FRM y = [100, 44, 98] := f1
    have f2 : ptT (sgm y) = ko_b y := f2
    have bY : byY y = by4 := funext fun v => if_pos f3
    have hw : OKW B (ct + 4) := by rw [if_pos f3] at hw; exact hw
    rw [f1] at hTr ⊢
    rw [bY]
    obtain ⟨S', e1, e2, e3⟩ := shp_32 hV hY h hw (ko_b y ||| od) h0 hTr
    refine ⟨S', ?_, e2, fun u => ?_⟩
    · rw [dsp_32 hc (sgm y) (sgm_l hy) hs od, f2, e1, nb_b1]
    · exact ⟨fun _ => e3 u, fun z => absurd rfl z⟩
  · obtain ⟨f1, f2, f3⟩ := frs_33 ⟨y, hy⟩ hs
    have f1 : FRM y = [97] := f1
    have f2 : ptT (sgm y) = ko_b y := f2
    have bY : byY y = by4 := funext fun v => if_pos f3
    have hw : OKW B (ct + 4) := by rw [if_pos f3] at hw; exact hw
    rw [f1] at hTr ⊢
    rw [bY]
    obtain ⟨S', e1, e2, e3⟩ := shp_33 hV hY h hw (ko_b y ||| od) h0 hTr
    refine ⟨S', ?_, e2, fun u => ?_⟩
    · rw [dsp_33 hc (sgm y) (sgm_l hy) hs od, f2, e1, nb_b1]
    · exact ⟨fun _ => e3 u, fun z => absurd rfl z⟩
