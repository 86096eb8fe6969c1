/-- the reference's rows that a fork changes -/
def fkX (Y : St × St) (r1 r2 r5 r6 r8 r9 r10 r11 r12 r13 r14 r15 r16 r17 r18 : Nat → Int32) : St × St := ((pR (pR (pR (pR (pR (pR (pR (pR (pR (pR (pR (pR (pR (pR (pR Y.1 1 r1) 2 r2) 5 r5) 6 r6) 8 r8) 9 r9) 10 r10) 11 r11) 12 r12) 13 r13) 14 r14) 15 r15) 16 r16) 17 r17) 18 r18), Y.2)
theorem fkX_1 (Y : St × St) (r1 r2 r5 r6 r8 r9 r10 r11 r12 r13 r14 r15 r16 r17 r18 : Nat → Int32) : sR (fkX Y r1 r2 r5 r6 r8 r9 r10 r11 r12 r13 r14 r15 r16 r17 r18).1 1 = r1 := by
  unfold fkX
  rw [nb_RR, if_neg (show ¬ (1 : Nat) = 18 by decide), nb_RR, if_neg (show ¬ (1 : Nat) = 17 by decide), nb_RR, if_neg (show ¬ (1 : Nat) = 16 by decide), nb_RR, if_neg (show ¬ (1 : Nat) = 15 by decide), nb_RR, if_neg (show ¬ (1 : Nat) = 14 by decide), nb_RR, if_neg (show ¬ (1 : Nat) = 13 by decide), nb_RR, if_neg (show ¬ (1 : Nat) = 12 by decide), nb_RR, if_neg (show ¬ (1 : Nat) = 11 by decide), nb_RR, if_neg (show ¬ (1 : Nat) = 10 by decide), nb_RR, if_neg (show ¬ (1 : Nat) = 9 by decide), nb_RR, if_neg (show ¬ (1 : Nat) = 8 by decide), nb_RR, if_neg (show ¬ (1 : Nat) = 6 by decide), nb_RR, if_neg (show ¬ (1 : Nat) = 5 by decide), nb_RR, if_neg (show ¬ (1 : Nat) = 2 by decide), nb_RR, if_pos rfl]
theorem fkX_2 (Y : St × St) (r1 r2 r5 r6 r8 r9 r10 r11 r12 r13 r14 r15 r16 r17 r18 : Nat → Int32) : sR (fkX Y r1 r2 r5 r6 r8 r9 r10 r11 r12 r13 r14 r15 r16 r17 r18).1 2 = r2 := by
  unfold fkX
  rw [nb_RR, if_neg (show ¬ (2 : Nat) = 18 by decide), nb_RR, if_neg (show ¬ (2 : Nat) = 17 by decide), nb_RR, if_neg (show ¬ (2 : Nat) = 16 by decide), nb_RR, if_neg (show ¬ (2 : Nat) = 15 by decide), nb_RR, if_neg (show ¬ (2 : Nat) = 14 by decide), nb_RR, if_neg (show ¬ (2 : Nat) = 13 by decide), nb_RR, if_neg (show ¬ (2 : Nat) = 12 by decide), nb_RR, if_neg (show ¬ (2 : Nat) = 11 by decide), nb_RR, if_neg (show ¬ (2 : Nat) = 10 by decide), nb_RR, if_neg (show ¬ (2 : Nat) = 9 by decide), nb_RR, if_neg (show ¬ (2 : Nat) = 8 by decide), nb_RR, if_neg (show ¬ (2 : Nat) = 6 by decide), nb_RR, if_neg (show ¬ (2 : Nat) = 5 by decide), nb_RR, if_pos rfl]
theorem fkX_5 (Y : St × St) (r1 r2 r5 r6 r8 r9 r10 r11 r12 r13 r14 r15 r16 r17 r18 : Nat → Int32) : sR (fkX Y r1 r2 r5 r6 r8 r9 r10 r11 r12 r13 r14 r15 r16 r17 r18).1 5 = r5 := by
  unfold fkX
  rw [nb_RR, if_neg (show ¬ (5 : Nat) = 18 by decide), nb_RR, if_neg (show ¬ (5 : Nat) = 17 by decide), nb_RR, if_neg (show ¬ (5 : Nat) = 16 by decide), nb_RR, if_neg (show ¬ (5 : Nat) = 15 by decide), nb_RR, if_neg (show ¬ (5 : Nat) = 14 by decide), nb_RR, if_neg (show ¬ (5 : Nat) = 13 by decide), nb_RR, if_neg (show ¬ (5 : Nat) = 12 by decide), nb_RR, if_neg (show ¬ (5 : Nat) = 11 by decide), nb_RR, if_neg (show ¬ (5 : Nat) = 10 by decide), nb_RR, if_neg (show ¬ (5 : Nat) = 9 by decide), nb_RR, if_neg (show ¬ (5 : Nat) = 8 by decide), nb_RR, if_neg (show ¬ (5 : Nat) = 6 by decide), nb_RR, if_pos rfl]
theorem fkX_6 (Y : St × St) (r1 r2 r5 r6 r8 r9 r10 r11 r12 r13 r14 r15 r16 r17 r18 : Nat → Int32) : sR (fkX Y r1 r2 r5 r6 r8 r9 r10 r11 r12 r13 r14 r15 r16 r17 r18).1 6 = r6 := by
  unfold fkX
  rw [nb_RR, if_neg (show ¬ (6 : Nat) = 18 by decide), nb_RR, if_neg (show ¬ (6 : Nat) = 17 by decide), nb_RR, if_neg (show ¬ (6 : Nat) = 16 by decide), nb_RR, if_neg (show ¬ (6 : Nat) = 15 by decide), nb_RR, if_neg (show ¬ (6 : Nat) = 14 by decide), nb_RR, if_neg (show ¬ (6 : Nat) = 13 by decide), nb_RR, if_neg (show ¬ (6 : Nat) = 12 by decide), nb_RR, if_neg (show ¬ (6 : Nat) = 11 by decide), nb_RR, if_neg (show ¬ (6 : Nat) = 10 by decide), nb_RR, if_neg (show ¬ (6 : Nat) = 9 by decide), nb_RR, if_neg (show ¬ (6 : Nat) = 8 by decide), nb_RR, if_pos rfl]
theorem fkX_8 (Y : St × St) (r1 r2 r5 r6 r8 r9 r10 r11 r12 r13 r14 r15 r16 r17 r18 : Nat → Int32) : sR (fkX Y r1 r2 r5 r6 r8 r9 r10 r11 r12 r13 r14 r15 r16 r17 r18).1 8 = r8 := by
  unfold fkX
  rw [nb_RR, if_neg (show ¬ (8 : Nat) = 18 by decide), nb_RR, if_neg (show ¬ (8 : Nat) = 17 by decide), nb_RR, if_neg (show ¬ (8 : Nat) = 16 by decide), nb_RR, if_neg (show ¬ (8 : Nat) = 15 by decide), nb_RR, if_neg (show ¬ (8 : Nat) = 14 by decide), nb_RR, if_neg (show ¬ (8 : Nat) = 13 by decide), nb_RR, if_neg (show ¬ (8 : Nat) = 12 by decide), nb_RR, if_neg (show ¬ (8 : Nat) = 11 by decide), nb_RR, if_neg (show ¬ (8 : Nat) = 10 by decide), nb_RR, if_neg (show ¬ (8 : Nat) = 9 by decide), nb_RR, if_pos rfl]
theorem fkX_9 (Y : St × St) (r1 r2 r5 r6 r8 r9 r10 r11 r12 r13 r14 r15 r16 r17 r18 : Nat → Int32) : sR (fkX Y r1 r2 r5 r6 r8 r9 r10 r11 r12 r13 r14 r15 r16 r17 r18).1 9 = r9 := by
  unfold fkX
  rw [nb_RR, if_neg (show ¬ (9 : Nat) = 18 by decide), nb_RR, if_neg (show ¬ (9 : Nat) = 17 by decide), nb_RR, if_neg (show ¬ (9 : Nat) = 16 by decide), nb_RR, if_neg (show ¬ (9 : Nat) = 15 by decide), nb_RR, if_neg (show ¬ (9 : Nat) = 14 by decide), nb_RR, if_neg (show ¬ (9 : Nat) = 13 by decide), nb_RR, if_neg (show ¬ (9 : Nat) = 12 by decide), nb_RR, if_neg (show ¬ (9 : Nat) = 11 by decide), nb_RR, if_neg (show ¬ (9 : Nat) = 10 by decide), nb_RR, if_pos rfl]
theorem fkX_10 (Y : St × St) (r1 r2 r5 r6 r8 r9 r10 r11 r12 r13 r14 r15 r16 r17 r18 : Nat → Int32) : sR (fkX Y r1 r2 r5 r6 r8 r9 r10 r11 r12 r13 r14 r15 r16 r17 r18).1 10 = r10 := by
  unfold fkX
  rw [nb_RR, if_neg (show ¬ (10 : Nat) = 18 by decide), nb_RR, if_neg (show ¬ (10 : Nat) = 17 by decide), nb_RR, if_neg (show ¬ (10 : Nat) = 16 by decide), nb_RR, if_neg (show ¬ (10 : Nat) = 15 by decide), nb_RR, if_neg (show ¬ (10 : Nat) = 14 by decide), nb_RR, if_neg (show ¬ (10 : Nat) = 13 by decide), nb_RR, if_neg (show ¬ (10 : Nat) = 12 by decide), nb_RR, if_neg (show ¬ (10 : Nat) = 11 by decide), nb_RR, if_pos rfl]
theorem fkX_11 (Y : St × St) (r1 r2 r5 r6 r8 r9 r10 r11 r12 r13 r14 r15 r16 r17 r18 : Nat → Int32) : sR (fkX Y r1 r2 r5 r6 r8 r9 r10 r11 r12 r13 r14 r15 r16 r17 r18).1 11 = r11 := by
  unfold fkX
  rw [nb_RR, if_neg (show ¬ (11 : Nat) = 18 by decide), nb_RR, if_neg (show ¬ (11 : Nat) = 17 by decide), nb_RR, if_neg (show ¬ (11 : Nat) = 16 by decide), nb_RR, if_neg (show ¬ (11 : Nat) = 15 by decide), nb_RR, if_neg (show ¬ (11 : Nat) = 14 by decide), nb_RR, if_neg (show ¬ (11 : Nat) = 13 by decide), nb_RR, if_neg (show ¬ (11 : Nat) = 12 by decide), nb_RR, if_pos rfl]
theorem fkX_12 (Y : St × St) (r1 r2 r5 r6 r8 r9 r10 r11 r12 r13 r14 r15 r16 r17 r18 : Nat → Int32) : sR (fkX Y r1 r2 r5 r6 r8 r9 r10 r11 r12 r13 r14 r15 r16 r17 r18).1 12 = r12 := by
  unfold fkX
  rw [nb_RR, if_neg (show ¬ (12 : Nat) = 18 by decide), nb_RR, if_neg (show ¬ (12 : Nat) = 17 by decide), nb_RR, if_neg (show ¬ (12 : Nat) = 16 by decide), nb_RR, if_neg (show ¬ (12 : Nat) = 15 by decide), nb_RR, if_neg (show ¬ (12 : Nat) = 14 by decide), nb_RR, if_neg (show ¬ (12 : Nat) = 13 by decide), nb_RR, if_pos rfl]
theorem fkX_13 (Y : St × St) (r1 r2 r5 r6 r8 r9 r10 r11 r12 r13 r14 r15 r16 r17 r18 : Nat → Int32) : sR (fkX Y r1 r2 r5 r6 r8 r9 r10 r11 r12 r13 r14 r15 r16 r17 r18).1 13 = r13 := by
  unfold fkX
  rw [nb_RR, if_neg (show ¬ (13 : Nat) = 18 by decide), nb_RR, if_neg (show ¬ (13 : Nat) = 17 by decide), nb_RR, if_neg (show ¬ (13 : Nat) = 16 by decide), nb_RR, if_neg (show ¬ (13 : Nat) = 15 by decide), nb_RR, if_neg (show ¬ (13 : Nat) = 14 by decide), nb_RR, if_pos rfl]
theorem fkX_14 (Y : St × St) (r1 r2 r5 r6 r8 r9 r10 r11 r12 r13 r14 r15 r16 r17 r18 : Nat → Int32) : sR (fkX Y r1 r2 r5 r6 r8 r9 r10 r11 r12 r13 r14 r15 r16 r17 r18).1 14 = r14 := by
  unfold fkX
  rw [nb_RR, if_neg (show ¬ (14 : Nat) = 18 by decide), nb_RR, if_neg (show ¬ (14 : Nat) = 17 by decide), nb_RR, if_neg (show ¬ (14 : Nat) = 16 by decide), nb_RR, if_neg (show ¬ (14 : Nat) = 15 by decide), nb_RR, if_pos rfl]
theorem fkX_15 (Y : St × St) (r1 r2 r5 r6 r8 r9 r10 r11 r12 r13 r14 r15 r16 r17 r18 : Nat → Int32) : sR (fkX Y r1 r2 r5 r6 r8 r9 r10 r11 r12 r13 r14 r15 r16 r17 r18).1 15 = r15 := by
  unfold fkX
  rw [nb_RR, if_neg (show ¬ (15 : Nat) = 18 by decide), nb_RR, if_neg (show ¬ (15 : Nat) = 17 by decide), nb_RR, if_neg (show ¬ (15 : Nat) = 16 by decide), nb_RR, if_pos rfl]
theorem fkX_16 (Y : St × St) (r1 r2 r5 r6 r8 r9 r10 r11 r12 r13 r14 r15 r16 r17 r18 : Nat → Int32) : sR (fkX Y r1 r2 r5 r6 r8 r9 r10 r11 r12 r13 r14 r15 r16 r17 r18).1 16 = r16 := by
  unfold fkX
  rw [nb_RR, if_neg (show ¬ (16 : Nat) = 18 by decide), nb_RR, if_neg (show ¬ (16 : Nat) = 17 by decide), nb_RR, if_pos rfl]
theorem fkX_17 (Y : St × St) (r1 r2 r5 r6 r8 r9 r10 r11 r12 r13 r14 r15 r16 r17 r18 : Nat → Int32) : sR (fkX Y r1 r2 r5 r6 r8 r9 r10 r11 r12 r13 r14 r15 r16 r17 r18).1 17 = r17 := by
  unfold fkX
  rw [nb_RR, if_neg (show ¬ (17 : Nat) = 18 by decide), nb_RR, if_pos rfl]
theorem fkX_18 (Y : St × St) (r1 r2 r5 r6 r8 r9 r10 r11 r12 r13 r14 r15 r16 r17 r18 : Nat → Int32) : sR (fkX Y r1 r2 r5 r6 r8 r9 r10 r11 r12 r13 r14 r15 r16 r17 r18).1 18 = r18 := by
  unfold fkX
  rw [nb_RR, if_pos rfl]
theorem fkX_o (Y : St × St) (r1 r2 r5 r6 r8 r9 r10 r11 r12 r13 r14 r15 r16 r17 r18 : Nat → Int32) {k : Nat} (h : k = 0 ∨ k = 3 ∨ k = 4 ∨ k = 7 ∨ 19 ≤ k) : sR (fkX Y r1 r2 r5 r6 r8 r9 r10 r11 r12 r13 r14 r15 r16 r17 r18).1 k = sR Y.1 k := by
  unfold fkX
  rw [nb_RR, if_neg (show ¬ (k : Nat) = 18 by omega), nb_RR, if_neg (show ¬ (k : Nat) = 17 by omega), nb_RR, if_neg (show ¬ (k : Nat) = 16 by omega), nb_RR, if_neg (show ¬ (k : Nat) = 15 by omega), nb_RR, if_neg (show ¬ (k : Nat) = 14 by omega), nb_RR, if_neg (show ¬ (k : Nat) = 13 by omega), nb_RR, if_neg (show ¬ (k : Nat) = 12 by omega), nb_RR, if_neg (show ¬ (k : Nat) = 11 by omega), nb_RR, if_neg (show ¬ (k : Nat) = 10 by omega), nb_RR, if_neg (show ¬ (k : Nat) = 9 by omega), nb_RR, if_neg (show ¬ (k : Nat) = 8 by omega), nb_RR, if_neg (show ¬ (k : Nat) = 6 by omega), nb_RR, if_neg (show ¬ (k : Nat) = 5 by omega), nb_RR, if_neg (show ¬ (k : Nat) = 2 by omega), nb_RR, if_neg (show ¬ (k : Nat) = 1 by omega)]
theorem fkX_i (Y : St × St) (r1 r2 r5 r6 r8 r9 r10 r11 r12 r13 r14 r15 r16 r17 r18 : Nat → Int32) (k : Nat) : sI (fkX Y r1 r2 r5 r6 r8 r9 r10 r11 r12 r13 r14 r15 r16 r17 r18).1 k = sI Y.1 k := by
  unfold fkX
  simp only [nb_IR]
theorem fkX_l (Y : St × St) (r1 r2 r5 r6 r8 r9 r10 r11 r12 r13 r14 r15 r16 r17 r18 : Nat → Int32) (k : Nat) : sL (fkX Y r1 r2 r5 r6 r8 r9 r10 r11 r12 r13 r14 r15 r16 r17 r18).1 k = sL Y.1 k := by
  unfold fkX
  simp only [nm_LR]
theorem fkX_q (Y : St × St) (r1 r2 r5 r6 r8 r9 r10 r11 r12 r13 r14 r15 r16 r17 r18 : Nat → Int32) : sQ (fkX Y r1 r2 r5 r6 r8 r9 r10 r11 r12 r13 r14 r15 r16 r17 r18).1 0 = sQ Y.1 0 := by
  unfold fkX
  simp only [nm_QR]
theorem fkX_2n (Y : St × St) (r1 r2 r5 r6 r8 r9 r10 r11 r12 r13 r14 r15 r16 r17 r18 : Nat → Int32) : (fkX Y r1 r2 r5 r6 r8 r9 r10 r11 r12 r13 r14 r15 r16 r17 r18).2 = Y.2 := by
  unfold fkX
  rfl
def fkM (M : St × St) (r1 r2 r3 r4 r5 r6 : Nat → Int32) (sl : Nat → Int64) : St := pQ (pR (pR (pR (pR (pR (pR M.1 1 r1) 2 r2) 3 r3) 4 r4) 5 r5) 6 r6) 0 sl
theorem fkM_1 (M : St × St) (r1 r2 r3 r4 r5 r6 : Nat → Int32) (sl : Nat → Int64) : sR (fkM M r1 r2 r3 r4 r5 r6 sl) 1 = r1 := by
  unfold fkM
  rw [nm_RQ, nb_RR, if_neg (show ¬ (1 : Nat) = 6 by decide), nb_RR, if_neg (show ¬ (1 : Nat) = 5 by decide), nb_RR, if_neg (show ¬ (1 : Nat) = 4 by decide), nb_RR, if_neg (show ¬ (1 : Nat) = 3 by decide), nb_RR, if_neg (show ¬ (1 : Nat) = 2 by decide), nb_RR, if_pos rfl]
theorem fkM_2 (M : St × St) (r1 r2 r3 r4 r5 r6 : Nat → Int32) (sl : Nat → Int64) : sR (fkM M r1 r2 r3 r4 r5 r6 sl) 2 = r2 := by
  unfold fkM
  rw [nm_RQ, nb_RR, if_neg (show ¬ (2 : Nat) = 6 by decide), nb_RR, if_neg (show ¬ (2 : Nat) = 5 by decide), nb_RR, if_neg (show ¬ (2 : Nat) = 4 by decide), nb_RR, if_neg (show ¬ (2 : Nat) = 3 by decide), nb_RR, if_pos rfl]
theorem fkM_3 (M : St × St) (r1 r2 r3 r4 r5 r6 : Nat → Int32) (sl : Nat → Int64) : sR (fkM M r1 r2 r3 r4 r5 r6 sl) 3 = r3 := by
  unfold fkM
  rw [nm_RQ, nb_RR, if_neg (show ¬ (3 : Nat) = 6 by decide), nb_RR, if_neg (show ¬ (3 : Nat) = 5 by decide), nb_RR, if_neg (show ¬ (3 : Nat) = 4 by decide), nb_RR, if_pos rfl]
theorem fkM_4 (M : St × St) (r1 r2 r3 r4 r5 r6 : Nat → Int32) (sl : Nat → Int64) : sR (fkM M r1 r2 r3 r4 r5 r6 sl) 4 = r4 := by
  unfold fkM
  rw [nm_RQ, nb_RR, if_neg (show ¬ (4 : Nat) = 6 by decide), nb_RR, if_neg (show ¬ (4 : Nat) = 5 by decide), nb_RR, if_pos rfl]
theorem fkM_5 (M : St × St) (r1 r2 r3 r4 r5 r6 : Nat → Int32) (sl : Nat → Int64) : sR (fkM M r1 r2 r3 r4 r5 r6 sl) 5 = r5 := by
  unfold fkM
  rw [nm_RQ, nb_RR, if_neg (show ¬ (5 : Nat) = 6 by decide), nb_RR, if_pos rfl]
theorem fkM_6 (M : St × St) (r1 r2 r3 r4 r5 r6 : Nat → Int32) (sl : Nat → Int64) : sR (fkM M r1 r2 r3 r4 r5 r6 sl) 6 = r6 := by
  unfold fkM
  rw [nm_RQ, nb_RR, if_pos rfl]
theorem fkM_o (M : St × St) (r1 r2 r3 r4 r5 r6 : Nat → Int32) (sl : Nat → Int64) {k : Nat} (h : k = 0 ∨ 7 ≤ k) : sR (fkM M r1 r2 r3 r4 r5 r6 sl) k = sR M.1 k := by
  unfold fkM
  rw [nm_RQ, nb_RR, if_neg (show ¬ (k : Nat) = 6 by omega), nb_RR, if_neg (show ¬ (k : Nat) = 5 by omega), nb_RR, if_neg (show ¬ (k : Nat) = 4 by omega), nb_RR, if_neg (show ¬ (k : Nat) = 3 by omega), nb_RR, if_neg (show ¬ (k : Nat) = 2 by omega), nb_RR, if_neg (show ¬ (k : Nat) = 1 by omega)]
theorem fkM_i (M : St × St) (r1 r2 r3 r4 r5 r6 : Nat → Int32) (sl : Nat → Int64) (k : Nat) : sI (fkM M r1 r2 r3 r4 r5 r6 sl) k = sI M.1 k := by
  unfold fkM
  simp only [nm_IQ, nb_IR]
theorem fkM_l (M : St × St) (r1 r2 r3 r4 r5 r6 : Nat → Int32) (sl : Nat → Int64) (k : Nat) : sL (fkM M r1 r2 r3 r4 r5 r6 sl) k = sL M.1 k := by
  unfold fkM
  simp only [nm_LQ, nm_LR]
theorem fkM_q (M : St × St) (r1 r2 r3 r4 r5 r6 : Nat → Int32) (sl : Nat → Int64) : sQ (fkM M r1 r2 r3 r4 r5 r6 sl) 0 = sl := by
  unfold fkM
  rw [nm_QQ, if_pos rfl]
/-- the class's fork -/
theorem fk_C (n : Nat) (hn : 1024 < n) {M X : St × St} {p c w b e : Nat} (hp : p < 16) (hc : c < 16) (hne : p ≠ c) (e4 : sR M.1 6 (p * 7 + 4) = nI w) (e5 : sR M.1 6 (p * 7 + 5) = nI b) (e6 : sR M.1 6 (p * 7 + 6) = nI e) {u : Nat → Int32} {m : Nat} (h : df_X6_fork_91 n n (nI p) (nI c) (nI 0) (pR (pR (pR (pR (pR M.1 2 (va_cpy (sR M.1 2) (sR M.1 2) (64 * p) (64 * c) 64)) 3 (va_cpy (sR M.1 3) (sR M.1 3) (p * 33) (c * 33) 33)) 4 (va_cpy (sR M.1 4) (sR M.1 4) (p * 33) (c * 33) 33)) 5 (va_cpy (sR M.1 5) (sR M.1 5) (p * 16) (c * 16) 16)) 6 (ab (sR M.1 6) c 7), M.2) = df_X6_fork_91 n (m + 1) (nI p) (nI c) (nI 64) (pR (pR (pR (pR (pR (pR M.1 2 (va_cpy (sR M.1 2) (sR M.1 2) (64 * p) (64 * c) 64)) 3 (va_cpy (sR M.1 3) (sR M.1 3) (p * 33) (c * 33) 33)) 4 (va_cpy (sR M.1 4) (sR M.1 4) (p * 33) (c * 33) 33)) 5 (va_cpy (sR M.1 5) (sR M.1 5) (p * 16) (c * 16) 16)) 6 (ab (sR M.1 6) c 7)) 1 u, M.2)) : df_X6_fork n (nI p) (nI c) M = some (fkM M u (va_cpy (sR M.1 2) (sR M.1 2) (64 * p) (64 * c) 64) (upd (upd (va_cpy (sR M.1 3) (sR M.1 3) (p * 33) (c * 33) 33) (c * 33 + 10) (nI 0)) (c * 33 + 32) (sR M.1 3 (p * 33 + 32) + nI 4)) (va_cpy (sR M.1 4) (sR M.1 4) (p * 33) (c * 33) 33) (va_cpy (sR M.1 5) (sR M.1 5) (p * 16) (c * 16) 16) (upd (upd (upd (upd (upd (ab (sR M.1 6) c 7) (c * 7) (nI 1)) (c * 7 + 1) (nI p)) (c * 7 + 4) (nI w)) (c * 7 + 5) (nI b)) (c * 7 + 6) (nI e)) (vp_updL (sQ M.1 0) c (-1)), M.2) := by
  have r3 : va_cpy (sR M.1 3) (sR M.1 3) (p * 33) (c * 33) 33 (c * 33 + 32) = sR M.1 3 (p * 33 + 32) := by
    rw [va_i (by omega)]
    exact congrArg (sR M.1 3) (by omega)
  have k := fk_1 n (S := (pR (pR (pR (pR (pR (pR M.1 2 (va_cpy (sR M.1 2) (sR M.1 2) (64 * p) (64 * c) 64)) 3 (va_cpy (sR M.1 3) (sR M.1 3) (p * 33) (c * 33) 33)) 4 (va_cpy (sR M.1 4) (sR M.1 4) (p * 33) (c * 33) 33)) 5 (va_cpy (sR M.1 5) (sR M.1 5) (p * 16) (c * 16) 16)) 6 (ab (sR M.1 6) c 7)) 1 u, M.2)) hp hc (df_X6_fork_91 n m) (w := w) (b := b) (e := e) (show ab (sR M.1 6) c 7 (p * 7 + 4) = nI w from (ab_o (by omega)).trans e4) (show ab (sR M.1 6) c 7 (p * 7 + 5) = nI b from (ab_o (by omega)).trans e5) (show ab (sR M.1 6) c 7 (p * 7 + 6) = nI e from (ab_o (by omega)).trans e6) hne
  rw [fk_0 n hn M hp hc, h, show df_X6_fork_91 n (m + 1) = dF_X6_fork_91 n (df_X6_fork_91 n m) from rfl, k]
  unfold fkM
  refine congrArg (fun z => some (z, M.2)) ?_
  simp only [nb_RR, Nat.reduceEqDiff, if_false, if_true, ↓reduceIte, nm_QR, r3, nm_rc (a := 6) (b := 1) (by decide), nm_rc (a := 5) (b := 1) (by decide), nm_rc (a := 4) (b := 1) (by decide), nm_rc (a := 3) (b := 1) (by decide), nm_rc (a := 2) (b := 1) (by decide), nm_rc (a := 6) (b := 3) (by decide), nm_rc (a := 5) (b := 3) (by decide), nm_rc (a := 4) (b := 3) (by decide), nm_rr]
/-- the reference's fork, once the child is begun -/
theorem fk_R (n : Nat) (hn : 20000 < n) {Y : St × St} {p c w : Nat} (hp : p < 16) (hc : c < 16) (hne : p ≠ c) (hw : w < 2) (e12 : sI Y.1 12 = nI p) (ew : sR Y.1 8 p = nI w) {fr ri ho : Nat → Int32} {m : Nat} (h : df_X16_fork_274 n n (nI c) (nI 0) (pR (pR (pR (pR (pR (pR (pR (pR (pR (pR (pR Y.1 1 (upd (sR Y.1 1) c (nI 1))) 2 (upd (sR Y.1 2) c (nI p))) 5 (upd (sR Y.1 5) c (sR Y.1 5 p))) 6 (upd (sR Y.1 6) c (sR Y.1 6 p))) 8 (upd (sR Y.1 8) c (nI w))) 9 (upd (va_cpy (sR Y.1 9) (sR Y.1 9) (32 * p) (32 * c) 32) (32 * c + 10) (nI 0))) 10 (upd (sR Y.1 10) c (sR Y.1 10 p + nI 4))) 11 (va_cpy (sR Y.1 11) (sR Y.1 11) (32 * p) (32 * c) 32)) 12 (upd (sR Y.1 12) c (sR Y.1 12 p))) 13 (va_cpy (sR Y.1 13) (sR Y.1 13) (16 * p) (16 * c) 16)) 14 (va_cpy (sR Y.1 14) (sR Y.1 14) (16 * p) (16 * c) 16), Y.2) = df_X16_fork_274 n (m + 1) (nI c) (nI 64) (pR (pR (pR (pR (pR (pR (pR (pR (pR (pR (pR (pR (pR (pR Y.1 1 (upd (sR Y.1 1) c (nI 1))) 2 (upd (sR Y.1 2) c (nI p))) 5 (upd (sR Y.1 5) c (sR Y.1 5 p))) 6 (upd (sR Y.1 6) c (sR Y.1 6 p))) 8 (upd (sR Y.1 8) c (nI w))) 9 (upd (va_cpy (sR Y.1 9) (sR Y.1 9) (32 * p) (32 * c) 32) (32 * c + 10) (nI 0))) 10 (upd (sR Y.1 10) c (sR Y.1 10 p + nI 4))) 11 (va_cpy (sR Y.1 11) (sR Y.1 11) (32 * p) (32 * c) 32)) 12 (upd (sR Y.1 12) c (sR Y.1 12 p))) 13 (va_cpy (sR Y.1 13) (sR Y.1 13) (16 * p) (16 * c) 16)) 14 (va_cpy (sR Y.1 14) (sR Y.1 14) (16 * p) (16 * c) 16)) 16 fr) 17 ri) 18 ho, Y.2)) : df_X16_fork_56 n n (nI c) (nI 0) (pR (pR Y.1 1 (upd (sR Y.1 1) c (nI 1))) 2 (upd (sR Y.1 2) c (nI p)), Y.2) = some (nI c, fkX Y (upd (sR Y.1 1) c (nI 1)) (upd (sR Y.1 2) c (nI p)) (upd (sR Y.1 5) c (sR Y.1 5 p)) (upd (sR Y.1 6) c (sR Y.1 6 p)) (upd (sR Y.1 8) c (nI w)) (upd (va_cpy (sR Y.1 9) (sR Y.1 9) (32 * p) (32 * c) 32) (32 * c + 10) (nI 0)) (upd (sR Y.1 10) c (sR Y.1 10 p + nI 4)) (va_cpy (sR Y.1 11) (sR Y.1 11) (32 * p) (32 * c) 32) (upd (sR Y.1 12) c (sR Y.1 12 p)) (va_cpy (sR Y.1 13) (sR Y.1 13) (16 * p) (16 * c) 16) (va_cpy (sR Y.1 14) (sR Y.1 14) (16 * p) (16 * c) 16) (va_cpy (sR Y.1 15) (sR Y.1 15) (16384 * p) (16384 * c) 16384) fr ri ho) := by
  have a1 := fk_56 n (by omega) (T := (pR (pR Y.1 1 (upd (sR Y.1 1) c (nI 1))) 2 (upd (sR Y.1 2) c (nI p)), Y.2)) hp hc hne hw e12 ew
  simp only [nb_RR, Nat.reduceEqDiff, if_false, ↓reduceIte] at a1
  rw [a1]
  clear a1
  have a2 := fk_210 n (by omega) (T := (pR (pR (pR (pR (pR (pR (pR (pR (pR Y.1 1 (upd (sR Y.1 1) c (nI 1))) 2 (upd (sR Y.1 2) c (nI p))) 5 (upd (sR Y.1 5) c (sR Y.1 5 p))) 6 (upd (sR Y.1 6) c (sR Y.1 6 p))) 8 (upd (sR Y.1 8) c (nI w))) 9 (upd (va_cpy (sR Y.1 9) (sR Y.1 9) (32 * p) (32 * c) 32) (32 * c + 10) (nI 0))) 10 (upd (sR Y.1 10) c (sR Y.1 10 p + nI 4))) 11 (va_cpy (sR Y.1 11) (sR Y.1 11) (32 * p) (32 * c) 32)) 12 (upd (sR Y.1 12) c (sR Y.1 12 p)), Y.2)) hp hc hne (by simp only [nb_IR]; exact e12)
  simp only [nb_RR, Nat.reduceEqDiff, if_false, ↓reduceIte] at a2
  rw [a2, h]
  clear a2 h
  rw [show df_X16_fork_274 n (m + 1) = dF_X16_fork_274 n (df_X16_fork_274 n m) from rfl]
  generalize df_X16_fork_274 n m = F
  generalize hT : (pR (pR (pR (pR (pR (pR (pR (pR (pR (pR (pR (pR (pR (pR Y.1 1 (upd (sR Y.1 1) c (nI 1))) 2 (upd (sR Y.1 2) c (nI p))) 5 (upd (sR Y.1 5) c (sR Y.1 5 p))) 6 (upd (sR Y.1 6) c (sR Y.1 6 p))) 8 (upd (sR Y.1 8) c (nI w))) 9 (upd (va_cpy (sR Y.1 9) (sR Y.1 9) (32 * p) (32 * c) 32) (32 * c + 10) (nI 0))) 10 (upd (sR Y.1 10) c (sR Y.1 10 p + nI 4))) 11 (va_cpy (sR Y.1 11) (sR Y.1 11) (32 * p) (32 * c) 32)) 12 (upd (sR Y.1 12) c (sR Y.1 12 p))) 13 (va_cpy (sR Y.1 13) (sR Y.1 13) (16 * p) (16 * c) 16)) 14 (va_cpy (sR Y.1 14) (sR Y.1 14) (16 * p) (16 * c) 16)) 16 fr) 17 ri) 18 ho : St) = T
  have t12 : sI T 12 = nI p := by rw [← hT]; simp only [nb_IR]; exact e12
  have t15 : sR T 15 = sR Y.1 15 := by rw [← hT]; simp only [nb_RR, Nat.reduceEqDiff, if_false, ↓reduceIte]
  have e1 : dF_X16_fork_274 n F (nI c) (nI 64) (T, Y.2) = df_X16_fork_358 n n (nI c) (nI 0) (T, Y.2) := by
    simp (disch := (first | assumption | decide | omega)) only [dF_X16_fork_274, eq_self, Nat.reduceEqDiff, Nat.reduceLeDiff, nl_0, nl_1, nl_12, nl_16, nl_17, nl_64, nl_1024, no_1, no_1024, pk_mul, nI_add, nm_ck, nI_clamp, nI_ltI, nI_leI, nI_eq, nb_b2, nb_b1, ↓nb_let, nm_z0, nm_z1, nb_II, nb_IR, nb_RI, nb_RR, nm_IL, nm_IQ, nm_RL, nm_RQ, nm_LI, nm_LR, nm_LL, nm_LQ, nm_QI, nm_QR, nm_QL, nm_QQ, nm_rr, nm_ii, nm_eqm, not_false_eq_true, pk_sub, nm_div, nm_shl, nm_shr, nm_ush, nm_or8, nm_or64, nm_or256, nm_m1, nm_m3, nm_m7, nm_m15, nm_m31, nm_m63, nm_m255, nm_m511, nm_m1023, nm_m2047, nm_m65535, Nat.reduceMod, Nat.reducePow, Nat.reduceAdd, Nat.reduceSub, Nat.reduceMul, nm_bo, nm_bi, nm_rc, nm_ic, nm_ri, nm_rl, nm_rq, nm_ql, nm_qi, nm_li, nm_us, nm_uu, nm_cp, nm_sa31, nm_sa7, nm_m127, nm_m2, nm_nz, nm_nzk, nm_eq32, nm_nzf, if_true, if_false, ↓reduceIte, if_pos, if_neg]
  rw [e1, fk_358 n hn (T := (T, Y.2)) hp hc hne t12]
  show some (nI c, (pR T 15 (va_cpy (sR T 15) (sR T 15) (16384 * p) (16384 * c) 16384), Y.2)) = _
  rw [t15, ← hT]
  unfold fkX
  rw [nm_rc (a := 18) (b := 15) (by decide), nm_rc (a := 17) (b := 15) (by decide), nm_rc (a := 16) (b := 15) (by decide)]
