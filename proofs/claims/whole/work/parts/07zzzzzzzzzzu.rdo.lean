/-- both states at the start of a text -/
theorem uC_eq {U : St} {ap kd fr e0 cs tp st ns nl : Nat} {fx : Bool} (h0 : sI U 0 = nI ap) (h1 : sI U 1 = nI e0) (h2 : sI U 2 = nI kd) (h3 : sI U 3 = nI fr) (h5 : sI U 5 = nI cs) (h6 : sI U 6 = nI tp) (h7 : sI U 7 = nI st) (h8 : sI U 8 = nI ns) (h9 : sI U 9 = nI nl) (h10 : sI U 10 = bI fx) : U = uC (xC (bC U e0 nl (sR U 5) (sR U 6)) cs tp st ns fx (sR U 0) (sR U 1) (sR U 2) (sR U 3) (sR U 4)) ap kd fr (sI U 4) := Prod.ext (funext fun j => by
  show U.1 j = if j = 0 then nI ap else if j = 2 then nI kd else if j = 3 then nI fr else if j = 4 then sI U 4 else if j = 5 then nI cs else if j = 6 then nI tp else if j = 7 then nI st else if j = 8 then nI ns else if j = 10 then bI fx else if j = 1 then nI e0 else if j = 9 then nI nl else U.1 j
  by_cases a0 : j = 0
  · rw [if_pos a0, a0]; exact h0
  rw [if_neg a0]
  by_cases a2 : j = 2
  · rw [if_pos a2, a2]; exact h2
  rw [if_neg a2]
  by_cases a3 : j = 3
  · rw [if_pos a3, a3]; exact h3
  rw [if_neg a3]
  by_cases a4 : j = 4
  · rw [if_pos a4, a4]; exact rfl
  rw [if_neg a4]
  by_cases a5 : j = 5
  · rw [if_pos a5, a5]; exact h5
  rw [if_neg a5]
  by_cases a6 : j = 6
  · rw [if_pos a6, a6]; exact h6
  rw [if_neg a6]
  by_cases a7 : j = 7
  · rw [if_pos a7, a7]; exact h7
  rw [if_neg a7]
  by_cases a8 : j = 8
  · rw [if_pos a8, a8]; exact h8
  rw [if_neg a8]
  by_cases a10 : j = 10
  · rw [if_pos a10, a10]; exact h10
  rw [if_neg a10]
  by_cases a1 : j = 1
  · rw [if_pos a1, a1]; exact h1
  rw [if_neg a1]
  by_cases a9 : j = 9
  · rw [if_pos a9, a9]; exact h9
  rw [if_neg a9]) (Prod.ext rfl (Prod.ext (funext fun j => by
  show U.2.2.1 j = if j = 0 then sR U 0 else if j = 1 then sR U 1 else if j = 2 then sR U 2 else if j = 3 then sR U 3 else if j = 4 then sR U 4 else if j = 5 then sR U 5 else if j = 6 then sR U 6 else U.2.2.1 j
  by_cases a0 : j = 0
  · rw [if_pos a0, a0]; rfl
  rw [if_neg a0]
  by_cases a1 : j = 1
  · rw [if_pos a1, a1]; rfl
  rw [if_neg a1]
  by_cases a2 : j = 2
  · rw [if_pos a2, a2]; rfl
  rw [if_neg a2]
  by_cases a3 : j = 3
  · rw [if_pos a3, a3]; rfl
  rw [if_neg a3]
  by_cases a4 : j = 4
  · rw [if_pos a4, a4]; rfl
  rw [if_neg a4]
  by_cases a5 : j = 5
  · rw [if_pos a5, a5]; rfl
  rw [if_neg a5]
  by_cases a6 : j = 6
  · rw [if_pos a6, a6]; rfl
  rw [if_neg a6]) rfl))
theorem qC_eq {Q : St} {sn lu ln se co : Nat} {ft : Int32} (h0 : sI Q 0 = nI sn) (h1 : sI Q 1 = nI lu) (h2 : sI Q 2 = ft) (h3 : sI Q 3 = nI ln) (h4 : sI Q 4 = nI se) (h6 : sI Q 6 = nI co) : Q = qC Q sn lu ft ln se (sI Q 5) co (sR Q 0) (sR Q 1) := Prod.ext (funext fun j => by
  show Q.1 j = if j = 0 then nI sn else if j = 1 then nI lu else if j = 2 then ft else if j = 3 then nI ln else if j = 4 then nI se else if j = 5 then sI Q 5 else if j = 6 then nI co else Q.1 j
  by_cases a0 : j = 0
  · rw [if_pos a0, a0]; exact h0
  rw [if_neg a0]
  by_cases a1 : j = 1
  · rw [if_pos a1, a1]; exact h1
  rw [if_neg a1]
  by_cases a2 : j = 2
  · rw [if_pos a2, a2]; exact h2
  rw [if_neg a2]
  by_cases a3 : j = 3
  · rw [if_pos a3, a3]; exact h3
  rw [if_neg a3]
  by_cases a4 : j = 4
  · rw [if_pos a4, a4]; exact h4
  rw [if_neg a4]
  by_cases a5 : j = 5
  · rw [if_pos a5, a5]; exact rfl
  rw [if_neg a5]
  by_cases a6 : j = 6
  · rw [if_pos a6, a6]; exact h6
  rw [if_neg a6]) (Prod.ext rfl (Prod.ext (funext fun j => by
  show Q.2.2.1 j = if j = 0 then sR Q 0 else if j = 1 then sR Q 1 else Q.2.2.1 j
  by_cases a0 : j = 0
  · rw [if_pos a0, a0]; rfl
  rw [if_neg a0]
  by_cases a1 : j = 1
  · rw [if_pos a1, a1]; rfl
  rw [if_neg a1]) rfl))
theorem SR_eq {S : St} {ct ap tk fr to sg vl : Nat} {ft : Int32} {gr ms dv ls : Bool} (h7 : sI S 7 = nI ap) (h8 : sI S 8 = nI tk) (h9 : sI S 9 = nI fr) (h10 : sI S 10 = nI to) (h12 : sI S 12 = ft) (h18 : sI S 18 = nI ct) (h20 : sI S 20 = bI gr) (h21 : sI S 21 = bI ms) (h22 : sI S 22 = bI dv) (h23 : sI S 23 = bI ls) (h24 : sI S 24 = nI sg) (h25 : sI S 25 = nI vl) : SR S ct gr (sR S 3) (sR S 5) (sR S 9) ft ap S := ⟨ms, dv, ls, sg, vl, sR S 8, tk, fr, to, sI S 11, Prod.ext (funext fun j => by
  show S.1 j = if j = 7 then nI ap else if j = 8 then nI tk else if j = 9 then nI fr else if j = 10 then nI to else if j = 11 then sI S 11 else if j = 12 then ft else if j = 21 then bI ms else if j = 22 then bI dv else if j = 23 then bI ls else if j = 24 then nI sg else if j = 25 then nI vl else if j = 18 then nI ct else if j = 20 then bI gr else S.1 j
  by_cases a7 : j = 7
  · rw [if_pos a7, a7]; exact h7
  rw [if_neg a7]
  by_cases a8 : j = 8
  · rw [if_pos a8, a8]; exact h8
  rw [if_neg a8]
  by_cases a9 : j = 9
  · rw [if_pos a9, a9]; exact h9
  rw [if_neg a9]
  by_cases a10 : j = 10
  · rw [if_pos a10, a10]; exact h10
  rw [if_neg a10]
  by_cases a11 : j = 11
  · rw [if_pos a11, a11]; exact rfl
  rw [if_neg a11]
  by_cases a12 : j = 12
  · rw [if_pos a12, a12]; exact h12
  rw [if_neg a12]
  by_cases a21 : j = 21
  · rw [if_pos a21, a21]; exact h21
  rw [if_neg a21]
  by_cases a22 : j = 22
  · rw [if_pos a22, a22]; exact h22
  rw [if_neg a22]
  by_cases a23 : j = 23
  · rw [if_pos a23, a23]; exact h23
  rw [if_neg a23]
  by_cases a24 : j = 24
  · rw [if_pos a24, a24]; exact h24
  rw [if_neg a24]
  by_cases a25 : j = 25
  · rw [if_pos a25, a25]; exact h25
  rw [if_neg a25]
  by_cases a18 : j = 18
  · rw [if_pos a18, a18]; exact h18
  rw [if_neg a18]
  by_cases a20 : j = 20
  · rw [if_pos a20, a20]; exact h20
  rw [if_neg a20]) (Prod.ext rfl (Prod.ext (funext fun j => by
  show S.2.2.1 j = if j = 8 then sR S 8 else if j = 3 then sR S 3 else if j = 5 then sR S 5 else if j = 9 then sR S 9 else S.2.2.1 j
  by_cases a8 : j = 8
  · rw [if_pos a8, a8]; rfl
  rw [if_neg a8]
  by_cases a3 : j = 3
  · rw [if_pos a3, a3]; rfl
  rw [if_neg a3]
  by_cases a5 : j = 5
  · rw [if_pos a5, a5]; rfl
  rw [if_neg a5]
  by_cases a9 : j = 9
  · rw [if_pos a9, a9]; rfl
  rw [if_neg a9]) rfl))⟩
theorem RD_0 {n L : Nat} {c : Nat → Nat} {Q U S : St} {fx gr ms dv ls : Bool} (q0 : sI Q 0 = 0) (q1 : sI Q 1 = 0) (q2 : sI Q 2 = 0) (q3 : sI Q 3 = 0) (q4 : sI Q 4 = 0) (q6 : sI Q 6 = 0) (u5 : sI U 5 = 0) (u8 : sI U 8 = 0) (u9 : sI U 9 = 0) (u10 : sI U 10 = bI fx) (r4 : ∀ h : Nat, h < 256 → sR U 4 h = 0) (r5 : ∀ d : Nat, d < 20 → sR U 5 d = 0) (uo : sO U 0 = some 8) (r7 : ∀ i : Nat, i < L → sR U 7 i = nI (c i)) (s7 : sI S 7 = 0) (s13 : sI S 13 = 1) (s14 : sI S 14 = 0) (s2 : sI S 2 = 0) (s3 : sI S 3 = 0) (s12 : sI S 12 = 0) (s20 : sI S 20 = bI gr) (s21 : sI S 21 = bI ms) (s22 : sI S 22 = bI dv) (s23 : sI S 23 = bI ls) (s0 : sI S 0 = nI L) (sr2 : ∀ i : Nat, i < L → sR S 2 i = nI (c i)) (hc : cstS S) : RDst n L c 0 Q U S := by
  obtain ⟨ap, _, hap⟩ := nI_ex (sI U 0)
  obtain ⟨e0, _, he0⟩ := nI_ex (sI U 1)
  obtain ⟨kd, _, hkd⟩ := nI_ex (sI U 2)
  obtain ⟨fr, _, hfr⟩ := nI_ex (sI U 3)
  obtain ⟨tp, _, htp⟩ := nI_ex (sI U 6)
  obtain ⟨st, _, hst⟩ := nI_ex (sI U 7)
  obtain ⟨tk, _, htk⟩ := nI_ex (sI S 8)
  obtain ⟨f9, _, hf9⟩ := nI_ex (sI S 9)
  obtain ⟨to, _, hto⟩ := nI_ex (sI S 10)
  obtain ⟨ct, _, hct⟩ := nI_ex (sI S 18)
  obtain ⟨sg, _, hsg⟩ := nI_ex (sI S 24)
  obtain ⟨vl, _, hvl⟩ := nI_ex (sI S 25)
  have eU := uC_eq (U := U) (cs := 0) (ns := 0) (nl := 0) hap he0 hkd hfr u5 htp hst u8 u9 u10
  have eQ := qC_eq (Q := Q) (sn := 0) (lu := 0) (ln := 0) (se := 0) (co := 0) (ft := 0) q0 q1 q2 q3 q4 q6
  have hS := SR_eq (S := S) (ap := 0) (ft := 0) s7 htk hf9 hto s12 hct s20 s21 s22 s23 hsg hvl
  refine ⟨S, Q, U, 0, 0, 0, 0, 0, sI Q 5, sR Q 0, sR Q 1, 0, 0, sR U 0, sR U 1, sR U 3, sR U 4, fun _ => 0, fun _ => 0, 0, sR U 5, sR U 6, fun _ => 0, fun _ => 0, 0, 0, sR S 3, sR S 5, sR S 9, fun _ => (9, 0, 0, [], []), fun _ => 0, fun _ => 0, fun _ => 0, fun _ => 0, fun _ => 0, fun _ => 0, fun _ _ => 0, e0, tp, st, fx, sR U 2, ap, kd, fr, sI U 4, ct, gr, ?_, eQ, eU, hS, uo, r7, s0, sr2⟩
  refine ⟨⟨⟨by omega, fun i hi => absurd hi (Nat.not_lt_zero _), fun h hh => r4 h hh, fun i j hi => absurd hi (Nat.not_lt_zero _), fun i hi => absurd hi (Nat.not_lt_zero _)⟩, fun id hid => absurd hid (Nat.not_lt_zero _), fun k hk => absurd hk (Nat.not_lt_zero _), rfl, fun d hd => ⟨r5 (10 + d) (by omega), r5 d (by omega), fun k hk => absurd hk (Nat.not_lt_zero _)⟩, fun k hk => absurd hk (Nat.not_lt_zero _), fun k hk => absurd hk (Nat.not_lt_zero _), fun i j _ hj => absurd hj (Nat.not_lt_zero _), by omega, ⟨by omega, ⟨fun _ => false, fun v hv => absurd (show false = true from hv) (by decide), Nat.zero_le _⟩⟩⟩, s2, s3, fun k hk => absurd hk (Nat.not_lt_zero _), s13, s14, by omega, hc, rfl, by omega, by omega, by omega, rfl, rfl, fun s hs => absurd hs (Nat.not_lt_zero _), fun s t _ ht => absurd ht (Nat.not_lt_zero _), fun k k' _ hk => absurd hk (Nat.not_lt_zero _), fun k hk => absurd hk (Nat.not_lt_zero _), fun k s hk => absurd hk (Nat.not_lt_zero _)⟩
