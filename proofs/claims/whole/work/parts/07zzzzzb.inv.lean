/-- the pools stand as they were made -/
def tbW (R : Nat → Int32) : Prop := ∀ j : Nat, j < 32768 → ∃ x : Int32, R j = vp_nar .byte (x.toInt8.toInt32)
/-- a field that is a boolean -/
def b01 (v : Int32) : Prop := v = 0 ∨ v = 1
def poW (σ : S12) : Prop := (∀ i : Nat, i < 9 → σ.2.1 4 i = some i) ∧ (∀ i : Nat, i < 9 → σ.2.1 5 i = some i) ∧ tbW (sR σ.2.2.2.1.2 7) ∧ b01 (sI σ.2.2.2.1.2 10)
/-- the reference's rows of constants: names, shapes, bits of statements; names of registers -/
def nmT (k : Nat) : Int64 := ([16641, 9555, 49939, 82707, 5587731, 74712, 50323, 5267, 1167, 17281, 50509, 2147661, 22869493069, 354469197, 90692, 5595716, 53586, 5558610, 2375937, 2442003, 354763539, 2434008, 38031, 2376577, 2409235, 2409619, 2364563, 140, 524, 1484, 86156, 86540, 4767818, 147, 531, 1491, 38220, 54564161, 69954, 21378, 82690, 20930, 5587714, 5525954, 49226, 6181075, 6637753161544513, 103702052795201, 103717275759425, 103702220567361, 1620582396737, 103712877245249, 103723480445761, 6638110481118017, 6638121084318529, 6182028, 356539183378, 5589254418, 5652748514660626, 35540911272210, 555345068306, 149767936590516498, 84730182, 658288468294, 204476613, 11829321861, 66510, 82258, 256790881679448387, 6080835, 6109507, 272427331, 48452902345027, 9731840323, 2410819, 156551491, 201632067, 43331, 293725470121269571, 9869801795, 9685252419, 9734461763, 39139651, 306022723, 4782403, 70785347, 28203821379, 28004854083, 9868228931, 17504717123, 4761923, 19528984899, 5822787, 68163907, 17504745795, 1421, 82894, 6885715, 6898451, 29006, 6837139, 6898131, 1162, 3194947, 10, 3182676, 6885698, 6837122, 6836674, 6898434, 6836994, 6898114, 82370, 21250, 5587394, 5526274, 76, 588, 341857573, 22024485, 5575013, 89231525, 103813669, 71890405, 9815535717, 28069146725, 5419369701, 15152234597] : List Int64).getD k 0
def shT (k : Nat) : Int32 := ([1, 1, 1, 1, 1, 1, 1, 1, 1, 1, 1, 1, 1, 1, 1, 1, 1, 1, 2, 2, 2, 2, 2, 2, 3, 3, 3, 4, 4, 4, 4, 4, 30, 5, 5, 5, 6, 6, 7, 7, 7, 7, 7, 7, 8, 9, 9, 9, 9, 9, 9, 9, 9, 9, 9, 10, 11, 11, 11, 11, 11, 11, 12, 12, 12, 12, 12, 12, 13, 14, 14, 16, 16, 17, 17, 18, 19, 19, 20, 21, 21, 22, 23, 23, 23, 23, 24, 24, 25, 26, 27, 27, 28, 28, 29, 31, 31, 31, 31, 32, 32, 32, 33, 34, 34, 34, 35, 35, 35, 35, 36, 36, 37, 37, 37, 37, 38, 39, 40, 41, 42, 43, 44, 45, 46, 47, 48, 49] : List Int32).getD k 0
def ptT (k : Nat) : Int32 := ([51, 1073741875, 4147, 8243, 12339, 16435, 20531, 1073762355, 24627, 28723, 33554483, 33558579, 33562675, 33566771, 33570867, 33574963, 33579059, 33583155, 19, 8211, 12307, 16403, 24595, 28691, 4115, 20499, 1073762323, 3, 4099, 8195, 16387, 20483, 103, 35, 4131, 8227, 55, 23, 99, 4195, 16483, 20579, 24675, 28771, 111, 402661423, 134225967, 8239, 536879151, 1610620975, 1073750063, (-2147475409), (-1610604497), (-1073733585), (-536862673), 268443695, (-1073733517), (-1072684941), (-1071636365), (-939515789), (-938467213), (-937418637), 267386895, 4111, 115, 1048691, 19, 32871, 0, 16384, 49152, 1, 36866, 1, 16385, 24577, 8193, 40961, 24833, 32769, 33793, 34817, 35841, 35873, 35905, 35937, 49153, 57345, 2, 16386, 32770, 36866, 32770, 36866, 49154, 19, (-1032173), 1060883, 8243, 1073741875, 12339, 8243, 103, 1, 0, 0, 99, 4195, 20579, 16483, 20579, 16483, 16483, 20579, 24675, 28771, 0, 0, 0, 0, 0, 1, 2, 4, 0, 0, 0, 0] : List Int32).getD k 0
def rgT (k : Nat) : Int32 := ([1869768058, 24946, 28787, 28775, 28788, 12404, 12660, 12916, 12403, 12659, 12385, 12641, 12897, 13153, 13409, 13665, 13921, 14177, 12915, 13171, 13427, 13683, 13939, 14195, 14451, 14707, 3158387, 3223923, 13172, 13428, 13684, 13940] : List Int32).getD k 0
def cstR (τ : S19) : Prop := (∀ k : Nat, k < 128 → sQ τ.2.1 0 k = nmT k ∧ sR τ.2.1 0 k = shT k ∧ sR τ.2.1 1 k = ptT k) ∧ (∀ k : Nat, k < 32 → sR τ.2.2.2.2 1 k = rgT k) ∧ b01 (sI τ.2.1 20) ∧ b01 (sI τ.2.1 21) ∧ b01 (sI τ.2.1 22) ∧ b01 (sI τ.2.1 23)
theorem cst_k {τ τ' : S19} (h : cstR τ) (a : τ'.2.1 = τ.2.1) (b : τ'.2.2.2.2 = τ.2.2.2.2) : cstR τ' := by
  unfold cstR
  rw [a, b]
  exact h
/-- class and reference between two calls -/
def JJ (n : Nat) (σ : S12) (x : S19 × Lb) : Prop := rt σ x.1 ∧ rl σ x.1 ∧ rp σ x ∧ rpP (σ.2.1 1) σ.2.2.2.2.2.2.2.2.1 x.1.1 (sR x.1.2.1 9) ∧ jA n (tl σ) x.1 ∧ (∃ (Nb : Nat → Nat) (pos : Nat → Nat → Nat), bRk n (σ.2.1 2) (tl σ).2.2.2.2.2.2.1 x.1.2.2.1.1 Nb pos) ∧ sI σ.2.2.2.2.1 7 = sI x.1.1 7 ∧ poW σ ∧ cstR x.1
/-- what most calls leave -/
def kS (σ σ' : S12) : Prop := (∀ r : Nat, r = 1 ∨ r = 2 ∨ r = 4 ∨ r = 5 → σ'.2.1 r = σ.2.1 r) ∧ σ'.2.2.2.2.2.2.2.2.1 = σ.2.2.2.2.2.2.2.2.1
def kT (τ τ' : S19) : Prop := (∀ j : Nat, j < 5 → sR τ'.1 j = sR τ.1 j) ∧ sO τ'.1 0 = sO τ.1 0 ∧ sR τ'.2.1 9 = sR τ.2.1 9
def kSt (σ σ' : S12) : Prop := sI σ'.1 0 = sI σ.1 0 ∧ sI σ'.1 1 = sI σ.1 1 ∧ sR σ'.2.2.2.1.2 7 = sR σ.2.2.2.1.2 7
def kTt (τ τ' : S19) : Prop := sI τ'.1 1 = sI τ.1 1 ∧ sI τ'.1 2 = sI τ.1 2 ∧ sR τ'.2.2.2.1 3 = sR τ.2.2.2.1 3
theorem rt_k {σ σ' : S12} {τ τ' : S19} (h : rt σ τ) (a : kSt σ σ') (b : kTt τ τ') : rt σ' τ' := by
  unfold rt
  rw [a.1, a.2.1, a.2.2, b.1, b.2.1, b.2.2]
  exact h
theorem rl_k {σ σ' : S12} {τ τ' : S19} (h : rl σ τ) (a : sI σ'.1 2 = sI σ.1 2) (a' : sR σ'.2.2.1 0 = sR σ.2.2.1 0) (b : sI τ'.1 12 = sI τ.1 12) (b' : sR τ'.1 10 = sR τ.1 10) : rl σ' τ' := by
  unfold rl
  rw [a, a', b, b']
  exact h
theorem rp_k {σ σ' : S12} {τ τ' : S19} {x : Lb} (h : rp σ (τ, x)) (a : kS σ σ') (b : kT τ τ') : rp σ' (τ', x) := by
  refine ⟨b.2.1.trans h.1, fun q hq => ?_⟩
  have g := h.2 q hq
  rw [a.1 1 (by omega), a.2]
  show match σ.2.1 1 q with
    | none => sR τ'.1 0 q = 0
    | some j => j < 9 ∧ (¬ sR τ'.1 0 q = 0) ∧ ∃ y, x q = some y ∧ rq (σ.2.2.2.2.2.2.2.2.1 j) q τ' y
  unfold rq
  rw [b.1 0 (by omega), b.1 1 (by omega), b.1 2 (by omega), b.1 3 (by omega), b.1 4 (by omega), b.2.2]
  exact g
theorem rpP_k {σ σ' : S12} {τ τ' : S19} (h : rpP (σ.2.1 1) σ.2.2.2.2.2.2.2.2.1 τ.1 (sR τ.2.1 9)) (a : kS σ σ') (b : kT τ τ') : rpP (σ'.2.1 1) σ'.2.2.2.2.2.2.2.2.1 τ'.1 (sR τ'.2.1 9) := by
  unfold rpP
  rw [a.1 1 (by omega), a.2, b.1 0 (by omega), b.1 1 (by omega), b.1 2 (by omega), b.1 3 (by omega), b.2.2]
  exact h
theorem poW_k {σ σ' : S12} (h : poW σ) (a : kS σ σ') (b : (sR σ'.2.2.2.1.2 7, sI σ'.2.2.2.1.2 10) = (sR σ.2.2.2.1.2 7, sI σ.2.2.2.1.2 10)) : poW σ' := by
  have b1 : sR σ'.2.2.2.1.2 7 = sR σ.2.2.2.1.2 7 := congrArg Prod.fst b
  have b2 : sI σ'.2.2.2.1.2 10 = sI σ.2.2.2.1.2 10 := congrArg Prod.snd b
  unfold poW
  rw [a.1 4 (by omega), a.1 5 (by omega), b1, b2]
  exact h
theorem kS_pl {σ : S12} {t' : S11} (h : ∀ r : Nat, ¬ r = 3 → ¬ r = 0 → t'.2.1 r = σ.2.1 r) (g : t'.2.2.2.2.2.1 = (tl σ).2.2.2.2.2.1) : kS σ (pl σ t') := by
  refine ⟨fun r hr => ?_, g⟩
  show nd_mix 4 t'.2.1 σ.2.1 r = _
  unfold nd_mix
  by_cases c : r < 4
  · rw [if_pos c]
    exact h r (by omega) (by omega)
  · rw [if_neg c]
/-- a call that changed the timeline alone -/
theorem JJ_pl {n : Nat} {σ : S12} {τ τ' : S19} {x : Lb} {t' : S11} (h : JJ n σ (τ, x)) (hr : ∀ r : Nat, ¬ r = 3 → ¬ r = 0 → t'.2.1 r = σ.2.1 r) (hp : t'.2.2.2.2.2.1 = (tl σ).2.2.2.2.2.1) (hj : ∀ j : Nat, j = 1 ∨ j = 2 ∨ j = 12 → sI τ'.1 j = sI τ.1 j) (hR : ∀ j : Nat, j < 5 ∨ 10 ≤ j → sR τ'.1 j = sR τ.1 j) (hO : ∀ j : Nat, sO τ'.1 j = sO τ.1 j) (h1 : τ'.2.1 = τ.2.1) (h2 : τ'.2.2.2 = τ.2.2.2) (hA : jA n t' τ') (hb : ∃ (Nb : Nat → Nat) (pos : Nat → Nat → Nat), bRk n (t'.2.1 2) t'.2.2.2.2.2.2.1 τ'.2.2.1.1 Nb pos) (h7 : sI t'.1 7 = sI τ'.1 7) : JJ n (pl σ t') (τ', x) := by
  have ks := kS_pl hr hp
  have kt : kT τ τ' := ⟨fun j hj => hR j (by omega), hO 0, by rw [h1]⟩
  obtain ⟨a1, a2, a3, a4, a5, a6, a7, a8⟩ := h
  have e : tl (pl σ t') = t' := tl_pl' hr
  refine ⟨rt_k a1 ⟨rfl, rfl, rfl⟩ ⟨hj 1 (by omega), hj 2 (by omega), by rw [h2]⟩, rl_k a2 rfl rfl (hj 12 (by omega)) (hR 10 (by omega)), rp_k a3 ks kt, rpP_k a4 ks kt, by rw [e]; exact hA, ?_, h7, poW_k a8.1 ks rfl, cst_k a8.2 h1 (by rw [h2])⟩
  obtain ⟨Nb, pos, hb⟩ := hb
  refine ⟨Nb, pos, ?_⟩
  rw [e, ks.1 2 (by omega), ← hr 2 (by omega) (by omega)]
  exact hb
theorem JJ_CR {n : Nat} {σ : S12} {τ τ' : S19} {x : Lb} {t' : S11} (h : JJ n σ (τ, x)) (hA : jA n t' τ') (hC : kC (tl σ) t') (hR : kR τ τ') : JJ n (pl σ t') (τ', x) := by
  obtain ⟨_, _, _, _, _, ⟨Nb, pos, hb⟩, a7, _⟩ := id h
  refine JJ_pl h (fun r a _ => hC.2.2.2.1 r a) hC.2.2.2.2.1 (fun j hj => hR.1 j (by omega)) hR.2.1 hR.2.2.1 hR.2.2.2.1 hR.2.2.2.2.2 hA ⟨Nb, pos, ?_⟩ (hC.2.1.trans (a7.trans (hR.1 7 (by omega)).symm))
  rw [hC.2.2.2.1 2 (by omega), hC.2.2.2.2.2, hR.2.2.2.2.1]
  exact hb
theorem JJ_R {n : Nat} {σ : S12} {τ τ' : S19} {x : Lb} (h : JJ n σ (τ, x)) (hA : jA n (tl σ) τ') (hR : kR τ τ') : JJ n σ (τ', x) := by
  have := JJ_CR h hA ⟨rfl, rfl, fun _ => rfl, fun _ _ => rfl, rfl, rfl⟩ hR
  rw [pl_tl] at this
  exact this
theorem JJ_0 {n : Nat} {σ : S12} {τ : S19} {x : Lb} (h : JJ n σ (τ, x)) (v : Int32) : JJ n σ ((pI τ.1 0 v, τ.2), x) := h
/-- both answer alike, and stand -/
def anA {α : Type} (n : Nat) (x : Lb) (c : Option (α × S12)) (r : Option (α × S19)) : Prop := ∃ (v : α) (σ' : S12) (τ' : S19), c = some (v, σ') ∧ r = some (v, τ') ∧ JJ n σ' (τ', x)
def anB {α : Type} (n : Nat) (c : Option (α × S12)) (r : Option (α × (S19 × Lb))) : Prop := ∃ (v : α) (σ' : S12) (x' : S19 × Lb), c = some (v, σ') ∧ r = some (v, x') ∧ JJ n σ' x'
/-- both throw, or answer alike, and stand -/
def anT {α : Type} (n : Nat) (x : Lb) (c : Option ((α × S12) ⊕ (String × S12))) (r : Option (α × S19)) : Prop := (∃ (v : α) (σ' : S12) (τ' : S19), c = some (Sum.inr ("java/lang/IllegalArgumentException", σ')) ∧ r = some (v, τ') ∧ sI τ'.1 0 = 1 ∧ JJ n σ' (τ', x)) ∨ (∃ (v : α) (σ' : S12) (τ' : S19), c = some (Sum.inr ("java/lang/IllegalStateException", σ')) ∧ r = some (v, τ') ∧ sI τ'.1 0 = 2 ∧ JJ n σ' (τ', x)) ∨ ∃ (v : α) (σ' : S12) (τ' : S19), c = some (Sum.inl (v, σ')) ∧ r = some (v, τ') ∧ sI τ'.1 0 = 0 ∧ JJ n σ' (τ', x)
def anV (n : Nat) (x : Lb) (c : Option (S12 ⊕ (String × S12))) (r : Option S19) : Prop := (∃ (σ' : S12) (τ' : S19), c = some (Sum.inr ("java/lang/IllegalArgumentException", σ')) ∧ r = some τ' ∧ sI τ'.1 0 = 1 ∧ JJ n σ' (τ', x)) ∨ (∃ (σ' : S12) (τ' : S19), c = some (Sum.inr ("java/lang/IllegalStateException", σ')) ∧ r = some τ' ∧ sI τ'.1 0 = 2 ∧ JJ n σ' (τ', x)) ∨ ∃ (σ' : S12) (τ' : S19), c = some (Sum.inl σ') ∧ r = some τ' ∧ sI τ'.1 0 = 0 ∧ JJ n σ' (τ', x)
theorem jj_wrote (n T L : Nat) (hn : 70000 < n) (p a : Int32) {σ : S12} {τ : S19} {x : Lb} (h : JJ n σ (τ, x)) : anA n x (df_X12_wrote n T L p a σ) (df_X19_wrote n p a τ) := by
  obtain ⟨r, τ', a1, a2, a3, a4⟩ := jc_wrote n T L hn p a σ τ h.2.2.2.2.1
  exact ⟨r, σ, τ', a1, a2, JJ_R h a3 a4⟩
theorem jj_register (n T L : Nat) (hn : 70000 < n) (p a : Int32) {σ : S12} {τ : S19} {x : Lb} (h : JJ n σ (τ, x)) : anA n x (df_X12_register n T L p a σ) (df_X19_register n p a τ) := by
  obtain ⟨r, τ', a1, a2, a3, a4⟩ := jc_register n T L hn p a σ τ h.2.2.2.2.1
  exact ⟨r, σ, τ', a1, a2, JJ_R h a3 a4⟩
theorem jj_process (n T L : Nat) (hn : 70000 < n) (p a : Int32) {σ : S12} {τ : S19} {x : Lb} (h : JJ n σ (τ, x)) : anA n x (df_X12_process n T L p a σ) (df_X19_process n p a τ) := by
  obtain ⟨r, τ', a1, a2, a3, a4⟩ := jc_process n T L hn p a σ τ h.2.2.2.2.1
  exact ⟨r, σ, τ', a1, a2, JJ_R h a3 a4⟩
theorem jj_peek (n T L : Nat) (hn : 70000 < n) (p a : Int32) {σ : S12} {τ : S19} {x : Lb} (h : JJ n σ (τ, x)) : anA n x (df_X12_peek n T L p a σ) (df_X19_peek n p a τ) := by
  obtain ⟨r, τ', a1, a2, a3, a4⟩ := jc_peek n T L hn p a σ τ h.2.2.2.2.1
  exact ⟨r, σ, τ', a1, a2, JJ_R h a3 a4⟩
theorem jj_descriptor (n T L : Nat) (hn : 70000 < n) (p d w : Int32) {σ : S12} {τ : S19} {x : Lb} (h : JJ n σ (τ, x)) : anA n x (df_X12_descriptor n T L p d w σ) (df_X19_descriptor n p d w τ) := by
  obtain ⟨r, τ', a1, a2, a3, a4⟩ := jc_descriptor n T L hn p d w σ τ h.2.2.2.2.1
  exact ⟨r, σ, τ', a1, a2, JJ_R h a3 a4⟩
theorem jj_held (n T L : Nat) (hn : 70000 < n) (p d w : Int32) {σ : S12} {τ : S19} {x : Lb} (h : JJ n σ (τ, x)) : anA n x (df_X12_held n T L p d w σ) (df_X19_held n p d w τ) := by
  obtain ⟨r, τ', a1, a2, a3, a4⟩ := jc_held n T L hn p d w σ τ h.2.2.2.2.1
  exact ⟨r, σ, τ', a1, a2, JJ_R h a3 a4⟩
theorem jj_shown (n T L : Nat) (hn : 70000 < n) (w : Int32) {σ : S12} {τ : S19} {x : Lb} (h : JJ n σ (τ, x)) : anA n x (df_X12_shown n T L w σ) (df_X19_shown n w τ) := by
  obtain ⟨r, τ', a1, a2, a3, a4⟩ := jc_shown n T L hn w σ τ h.2.2.2.2.1
  exact ⟨r, σ, τ', a1, a2, JJ_R h a3 a4⟩
theorem jj_event (n T L : Nat) (k w : Int32) {σ : S12} {τ : S19} {x : Lb} (h : JJ n σ (τ, x)) : anA n x (df_X12_event n T L k w σ) (df_X19_event n k w τ) := by
  obtain ⟨r, a1, a2, a3, a4⟩ := jc_event n T L k w σ τ h.2.2.2.2.1
  exact ⟨r, σ, _, a1, a2, JJ_R h a3 a4⟩
theorem jj_line (n T L : Nat) (hn : 70000 < n) (k w : Int32) {σ : S12} {τ : S19} {x : Lb} (h : JJ n σ (τ, x)) : anA n x (df_X12_line n T L k w σ) (df_X19_line n k w τ) := by
  obtain ⟨r, a1, a2⟩ := jc_line n T L hn k w σ τ h.2.2.2.1
  exact ⟨r, σ, _, a1, a2, JJ_0 h 0⟩
theorem jj_reason (n T L : Nat) {σ : S12} {τ : S19} {x : Lb} (h : JJ n σ (τ, x)) : anA n x (df_X12_reason n T L σ) (df_X19_reason n τ) := by
  obtain ⟨r, a1, a2⟩ := nb_reason n T L σ τ h.2.2.2.2.2.2.1
  exact ⟨r, σ, _, a1, a2, JJ_0 h 0⟩
theorem jj_logByte (n T L : Nat) (k : Int32) {σ : S12} {τ : S19} {x : Lb} (h : JJ n σ (τ, x)) : anA n x (df_X12_logByte n T L k σ) (df_X19_logByte n k τ) := by
  obtain ⟨r, a1, a2⟩ := nb_logByte n T L k σ τ h.2.1
  exact ⟨r, σ, _, a1, a2, JJ_0 h 0⟩
theorem jj_image (n T L : Nat) (p k : Int32) {σ : S12} {τ : S19} {x : Lb} (h : JJ n σ (τ, x)) : anA n x (df_X12_image n T L p k σ) (df_X19_image n p k τ) := by
  obtain ⟨r, a1, a2⟩ := nb_image n T L p k σ (τ, x) h.2.2.1
  exact ⟨r, σ, _, a1, a2, JJ_0 h 0⟩
theorem jj_program (n T L : Nat) (p k : Int32) {σ : S12} {τ : S19} {x : Lb} (h : JJ n σ (τ, x)) : anB n (df_X12_program n T L p k σ) (df_X19_program n p k (τ, x)) := by
  obtain ⟨r, a1, a2⟩ := nb_program n T L p k σ (τ, x) h.2.2.1
  exact ⟨r, σ, _, a1, a2, JJ_0 h 0⟩
theorem jj_label (n T L : Nat) (p k : Int32) {σ : S12} {τ : S19} {x : Lb} (h : JJ n σ (τ, x)) : anB n (df_X12_label n T L p k σ) (df_X19_label n p k (τ, x)) := by
  obtain ⟨r, a1, a2⟩ := nb_label n T L p k σ (τ, x) h.2.2.1
  exact ⟨r, σ, _, a1, a2, JJ_0 h 0⟩
theorem jj_before (n T L : Nat) (hn : 70000 < n) (p k : Int32) {σ : S12} {τ : S19} {x : Lb} (h : JJ n σ (τ, x)) : anB n (df_X12_before n T L p k σ) (df_X19_before n p k (τ, x)) := by
  obtain ⟨r, σ', a1, a2, rfl⟩ := nb_before n T L (by omega) p k σ (τ, x) h.2.2.1
  exact ⟨r, _, _, a1, a2, JJ_0 h 0⟩
theorem rb_of {n : Nat} {σ : S12} {τ : S19} {Nb : Nat → Nat} {pos : Nat → Nat → Nat} (hb : bRk n (σ.2.1 2) (tl σ).2.2.2.2.2.2.1 τ.2.2.1.1 Nb pos) : rb σ τ := fun k hk => by
  rcases hb.1 k hk with ⟨a, b⟩ | ⟨j, _, a, b, _⟩
  · rw [a, b]; rfl
  · rw [a, b]; rfl
theorem jj_count (n T L : Nat) (hn : 70000 < n) (w : Int32) {σ : S12} {τ : S19} {x : Lb} (h : JJ n σ (τ, x)) : anA n x (df_X12_count n T L w σ) (df_X19_count n w τ) := by
  by_cases c : w = 15
  · subst c
    obtain ⟨r, a1, a2⟩ := nb_count15 n T L σ τ h.1.1
    exact ⟨r, σ, _, a1, a2, JJ_0 h 0⟩
  · by_cases d : w = 16
    · subst d
      obtain ⟨Nb, pos, hb⟩ := h.2.2.2.2.2.1
      obtain ⟨r, a1, a2⟩ := nb_count16 n T L (by omega) σ τ (rb_of hb)
      exact ⟨r, σ, _, a1, a2, JJ_0 h 0⟩
    · obtain ⟨r, τ', a1, a2, a3, a4⟩ := jc_count n T L hn w c d σ τ h.2.2.2.2.1
      exact ⟨r, σ, τ', a1, a2, JJ_R h a3 a4⟩
theorem jj_cut (n T L : Nat) (hn : 70000 < n) {σ : S12} {τ : S19} {x : Lb} (h : JJ n σ (τ, x)) : anA n x (df_X12_cut n T L σ) (df_X19_cut n τ) := by
  obtain ⟨r, t', τ', a1, a2, a3, a4, a5⟩ := jc_cut n T L hn σ τ h.2.2.2.2.1
  exact ⟨r, _, τ', a1, a2, JJ_CR h a3 a4 a5⟩
theorem jj_go (n T L : Nat) (hn : 70000 < n) (v : Int32) {σ : S12} {τ : S19} {x : Lb} (h : JJ n σ (τ, x)) : anV n x (df_X12_go n T L v σ) (df_X19_go n v τ) := by
  rcases jc_go n T L hn v σ τ h.2.2.2.2.1 with ⟨a, b⟩ | ⟨t', τ', a1, a2, a3, a4, a5, a6⟩
  · exact Or.inl ⟨σ, _, a, b, rfl, JJ_0 h 1⟩
  · exact Or.inr (Or.inr ⟨_, τ', a1, a2, a3, JJ_CR h a4 a5 a6⟩)
theorem jj_outside (n T L : Nat) (hn : 70000 < n) (k : Int32) (y : Int64) (b : Int32) {σ : S12} {τ : S19} {x : Lb} (h : JJ n σ (τ, x)) : anT n x (df_X12_outside n T L k y b σ) (df_X19_outside n k y b τ) := by
  rcases jc_outside n T L hn k y b σ τ h.2.2.2.2.1 with ⟨a, b⟩ | ⟨a, b⟩ | ⟨r, t', τ', a1, a2, a3, a4, a5, a6⟩
  · exact Or.inl ⟨0, σ, _, a, b, rfl, JJ_0 h 1⟩
  · exact Or.inr (Or.inl ⟨0, σ, _, a, b, rfl, JJ_0 h 2⟩)
  · exact Or.inr (Or.inr ⟨r, _, τ', a1, a2, a3, JJ_CR h a4 a5 a6⟩)
theorem jj_boot (n T L : Nat) (hn : 70000 < n) (v : Int32) {σ : S12} {τ : S19} {x : Lb} (h : JJ n σ (τ, x)) : anV n x (df_X12_boot n T L v σ) (df_X19_boot n v τ) := by
  rcases jc_boot n T L hn v σ τ h.2.2.2.2.1 h.2.2.2.1 with ⟨a, b⟩ | ⟨a, b⟩ | ⟨t', τ', a1, a2, a3, a4, a5, a6⟩
  · exact Or.inl ⟨σ, _, a, b, rfl, JJ_0 h 1⟩
  · exact Or.inr (Or.inl ⟨σ, _, a, b, rfl, JJ_0 h 2⟩)
  · obtain ⟨_, _, _, _, _, ⟨Nb, pos, hb⟩, a7, _⟩ := id h
    refine Or.inr (Or.inr ⟨_, τ', a1, a2, a3, JJ_pl h a5.2.1 a5.2.2.1 (fun j hj => a6.1 j (by omega)) a6.2.1 a6.2.2.1 a6.2.2.2.1 a6.2.2.2.2.2 a4 ⟨Nb, pos, ?_⟩ (a5.1.trans (a7.trans (a6.1 7 (by omega)).symm))⟩)
    rw [a5.2.1 2 (by omega) (by omega), a5.2.2.2, a6.2.2.2.2.1]
    exact hb
theorem jj_run (n T L : Nat) (hn : 70000 < n) (v : Int32) {σ : S12} {τ : S19} {x : Lb} (h : JJ n σ (τ, x)) : anT n x (df_X12_run n T L v σ) (df_X19_run n v τ) := by
  obtain ⟨Nb, pos, hb⟩ := h.2.2.2.2.2.1
  rcases jc_run n T L hn v σ τ h.2.2.2.2.1 hb with ⟨a, b⟩ | ⟨a, b⟩ | ⟨r, t', τ', a1, a2, a3, a4, a5, a6, a7, a8⟩
  · exact Or.inl ⟨0, σ, _, a, b, rfl, JJ_0 h 1⟩
  · exact Or.inr (Or.inl ⟨0, σ, _, a, b, rfl, JJ_0 h 2⟩)
  · exact Or.inr (Or.inr ⟨r, _, τ', a1, a2, a3, JJ_pl (JJ_0 h 0) (fun r a _ => a7.2.2.1 r a) a7.2.2.2 (fun j hj => a8.1 j (by omega)) a8.2.1 a8.2.2.1 a8.2.2.2.1 a8.2.2.2.2 a4 ⟨Nb, pos, a5⟩ a6⟩)
theorem jj_value (n T L : Nat) (hn : 70000 < n) (v : Int32) {σ : S12} {τ : S19} {x : Lb} (h : JJ n σ (τ, x)) : anT n x (df_X12_value n T L v σ) (df_X19_value n v τ) := by
  obtain ⟨Nb, pos, hb⟩ := h.2.2.2.2.2.1
  rcases jc_value n T L hn v σ τ h.2.2.2.2.1 hb with ⟨a, b⟩ | ⟨a, b⟩ | ⟨r, t', τ', a1, a2, a3, a4, a5, a7, a8⟩
  · exact Or.inl ⟨0, σ, _, a, b, rfl, JJ_0 h 1⟩
  · exact Or.inr (Or.inl ⟨0, σ, _, a, b, rfl, JJ_0 h 2⟩)
  · exact Or.inr (Or.inr ⟨r, _, τ', a1, a2, a3, JJ_pl (JJ_0 h 0) (fun r a _ => a7.1.2.2.1 r a) a7.1.2.2.2 (fun j hj => a8.1.1 j (by omega)) a8.1.2.1 a8.1.2.2.1 a8.1.2.2.2.1 a8.1.2.2.2.2 a4 ⟨Nb, pos, a5⟩ (a7.2.trans (h.2.2.2.2.2.2.1.trans a8.2.symm))⟩)
theorem jj_backTo (n T L : Nat) (hn : 70000 < n) (v : Int32) {σ : S12} {τ : S19} {x : Lb} (h : JJ n σ (τ, x)) : anT n x (df_X12_backTo n T L v σ) (df_X19_backTo n v τ) := by
  obtain ⟨Nb, pos, hb⟩ := h.2.2.2.2.2.1
  rcases jc_backTo n T L hn v σ τ h.2.2.2.2.1 hb with ⟨a, b⟩ | ⟨a, b⟩ | ⟨r, t', τ', a1, a2, a3, a4, a5, a7, a8⟩
  · exact Or.inl ⟨0, σ, _, a, b, rfl, JJ_0 h 1⟩
  · exact Or.inr (Or.inl ⟨0, σ, _, a, b, rfl, JJ_0 h 2⟩)
  · exact Or.inr (Or.inr ⟨r, _, τ', a1, a2, a3, JJ_pl (JJ_0 h 0) (fun r a _ => a7.1.2.2.1 r a) a7.1.2.2.2 (fun j hj => a8.1.1 j (by omega)) a8.1.2.1 a8.1.2.2.1 a8.1.2.2.2.1 a8.1.2.2.2.2 a4 ⟨Nb, pos, a5⟩ (a7.2.trans (h.2.2.2.2.2.2.1.trans a8.2.symm))⟩)
theorem jj_pack (n T L : Nat) (hn : 70000 < n) {σ : S12} {τ : S19} {x : Lb} (h : JJ n σ (τ, x)) : anA n x (df_X12_pack n T L σ) (df_X19_pack n τ) := by
  obtain ⟨r, σ', τ', a1, a2, a3, a4, ⟨b1, b2, b3, b4⟩, ⟨d1, d2, d3, d4, d5, d6, d7, d8, d9⟩⟩ := jc_pack n T L hn σ τ h.2.2.2.2.1
  obtain ⟨e1, e2, e3, e4, e5, ⟨Nb, pos, e6⟩, e7, e8⟩ := h
  have e6 : bRk n (σ.2.1 2) (tl σ).2.2.2.2.2.2.1 τ.2.2.1.1 Nb pos := e6
  have rw2 : σ'.2.1 = σ.2.1 := b4.2.1
  have pp : (tl σ').2.2.2.2.2 = (tl σ).2.2.2.2.2 := b4.2.2.2
  have ks : kS σ σ' := ⟨fun r _ => by rw [rw2], show (tl σ').2.2.2.2.2.1 = (tl σ).2.2.2.2.2.1 by rw [pp]⟩
  have kt : kT τ τ' := ⟨fun j hj => d2 j (by omega), d4 0, by rw [d5]⟩
  refine ⟨r, σ', τ', a1, a2, rt_k e1 ⟨b1 0 (by omega), b1 1 (by omega), by rw [b3]⟩ ⟨d1 1 (by omega) (by omega), d1 2 (by omega) (by omega), d7⟩, a4, rp_k e3 ks kt, rpP_k e4 ks kt, a3, ⟨Nb, pos, ?_⟩, ?_, poW_k e8.1 ks (by rw [b3]), cst_k e8.2 d5 d9⟩
  · show bRk n (σ'.2.1 2) (tl σ').2.2.2.2.2.2.1 τ'.2.2.1.1 Nb pos
    rw [rw2, pp, d6]
    exact e6
  · show sI (tl σ').1 7 = sI τ'.1 7
    rw [b4.1, d1 7 (by omega) (by omega)]
    exact e7
theorem jj_replay (n T L : Nat) (hn : 70000 < n) (v : Int32) {σ : S12} {τ : S19} {x : Lb} (h : JJ n σ (τ, x)) : anT n x (df_X12_replay n T L v σ) (df_X19_replay n v τ) := by
  rcases jc_replay n T L hn v σ τ h.2.2.2.2.1 h.2.2.2.1 h.1 with ⟨a, b⟩ | ⟨a, b⟩ | ⟨r, σ', τ', a1, a2, a3, a4, ⟨z1, z2, z3, z4⟩, ⟨b1, b2, b3, b4, b5, b6, b7, b8⟩, ⟨d1, d2, d3, d4, d5, d6⟩⟩
  · exact Or.inl ⟨0, σ, _, a, b, rfl, JJ_0 h 1⟩
  · exact Or.inr (Or.inl ⟨0, σ, _, a, b, rfl, JJ_0 h 2⟩)
  · obtain ⟨e1, e2, e3, e4, e5, ⟨Nb, pos, e6⟩, e7, e8⟩ := h
    have e6 : bRk n (σ.2.1 2) (tl σ).2.2.2.2.2.2.1 τ.2.2.1.1 Nb pos := e6
    have ks : kS σ σ' := ⟨fun r hr => b3 r (by omega) (by omega), b7⟩
    have kt : kT τ τ' := ⟨fun j hj => d2 j (by omega), d3 0, by rw [d4]⟩
    refine Or.inr (Or.inr ⟨r, σ', τ', a1, a2, a3, ?_, rl_k e2 (b1 2 (by omega) (by omega)) (by rw [b4]) (d1 12 (by omega)) (d2 10 (by omega)), rp_k e3 ks kt, rpP_k e4 ks kt, a4, ⟨Nb, pos, ?_⟩, ?_, poW_k e8.1 ks (by rw [b5]), cst_k e8.2 d4 d6⟩)
    · refine ⟨z1.trans z3.symm, z2.trans z4.symm, by rw [z1]; decide, by rw [z1]; decide, fun y => absurd z2 y, fun j hj => ?_⟩
      rw [z1] at hj
      have hj : (j : Int) < 0 := hj
      omega
    · show bRk n (σ'.2.1 2) (tl σ').2.2.2.2.2.2.1 τ'.2.2.1.1 Nb pos
      rw [b3 2 (by omega) (by omega), b8, d5]
      exact e6
    · exact b6.trans (e7.trans (d1 7 (by omega)).symm)
theorem jb_feed (n T L : Nat) (hn : 21 ≤ n) (a b c d e : Int32) (σ : S12) (τ : S19) (h : rt σ τ) : ∃ (r : Int32) (σ' : S12) (τ' : S19), df_X12_feed n T L a b c d e σ = some (r, σ') ∧ df_X19_feed n a b c d e τ = some (r, τ') ∧ rt σ' τ' ∧ ((σ' = σ ∧ τ' = (pI τ.1 0 0, τ.2)) ∨ (σ' = (pI (wi a b c d e 20 σ).1 1 1, (wi a b c d e 20 σ).2) ∧ τ' = (pI (ui a b c d e 20 (pI τ.1 0 0, τ.2)).1 2 1, (ui a b c d e 20 (pI τ.1 0 0, τ.2)).2))) := by
  obtain ⟨h1, h2, h3, h4, h5, h6⟩ := h
  have h20 : (sI σ.1 0 + 20).toInt = (sI σ.1 0).toInt + 20 := by
    rw [Int32.toInt_add, show (20 : Int32).toInt = 20 from by decide]
    exact Int.bmod_eq_of_le (by omega) (by omega)
  have hc : (sI σ.1 0 + 20 ≤ 32768) ↔ (sI σ.1 0).toInt + 20 ≤ 32768 := by rw [Int32.le_iff_toInt_le, h20, show (32768 : Int32).toInt = 32768 from by decide]
  unfold df_X12_feed df_X12_feed_0 df_X19_feed df_X19_feed_0
  by_cases cc : sI σ.1 0 + 20 ≤ 32768
  · have hh := hc.mp cc
    have p1 := nb_put n T L (by omega) a σ h3 (by omega)
    have p2 := nb_put n T L (by omega) b (w4 a σ) (by omega) (by omega)
    have p3 := nb_put n T L (by omega) c (w4 b (w4 a σ)) (by omega) (by omega)
    have p4 := nb_put n T L (by omega) d (w4 c (w4 b (w4 a σ))) (by omega) (by omega)
    have p5 := nb_put n T L (by omega) e (w4 d (w4 c (w4 b (w4 a σ)))) (by omega) (by omega)
    rw [if_pos cc, p1.1]
    show ∃ (r : Int32) (σ' : S12) (τ' : S19), (nd_b1 (df_X12_putOnTape n T L b (w4 a σ)) _ = _) ∧ _
    rw [p2.1]
    show ∃ (r : Int32) (σ' : S12) (τ' : S19), (nd_b1 (df_X12_putOnTape n T L c (w4 b (w4 a σ))) _ = _) ∧ _
    rw [p3.1]
    show ∃ (r : Int32) (σ' : S12) (τ' : S19), (nd_b1 (df_X12_putOnTape n T L d (w4 c (w4 b (w4 a σ)))) _ = _) ∧ _
    rw [p4.1]
    show ∃ (r : Int32) (σ' : S12) (τ' : S19), (nd_b1 (df_X12_putOnTape n T L e (w4 d (w4 c (w4 b (w4 a σ))))) _ = _) ∧ _
    rw [p5.1]
    have hw : w4 e (w4 d (w4 c (w4 b (w4 a σ)))) = wi a b c d e 20 σ := rfl
    rw [hw]
    have hr0 : r0 σ (pI τ.1 0 0, τ.2) := ⟨h1, h3, h6⟩
    obtain ⟨m, rfl⟩ : ∃ m, n = (m + 1) + 20 := ⟨n - 21, by omega⟩
    have hf := nb_fdi (m + 1 + 20) a b c d e hr0 hh 20 (m + 1) (by omega)
    obtain ⟨hr, ht⟩ := nb_ri a b c d e hr0 hh 20 (by omega)
    obtain ⟨X, hX⟩ : ∃ X, X = wi a b c d e 20 σ := ⟨_, rfl⟩
    obtain ⟨Y, hY⟩ : ∃ Y, Y = ui a b c d e 20 (pI τ.1 0 0, τ.2) := ⟨_, rfl⟩
    rw [← hX, ← hY] at hr
    rw [← hX] at ht
    rw [← hX]
    rw [← hY] at hf
    have hz := nb_fd20 (m + 1 + 20) m a b c d e Y
    obtain ⟨q1, q2, q3⟩ := hr
    refine ⟨sI X.1 0, (pI X.1 1 1, X.2), (pI Y.1 2 1, Y.2), rfl, ?_, ⟨q1, rfl, q2, by show (sI X.1 0).toInt ≤ 32768; omega, fun _ => by show 20 ≤ (sI X.1 0).toInt; omega, q3⟩, Or.inr ⟨by rw [hX], by rw [hY]⟩⟩
    show (if sI τ.1 1 + 20 ≤ 32768 then _ else _) = _
    rw [← h1, if_pos cc]
    refine Eq.trans hf ?_
    rw [hz, q1]
  · rw [if_neg cc]
    refine ⟨-1, σ, (pI τ.1 0 0, τ.2), rfl, ?_, ⟨h1, h2, h3, h4, h5, h6⟩, Or.inl ⟨rfl, rfl⟩⟩
    show (if sI τ.1 1 + 20 ≤ 32768 then _ else _) = _
    rw [← h1, if_neg cc]
theorem jb_end (n T L : Nat) (v : Int32) (σ : S12) (τ : S19) (h : rt σ τ) : ∃ (r : Int32) (σ' : S12) (τ' : S19), df_X12_end n T L v σ = some (r, σ') ∧ df_X19_end n v τ = some (r, τ') ∧ rt σ' τ' ∧ ((∀ k : Nat, ¬ k = 0 → ¬ k = 1 → sI σ'.1 k = sI σ.1 k) ∧ σ'.2 = σ.2) ∧ ((∀ j : Nat, ¬ j = 0 → ¬ j = 1 → ¬ j = 2 → sI τ'.1 j = sI τ.1 j) ∧ τ'.1.2 = τ.1.2 ∧ τ'.2 = τ.2) := by
  obtain ⟨h1, h2, h3, h4, h5, h6⟩ := h
  have hin : df_X19_in n v.toInt64 0 20 () = some (if 0 ≤ v.toInt ∧ v.toInt ≤ 20 then 1 else 0, ()) := nb_in32 n v 0 20
  have c0 : (v < 0) ↔ v.toInt < 0 := by rw [Int32.lt_iff_toInt_lt]; rfl
  have c20 : (20 < v) ↔ 20 < v.toInt := by rw [Int32.lt_iff_toInt_lt]; rfl
  have e12 : df_X12_end n T L v σ = if v.toInt < 0 ∨ 20 < v.toInt ∨ sI σ.1 1 = 0 then some (-1, σ) else some (sI σ.1 0 - (20 - v), (pI (pI σ.1 0 (sI σ.1 0 - (20 - v))) 1 0, σ.2)) := by
    unfold df_X12_end df_X12_end_0 df_X12_end_17
    by_cases a : v < 0
    · rw [if_pos a, if_pos (Or.inl (c0.mp a))]
    · rw [if_neg a]
      by_cases b : 20 < v
      · rw [if_pos b, if_pos (Or.inr (Or.inl (c20.mp b)))]
      · rw [if_neg b]
        by_cases d : sI σ.1 1 = 0
        · rw [if_pos d, if_pos (Or.inr (Or.inr d))]
        · rw [if_neg d, if_neg (fun h => by rcases h with h | h | h; exact a (c0.mpr h); exact b (c20.mpr h); exact d h)]
          rfl
  have e19 : df_X19_end n v τ = if v.toInt < 0 ∨ 20 < v.toInt ∨ sI τ.1 2 = 0 then some (-1, (pI τ.1 0 0, τ.2)) else some (sI τ.1 1 - (20 - v), (pI (pI (pI τ.1 0 0) 1 (sI τ.1 1 - (20 - v))) 2 0, τ.2)) := by
    unfold df_X19_end df_X19_end_0 df_X19_end_24
    show (if sI τ.1 2 = 0 then _ else _) = _
    by_cases d : sI τ.1 2 = 0
    · rw [if_pos d, if_pos (Or.inr (Or.inr d))]
    · rw [if_neg d]
      rw [hin]
      by_cases a : 0 ≤ v.toInt ∧ v.toInt ≤ 20
      · rw [if_pos a, if_neg (fun h => by rcases h with h | h | h; omega; omega; exact d h)]
        rfl
      · rw [if_neg a, if_pos (by by_cases z : v.toInt < 0; exact Or.inl z; exact Or.inr (Or.inl (by omega)))]
        rfl
  rw [e12, e19, ← h1, ← h2]
  by_cases c : v.toInt < 0 ∨ 20 < v.toInt ∨ sI σ.1 1 = 0
  · rw [if_pos c, if_pos c]
    exact ⟨_, _, _, rfl, rfl, ⟨h1, h2, h3, h4, h5, h6⟩, ⟨fun _ _ _ => rfl, rfl⟩, ⟨fun j a _ _ => by rw [nb_II, if_neg a], rfl, rfl⟩⟩
  · rw [if_neg c, if_neg c]
    have hc : ¬ sI σ.1 1 = 0 := fun h => c (Or.inr (Or.inr h))
    have h20 := h5 hc
    have hd : (20 - v : Int32).toInt = 20 - v.toInt := by
      rw [Int32.toInt_sub, show (20 : Int32).toInt = 20 from by decide]
      exact Int.bmod_eq_of_le (by omega) (by omega)
    have hs : (sI σ.1 0 - (20 - v)).toInt = (sI σ.1 0).toInt - (20 - v.toInt) := by
      rw [Int32.toInt_sub, hd]
      exact Int.bmod_eq_of_le (by omega) (by omega)
    refine ⟨_, _, _, rfl, rfl, ⟨rfl, rfl, ?_, ?_, fun h => absurd rfl h, fun j hj => h6 j ?_⟩, ⟨fun k a b => by rw [nb_II, if_neg b, nb_II, if_neg a], rfl⟩, ⟨fun j a b d => by rw [nb_II, if_neg d, nb_II, if_neg b, nb_II, if_neg a], rfl, rfl⟩⟩
    · show 0 ≤ (sI σ.1 0 - (20 - v)).toInt
      omega
    · show (sI σ.1 0 - (20 - v)).toInt ≤ 32768
      omega
    · have hj : (j : Int) < (sI σ.1 0 - (20 - v)).toInt := hj
      omega
theorem jb_drop (n T L : Nat) (k : Int32) (σ : S12) (τ : S19) (h : rb σ τ) : (¬ (0 ≤ k.toInt ∧ k.toInt ≤ 7) → df_X12_drop n T L k σ = some (Sum.inr ("java/lang/IllegalArgumentException", σ)) ∧ df_X19_drop n k τ = some (0, (pI τ.1 0 1, τ.2))) ∧ ((0 ≤ k.toInt ∧ k.toInt ≤ 7) → ∃ (r : Int32) (σ' : S12) (τ' : S19), df_X12_drop n T L k σ = some (Sum.inl (r, σ')) ∧ df_X19_drop n k τ = some (r, τ') ∧ sI τ'.1 0 = 0 ∧ σ' = (σ.1, (pW σ.2.1 2 (va_up (σ.2.1 2) (Int32.toNatClampNeg k) none), σ.2.2)) ∧ τ' = (pI τ.1 0 0, (τ.2.1, ((pR τ.2.2.1.1 1 (upd (sR τ.2.2.1.1 1) (Int32.toNatClampNeg k) (vp_nar .boolean 0)), τ.2.2.1.2), τ.2.2.2)))) := by
  have hin : df_X19_in n k.toInt64 0 7 () = some (if 0 ≤ k.toInt ∧ k.toInt ≤ 7 then 1 else 0, ()) := nb_in32 n k 0 7
  have c8 : (k < 8) ↔ k.toInt < 8 := by rw [Int32.lt_iff_toInt_lt]; rfl
  unfold df_X12_drop df_X12_drop_0 df_X12_drop_10 df_X12_drop_32 df_X19_drop df_X19_drop_0 df_X19_drop_18 df_X19_drop_40 df_X19_drop_41
  rw [hin]
  constructor
  · intro c
    rw [if_neg c, nb_b2, nb_nil, nb_fails, nb_b2]
    constructor
    · by_cases a : k < 0
      · rw [if_pos a]
      · rw [if_neg a, if_neg (by rw [nb_lt0] at a; rw [c8]; omega)]
    · rw [if_neg (by decide), nb_one, nb_z0]
  · intro c
    have hn := nb_nat c.1
    have hk := h (Int32.toNatClampNeg k) (by omega)
    rw [if_pos c, nb_b2, nb_one, nb_fails, nb_b2]
    rw [if_pos (show (0 : Int32) = 0 ∧ (0 : Int32) = 0 from ⟨rfl, rfl⟩), nb_nil]
    rw [if_neg (by rw [nb_lt0]; omega), if_pos (c8.mpr (by omega)), nb_ck c.1 (by omega)]
    cases hs : σ.2.1 2 (Int32.toNatClampNeg k) with
    | none =>
      rw [hs] at hk
      have hk : sR τ.2.2.1.1 1 (Int32.toNatClampNeg k) = 0 := hk
      rw [nb_mN, nb_ck c.1 (by omega), nb_let, nb_z0, nb_dr15 n k 0 τ.2.2.1 c hk (Or.inl rfl), nb_b2, nb_let, nb_nil, nb_z0]
      exact ⟨0, _, _, rfl, rfl, rfl, rfl, rfl⟩
    | some j =>
      rw [hs] at hk
      have hk : sR τ.2.2.1.1 1 (Int32.toNatClampNeg k) = 1 := hk
      rw [nb_mS, nb_ck c.1 (by omega), nb_let, nb_z1, nb_dr15 n k 1 τ.2.2.1 c hk (Or.inr rfl), nb_b2, nb_let, nb_one, nb_z1]
      exact ⟨1, _, _, rfl, rfl, rfl, rfl, rfl⟩
theorem jA_u {n : Nat} {t : S11} {τ τ' : S19} (h : jA n t τ) (hU : sU τ τ') : jA n t τ' := by
  obtain ⟨⟨V, hE⟩, _⟩ := jA_b h
  exact jA_V h hE ⟨rfl, rfl, fun _ => rfl, fun _ => rfl⟩ ⟨rfl, rfl, rfl, rfl⟩ hU hE
theorem jj_end (n T L : Nat) (v : Int32) {σ : S12} {τ : S19} {x : Lb} (h : JJ n σ (τ, x)) : anA n x (df_X12_end n T L v σ) (df_X19_end n v τ) := by
  obtain ⟨r, σ', τ', a1, a2, a3, ⟨b1, b2⟩, ⟨d1, d2, d3⟩⟩ := jb_end n T L v σ τ h.1
  obtain ⟨e1, e2, e3, e4, e5, ⟨Nb, pos, e6⟩, e7, e8⟩ := h
  have sr : ∀ j : Nat, sR τ'.1 j = sR τ.1 j := fun j => congrArg (fun z => z.2.1 j) d2
  have sq : ∀ j : Nat, sQ τ'.1 j = sQ τ.1 j := fun j => congrArg (fun z => z.2.2.1 j) d2
  have so : ∀ j : Nat, sO τ'.1 j = sO τ.1 j := fun j => congrArg (fun z => z.2.2.2 j) d2
  have ks : kS σ σ' := ⟨fun r _ => by rw [b2], by rw [b2]⟩
  have kt : kT τ τ' := ⟨fun j _ => sr j, so 0, by rw [d3]⟩
  have tt : tl σ' = tl σ := by unfold tl; rw [b2]
  refine ⟨r, σ', τ', a1, a2, a3, rl_k e2 (b1 2 (by omega) (by omega)) (by rw [b2]) (d1 12 (by omega) (by omega) (by omega)) (sr 10), rp_k e3 ks kt, rpP_k e4 ks kt, ?_, ⟨Nb, pos, ?_⟩, ?_, poW_k e8.1 ks (by rw [b2]), cst_k e8.2 (by rw [d3]) (by rw [d3])⟩
  · rw [tt]
    exact jA_u e5 ⟨fun j a b => d1 j (by omega) (by omega) (by omega), fun j _ _ => sr j, sq, by show τ'.2.2.1.2 = τ.2.2.1.2; rw [d3]⟩
  · rw [tt, b2]
    show bRk n _ _ τ'.2.2.1.1 Nb pos
    rw [d3]
    exact e6
  · rw [b2]
    exact e7.trans (d1 7 (by omega) (by omega) (by omega)).symm
theorem wi_f (a b c d e : Int32) (σ : S12) : ∀ k : Nat, (wi a b c d e k σ).2.1 = σ.2.1 ∧ (wi a b c d e k σ).2.2.1 = σ.2.2.1 ∧ (wi a b c d e k σ).2.2.2.2 = σ.2.2.2.2 ∧ (∀ j : Nat, ¬ j = 0 → sI (wi a b c d e k σ).1 j = sI σ.1 j) ∧ (tbW (sR σ.2.2.2.1.2 7) → tbW (sR (wi a b c d e k σ).2.2.2.1.2 7)) ∧ sI (wi a b c d e k σ).2.2.2.1.2 10 = sI σ.2.2.2.1.2 10
  | 0 => ⟨rfl, rfl, rfl, fun _ _ => rfl, fun h => h, rfl⟩
  | k + 1 => by
    obtain ⟨i1, i2, i3, i4, i5, i6⟩ := wi_f a b c d e σ k
    refine ⟨i1, i2, i3, fun j hj => ?_, fun h j hj => ?_, i6⟩
    · show sI (pI _ 0 _) j = _
      rw [nb_II, if_neg hj]
      exact i4 j hj
    · by_cases q : j = Int32.toNatClampNeg (sI (wi a b c d e k σ).1 0)
      · exact ⟨_, (if_pos q).trans rfl⟩
      · obtain ⟨y, hy⟩ := i5 h j hj
        exact ⟨y, (if_neg q).trans hy⟩
theorem ui_f (a b c d e : Int32) (τ : S19) : ∀ k : Nat, (ui a b c d e k τ).2.1 = τ.2.1 ∧ (ui a b c d e k τ).2.2.1 = τ.2.2.1 ∧ (ui a b c d e k τ).1.2 = τ.1.2 ∧ (∀ j : Nat, ¬ j = 1 → sI (ui a b c d e k τ).1 j = sI τ.1 j) ∧ (ui a b c d e k τ).2.2.2.2 = τ.2.2.2.2
  | 0 => ⟨rfl, rfl, rfl, fun _ _ => rfl, rfl⟩
  | k + 1 => by
    obtain ⟨i1, i2, i3, i4, i5⟩ := ui_f a b c d e τ k
    refine ⟨i1, i2, i3, fun j hj => ?_, i5⟩
    show sI (pI _ 1 _) j = _
    rw [nb_II, if_neg hj]
    exact i4 j hj
theorem jj_feed (n T L : Nat) (hn : 70000 < n) (a b c d e : Int32) {σ : S12} {τ : S19} {x : Lb} (h : JJ n σ (τ, x)) : anA n x (df_X12_feed n T L a b c d e σ) (df_X19_feed n a b c d e τ) := by
  obtain ⟨r, σ', τ', a1, a2, a3, ⟨rfl, rfl⟩ | ⟨z1, z2⟩⟩ := jb_feed n T L (by omega) a b c d e σ τ h.1
  · exact ⟨r, _, _, a1, a2, JJ_0 h 0⟩
  · obtain ⟨i1, i2, i3, i4, i5, i6⟩ := wi_f a b c d e σ 20
    obtain ⟨u1, u2, u3, u4, u5⟩ := ui_f a b c d e (pI τ.1 0 0, τ.2) 20
    generalize wi a b c d e 20 σ = X at z1 i1 i2 i3 i4 i5 i6
    generalize ui a b c d e 20 (pI τ.1 0 0, τ.2) = Y at z2 u1 u2 u3 u4 u5
    subst z1
    subst z2
    obtain ⟨e1, e2, e3, e4, e5, ⟨Nb, pos, e6⟩, e7, e8⟩ := h
    have si : ∀ j : Nat, ¬ j = 0 → ¬ j = 1 → ¬ j = 2 → sI (pI Y.1 2 1) j = sI τ.1 j := fun j x0 x1 x2 => by
      rw [nb_II, if_neg x2, u4 j x1]
      show sI (pI τ.1 0 0) j = _
      rw [nb_II, if_neg x0]
    have sr : ∀ j : Nat, sR (pI Y.1 2 1) j = sR τ.1 j := fun j => congrArg (fun z => z.2.1 j) u3
    have sq : ∀ j : Nat, sQ (pI Y.1 2 1) j = sQ τ.1 j := fun j => congrArg (fun z => z.2.2.1 j) u3
    have so : ∀ j : Nat, sO (pI Y.1 2 1) j = sO τ.1 j := fun j => congrArg (fun z => z.2.2.2 j) u3
    have ks : kS σ (pI X.1 1 1, X.2) := ⟨fun r _ => by show X.2.1 r = _; rw [i1], by show X.2.2.2.2.2.2.2.2.1 = _; rw [i3]⟩
    have kt : kT τ (pI Y.1 2 1, Y.2) := ⟨fun j _ => sr j, so 0, by show sR Y.2.1 9 = _; rw [u1]⟩
    have tt : tl (pI X.1 1 1, X.2) = tl σ := by
      show (X.2.2.2.2.1, X.2.1, X.2.2.2.2.2.1, X.2.2.2.2.2.2.1, X.2.2.2.2.2.2.2.1, X.2.2.2.2.2.2.2.2.1, X.2.2.2.2.2.2.2.2.2.1, X.2.2.2.2.2.2.2.2.2.2) = _
      rw [i1, i3]
      rfl
    refine ⟨r, _, _, a1, a2, a3, rl_k e2 ?_ ?_ (si 12 (by omega) (by omega) (by omega)) (sr 10), rp_k e3 ks kt, rpP_k e4 ks kt, ?_, ⟨Nb, pos, ?_⟩, ?_, ⟨fun i hi => by show X.2.1 4 i = _; rw [i1]; exact e8.1.1 i hi, fun i hi => by show X.2.1 5 i = _; rw [i1]; exact e8.1.2.1 i hi, i5 e8.1.2.2.1, by show b01 (sI X.2.2.2.1.2 10); rw [i6]; exact e8.1.2.2.2⟩, cst_k e8.2 u1 u5⟩
    · show sI (pI X.1 1 1) 2 = _
      rw [nb_II, if_neg (by omega)]
      exact i4 2 (by omega)
    · show sR X.2.2.1 0 = _
      rw [i2]
    · rw [tt]
      exact jA_u e5 ⟨fun j _ _ => si j (by omega) (by omega) (by omega), fun j _ _ => sr j, sq, by show Y.2.2.1.2 = τ.2.2.1.2; rw [u2]⟩
    · rw [tt]
      show bRk n (X.2.1 2) _ Y.2.2.1.1 Nb pos
      rw [i1, u2]
      exact e6
    · show sI X.2.2.2.2.1 7 = sI (pI Y.1 2 1) 7
      rw [i3, si 7 (by omega) (by omega) (by omega)]
      exact e7
theorem jj_drop (n T L : Nat) (k : Int32) {σ : S12} {τ : S19} {x : Lb} (h : JJ n σ (τ, x)) : anT n x (df_X12_drop n T L k σ) (df_X19_drop n k τ) := by
  obtain ⟨Nb, pos, hb⟩ := h.2.2.2.2.2.1
  have hb : bRk n (σ.2.1 2) (tl σ).2.2.2.2.2.2.1 τ.2.2.1.1 Nb pos := hb
  obtain ⟨d1, d2⟩ := jb_drop n T L k σ τ (rb_of hb)
  by_cases c : 0 ≤ k.toInt ∧ k.toInt ≤ 7
  · obtain ⟨r, σ', τ', a1, a2, a3, rfl, rfl⟩ := d2 c
    refine Or.inr (Or.inr ⟨r, _, _, a1, a2, a3, ?_⟩)
    have hn := nb_nat c.1
    obtain ⟨e1, e2, e3, e4, e5, _, e7, e8⟩ := h
    refine ⟨e1, e2, e3, e4, e5, ⟨Nb, pos, fun q hq => ?_, fun q q' j hq hq' a b => ?_⟩, e7, e8⟩
    · show (((if q = Int32.toNatClampNeg k then none else σ.2.1 2 q) = none ∧ (if q = Int32.toNatClampNeg k then _ else sR τ.2.2.1.1 1 q) = nI 0) ∨ ∃ j : Nat, j < 9 ∧ (if q = Int32.toNatClampNeg k then none else σ.2.1 2 q) = some j ∧ (if q = Int32.toNatClampNeg k then _ else sR τ.2.2.1.1 1 q) = nI 1 ∧ bCd n q (Nb q) (pos q) ((tl σ).2.2.2.2.2.2.1 j) _)
      by_cases z : q = Int32.toNatClampNeg k
      · rw [if_pos z, if_pos z]
        exact Or.inl ⟨rfl, rfl⟩
      · rw [if_neg z, if_neg z]
        rcases hb.1 q hq with y | ⟨j, y1, y2, y3, y4⟩
        · exact Or.inl y
        · exact Or.inr ⟨j, y1, y2, y3, bCd_t y4 (cSt_r _) ⟨rfl, fun i _ _ => ⟨rfl, rfl, rfl⟩⟩⟩
    · have a : (if q = Int32.toNatClampNeg k then none else σ.2.1 2 q) = some j := a
      have b : (if q' = Int32.toNatClampNeg k then none else σ.2.1 2 q') = some j := b
      by_cases z : q = Int32.toNatClampNeg k
      · rw [if_pos z] at a; exact nomatch a
      · by_cases z' : q' = Int32.toNatClampNeg k
        · rw [if_pos z'] at b; exact nomatch b
        · rw [if_neg z] at a
          rw [if_neg z'] at b
          exact hb.2 q q' j hq hq' a b
  · obtain ⟨a, b⟩ := d1 c
    exact Or.inl ⟨0, σ, _, a, b, rfl, JJ_0 h 1⟩
