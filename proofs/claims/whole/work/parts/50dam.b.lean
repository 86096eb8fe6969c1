/-- the pools stand as they were made -/
def tbW (R : Nat → Int32) : Prop := ∀ j : Nat, j < 32768 → ∃ x : Int32, R j = vp_nar .byte (x.toInt8.toInt32)
/-- a field that is a boolean -/
def b01 (v : Int32) : Prop := v = 0 ∨ v = 1
def poW (σ : S12) : Prop := (∀ i : Nat, i < 9 → σ.2.1 4 i = some i) ∧ (∀ i : Nat, i < 9 → σ.2.1 5 i = some i) ∧ tbW (sR σ.2.2.2.1.2 7) ∧ b01 (sI σ.2.2.2.1.2 10)
def cstR (τ : S19) : Prop := (∀ k : Nat, k < 128 → sQ τ.2.1 0 k = nmT k ∧ sR τ.2.1 0 k = shT k ∧ sR τ.2.1 1 k = ptT k) ∧ (∀ k : Nat, k < 32 → sR τ.2.2.2.2 1 k = rgT k) ∧ b01 (sI τ.2.1 20) ∧ b01 (sI τ.2.1 21) ∧ b01 (sI τ.2.1 22) ∧ b01 (sI τ.2.1 23)
theorem cst_k {τ τ' : S19} (h : cstR τ) (a : τ'.2.1 = τ.2.1) (b : τ'.2.2.2.2 = τ.2.2.2.2) : cstR τ' := by
  unfold cstR
  rw [a, b]
  exact h
/-- class and reference between two calls -/
def JJ (n : Nat) (σ : S12) (x : S19 × Lb) : Prop := rt σ x.1 ∧ rl σ x.1 ∧ rp σ x ∧ rpP (σ.2.1 1) σ.2.2.2.2.2.2.2.2.1 x.1.1 (sR x.1.2.1 9) ∧ jA n (tl σ) x.1 ∧ (∃ (Nb : Nat → Nat) (pos : Nat → Nat → Nat), bRk n (σ.2.1 2) (tl σ).2.2.2.2.2.2.1 x.1.2.2.1.1 Nb pos) ∧ sI σ.2.2.2.2.1 7 = sI x.1.1 7 ∧ poW σ ∧ cstR x.1
/-- what most calls leave -/
def kS (σ σ' : S12) : Prop := (∀ r : Nat, r = 1 ∨ r = 2 ∨ r = 4 ∨ r = 5 → σ'.2.1 r = σ.2.1 r) ∧ σ'.2.2.2.2.2.2.2.2.1 = σ.2.2.2.2.2.2.2.2.1
def kT (τ τ' : S19) : Prop := (∀ j : Nat, j < 5 → sR τ'.1 j = sR τ.1 j) ∧ sO τ'.1 0 = sO τ.1 0 ∧ sR τ'.2.1 9 = sR τ.2.1 9
def kSt (σ σ' : S12) : Prop := sI σ'.1 0 = sI σ.1 0 ∧ sI σ'.1 1 = sI σ.1 1 ∧ sR σ'.2.2.2.1.2 7 = sR σ.2.2.2.1.2 7
def kTt (τ τ' : S19) : Prop := sI τ'.1 1 = sI τ.1 1 ∧ sI τ'.1 2 = sI τ.1 2 ∧ sR τ'.2.2.2.1 3 = sR τ.2.2.2.1 3
theorem rt_k {σ σ' : S12} {τ τ' : S19} (h : rt σ τ) (a : kSt σ σ') (b : kTt τ τ') : rt σ' τ' := by
  unfold rt
  rw [a.1, a.2.1, a.2.2, b.1, b.2.1, b.2.2]
  exact h
theorem rl_k {σ σ' : S12} {τ τ' : S19} (h : rl σ τ) (a : sI σ'.1 2 = sI σ.1 2) (a' : sR σ'.2.2.1 0 = sR σ.2.2.1 0) (b : sI τ'.1 12 = sI τ.1 12) (b' : sR τ'.1 10 = sR τ.1 10) : rl σ' τ' := by
  unfold rl
  rw [a, a', b, b']
  exact h
theorem rp_k {σ σ' : S12} {τ τ' : S19} {x : Lb} (h : rp σ (τ, x)) (a : kS σ σ') (b : kT τ τ') : rp σ' (τ', x) := by
  refine ⟨b.2.1.trans h.1, fun q hq => ?_⟩
  have g := h.2 q hq
  rw [a.1 1 (by omega), a.2]
  show match σ.2.1 1 q with
    | none => sR τ'.1 0 q = 0
    | some j => j < 9 ∧ (¬ sR τ'.1 0 q = 0) ∧ ∃ y, x q = some y ∧ rq (σ.2.2.2.2.2.2.2.2.1 j) q τ' y
  unfold rq
  rw [b.1 0 (by omega), b.1 1 (by omega), b.1 2 (by omega), b.1 3 (by omega), b.1 4 (by omega), b.2.2]
  exact g
theorem rpP_k {σ σ' : S12} {τ τ' : S19} (h : rpP (σ.2.1 1) σ.2.2.2.2.2.2.2.2.1 τ.1 (sR τ.2.1 9)) (a : kS σ σ') (b : kT τ τ') : rpP (σ'.2.1 1) σ'.2.2.2.2.2.2.2.2.1 τ'.1 (sR τ'.2.1 9) := by
  unfold rpP
  rw [a.1 1 (by omega), a.2, b.1 0 (by omega), b.1 1 (by omega), b.1 2 (by omega), b.1 3 (by omega), b.2.2]
  exact h
theorem poW_k {σ σ' : S12} (h : poW σ) (a : kS σ σ') (b : (sR σ'.2.2.2.1.2 7, sI σ'.2.2.2.1.2 10) = (sR σ.2.2.2.1.2 7, sI σ.2.2.2.1.2 10)) : poW σ' := by
  have b1 : sR σ'.2.2.2.1.2 7 = sR σ.2.2.2.1.2 7 := congrArg Prod.fst b
  have b2 : sI σ'.2.2.2.1.2 10 = sI σ.2.2.2.1.2 10 := congrArg Prod.snd b
  unfold poW
  rw [a.1 4 (by omega), a.1 5 (by omega), b1, b2]
  exact h
theorem kS_pl {σ : S12} {t' : S11} (h : ∀ r : Nat, ¬ r = 3 → ¬ r = 0 → t'.2.1 r = σ.2.1 r) (g : t'.2.2.2.2.2.1 = (tl σ).2.2.2.2.2.1) : kS σ (pl σ t') := by
  refine ⟨fun r hr => ?_, g⟩
  show nd_mix 4 t'.2.1 σ.2.1 r = _
  unfold nd_mix
  by_cases c : r < 4
  · rw [if_pos c]
    exact h r (by omega) (by omega)
  · rw [if_neg c]
/-- a call that changed the timeline alone -/
theorem JJ_pl {n : Nat} {σ : S12} {τ τ' : S19} {x : Lb} {t' : S11} (h : JJ n σ (τ, x)) (hr : ∀ r : Nat, ¬ r = 3 → ¬ r = 0 → t'.2.1 r = σ.2.1 r) (hp : t'.2.2.2.2.2.1 = (tl σ).2.2.2.2.2.1) (hj : ∀ j : Nat, j = 1 ∨ j = 2 ∨ j = 12 → sI τ'.1 j = sI τ.1 j) (hR : ∀ j : Nat, j < 5 ∨ 10 ≤ j → sR τ'.1 j = sR τ.1 j) (hO : ∀ j : Nat, sO τ'.1 j = sO τ.1 j) (h1 : τ'.2.1 = τ.2.1) (h2 : τ'.2.2.2 = τ.2.2.2) (hA : jA n t' τ') (hb : ∃ (Nb : Nat → Nat) (pos : Nat → Nat → Nat), bRk n (t'.2.1 2) t'.2.2.2.2.2.2.1 τ'.2.2.1.1 Nb pos) (h7 : sI t'.1 7 = sI τ'.1 7) : JJ n (pl σ t') (τ', x) := by
  have ks := kS_pl hr hp
  have kt : kT τ τ' := ⟨fun j hj => hR j (by omega), hO 0, by rw [h1]⟩
  obtain ⟨a1, a2, a3, a4, a5, a6, a7, a8⟩ := h
  have e : tl (pl σ t') = t' := tl_pl' hr
  refine ⟨rt_k a1 ⟨rfl, rfl, rfl⟩ ⟨hj 1 (by omega), hj 2 (by omega), by rw [h2]⟩, rl_k a2 rfl rfl (hj 12 (by omega)) (hR 10 (by omega)), rp_k a3 ks kt, rpP_k a4 ks kt, by rw [e]; exact hA, ?_, h7, poW_k a8.1 ks rfl, cst_k a8.2 h1 (by rw [h2])⟩
  obtain ⟨Nb, pos, hb⟩ := hb
  refine ⟨Nb, pos, ?_⟩
  rw [e, ks.1 2 (by omega), ← hr 2 (by omega) (by omega)]
  exact hb
theorem JJ_CR {n : Nat} {σ : S12} {τ τ' : S19} {x : Lb} {t' : S11} (h : JJ n σ (τ, x)) (hA : jA n t' τ') (hC : kC (tl σ) t') (hR : kR τ τ') : JJ n (pl σ t') (τ', x) := by
  obtain ⟨_, _, _, _, _, ⟨Nb, pos, hb⟩, a7, _⟩ := id h
  refine JJ_pl h (fun r a _ => hC.2.2.2.1 r a) hC.2.2.2.2.1 (fun j hj => hR.1 j (by omega)) hR.2.1 hR.2.2.1 hR.2.2.2.1 hR.2.2.2.2.2 hA ⟨Nb, pos, ?_⟩ (hC.2.1.trans (a7.trans (hR.1 7 (by omega)).symm))
  rw [hC.2.2.2.1 2 (by omega), hC.2.2.2.2.2, hR.2.2.2.2.1]
  exact hb
theorem JJ_R {n : Nat} {σ : S12} {τ τ' : S19} {x : Lb} (h : JJ n σ (τ, x)) (hA : jA n (tl σ) τ') (hR : kR τ τ') : JJ n σ (τ', x) := by
  have := JJ_CR h hA ⟨rfl, rfl, fun _ => rfl, fun _ _ => rfl, rfl, rfl⟩ hR
  rw [pl_tl] at this
  exact this
theorem JJ_0 {n : Nat} {σ : S12} {τ : S19} {x : Lb} (h : JJ n σ (τ, x)) (v : Int32) : JJ n σ ((pI τ.1 0 v, τ.2), x) := h
/-- both answer alike, and stand -/
def anA {α : Type} (n : Nat) (x : Lb) (c : Option (α × S12)) (r : Option (α × S19)) : Prop := ∃ (v : α) (σ' : S12) (τ' : S19), c = some (v, σ') ∧ r = some (v, τ') ∧ JJ n σ' (τ', x)
def anB {α : Type} (n : Nat) (c : Option (α × S12)) (r : Option (α × (S19 × Lb))) : Prop := ∃ (v : α) (σ' : S12) (x' : S19 × Lb), c = some (v, σ') ∧ r = some (v, x') ∧ JJ n σ' x'
/-- both throw, or answer alike, and stand -/
def anT {α : Type} (n : Nat) (x : Lb) (c : Option ((α × S12) ⊕ (String × S12))) (r : Option (α × S19)) : Prop := (∃ (v : α) (σ' : S12) (τ' : S19), c = some (Sum.inr ("java/lang/IllegalArgumentException", σ')) ∧ r = some (v, τ') ∧ sI τ'.1 0 = 1 ∧ JJ n σ' (τ', x)) ∨ (∃ (v : α) (σ' : S12) (τ' : S19), c = some (Sum.inr ("java/lang/IllegalStateException", σ')) ∧ r = some (v, τ') ∧ sI τ'.1 0 = 2 ∧ JJ n σ' (τ', x)) ∨ ∃ (v : α) (σ' : S12) (τ' : S19), c = some (Sum.inl (v, σ')) ∧ r = some (v, τ') ∧ sI τ'.1 0 = 0 ∧ JJ n σ' (τ', x)
def anV (n : Nat) (x : Lb) (c : Option (S12 ⊕ (String × S12))) (r : Option S19) : Prop := (∃ (σ' : S12) (τ' : S19), c = some (Sum.inr ("java/lang/IllegalArgumentException", σ')) ∧ r = some τ' ∧ sI τ'.1 0 = 1 ∧ JJ n σ' (τ', x)) ∨ (∃ (σ' : S12) (τ' : S19), c = some (Sum.inr ("java/lang/IllegalStateException", σ')) ∧ r = some τ' ∧ sI τ'.1 0 = 2 ∧ JJ n σ' (τ', x)) ∨ ∃ (σ' : S12) (τ' : S19), c = some (Sum.inl σ') ∧ r = some τ' ∧ sI τ'.1 0 = 0 ∧ JJ n σ' (τ', x)
theorem jj_wrote (n T L : Nat) (hn : 70000 < n) (p a : Int32) {σ : S12} {τ : S19} {x : Lb} (h : JJ n σ (τ, x)) : anA n x (df_X12_wrote n T L p a σ) (df_X19_wrote n p a τ) := by
  obtain ⟨r, τ', a1, a2, a3, a4⟩ := jc_wrote n T L hn p a σ τ h.2.2.2.2.1
  exact ⟨r, σ, τ', a1, a2, JJ_R h a3 a4⟩
theorem jj_register (n T L : Nat) (hn : 70000 < n) (p a : Int32) {σ : S12} {τ : S19} {x : Lb} (h : JJ n σ (τ, x)) : anA n x (df_X12_register n T L p a σ) (df_X19_register n p a τ) := by
  obtain ⟨r, τ', a1, a2, a3, a4⟩ := jc_register n T L hn p a σ τ h.2.2.2.2.1
  exact ⟨r, σ, τ', a1, a2, JJ_R h a3 a4⟩
theorem jj_process (n T L : Nat) (hn : 70000 < n) (p a : Int32) {σ : S12} {τ : S19} {x : Lb} (h : JJ n σ (τ, x)) : anA n x (df_X12_process n T L p a σ) (df_X19_process n p a τ) := by
  obtain ⟨r, τ', a1, a2, a3, a4⟩ := jc_process n T L hn p a σ τ h.2.2.2.2.1
  exact ⟨r, σ, τ', a1, a2, JJ_R h a3 a4⟩
theorem jj_peek (n T L : Nat) (hn : 70000 < n) (p a : Int32) {σ : S12} {τ : S19} {x : Lb} (h : JJ n σ (τ, x)) : anA n x (df_X12_peek n T L p a σ) (df_X19_peek n p a τ) := by
  obtain ⟨r, τ', a1, a2, a3, a4⟩ := jc_peek n T L hn p a σ τ h.2.2.2.2.1
  exact ⟨r, σ, τ', a1, a2, JJ_R h a3 a4⟩
theorem jj_descriptor (n T L : Nat) (hn : 70000 < n) (p d w : Int32) {σ : S12} {τ : S19} {x : Lb} (h : JJ n σ (τ, x)) : anA n x (df_X12_descriptor n T L p d w σ) (df_X19_descriptor n p d w τ) := by
  obtain ⟨r, τ', a1, a2, a3, a4⟩ := jc_descriptor n T L hn p d w σ τ h.2.2.2.2.1
  exact ⟨r, σ, τ', a1, a2, JJ_R h a3 a4⟩
theorem jj_held (n T L : Nat) (hn : 70000 < n) (p d w : Int32) {σ : S12} {τ : S19} {x : Lb} (h : JJ n σ (τ, x)) : anA n x (df_X12_held n T L p d w σ) (df_X19_held n p d w τ) := by
  obtain ⟨r, τ', a1, a2, a3, a4⟩ := jc_held n T L hn p d w σ τ h.2.2.2.2.1
  exact ⟨r, σ, τ', a1, a2, JJ_R h a3 a4⟩
theorem jj_shown (n T L : Nat) (hn : 70000 < n) (w : Int32) {σ : S12} {τ : S19} {x : Lb} (h : JJ n σ (τ, x)) : anA n x (df_X12_shown n T L w σ) (df_X19_shown n w τ) := by
  obtain ⟨r, τ', a1, a2, a3, a4⟩ := jc_shown n T L hn w σ τ h.2.2.2.2.1
  exact ⟨r, σ, τ', a1, a2, JJ_R h a3 a4⟩
theorem jj_event (n T L : Nat) (k w : Int32) {σ : S12} {τ : S19} {x : Lb} (h : JJ n σ (τ, x)) : anA n x (df_X12_event n T L k w σ) (df_X19_event n k w τ) := by
  obtain ⟨r, a1, a2, a3, a4⟩ := jc_event n T L k w σ τ h.2.2.2.2.1
  exact ⟨r, σ, _, a1, a2, JJ_R h a3 a4⟩
theorem jj_line (n T L : Nat) (hn : 70000 < n) (k w : Int32) {σ : S12} {τ : S19} {x : Lb} (h : JJ n σ (τ, x)) : anA n x (df_X12_line n T L k w σ) (df_X19_line n k w τ) := by
  obtain ⟨r, a1, a2⟩ := jc_line n T L hn k w σ τ h.2.2.2.1
  exact ⟨r, σ, _, a1, a2, JJ_0 h 0⟩
theorem jj_reason (n T L : Nat) {σ : S12} {τ : S19} {x : Lb} (h : JJ n σ (τ, x)) : anA n x (df_X12_reason n T L σ) (df_X19_reason n τ) := by
  obtain ⟨r, a1, a2⟩ := nb_reason n T L σ τ h.2.2.2.2.2.2.1
  exact ⟨r, σ, _, a1, a2, JJ_0 h 0⟩
theorem jj_logByte (n T L : Nat) (k : Int32) {σ : S12} {τ : S19} {x : Lb} (h : JJ n σ (τ, x)) : anA n x (df_X12_logByte n T L k σ) (df_X19_logByte n k τ) := by
  obtain ⟨r, a1, a2⟩ := nb_logByte n T L k σ τ h.2.1
  exact ⟨r, σ, _, a1, a2, JJ_0 h 0⟩
theorem jj_image (n T L : Nat) (p k : Int32) {σ : S12} {τ : S19} {x : Lb} (h : JJ n σ (τ, x)) : anA n x (df_X12_image n T L p k σ) (df_X19_image n p k τ) := by
  obtain ⟨r, a1, a2⟩ := nb_image n T L p k σ (τ, x) h.2.2.1
  exact ⟨r, σ, _, a1, a2, JJ_0 h 0⟩
theorem jj_program (n T L : Nat) (p k : Int32) {σ : S12} {τ : S19} {x : Lb} (h : JJ n σ (τ, x)) : anB n (df_X12_program n T L p k σ) (df_X19_program n p k (τ, x)) := by
  obtain ⟨r, a1, a2⟩ := nb_program n T L p k σ (τ, x) h.2.2.1
  exact ⟨r, σ, _, a1, a2, JJ_0 h 0⟩
theorem jj_label (n T L : Nat) (p k : Int32) {σ : S12} {τ : S19} {x : Lb} (h : JJ n σ (τ, x)) : anB n (df_X12_label n T L p k σ) (df_X19_label n p k (τ, x)) := by
  obtain ⟨r, a1, a2⟩ := nb_label n T L p k σ (τ, x) h.2.2.1
  exact ⟨r, σ, _, a1, a2, JJ_0 h 0⟩
theorem jj_before (n T L : Nat) (hn : 70000 < n) (p k : Int32) {σ : S12} {τ : S19} {x : Lb} (h : JJ n σ (τ, x)) : anB n (df_X12_before n T L p k σ) (df_X19_before n p k (τ, x)) := by
  obtain ⟨r, σ', a1, a2, rfl⟩ := nb_before n T L (by omega) p k σ (τ, x) h.2.2.1
  exact ⟨r, _, _, a1, a2, JJ_0 h 0⟩
theorem rb_of {n : Nat} {σ : S12} {τ : S19} {Nb : Nat → Nat} {pos : Nat → Nat → Nat} (hb : bRk n (σ.2.1 2) (tl σ).2.2.2.2.2.2.1 τ.2.2.1.1 Nb pos) : rb σ τ := fun k hk => by
  rcases hb.1 k hk with ⟨a, b⟩ | ⟨j, _, a, b, _⟩
  · rw [a, b]; rfl
  · rw [a, b]; rfl
theorem jj_count (n T L : Nat) (hn : 70000 < n) (w : Int32) {σ : S12} {τ : S19} {x : Lb} (h : JJ n σ (τ, x)) : anA n x (df_X12_count n T L w σ) (df_X19_count n w τ) := by
  by_cases c : w = 15
  · subst c
    obtain ⟨r, a1, a2⟩ := nb_count15 n T L σ τ h.1.1
    exact ⟨r, σ, _, a1, a2, JJ_0 h 0⟩
  · by_cases d : w = 16
    · subst d
      obtain ⟨Nb, pos, hb⟩ := h.2.2.2.2.2.1
      obtain ⟨r, a1, a2⟩ := nb_count16 n T L (by omega) σ τ (rb_of hb)
      exact ⟨r, σ, _, a1, a2, JJ_0 h 0⟩
    · obtain ⟨r, τ', a1, a2, a3, a4⟩ := jc_count n T L hn w c d σ τ h.2.2.2.2.1
      exact ⟨r, σ, τ', a1, a2, JJ_R h a3 a4⟩
theorem jj_cut (n T L : Nat) (hn : 70000 < n) {σ : S12} {τ : S19} {x : Lb} (h : JJ n σ (τ, x)) : anA n x (df_X12_cut n T L σ) (df_X19_cut n τ) := by
  obtain ⟨r, t', τ', a1, a2, a3, a4, a5⟩ := jc_cut n T L hn σ τ h.2.2.2.2.1
  exact ⟨r, _, τ', a1, a2, JJ_CR h a3 a4 a5⟩
theorem jj_go (n T L : Nat) (hn : 70000 < n) (v : Int32) {σ : S12} {τ : S19} {x : Lb} (h : JJ n σ (τ, x)) : anV n x (df_X12_go n T L v σ) (df_X19_go n v τ) := by
  rcases jc_go n T L hn v σ τ h.2.2.2.2.1 with ⟨a, b⟩ | ⟨t', τ', a1, a2, a3, a4, a5, a6⟩
  · exact Or.inl ⟨σ, _, a, b, rfl, JJ_0 h 1⟩
  · exact Or.inr (Or.inr ⟨_, τ', a1, a2, a3, JJ_CR h a4 a5 a6⟩)
theorem jj_outside (n T L : Nat) (hn : 70000 < n) (k : Int32) (y : Int64) (b : Int32) {σ : S12} {τ : S19} {x : Lb} (h : JJ n σ (τ, x)) : anT n x (df_X12_outside n T L k y b σ) (df_X19_outside n k y b τ) := by
  rcases jc_outside n T L hn k y b σ τ h.2.2.2.2.1 with ⟨a, b⟩ | ⟨a, b⟩ | ⟨r, t', τ', a1, a2, a3, a4, a5, a6⟩
  · exact Or.inl ⟨0, σ, _, a, b, rfl, JJ_0 h 1⟩
  · exact Or.inr (Or.inl ⟨0, σ, _, a, b, rfl, JJ_0 h 2⟩)
  · exact Or.inr (Or.inr ⟨r, _, τ', a1, a2, a3, JJ_CR h a4 a5 a6⟩)
theorem jj_boot (n T L : Nat) (hn : 70000 < n) (v : Int32) {σ : S12} {τ : S19} {x : Lb} (h : JJ n σ (τ, x)) : anV n x (df_X12_boot n T L v σ) (df_X19_boot n v τ) := by
  rcases jc_boot n T L hn v σ τ h.2.2.2.2.1 h.2.2.2.1 with ⟨a, b⟩ | ⟨a, b⟩ | ⟨t', τ', a1, a2, a3, a4, a5, a6⟩
  · exact Or.inl ⟨σ, _, a, b, rfl, JJ_0 h 1⟩
  · exact Or.inr (Or.inl ⟨σ, _, a, b, rfl, JJ_0 h 2⟩)
  · obtain ⟨_, _, _, _, _, ⟨Nb, pos, hb⟩, a7, _⟩ := id h
    refine Or.inr (Or.inr ⟨_, τ', a1, a2, a3, JJ_pl h a5.2.1 a5.2.2.1 (fun j hj => a6.1 j (by omega)) a6.2.1 a6.2.2.1 a6.2.2.2.1 a6.2.2.2.2.2 a4 ⟨Nb, pos, ?_⟩ (a5.1.trans (a7.trans (a6.1 7 (by omega)).symm))⟩)
    rw [a5.2.1 2 (by omega) (by omega), a5.2.2.2, a6.2.2.2.2.1]
    exact hb
theorem jj_run (n T L : Nat) (hn : 70000 < n) (v : Int32) {σ : S12} {τ : S19} {x : Lb} (h : JJ n σ (τ, x)) : anT n x (df_X12_run n T L v σ) (df_X19_run n v τ) := by
  obtain ⟨Nb, pos, hb⟩ := h.2.2.2.2.2.1
  rcases jc_run n T L hn v σ τ h.2.2.2.2.1 hb with ⟨a, b⟩ | ⟨a, b⟩ | ⟨r, t', τ', a1, a2, a3, a4, a5, a6, a7, a8⟩
  · exact Or.inl ⟨0, σ, _, a, b, rfl, JJ_0 h 1⟩
  · exact Or.inr (Or.inl ⟨0, σ, _, a, b, rfl, JJ_0 h 2⟩)
  · exact Or.inr (Or.inr ⟨r, _, τ', a1, a2, a3, JJ_pl (JJ_0 h 0) (fun r a _ => a7.2.2.1 r a) a7.2.2.2 (fun j hj => a8.1 j (by omega)) a8.2.1 a8.2.2.1 a8.2.2.2.1 a8.2.2.2.2 a4 ⟨Nb, pos, a5⟩ a6⟩)
theorem jj_value (n T L : Nat) (hn : 70000 < n) (v : Int32) {σ : S12} {τ : S19} {x : Lb} (h : JJ n σ (τ, x)) : anT n x (df_X12_value n T L v σ) (df_X19_value n v τ) := by
  obtain ⟨Nb, pos, hb⟩ := h.2.2.2.2.2.1
  rcases jc_value n T L hn v σ τ h.2.2.2.2.1 hb with ⟨a, b⟩ | ⟨a, b⟩ | ⟨r, t', τ', a1, a2, a3, a4, a5, a7, a8⟩
  · exact Or.inl ⟨0, σ, _, a, b, rfl, JJ_0 h 1⟩
  · exact Or.inr (Or.inl ⟨0, σ, _, a, b, rfl, JJ_0 h 2⟩)
  · exact Or.inr (Or.inr ⟨r, _, τ', a1, a2, a3, JJ_pl (JJ_0 h 0) (fun r a _ => a7.1.2.2.1 r a) a7.1.2.2.2 (fun j hj => a8.1.1 j (by omega)) a8.1.2.1 a8.1.2.2.1 a8.1.2.2.2.1 a8.1.2.2.2.2 a4 ⟨Nb, pos, a5⟩ (a7.2.trans (h.2.2.2.2.2.2.1.trans a8.2.symm))⟩)
theorem jj_backTo (n T L : Nat) (hn : 70000 < n) (v : Int32) {σ : S12} {τ : S19} {x : Lb} (h : JJ n σ (τ, x)) : anT n x (df_X12_backTo n T L v σ) (df_X19_backTo n v τ) := by
  obtain ⟨Nb, pos, hb⟩ := h.2.2.2.2.2.1
  rcases jc_backTo n T L hn v σ τ h.2.2.2.2.1 hb with ⟨a, b⟩ | ⟨a, b⟩ | ⟨r, t', τ', a1, a2, a3, a4, a5, a7, a8⟩
  · exact Or.inl ⟨0, σ, _, a, b, rfl, JJ_0 h 1⟩
  · exact Or.inr (Or.inl ⟨0, σ, _, a, b, rfl, JJ_0 h 2⟩)
  · exact Or.inr (Or.inr ⟨r, _, τ', a1, a2, a3, JJ_pl (JJ_0 h 0) (fun r a _ => a7.1.2.2.1 r a) a7.1.2.2.2 (fun j hj => a8.1.1 j (by omega)) a8.1.2.1 a8.1.2.2.1 a8.1.2.2.2.1 a8.1.2.2.2.2 a4 ⟨Nb, pos, a5⟩ (a7.2.trans (h.2.2.2.2.2.2.1.trans a8.2.symm))⟩)
theorem jj_pack (n T L : Nat) (hn : 70000 < n) {σ : S12} {τ : S19} {x : Lb} (h : JJ n σ (τ, x)) : anA n x (df_X12_pack n T L σ) (df_X19_pack n τ) := by
  obtain ⟨r, σ', τ', a1, a2, a3, a4, ⟨b1, b2, b3, b4⟩, ⟨d1, d2, d3, d4, d5, d6, d7, d8, d9⟩⟩ := jc_pack n T L hn σ τ h.2.2.2.2.1
  obtain ⟨e1, e2, e3, e4, e5, ⟨Nb, pos, e6⟩, e7, e8⟩ := h
  have e6 : bRk n (σ.2.1 2) (tl σ).2.2.2.2.2.2.1 τ.2.2.1.1 Nb pos := e6
  have rw2 : σ'.2.1 = σ.2.1 := b4.2.1
  have pp : (tl σ').2.2.2.2.2 = (tl σ).2.2.2.2.2 := b4.2.2.2
  have ks : kS σ σ' := ⟨fun r _ => by rw [rw2], show (tl σ').2.2.2.2.2.1 = (tl σ).2.2.2.2.2.1 by rw [pp]⟩
  have kt : kT τ τ' := ⟨fun j hj => d2 j (by omega), d4 0, by rw [d5]⟩
  refine ⟨r, σ', τ', a1, a2, rt_k e1 ⟨b1 0 (by omega), b1 1 (by omega), by rw [b3]⟩ ⟨d1 1 (by omega) (by omega), d1 2 (by omega) (by omega), d7⟩, a4, rp_k e3 ks kt, rpP_k e4 ks kt, a3, ⟨Nb, pos, ?_⟩, ?_, poW_k e8.1 ks (by rw [b3]), cst_k e8.2 d5 d9⟩
  · show bRk n (σ'.2.1 2) (tl σ').2.2.2.2.2.2.1 τ'.2.2.1.1 Nb pos
    rw [rw2, pp, d6]
    exact e6
  · show sI (tl σ').1 7 = sI τ'.1 7
    rw [b4.1, d1 7 (by omega) (by omega)]
    exact e7
theorem jj_replay (n T L : Nat) (hn : 70000 < n) (v : Int32) {σ : S12} {τ : S19} {x : Lb} (h : JJ n σ (τ, x)) : anT n x (df_X12_replay n T L v σ) (df_X19_replay n v τ) := by
  rcases jc_replay n T L hn v σ τ h.2.2.2.2.1 h.2.2.2.1 h.1 with ⟨a, b⟩ | ⟨a, b⟩ | ⟨r, σ', τ', a1, a2, a3, a4, ⟨z1, z2, z3, z4⟩, ⟨b1, b2, b3, b4, b5, b6, b7, b8⟩, ⟨d1, d2, d3, d4, d5, d6⟩⟩
  · exact Or.inl ⟨0, σ, _, a, b, rfl, JJ_0 h 1⟩
  · exact Or.inr (Or.inl ⟨0, σ, _, a, b, rfl, JJ_0 h 2⟩)
  · obtain ⟨e1, e2, e3, e4, e5, ⟨Nb, pos, e6⟩, e7, e8⟩ := h
    have e6 : bRk n (σ.2.1 2) (tl σ).2.2.2.2.2.2.1 τ.2.2.1.1 Nb pos := e6
    have ks : kS σ σ' := ⟨fun r hr => b3 r (by omega) (by omega), b7⟩
    have kt : kT τ τ' := ⟨fun j hj => d2 j (by omega), d3 0, by rw [d4]⟩
    refine Or.inr (Or.inr ⟨r, σ', τ', a1, a2, a3, ?_, rl_k e2 (b1 2 (by omega) (by omega)) (by rw [b4]) (d1 12 (by omega)) (d2 10 (by omega)), rp_k e3 ks kt, rpP_k e4 ks kt, a4, ⟨Nb, pos, ?_⟩, ?_, poW_k e8.1 ks (by rw [b5]), cst_k e8.2 d4 d6⟩)
    · refine ⟨z1.trans z3.symm, z2.trans z4.symm, by rw [z1]; decide, by rw [z1]; decide, fun y => absurd z2 y, fun j hj => ?_⟩
      rw [z1] at hj
      have hj : (j : Int) < 0 := hj
      omega
    · show bRk n (σ'.2.1 2) (tl σ').2.2.2.2.2.2.1 τ'.2.2.1.1 Nb pos
      rw [b3 2 (by omega) (by omega), b8, d5]
      exact e6
    · exact b6.trans (e7.trans (d1 7 (by omega)).symm)
theorem jb_feed (n T L : Nat) (hn : 21 ≤ n) (a b c d e : Int32) (σ : S12) (τ : S19) (h : rt σ τ) : ∃ (r : Int32) (σ' : S12) (τ' : S19), df_X12_feed n T L a b c d e σ = some (r, σ') ∧ df_X19_feed n a b c d e τ = some (r, τ') ∧ rt σ' τ' ∧ ((σ' = σ ∧ τ' = (pI τ.1 0 0, τ.2)) ∨ (σ' = (pI (wi a b c d e 20 σ).1 1 1, (wi a b c d e 20 σ).2) ∧ τ' = (pI (ui a b c d e 20 (pI τ.1 0 0, τ.2)).1 2 1, (ui a b c d e 20 (pI τ.1 0 0, τ.2)).2))) := by
  obtain ⟨h1, h2, h3, h4, h5, h6⟩ := h
  have h20 : (sI σ.1 0 + 20).toInt = (sI σ.1 0).toInt + 20 := by
    rw [Int32.toInt_add, show (20 : Int32).toInt = 20 from by decide]
    exact Int.bmod_eq_of_le (by omega) (by omega)
  have hc : (sI σ.1 0 + 20 ≤ 32768) ↔ (sI σ.1 0).toInt + 20 ≤ 32768 := by rw [Int32.le_iff_toInt_le, h20, show (32768 : Int32).toInt = 32768 from by decide]
  unfold df_X12_feed df_X12_feed_0 df_X19_feed df_X19_feed_0
  by_cases cc : sI σ.1 0 + 20 ≤ 32768
  · have hh := hc.mp cc
    have p1 := nb_put n T L (by omega) a σ h3 (by omega)
    have p2 := nb_put n T L (by omega) b (w4 a σ) (by omega) (by omega)
    have p3 := nb_put n T L (by omega) c (w4 b (w4 a σ)) (by omega) (by omega)
    have p4 := nb_put n T L (by omega) d (w4 c (w4 b (w4 a σ))) (by omega) (by omega)
    have p5 := nb_put n T L (by omega) e (w4 d (w4 c (w4 b (w4 a σ)))) (by omega) (by omega)
    rw [if_pos cc, p1.1]
    show ∃ (r : Int32) (σ' : S12) (τ' : S19), (nd_b1 (df_X12_putOnTape n T L b (w4 a σ)) _ = _) ∧ _
    rw [p2.1]
    show ∃ (r : Int32) (σ' : S12) (τ' : S19), (nd_b1 (df_X12_putOnTape n T L c (w4 b (w4 a σ))) _ = _) ∧ _
    rw [p3.1]
    show ∃ (r : Int32) (σ' : S12) (τ' : S19), (nd_b1 (df_X12_putOnTape n T L d (w4 c (w4 b (w4 a σ)))) _ = _) ∧ _
    rw [p4.1]
    show ∃ (r : Int32) (σ' : S12) (τ' : S19), (nd_b1 (df_X12_putOnTape n T L e (w4 d (w4 c (w4 b (w4 a σ))))) _ = _) ∧ _
    rw [p5.1]
    have hw : w4 e (w4 d (w4 c (w4 b (w4 a σ)))) = wi a b c d e 20 σ := rfl
    rw [hw]
    have hr0 : r0 σ (pI τ.1 0 0, τ.2) := ⟨h1, h3, h6⟩
    obtain ⟨m, rfl⟩ : ∃ m, n = (m + 1) + 20 := ⟨n - 21, by omega⟩
    have hf := nb_fdi (m + 1 + 20) a b c d e hr0 hh 20 (m + 1) (by omega)
    obtain ⟨hr, ht⟩ := nb_ri a b c d e hr0 hh 20 (by omega)
    obtain ⟨X, hX⟩ : ∃ X, X = wi a b c d e 20 σ := ⟨_, rfl⟩
    obtain ⟨Y, hY⟩ : ∃ Y, Y = ui a b c d e 20 (pI τ.1 0 0, τ.2) := ⟨_, rfl⟩
    rw [← hX, ← hY] at hr
    rw [← hX] at ht
    rw [← hX]
    rw [← hY] at hf
    have hz := nb_fd20 (m + 1 + 20) m a b c d e Y
    obtain ⟨q1, q2, q3⟩ := hr
    refine ⟨sI X.1 0, (pI X.1 1 1, X.2), (pI Y.1 2 1, Y.2), rfl, ?_, ⟨q1, rfl, q2, by show (sI X.1 0).toInt ≤ 32768; omega, fun _ => by show 20 ≤ (sI X.1 0).toInt; omega, q3⟩, Or.inr ⟨by rw [hX], by rw [hY]⟩⟩
    show (if sI τ.1 1 + 20 ≤ 32768 then _ else _) = _
    rw [← h1, if_pos cc]
    refine Eq.trans hf ?_
    rw [hz, q1]
  · rw [if_neg cc]
    refine ⟨-1, σ, (pI τ.1 0 0, τ.2), rfl, ?_, ⟨h1, h2, h3, h4, h5, h6⟩, Or.inl ⟨rfl, rfl⟩⟩
    show (if sI τ.1 1 + 20 ≤ 32768 then _ else _) = _
    rw [← h1, if_neg cc]
theorem jb_end (n T L : Nat) (v : Int32) (σ : S12) (τ : S19) (h : rt σ τ) : ∃ (r : Int32) (σ' : S12) (τ' : S19), df_X12_end n T L v σ = some (r, σ') ∧ df_X19_end n v τ = some (r, τ') ∧ rt σ' τ' ∧ ((∀ k : Nat, ¬ k = 0 → ¬ k = 1 → sI σ'.1 k = sI σ.1 k) ∧ σ'.2 = σ.2) ∧ ((∀ j : Nat, ¬ j = 0 → ¬ j = 1 → ¬ j = 2 → sI τ'.1 j = sI τ.1 j) ∧ τ'.1.2 = τ.1.2 ∧ τ'.2 = τ.2) := by
  obtain ⟨h1, h2, h3, h4, h5, h6⟩ := h
  have hin : df_X19_in n v.toInt64 0 20 () = some (if 0 ≤ v.toInt ∧ v.toInt ≤ 20 then 1 else 0, ()) := nb_in32 n v 0 20
  have c0 : (v < 0) ↔ v.toInt < 0 := by rw [Int32.lt_iff_toInt_lt]; rfl
  have c20 : (20 < v) ↔ 20 < v.toInt := by rw [Int32.lt_iff_toInt_lt]; rfl
  have e12 : df_X12_end n T L v σ = if v.toInt < 0 ∨ 20 < v.toInt ∨ sI σ.1 1 = 0 then some (-1, σ) else some (sI σ.1 0 - (20 - v), (pI (pI σ.1 0 (sI σ.1 0 - (20 - v))) 1 0, σ.2)) := by
    unfold df_X12_end df_X12_end_0 df_X12_end_17
    by_cases a : v < 0
    · rw [if_pos a, if_pos (Or.inl (c0.mp a))]
    · rw [if_neg a]
      by_cases b : 20 < v
      · rw [if_pos b, if_pos (Or.inr (Or.inl (c20.mp b)))]
      · rw [if_neg b]
        by_cases d : sI σ.1 1 = 0
        · rw [if_pos d, if_pos (Or.inr (Or.inr d))]
        · rw [if_neg d, if_neg (fun h => by rcases h with h | h | h; exact a (c0.mpr h); exact b (c20.mpr h); exact d h)]
          rfl
  have e19 : df_X19_end n v τ = if v.toInt < 0 ∨ 20 < v.toInt ∨ sI τ.1 2 = 0 then some (-1, (pI τ.1 0 0, τ.2)) else some (sI τ.1 1 - (20 - v), (pI (pI (pI τ.1 0 0) 1 (sI τ.1 1 - (20 - v))) 2 0, τ.2)) := by
    unfold df_X19_end df_X19_end_0 df_X19_end_24
    show (if sI τ.1 2 = 0 then _ else _) = _
    by_cases d : sI τ.1 2 = 0
    · rw [if_pos d, if_pos (Or.inr (Or.inr d))]
    · rw [if_neg d]
      rw [hin]
      by_cases a : 0 ≤ v.toInt ∧ v.toInt ≤ 20
      · rw [if_pos a, if_neg (fun h => by rcases h with h | h | h; omega; omega; exact d h)]
        rfl
      · rw [if_neg a, if_pos (by by_cases z : v.toInt < 0; exact Or.inl z; exact Or.inr (Or.inl (by omega)))]
        rfl
  rw [e12, e19, ← h1, ← h2]
  by_cases c : v.toInt < 0 ∨ 20 < v.toInt ∨ sI σ.1 1 = 0
  · rw [if_pos c, if_pos c]
    exact ⟨_, _, _, rfl, rfl, ⟨h1, h2, h3, h4, h5, h6⟩, ⟨fun _ _ _ => rfl, rfl⟩, ⟨fun j a _ _ => by rw [nb_II, if_neg a], rfl, rfl⟩⟩
  · rw [if_neg c, if_neg c]
    have hc : ¬ sI σ.1 1 = 0 := fun h => c (Or.inr (Or.inr h))
    have h20 := h5 hc
    have hd : (20 - v : Int32).toInt = 20 - v.toInt := by
      rw [Int32.toInt_sub, show (20 : Int32).toInt = 20 from by decide]
      exact Int.bmod_eq_of_le (by omega) (by omega)
    have hs : (sI σ.1 0 - (20 - v)).toInt = (sI σ.1 0).toInt - (20 - v.toInt) := by
      rw [Int32.toInt_sub, hd]
      exact Int.bmod_eq_of_le (by omega) (by omega)
    refine ⟨_, _, _, rfl, rfl, ⟨rfl, rfl, ?_, ?_, fun h => absurd rfl h, fun j hj => h6 j ?_⟩, ⟨fun k a b => by rw [nb_II, if_neg b, nb_II, if_neg a], rfl⟩, ⟨fun j a b d => by rw [nb_II, if_neg d, nb_II, if_neg b, nb_II, if_neg a], rfl, rfl⟩⟩
    · show 0 ≤ (sI σ.1 0 - (20 - v)).toInt
      omega
    · show (sI σ.1 0 - (20 - v)).toInt ≤ 32768
      omega
    · have hj : (j : Int) < (sI σ.1 0 - (20 - v)).toInt := hj
      omega
theorem jb_drop (n T L : Nat) (k : Int32) (σ : S12) (τ : S19) (h : rb σ τ) : (¬ (0 ≤ k.toInt ∧ k.toInt ≤ 7) → df_X12_drop n T L k σ = some (Sum.inr ("java/lang/IllegalArgumentException", σ)) ∧ df_X19_drop n k τ = some (0, (pI τ.1 0 1, τ.2))) ∧ ((0 ≤ k.toInt ∧ k.toInt ≤ 7) → ∃ (r : Int32) (σ' : S12) (τ' : S19), df_X12_drop n T L k σ = some (Sum.inl (r, σ')) ∧ df_X19_drop n k τ = some (r, τ') ∧ sI τ'.1 0 = 0 ∧ σ' = (σ.1, (pW σ.2.1 2 (va_up (σ.2.1 2) (Int32.toNatClampNeg k) none), σ.2.2)) ∧ τ' = (pI τ.1 0 0, (τ.2.1, ((pR τ.2.2.1.1 1 (upd (sR τ.2.2.1.1 1) (Int32.toNatClampNeg k) (vp_nar .boolean 0)), τ.2.2.1.2), τ.2.2.2)))) := by
  have hin : df_X19_in n k.toInt64 0 7 () = some (if 0 ≤ k.toInt ∧ k.toInt ≤ 7 then 1 else 0, ()) := nb_in32 n k 0 7
  have c8 : (k < 8) ↔ k.toInt < 8 := by rw [Int32.lt_iff_toInt_lt]; rfl
  unfold df_X12_drop df_X12_drop_0 df_X12_drop_10 df_X12_drop_32 df_X19_drop df_X19_drop_0 df_X19_drop_18 df_X19_drop_40 df_X19_drop_41
  rw [hin]
  constructor
  · intro c
    rw [if_neg c, nb_b2, nb_nil, nb_fails, nb_b2]
    constructor
    · by_cases a : k < 0
      · rw [if_pos a]
      · rw [if_neg a, if_neg (by rw [nb_lt0] at a; rw [c8]; omega)]
    · rw [if_neg (by decide), nb_one, nb_z0]
  · intro c
    have hn := nb_nat c.1
    have hk := h (Int32.toNatClampNeg k) (by omega)
    rw [if_pos c, nb_b2, nb_one, nb_fails, nb_b2]
    rw [if_pos (show (0 : Int32) = 0 ∧ (0 : Int32) = 0 from ⟨rfl, rfl⟩), nb_nil]
    rw [if_neg (by rw [nb_lt0]; omega), if_pos (c8.mpr (by omega)), nb_ck c.1 (by omega)]
    cases hs : σ.2.1 2 (Int32.toNatClampNeg k) with
    | none =>
      rw [hs] at hk
      have hk : sR τ.2.2.1.1 1 (Int32.toNatClampNeg k) = 0 := hk
      rw [nb_mN, nb_ck c.1 (by omega), nb_let, nb_z0, nb_dr15 n k 0 τ.2.2.1 c hk (Or.inl rfl), nb_b2, nb_let, nb_nil, nb_z0]
      exact ⟨0, _, _, rfl, rfl, rfl, rfl, rfl⟩
    | some j =>
      rw [hs] at hk
      have hk : sR τ.2.2.1.1 1 (Int32.toNatClampNeg k) = 1 := hk
      rw [nb_mS, nb_ck c.1 (by omega), nb_let, nb_z1, nb_dr15 n k 1 τ.2.2.1 c hk (Or.inr rfl), nb_b2, nb_let, nb_one, nb_z1]
      exact ⟨1, _, _, rfl, rfl, rfl, rfl, rfl⟩
theorem jA_u {n : Nat} {t : S11} {τ τ' : S19} (h : jA n t τ) (hU : sU τ τ') : jA n t τ' := by
  obtain ⟨⟨V, hE⟩, _⟩ := jA_b h
  exact jA_V h hE ⟨rfl, rfl, fun _ => rfl, fun _ => rfl⟩ ⟨rfl, rfl, rfl, rfl⟩ hU hE
theorem jj_end (n T L : Nat) (v : Int32) {σ : S12} {τ : S19} {x : Lb} (h : JJ n σ (τ, x)) : anA n x (df_X12_end n T L v σ) (df_X19_end n v τ) := by
  obtain ⟨r, σ', τ', a1, a2, a3, ⟨b1, b2⟩, ⟨d1, d2, d3⟩⟩ := jb_end n T L v σ τ h.1
  obtain ⟨e1, e2, e3, e4, e5, ⟨Nb, pos, e6⟩, e7, e8⟩ := h
  have sr : ∀ j : Nat, sR τ'.1 j = sR τ.1 j := fun j => congrArg (fun z => z.2.1 j) d2
  have sq : ∀ j : Nat, sQ τ'.1 j = sQ τ.1 j := fun j => congrArg (fun z => z.2.2.1 j) d2
  have so : ∀ j : Nat, sO τ'.1 j = sO τ.1 j := fun j => congrArg (fun z => z.2.2.2 j) d2
  have ks : kS σ σ' := ⟨fun r _ => by rw [b2], by rw [b2]⟩
  have kt : kT τ τ' := ⟨fun j _ => sr j, so 0, by rw [d3]⟩
  have tt : tl σ' = tl σ := by unfold tl; rw [b2]
  refine ⟨r, σ', τ', a1, a2, a3, rl_k e2 (b1 2 (by omega) (by omega)) (by rw [b2]) (d1 12 (by omega) (by omega) (by omega)) (sr 10), rp_k e3 ks kt, rpP_k e4 ks kt, ?_, ⟨Nb, pos, ?_⟩, ?_, poW_k e8.1 ks (by rw [b2]), cst_k e8.2 (by rw [d3]) (by rw [d3])⟩
  · rw [tt]
    exact jA_u e5 ⟨fun j a b => d1 j (by omega) (by omega) (by omega), fun j _ _ => sr j, sq, by show τ'.2.2.1.2 = τ.2.2.1.2; rw [d3]⟩
  · rw [tt, b2]
    show bRk n _ _ τ'.2.2.1.1 Nb pos
    rw [d3]
    exact e6
  · rw [b2]
    exact e7.trans (d1 7 (by omega) (by omega) (by omega)).symm
theorem wi_f (a b c d e : Int32) (σ : S12) : ∀ k : Nat, (wi a b c d e k σ).2.1 = σ.2.1 ∧ (wi a b c d e k σ).2.2.1 = σ.2.2.1 ∧ (wi a b c d e k σ).2.2.2.2 = σ.2.2.2.2 ∧ (∀ j : Nat, ¬ j = 0 → sI (wi a b c d e k σ).1 j = sI σ.1 j) ∧ (tbW (sR σ.2.2.2.1.2 7) → tbW (sR (wi a b c d e k σ).2.2.2.1.2 7)) ∧ sI (wi a b c d e k σ).2.2.2.1.2 10 = sI σ.2.2.2.1.2 10
  | 0 => ⟨rfl, rfl, rfl, fun _ _ => rfl, fun h => h, rfl⟩
  | k + 1 => by
    obtain ⟨i1, i2, i3, i4, i5, i6⟩ := wi_f a b c d e σ k
    refine ⟨i1, i2, i3, fun j hj => ?_, fun h j hj => ?_, i6⟩
    · show sI (pI _ 0 _) j = _
      rw [nb_II, if_neg hj]
      exact i4 j hj
    · by_cases q : j = Int32.toNatClampNeg (sI (wi a b c d e k σ).1 0)
      · exact ⟨_, (if_pos q).trans rfl⟩
      · obtain ⟨y, hy⟩ := i5 h j hj
        exact ⟨y, (if_neg q).trans hy⟩
theorem ui_f (a b c d e : Int32) (τ : S19) : ∀ k : Nat, (ui a b c d e k τ).2.1 = τ.2.1 ∧ (ui a b c d e k τ).2.2.1 = τ.2.2.1 ∧ (ui a b c d e k τ).1.2 = τ.1.2 ∧ (∀ j : Nat, ¬ j = 1 → sI (ui a b c d e k τ).1 j = sI τ.1 j) ∧ (ui a b c d e k τ).2.2.2.2 = τ.2.2.2.2
  | 0 => ⟨rfl, rfl, rfl, fun _ _ => rfl, rfl⟩
  | k + 1 => by
    obtain ⟨i1, i2, i3, i4, i5⟩ := ui_f a b c d e τ k
    refine ⟨i1, i2, i3, fun j hj => ?_, i5⟩
    show sI (pI _ 1 _) j = _
    rw [nb_II, if_neg hj]
    exact i4 j hj
theorem jj_feed (n T L : Nat) (hn : 70000 < n) (a b c d e : Int32) {σ : S12} {τ : S19} {x : Lb} (h : JJ n σ (τ, x)) : anA n x (df_X12_feed n T L a b c d e σ) (df_X19_feed n a b c d e τ) := by
  obtain ⟨r, σ', τ', a1, a2, a3, ⟨rfl, rfl⟩ | ⟨z1, z2⟩⟩ := jb_feed n T L (by omega) a b c d e σ τ h.1
  · exact ⟨r, _, _, a1, a2, JJ_0 h 0⟩
  · obtain ⟨i1, i2, i3, i4, i5, i6⟩ := wi_f a b c d e σ 20
    obtain ⟨u1, u2, u3, u4, u5⟩ := ui_f a b c d e (pI τ.1 0 0, τ.2) 20
    generalize wi a b c d e 20 σ = X at z1 i1 i2 i3 i4 i5 i6
    generalize ui a b c d e 20 (pI τ.1 0 0, τ.2) = Y at z2 u1 u2 u3 u4 u5
    subst z1
    subst z2
    obtain ⟨e1, e2, e3, e4, e5, ⟨Nb, pos, e6⟩, e7, e8⟩ := h
    have si : ∀ j : Nat, ¬ j = 0 → ¬ j = 1 → ¬ j = 2 → sI (pI Y.1 2 1) j = sI τ.1 j := fun j x0 x1 x2 => by
      rw [nb_II, if_neg x2, u4 j x1]
      show sI (pI τ.1 0 0) j = _
      rw [nb_II, if_neg x0]
    have sr : ∀ j : Nat, sR (pI Y.1 2 1) j = sR τ.1 j := fun j => congrArg (fun z => z.2.1 j) u3
    have sq : ∀ j : Nat, sQ (pI Y.1 2 1) j = sQ τ.1 j := fun j => congrArg (fun z => z.2.2.1 j) u3
    have so : ∀ j : Nat, sO (pI Y.1 2 1) j = sO τ.1 j := fun j => congrArg (fun z => z.2.2.2 j) u3
    have ks : kS σ (pI X.1 1 1, X.2) := ⟨fun r _ => by show X.2.1 r = _; rw [i1], by show X.2.2.2.2.2.2.2.2.1 = _; rw [i3]⟩
    have kt : kT τ (pI Y.1 2 1, Y.2) := ⟨fun j _ => sr j, so 0, by show sR Y.2.1 9 = _; rw [u1]⟩
    have tt : tl (pI X.1 1 1, X.2) = tl σ := by
      show (X.2.2.2.2.1, X.2.1, X.2.2.2.2.2.1, X.2.2.2.2.2.2.1, X.2.2.2.2.2.2.2.1, X.2.2.2.2.2.2.2.2.1, X.2.2.2.2.2.2.2.2.2.1, X.2.2.2.2.2.2.2.2.2.2) = _
      rw [i1, i3]
      rfl
    refine ⟨r, _, _, a1, a2, a3, rl_k e2 ?_ ?_ (si 12 (by omega) (by omega) (by omega)) (sr 10), rp_k e3 ks kt, rpP_k e4 ks kt, ?_, ⟨Nb, pos, ?_⟩, ?_, ⟨fun i hi => by show X.2.1 4 i = _; rw [i1]; exact e8.1.1 i hi, fun i hi => by show X.2.1 5 i = _; rw [i1]; exact e8.1.2.1 i hi, i5 e8.1.2.2.1, by show b01 (sI X.2.2.2.1.2 10); rw [i6]; exact e8.1.2.2.2⟩, cst_k e8.2 u1 u5⟩
    · show sI (pI X.1 1 1) 2 = _
      rw [nb_II, if_neg (by omega)]
      exact i4 2 (by omega)
    · show sR X.2.2.1 0 = _
      rw [i2]
    · rw [tt]
      exact jA_u e5 ⟨fun j _ _ => si j (by omega) (by omega) (by omega), fun j _ _ => sr j, sq, by show Y.2.2.1.2 = τ.2.2.1.2; rw [u2]⟩
    · rw [tt]
      show bRk n (X.2.1 2) _ Y.2.2.1.1 Nb pos
      rw [i1, u2]
      exact e6
    · show sI X.2.2.2.2.1 7 = sI (pI Y.1 2 1) 7
      rw [i3, si 7 (by omega) (by omega) (by omega)]
      exact e7
theorem jj_drop (n T L : Nat) (k : Int32) {σ : S12} {τ : S19} {x : Lb} (h : JJ n σ (τ, x)) : anT n x (df_X12_drop n T L k σ) (df_X19_drop n k τ) := by
  obtain ⟨Nb, pos, hb⟩ := h.2.2.2.2.2.1
  have hb : bRk n (σ.2.1 2) (tl σ).2.2.2.2.2.2.1 τ.2.2.1.1 Nb pos := hb
  obtain ⟨d1, d2⟩ := jb_drop n T L k σ τ (rb_of hb)
  by_cases c : 0 ≤ k.toInt ∧ k.toInt ≤ 7
  · obtain ⟨r, σ', τ', a1, a2, a3, rfl, rfl⟩ := d2 c
    refine Or.inr (Or.inr ⟨r, _, _, a1, a2, a3, ?_⟩)
    have hn := nb_nat c.1
    obtain ⟨e1, e2, e3, e4, e5, _, e7, e8⟩ := h
    refine ⟨e1, e2, e3, e4, e5, ⟨Nb, pos, fun q hq => ?_, fun q q' j hq hq' a b => ?_⟩, e7, e8⟩
    · show (((if q = Int32.toNatClampNeg k then none else σ.2.1 2 q) = none ∧ (if q = Int32.toNatClampNeg k then _ else sR τ.2.2.1.1 1 q) = nI 0) ∨ ∃ j : Nat, j < 9 ∧ (if q = Int32.toNatClampNeg k then none else σ.2.1 2 q) = some j ∧ (if q = Int32.toNatClampNeg k then _ else sR τ.2.2.1.1 1 q) = nI 1 ∧ bCd n q (Nb q) (pos q) ((tl σ).2.2.2.2.2.2.1 j) _)
      by_cases z : q = Int32.toNatClampNeg k
      · rw [if_pos z, if_pos z]
        exact Or.inl ⟨rfl, rfl⟩
      · rw [if_neg z, if_neg z]
        rcases hb.1 q hq with y | ⟨j, y1, y2, y3, y4⟩
        · exact Or.inl y
        · exact Or.inr ⟨j, y1, y2, y3, bCd_t y4 (cSt_r _) ⟨rfl, fun i _ _ => ⟨rfl, rfl, rfl⟩⟩⟩
    · have a : (if q = Int32.toNatClampNeg k then none else σ.2.1 2 q) = some j := a
      have b : (if q' = Int32.toNatClampNeg k then none else σ.2.1 2 q') = some j := b
      by_cases z : q = Int32.toNatClampNeg k
      · rw [if_pos z] at a; exact nomatch a
      · by_cases z' : q' = Int32.toNatClampNeg k
        · rw [if_pos z'] at b; exact nomatch b
        · rw [if_neg z] at a
          rw [if_neg z'] at b
          exact hb.2 q q' j hq hq' a b
  · obtain ⟨a, b⟩ := d1 c
    exact Or.inl ⟨0, σ, _, a, b, rfl, JJ_0 h 1⟩

/-- what a condition speaks of: registers, who runs, the count, memory; what it is worth there, with what it remembers -/
abbrev Evn : Type := (Nat → Int64) × Int64 × Int64 × (Nat → Int64 → Option Int64)
abbrev Dn : Type := Evn → (Nat → Int64) → Option Int64
def uV (o : Nat) (v : Int64) : Int64 := if o = 19 then (if v = 0 then 1 else 0) else if o = 20 then -v else v ^^^ (-1)
def tV (v : Int64) : Int64 := if v = 0 then 0 else 1
def bV (o : Nat) (a b : Int64) : Option Int64 := if o = 3 then some (if a = b then 1 else 0) else if o = 4 then some (if a = b then 0 else 1) else if o = 5 then some (if b.toInt ≤ a.toInt then 0 else 1) else if o = 6 then some (if b.toInt < a.toInt then 0 else 1) else if o = 7 then some (if a.toInt ≤ b.toInt then 0 else 1) else if o = 8 then some (if a.toInt < b.toInt then 0 else 1) else if o = 9 then some (a ||| b) else if o = 10 then some (a ^^^ b) else if o = 11 then some (a &&& b) else if o = 12 then some (a <<< (b.toInt32.toInt64 &&& 63)) else if o = 13 then some (a >>> (b.toInt32.toInt64 &&& 63)) else if o = 14 then some (a + b) else if o = 15 then some (a - b) else if o = 16 then some (a * b) else if o = 17 then (if b = 0 then none else some (a / b)) else (if b = 0 then none else some (a - a / b * b))
def dnU (o : Nat) (d : Dn) : Dn := fun E w => (d E w).bind fun v => some (uV o v)
def dnM (o : Nat) (d : Dn) : Dn := fun E w => (d E w).bind fun v => E.2.2.2 o v
def dnC (j : Nat) (d : Dn) : Dn := fun E w => (d E w).bind fun v => some (if v = w j then 0 else 1)
def dnB (o : Nat) (d f : Dn) : Dn := fun E w => (d E w).bind fun a => (f E w).bind fun b => bV o a b
def dnG (o : Nat) (d f : Dn) : Dn := fun E w => (d E w).bind fun a => if (a = 0 ↔ o = 1) then (f E w).bind fun b => some (tV b) else some (if o = 1 then 1 else 0)
/-- what stays of a condition while it is worked at, with t values on its pile -/
def cEv (t : Nat) (A B : St) : Prop := cSt A B ∧ sQ B 2 = sQ A 2 ∧ ∀ i : Nat, i < t → sQ B 1 i = sQ A 1 i
theorem cEv_r (t : Nat) (A : St) : cEv t A A := ⟨cSt_r A, rfl, fun _ _ => rfl⟩
theorem cEv_t {t : Nat} {A B C : St} (h : cEv t A B) (g : cEv t B C) : cEv t A C := ⟨cSt_t h.1 g.1, g.2.1.trans h.2.1, fun i hi => (g.2.2 i hi).trans (h.2.2 i hi)⟩
theorem cEv_l {t u : Nat} {A B : St} (h : cEv t A B) (hu : u ≤ t) : cEv u A B := ⟨h.1, h.2.1, fun i hi => h.2.2 i (by omega)⟩
/-- a value comes to place t of the pile; the pile's height becomes k -/
def pu (Cd : St) (t k : Nat) (v : Int64) : St := pI (pQ Cd 1 (vp_updL (sQ Cd 1) t v)) 1 (nI k)
theorem pu_E (Cd : St) (t k : Nat) (v : Int64) : cEv t Cd (pu Cd t k v) := ⟨cSt_r Cd, rfl, fun i hi => if_neg (by omega)⟩
theorem pu_t (Cd : St) (t k : Nat) (v : Int64) : sQ (pu Cd t k v) 1 t = v := if_pos rfl
theorem pu_1 (Cd : St) (t k : Nat) (v : Int64) : sI (pu Cd t k v) 1 = nI k := rfl
theorem pu_3 (Cd : St) (t k : Nat) (v : Int64) : sI (pu Cd t k v) 3 = sI Cd 3 := rfl
theorem pu_e {Cd : St} {t k : Nat} {v : Int64} (h : sI Cd 1 = nI k) : pQ Cd 1 (vp_updL (sQ Cd 1) t v) = pu Cd t k v := by
  unfold pu
  have h2 : nI k = sI (pQ Cd 1 (vp_updL (sQ Cd 1) t v)) 1 := h.symm
  rw [h2, nm_i0]
theorem t3b (x : Int32) : x.toInt64.toInt32 = x := Int32.toInt32_toInt64 x
theorem lgA (a b : Int64) : lg_cmp a b < nI 0 ↔ a.toInt < b.toInt := lcA a b
theorem lgB (a b : Int64) : nI 0 ≤ lg_cmp a b ↔ b.toInt ≤ a.toInt := lcB a b
theorem lgC (a b : Int64) : nI 0 < lg_cmp a b ↔ b.toInt < a.toInt := lcC a b
theorem lgD (a b : Int64) : lg_cmp a b ≤ nI 0 ↔ a.toInt ≤ b.toInt := lcD a b
theorem nz64 {α : Type} {x : Option α} {b : Int64} (h : ¬ b = 0) : nd_nz (decide (b = 0)) x = x := by
  rw [decide_eq_false h]
  rfl
theorem jn_o (n o : Nat) (h1 : 3 ≤ o) (h2 : o ≤ 18) (a b : Int64) (Cd : St) : df_X2_joined n (nI o) a b Cd = match bV o a b with | some v => some (v, Cd) | none => some (0, pI Cd 3 (nI 1)) := by
  have ho : o = 3 ∨ o = 4 ∨ o = 5 ∨ o = 6 ∨ o = 7 ∨ o = 8 ∨ o = 9 ∨ o = 10 ∨ o = 11 ∨ o = 12 ∨ o = 13 ∨ o = 14 ∨ o = 15 ∨ o = 16 ∨ o = 17 ∨ o = 18 := by omega
  rcases ho with rfl | rfl | rfl | rfl | rfl | rfl | rfl | rfl | rfl | rfl | rfl | rfl | rfl | rfl | rfl | rfl
  · simp (disch := (first | assumption | decide | omega)) only [df_X2_joined_64, df_X2_joined_77, df_X2_joined_90, df_X2_joined_103, df_X2_joined_116, df_X2_joined_129, df_X2_joined_0, df_X2_joined, df_X2_reckoned_94, df_X2_reckoned_0, df_X2_reckoned, bV, lc_eq, lgA, lgB, lgC, lgD, eq_self, Nat.reduceEqDiff, Nat.reduceLeDiff, nl_0, nl_1, nl_3, nl_4, nl_5, nl_6, nl_7, nl_8, nl_9, nl_10, nl_11, nl_12, nl_13, nl_14, nl_15, nl_16, nl_17, nl_63, no_1, no_1024, pk_mul, nI_add, nm_ck, nI_clamp, nI_ltI, nI_leI, nI_eq, nb_b2, nb_b1, ↓nb_let, nm_z0, nm_z1, nb_II, nb_IR, nb_RI, nb_RR, nm_IL, nm_IQ, nm_RL, nm_RQ, nm_LI, nm_LR, nm_LL, nm_LQ, nm_QI, nm_QR, nm_QL, nm_QQ, nm_rr, nm_ii, nm_eqm, not_false_eq_true, pk_sub, nm_div, nm_shl, nm_shr, nm_ush, nm_or8, nm_or64, nm_or256, nm_m1, nm_m3, nm_m7, nm_m15, nm_m31, nm_m63, nm_m255, nm_m511, nm_m1023, nm_m2047, nm_m65535, Nat.reduceMod, Nat.reducePow, Nat.reduceAdd, Nat.reduceSub, Nat.reduceMul, nm_bo, nm_bi, nm_rc, nm_ic, nm_ri, nm_rl, nm_rq, nm_ql, nm_qi, nm_li, nm_us, nm_uu, nm_cp, nm_sa31, nm_sa7, nm_m127, nm_m2, nm_nz, nm_nzk, nm_eq32, nm_nzf, if_true, if_false, ↓reduceIte, if_pos, if_neg]
    by_cases c : a = b
    · rw [if_pos c, if_pos c]
    · rw [if_neg c, if_neg c]
  · simp (disch := (first | assumption | decide | omega)) only [df_X2_joined_64, df_X2_joined_77, df_X2_joined_90, df_X2_joined_103, df_X2_joined_116, df_X2_joined_129, df_X2_joined_0, df_X2_joined, df_X2_reckoned_94, df_X2_reckoned_0, df_X2_reckoned, bV, lc_eq, lgA, lgB, lgC, lgD, eq_self, Nat.reduceEqDiff, Nat.reduceLeDiff, nl_0, nl_1, nl_3, nl_4, nl_5, nl_6, nl_7, nl_8, nl_9, nl_10, nl_11, nl_12, nl_13, nl_14, nl_15, nl_16, nl_17, nl_63, no_1, no_1024, pk_mul, nI_add, nm_ck, nI_clamp, nI_ltI, nI_leI, nI_eq, nb_b2, nb_b1, ↓nb_let, nm_z0, nm_z1, nb_II, nb_IR, nb_RI, nb_RR, nm_IL, nm_IQ, nm_RL, nm_RQ, nm_LI, nm_LR, nm_LL, nm_LQ, nm_QI, nm_QR, nm_QL, nm_QQ, nm_rr, nm_ii, nm_eqm, not_false_eq_true, pk_sub, nm_div, nm_shl, nm_shr, nm_ush, nm_or8, nm_or64, nm_or256, nm_m1, nm_m3, nm_m7, nm_m15, nm_m31, nm_m63, nm_m255, nm_m511, nm_m1023, nm_m2047, nm_m65535, Nat.reduceMod, Nat.reducePow, Nat.reduceAdd, Nat.reduceSub, Nat.reduceMul, nm_bo, nm_bi, nm_rc, nm_ic, nm_ri, nm_rl, nm_rq, nm_ql, nm_qi, nm_li, nm_us, nm_uu, nm_cp, nm_sa31, nm_sa7, nm_m127, nm_m2, nm_nz, nm_nzk, nm_eq32, nm_nzf, if_true, if_false, ↓reduceIte, if_pos, if_neg]
    by_cases c : a = b
    · rw [if_pos c, if_pos c]
    · rw [if_neg c, if_neg c]
  · simp (disch := (first | assumption | decide | omega)) only [df_X2_joined_64, df_X2_joined_77, df_X2_joined_90, df_X2_joined_103, df_X2_joined_116, df_X2_joined_129, df_X2_joined_0, df_X2_joined, df_X2_reckoned_94, df_X2_reckoned_0, df_X2_reckoned, bV, lc_eq, lgA, lgB, lgC, lgD, eq_self, Nat.reduceEqDiff, Nat.reduceLeDiff, nl_0, nl_1, nl_3, nl_4, nl_5, nl_6, nl_7, nl_8, nl_9, nl_10, nl_11, nl_12, nl_13, nl_14, nl_15, nl_16, nl_17, nl_63, no_1, no_1024, pk_mul, nI_add, nm_ck, nI_clamp, nI_ltI, nI_leI, nI_eq, nb_b2, nb_b1, ↓nb_let, nm_z0, nm_z1, nb_II, nb_IR, nb_RI, nb_RR, nm_IL, nm_IQ, nm_RL, nm_RQ, nm_LI, nm_LR, nm_LL, nm_LQ, nm_QI, nm_QR, nm_QL, nm_QQ, nm_rr, nm_ii, nm_eqm, not_false_eq_true, pk_sub, nm_div, nm_shl, nm_shr, nm_ush, nm_or8, nm_or64, nm_or256, nm_m1, nm_m3, nm_m7, nm_m15, nm_m31, nm_m63, nm_m255, nm_m511, nm_m1023, nm_m2047, nm_m65535, Nat.reduceMod, Nat.reducePow, Nat.reduceAdd, Nat.reduceSub, Nat.reduceMul, nm_bo, nm_bi, nm_rc, nm_ic, nm_ri, nm_rl, nm_rq, nm_ql, nm_qi, nm_li, nm_us, nm_uu, nm_cp, nm_sa31, nm_sa7, nm_m127, nm_m2, nm_nz, nm_nzk, nm_eq32, nm_nzf, if_true, if_false, ↓reduceIte, if_pos, if_neg]
    by_cases c : b.toInt ≤ a.toInt
    · rw [if_pos c, if_pos c]
    · rw [if_neg c, if_neg c]
  · simp (disch := (first | assumption | decide | omega)) only [df_X2_joined_64, df_X2_joined_77, df_X2_joined_90, df_X2_joined_103, df_X2_joined_116, df_X2_joined_129, df_X2_joined_0, df_X2_joined, df_X2_reckoned_94, df_X2_reckoned_0, df_X2_reckoned, bV, lc_eq, lgA, lgB, lgC, lgD, eq_self, Nat.reduceEqDiff, Nat.reduceLeDiff, nl_0, nl_1, nl_3, nl_4, nl_5, nl_6, nl_7, nl_8, nl_9, nl_10, nl_11, nl_12, nl_13, nl_14, nl_15, nl_16, nl_17, nl_63, no_1, no_1024, pk_mul, nI_add, nm_ck, nI_clamp, nI_ltI, nI_leI, nI_eq, nb_b2, nb_b1, ↓nb_let, nm_z0, nm_z1, nb_II, nb_IR, nb_RI, nb_RR, nm_IL, nm_IQ, nm_RL, nm_RQ, nm_LI, nm_LR, nm_LL, nm_LQ, nm_QI, nm_QR, nm_QL, nm_QQ, nm_rr, nm_ii, nm_eqm, not_false_eq_true, pk_sub, nm_div, nm_shl, nm_shr, nm_ush, nm_or8, nm_or64, nm_or256, nm_m1, nm_m3, nm_m7, nm_m15, nm_m31, nm_m63, nm_m255, nm_m511, nm_m1023, nm_m2047, nm_m65535, Nat.reduceMod, Nat.reducePow, Nat.reduceAdd, Nat.reduceSub, Nat.reduceMul, nm_bo, nm_bi, nm_rc, nm_ic, nm_ri, nm_rl, nm_rq, nm_ql, nm_qi, nm_li, nm_us, nm_uu, nm_cp, nm_sa31, nm_sa7, nm_m127, nm_m2, nm_nz, nm_nzk, nm_eq32, nm_nzf, if_true, if_false, ↓reduceIte, if_pos, if_neg]
    by_cases c : b.toInt < a.toInt
    · rw [if_pos c, if_pos c]
    · rw [if_neg c, if_neg c]
  · simp (disch := (first | assumption | decide | omega)) only [df_X2_joined_64, df_X2_joined_77, df_X2_joined_90, df_X2_joined_103, df_X2_joined_116, df_X2_joined_129, df_X2_joined_0, df_X2_joined, df_X2_reckoned_94, df_X2_reckoned_0, df_X2_reckoned, bV, lc_eq, lgA, lgB, lgC, lgD, eq_self, Nat.reduceEqDiff, Nat.reduceLeDiff, nl_0, nl_1, nl_3, nl_4, nl_5, nl_6, nl_7, nl_8, nl_9, nl_10, nl_11, nl_12, nl_13, nl_14, nl_15, nl_16, nl_17, nl_63, no_1, no_1024, pk_mul, nI_add, nm_ck, nI_clamp, nI_ltI, nI_leI, nI_eq, nb_b2, nb_b1, ↓nb_let, nm_z0, nm_z1, nb_II, nb_IR, nb_RI, nb_RR, nm_IL, nm_IQ, nm_RL, nm_RQ, nm_LI, nm_LR, nm_LL, nm_LQ, nm_QI, nm_QR, nm_QL, nm_QQ, nm_rr, nm_ii, nm_eqm, not_false_eq_true, pk_sub, nm_div, nm_shl, nm_shr, nm_ush, nm_or8, nm_or64, nm_or256, nm_m1, nm_m3, nm_m7, nm_m15, nm_m31, nm_m63, nm_m255, nm_m511, nm_m1023, nm_m2047, nm_m65535, Nat.reduceMod, Nat.reducePow, Nat.reduceAdd, Nat.reduceSub, Nat.reduceMul, nm_bo, nm_bi, nm_rc, nm_ic, nm_ri, nm_rl, nm_rq, nm_ql, nm_qi, nm_li, nm_us, nm_uu, nm_cp, nm_sa31, nm_sa7, nm_m127, nm_m2, nm_nz, nm_nzk, nm_eq32, nm_nzf, if_true, if_false, ↓reduceIte, if_pos, if_neg]
    by_cases c : a.toInt ≤ b.toInt
    · rw [if_pos c, if_pos c]
    · rw [if_neg c, if_neg c]
  · simp (disch := (first | assumption | decide | omega)) only [df_X2_joined_64, df_X2_joined_77, df_X2_joined_90, df_X2_joined_103, df_X2_joined_116, df_X2_joined_129, df_X2_joined_0, df_X2_joined, df_X2_reckoned_94, df_X2_reckoned_0, df_X2_reckoned, bV, lc_eq, lgA, lgB, lgC, lgD, eq_self, Nat.reduceEqDiff, Nat.reduceLeDiff, nl_0, nl_1, nl_3, nl_4, nl_5, nl_6, nl_7, nl_8, nl_9, nl_10, nl_11, nl_12, nl_13, nl_14, nl_15, nl_16, nl_17, nl_63, no_1, no_1024, pk_mul, nI_add, nm_ck, nI_clamp, nI_ltI, nI_leI, nI_eq, nb_b2, nb_b1, ↓nb_let, nm_z0, nm_z1, nb_II, nb_IR, nb_RI, nb_RR, nm_IL, nm_IQ, nm_RL, nm_RQ, nm_LI, nm_LR, nm_LL, nm_LQ, nm_QI, nm_QR, nm_QL, nm_QQ, nm_rr, nm_ii, nm_eqm, not_false_eq_true, pk_sub, nm_div, nm_shl, nm_shr, nm_ush, nm_or8, nm_or64, nm_or256, nm_m1, nm_m3, nm_m7, nm_m15, nm_m31, nm_m63, nm_m255, nm_m511, nm_m1023, nm_m2047, nm_m65535, Nat.reduceMod, Nat.reducePow, Nat.reduceAdd, Nat.reduceSub, Nat.reduceMul, nm_bo, nm_bi, nm_rc, nm_ic, nm_ri, nm_rl, nm_rq, nm_ql, nm_qi, nm_li, nm_us, nm_uu, nm_cp, nm_sa31, nm_sa7, nm_m127, nm_m2, nm_nz, nm_nzk, nm_eq32, nm_nzf, if_true, if_false, ↓reduceIte, if_pos, if_neg]
    by_cases c : a.toInt < b.toInt
    · rw [if_pos c, if_pos c]
    · rw [if_neg c, if_neg c]
  · simp (disch := (first | assumption | decide | omega)) only [df_X2_joined_64, df_X2_joined_77, df_X2_joined_90, df_X2_joined_103, df_X2_joined_116, df_X2_joined_129, df_X2_joined_0, df_X2_joined, df_X2_reckoned_94, df_X2_reckoned_0, df_X2_reckoned, bV, lc_eq, lgA, lgB, lgC, lgD, eq_self, Nat.reduceEqDiff, Nat.reduceLeDiff, nl_0, nl_1, nl_3, nl_4, nl_5, nl_6, nl_7, nl_8, nl_9, nl_10, nl_11, nl_12, nl_13, nl_14, nl_15, nl_16, nl_17, nl_63, no_1, no_1024, pk_mul, nI_add, nm_ck, nI_clamp, nI_ltI, nI_leI, nI_eq, nb_b2, nb_b1, ↓nb_let, nm_z0, nm_z1, nb_II, nb_IR, nb_RI, nb_RR, nm_IL, nm_IQ, nm_RL, nm_RQ, nm_LI, nm_LR, nm_LL, nm_LQ, nm_QI, nm_QR, nm_QL, nm_QQ, nm_rr, nm_ii, nm_eqm, not_false_eq_true, pk_sub, nm_div, nm_shl, nm_shr, nm_ush, nm_or8, nm_or64, nm_or256, nm_m1, nm_m3, nm_m7, nm_m15, nm_m31, nm_m63, nm_m255, nm_m511, nm_m1023, nm_m2047, nm_m65535, Nat.reduceMod, Nat.reducePow, Nat.reduceAdd, Nat.reduceSub, Nat.reduceMul, nm_bo, nm_bi, nm_rc, nm_ic, nm_ri, nm_rl, nm_rq, nm_ql, nm_qi, nm_li, nm_us, nm_uu, nm_cp, nm_sa31, nm_sa7, nm_m127, nm_m2, nm_nz, nm_nzk, nm_eq32, nm_nzf, if_true, if_false, ↓reduceIte, if_pos, if_neg]
  · simp (disch := (first | assumption | decide | omega)) only [df_X2_joined_64, df_X2_joined_77, df_X2_joined_90, df_X2_joined_103, df_X2_joined_116, df_X2_joined_129, df_X2_joined_0, df_X2_joined, df_X2_reckoned_94, df_X2_reckoned_0, df_X2_reckoned, bV, lc_eq, lgA, lgB, lgC, lgD, eq_self, Nat.reduceEqDiff, Nat.reduceLeDiff, nl_0, nl_1, nl_3, nl_4, nl_5, nl_6, nl_7, nl_8, nl_9, nl_10, nl_11, nl_12, nl_13, nl_14, nl_15, nl_16, nl_17, nl_63, no_1, no_1024, pk_mul, nI_add, nm_ck, nI_clamp, nI_ltI, nI_leI, nI_eq, nb_b2, nb_b1, ↓nb_let, nm_z0, nm_z1, nb_II, nb_IR, nb_RI, nb_RR, nm_IL, nm_IQ, nm_RL, nm_RQ, nm_LI, nm_LR, nm_LL, nm_LQ, nm_QI, nm_QR, nm_QL, nm_QQ, nm_rr, nm_ii, nm_eqm, not_false_eq_true, pk_sub, nm_div, nm_shl, nm_shr, nm_ush, nm_or8, nm_or64, nm_or256, nm_m1, nm_m3, nm_m7, nm_m15, nm_m31, nm_m63, nm_m255, nm_m511, nm_m1023, nm_m2047, nm_m65535, Nat.reduceMod, Nat.reducePow, Nat.reduceAdd, Nat.reduceSub, Nat.reduceMul, nm_bo, nm_bi, nm_rc, nm_ic, nm_ri, nm_rl, nm_rq, nm_ql, nm_qi, nm_li, nm_us, nm_uu, nm_cp, nm_sa31, nm_sa7, nm_m127, nm_m2, nm_nz, nm_nzk, nm_eq32, nm_nzf, if_true, if_false, ↓reduceIte, if_pos, if_neg]
  · simp (disch := (first | assumption | decide | omega)) only [df_X2_joined_64, df_X2_joined_77, df_X2_joined_90, df_X2_joined_103, df_X2_joined_116, df_X2_joined_129, df_X2_joined_0, df_X2_joined, df_X2_reckoned_94, df_X2_reckoned_0, df_X2_reckoned, bV, lc_eq, lgA, lgB, lgC, lgD, eq_self, Nat.reduceEqDiff, Nat.reduceLeDiff, nl_0, nl_1, nl_3, nl_4, nl_5, nl_6, nl_7, nl_8, nl_9, nl_10, nl_11, nl_12, nl_13, nl_14, nl_15, nl_16, nl_17, nl_63, no_1, no_1024, pk_mul, nI_add, nm_ck, nI_clamp, nI_ltI, nI_leI, nI_eq, nb_b2, nb_b1, ↓nb_let, nm_z0, nm_z1, nb_II, nb_IR, nb_RI, nb_RR, nm_IL, nm_IQ, nm_RL, nm_RQ, nm_LI, nm_LR, nm_LL, nm_LQ, nm_QI, nm_QR, nm_QL, nm_QQ, nm_rr, nm_ii, nm_eqm, not_false_eq_true, pk_sub, nm_div, nm_shl, nm_shr, nm_ush, nm_or8, nm_or64, nm_or256, nm_m1, nm_m3, nm_m7, nm_m15, nm_m31, nm_m63, nm_m255, nm_m511, nm_m1023, nm_m2047, nm_m65535, Nat.reduceMod, Nat.reducePow, Nat.reduceAdd, Nat.reduceSub, Nat.reduceMul, nm_bo, nm_bi, nm_rc, nm_ic, nm_ri, nm_rl, nm_rq, nm_ql, nm_qi, nm_li, nm_us, nm_uu, nm_cp, nm_sa31, nm_sa7, nm_m127, nm_m2, nm_nz, nm_nzk, nm_eq32, nm_nzf, if_true, if_false, ↓reduceIte, if_pos, if_neg]
  · simp (disch := (first | assumption | decide | omega)) only [df_X2_joined_64, df_X2_joined_77, df_X2_joined_90, df_X2_joined_103, df_X2_joined_116, df_X2_joined_129, df_X2_joined_0, df_X2_joined, df_X2_reckoned_94, df_X2_reckoned_0, df_X2_reckoned, bV, lc_eq, lgA, lgB, lgC, lgD, eq_self, Nat.reduceEqDiff, Nat.reduceLeDiff, nl_0, nl_1, nl_3, nl_4, nl_5, nl_6, nl_7, nl_8, nl_9, nl_10, nl_11, nl_12, nl_13, nl_14, nl_15, nl_16, nl_17, nl_63, no_1, no_1024, pk_mul, nI_add, nm_ck, nI_clamp, nI_ltI, nI_leI, nI_eq, nb_b2, nb_b1, ↓nb_let, nm_z0, nm_z1, nb_II, nb_IR, nb_RI, nb_RR, nm_IL, nm_IQ, nm_RL, nm_RQ, nm_LI, nm_LR, nm_LL, nm_LQ, nm_QI, nm_QR, nm_QL, nm_QQ, nm_rr, nm_ii, nm_eqm, not_false_eq_true, pk_sub, nm_div, nm_shl, nm_shr, nm_ush, nm_or8, nm_or64, nm_or256, nm_m1, nm_m3, nm_m7, nm_m15, nm_m31, nm_m63, nm_m255, nm_m511, nm_m1023, nm_m2047, nm_m65535, Nat.reduceMod, Nat.reducePow, Nat.reduceAdd, Nat.reduceSub, Nat.reduceMul, nm_bo, nm_bi, nm_rc, nm_ic, nm_ri, nm_rl, nm_rq, nm_ql, nm_qi, nm_li, nm_us, nm_uu, nm_cp, nm_sa31, nm_sa7, nm_m127, nm_m2, nm_nz, nm_nzk, nm_eq32, nm_nzf, if_true, if_false, ↓reduceIte, if_pos, if_neg]
  · simp (disch := (first | assumption | decide | omega)) only [df_X2_joined_64, df_X2_joined_77, df_X2_joined_90, df_X2_joined_103, df_X2_joined_116, df_X2_joined_129, df_X2_joined_0, df_X2_joined, df_X2_reckoned_94, df_X2_reckoned_0, df_X2_reckoned, bV, lc_eq, lgA, lgB, lgC, lgD, eq_self, Nat.reduceEqDiff, Nat.reduceLeDiff, nl_0, nl_1, nl_3, nl_4, nl_5, nl_6, nl_7, nl_8, nl_9, nl_10, nl_11, nl_12, nl_13, nl_14, nl_15, nl_16, nl_17, nl_63, no_1, no_1024, pk_mul, nI_add, nm_ck, nI_clamp, nI_ltI, nI_leI, nI_eq, nb_b2, nb_b1, ↓nb_let, nm_z0, nm_z1, nb_II, nb_IR, nb_RI, nb_RR, nm_IL, nm_IQ, nm_RL, nm_RQ, nm_LI, nm_LR, nm_LL, nm_LQ, nm_QI, nm_QR, nm_QL, nm_QQ, nm_rr, nm_ii, nm_eqm, not_false_eq_true, pk_sub, nm_div, nm_shl, nm_shr, nm_ush, nm_or8, nm_or64, nm_or256, nm_m1, nm_m3, nm_m7, nm_m15, nm_m31, nm_m63, nm_m255, nm_m511, nm_m1023, nm_m2047, nm_m65535, Nat.reduceMod, Nat.reducePow, Nat.reduceAdd, Nat.reduceSub, Nat.reduceMul, nm_bo, nm_bi, nm_rc, nm_ic, nm_ri, nm_rl, nm_rq, nm_ql, nm_qi, nm_li, nm_us, nm_uu, nm_cp, nm_sa31, nm_sa7, nm_m127, nm_m2, nm_nz, nm_nzk, nm_eq32, nm_nzf, if_true, if_false, ↓reduceIte, if_pos, if_neg]
  · simp (disch := (first | assumption | decide | omega)) only [df_X2_joined_64, df_X2_joined_77, df_X2_joined_90, df_X2_joined_103, df_X2_joined_116, df_X2_joined_129, df_X2_joined_0, df_X2_joined, df_X2_reckoned_94, df_X2_reckoned_0, df_X2_reckoned, bV, lc_eq, lgA, lgB, lgC, lgD, eq_self, Nat.reduceEqDiff, Nat.reduceLeDiff, nl_0, nl_1, nl_3, nl_4, nl_5, nl_6, nl_7, nl_8, nl_9, nl_10, nl_11, nl_12, nl_13, nl_14, nl_15, nl_16, nl_17, nl_63, no_1, no_1024, pk_mul, nI_add, nm_ck, nI_clamp, nI_ltI, nI_leI, nI_eq, nb_b2, nb_b1, ↓nb_let, nm_z0, nm_z1, nb_II, nb_IR, nb_RI, nb_RR, nm_IL, nm_IQ, nm_RL, nm_RQ, nm_LI, nm_LR, nm_LL, nm_LQ, nm_QI, nm_QR, nm_QL, nm_QQ, nm_rr, nm_ii, nm_eqm, not_false_eq_true, pk_sub, nm_div, nm_shl, nm_shr, nm_ush, nm_or8, nm_or64, nm_or256, nm_m1, nm_m3, nm_m7, nm_m15, nm_m31, nm_m63, nm_m255, nm_m511, nm_m1023, nm_m2047, nm_m65535, Nat.reduceMod, Nat.reducePow, Nat.reduceAdd, Nat.reduceSub, Nat.reduceMul, nm_bo, nm_bi, nm_rc, nm_ic, nm_ri, nm_rl, nm_rq, nm_ql, nm_qi, nm_li, nm_us, nm_uu, nm_cp, nm_sa31, nm_sa7, nm_m127, nm_m2, nm_nz, nm_nzk, nm_eq32, nm_nzf, if_true, if_false, ↓reduceIte, if_pos, if_neg]
  · simp (disch := (first | assumption | decide | omega)) only [df_X2_joined_64, df_X2_joined_77, df_X2_joined_90, df_X2_joined_103, df_X2_joined_116, df_X2_joined_129, df_X2_joined_0, df_X2_joined, df_X2_reckoned_94, df_X2_reckoned_0, df_X2_reckoned, bV, lc_eq, lgA, lgB, lgC, lgD, eq_self, Nat.reduceEqDiff, Nat.reduceLeDiff, nl_0, nl_1, nl_3, nl_4, nl_5, nl_6, nl_7, nl_8, nl_9, nl_10, nl_11, nl_12, nl_13, nl_14, nl_15, nl_16, nl_17, nl_63, no_1, no_1024, pk_mul, nI_add, nm_ck, nI_clamp, nI_ltI, nI_leI, nI_eq, nb_b2, nb_b1, ↓nb_let, nm_z0, nm_z1, nb_II, nb_IR, nb_RI, nb_RR, nm_IL, nm_IQ, nm_RL, nm_RQ, nm_LI, nm_LR, nm_LL, nm_LQ, nm_QI, nm_QR, nm_QL, nm_QQ, nm_rr, nm_ii, nm_eqm, not_false_eq_true, pk_sub, nm_div, nm_shl, nm_shr, nm_ush, nm_or8, nm_or64, nm_or256, nm_m1, nm_m3, nm_m7, nm_m15, nm_m31, nm_m63, nm_m255, nm_m511, nm_m1023, nm_m2047, nm_m65535, Nat.reduceMod, Nat.reducePow, Nat.reduceAdd, Nat.reduceSub, Nat.reduceMul, nm_bo, nm_bi, nm_rc, nm_ic, nm_ri, nm_rl, nm_rq, nm_ql, nm_qi, nm_li, nm_us, nm_uu, nm_cp, nm_sa31, nm_sa7, nm_m127, nm_m2, nm_nz, nm_nzk, nm_eq32, nm_nzf, if_true, if_false, ↓reduceIte, if_pos, if_neg]
  · simp (disch := (first | assumption | decide | omega)) only [df_X2_joined_64, df_X2_joined_77, df_X2_joined_90, df_X2_joined_103, df_X2_joined_116, df_X2_joined_129, df_X2_joined_0, df_X2_joined, df_X2_reckoned_94, df_X2_reckoned_0, df_X2_reckoned, bV, lc_eq, lgA, lgB, lgC, lgD, eq_self, Nat.reduceEqDiff, Nat.reduceLeDiff, nl_0, nl_1, nl_3, nl_4, nl_5, nl_6, nl_7, nl_8, nl_9, nl_10, nl_11, nl_12, nl_13, nl_14, nl_15, nl_16, nl_17, nl_63, no_1, no_1024, pk_mul, nI_add, nm_ck, nI_clamp, nI_ltI, nI_leI, nI_eq, nb_b2, nb_b1, ↓nb_let, nm_z0, nm_z1, nb_II, nb_IR, nb_RI, nb_RR, nm_IL, nm_IQ, nm_RL, nm_RQ, nm_LI, nm_LR, nm_LL, nm_LQ, nm_QI, nm_QR, nm_QL, nm_QQ, nm_rr, nm_ii, nm_eqm, not_false_eq_true, pk_sub, nm_div, nm_shl, nm_shr, nm_ush, nm_or8, nm_or64, nm_or256, nm_m1, nm_m3, nm_m7, nm_m15, nm_m31, nm_m63, nm_m255, nm_m511, nm_m1023, nm_m2047, nm_m65535, Nat.reduceMod, Nat.reducePow, Nat.reduceAdd, Nat.reduceSub, Nat.reduceMul, nm_bo, nm_bi, nm_rc, nm_ic, nm_ri, nm_rl, nm_rq, nm_ql, nm_qi, nm_li, nm_us, nm_uu, nm_cp, nm_sa31, nm_sa7, nm_m127, nm_m2, nm_nz, nm_nzk, nm_eq32, nm_nzf, if_true, if_false, ↓reduceIte, if_pos, if_neg]
  · simp (disch := (first | assumption | decide | omega)) only [df_X2_joined_64, df_X2_joined_77, df_X2_joined_90, df_X2_joined_103, df_X2_joined_116, df_X2_joined_129, df_X2_joined_0, df_X2_joined, df_X2_reckoned_94, df_X2_reckoned_0, df_X2_reckoned, bV, lc_eq, lgA, lgB, lgC, lgD, eq_self, Nat.reduceEqDiff, Nat.reduceLeDiff, nl_0, nl_1, nl_3, nl_4, nl_5, nl_6, nl_7, nl_8, nl_9, nl_10, nl_11, nl_12, nl_13, nl_14, nl_15, nl_16, nl_17, nl_63, no_1, no_1024, pk_mul, nI_add, nm_ck, nI_clamp, nI_ltI, nI_leI, nI_eq, nb_b2, nb_b1, ↓nb_let, nm_z0, nm_z1, nb_II, nb_IR, nb_RI, nb_RR, nm_IL, nm_IQ, nm_RL, nm_RQ, nm_LI, nm_LR, nm_LL, nm_LQ, nm_QI, nm_QR, nm_QL, nm_QQ, nm_rr, nm_ii, nm_eqm, not_false_eq_true, pk_sub, nm_div, nm_shl, nm_shr, nm_ush, nm_or8, nm_or64, nm_or256, nm_m1, nm_m3, nm_m7, nm_m15, nm_m31, nm_m63, nm_m255, nm_m511, nm_m1023, nm_m2047, nm_m65535, Nat.reduceMod, Nat.reducePow, Nat.reduceAdd, Nat.reduceSub, Nat.reduceMul, nm_bo, nm_bi, nm_rc, nm_ic, nm_ri, nm_rl, nm_rq, nm_ql, nm_qi, nm_li, nm_us, nm_uu, nm_cp, nm_sa31, nm_sa7, nm_m127, nm_m2, nm_nz, nm_nzk, nm_eq32, nm_nzf, if_true, if_false, ↓reduceIte, if_pos, if_neg]
    by_cases c : b = 0
    · rw [if_pos c, if_pos c]; rfl
    · rw [if_neg c, if_neg c, nz64 c]; rfl
  · simp (disch := (first | assumption | decide | omega)) only [df_X2_joined_64, df_X2_joined_77, df_X2_joined_90, df_X2_joined_103, df_X2_joined_116, df_X2_joined_129, df_X2_joined_0, df_X2_joined, df_X2_reckoned_94, df_X2_reckoned_0, df_X2_reckoned, bV, lc_eq, lgA, lgB, lgC, lgD, eq_self, Nat.reduceEqDiff, Nat.reduceLeDiff, nl_0, nl_1, nl_3, nl_4, nl_5, nl_6, nl_7, nl_8, nl_9, nl_10, nl_11, nl_12, nl_13, nl_14, nl_15, nl_16, nl_17, nl_63, no_1, no_1024, pk_mul, nI_add, nm_ck, nI_clamp, nI_ltI, nI_leI, nI_eq, nb_b2, nb_b1, ↓nb_let, nm_z0, nm_z1, nb_II, nb_IR, nb_RI, nb_RR, nm_IL, nm_IQ, nm_RL, nm_RQ, nm_LI, nm_LR, nm_LL, nm_LQ, nm_QI, nm_QR, nm_QL, nm_QQ, nm_rr, nm_ii, nm_eqm, not_false_eq_true, pk_sub, nm_div, nm_shl, nm_shr, nm_ush, nm_or8, nm_or64, nm_or256, nm_m1, nm_m3, nm_m7, nm_m15, nm_m31, nm_m63, nm_m255, nm_m511, nm_m1023, nm_m2047, nm_m65535, Nat.reduceMod, Nat.reducePow, Nat.reduceAdd, Nat.reduceSub, Nat.reduceMul, nm_bo, nm_bi, nm_rc, nm_ic, nm_ri, nm_rl, nm_rq, nm_ql, nm_qi, nm_li, nm_us, nm_uu, nm_cp, nm_sa31, nm_sa7, nm_m127, nm_m2, nm_nz, nm_nzk, nm_eq32, nm_nzf, if_true, if_false, ↓reduceIte, if_pos, if_neg]
    by_cases c : b = 0
    · rw [if_pos c, if_pos c]; rfl
    · rw [if_neg c, if_neg c, nz64 c]; rfl
/-- one turn of the class's worth: an operand, what is remembered, one, two, a way round -/
theorem ev_op (n m c e i o t : Nat) {Cd : St} {M : St × St} {v : Int64} (h1 : i < e) (h2 : e ≤ 160) (ho : 30 ≤ o) (ho2 : o ≤ 33) (hc : sR Cd 0 i = nI o) (hf : sI Cd 3 = nI 0) (ht : sI Cd 1 = nI t) (h41 : t < 41) (hv : df_X2_operand n (nI c) (nI o) (sQ Cd 0 i) M = some (v, M)) : df_X2_evaluate_13 n (m + 1) (nI c) (nI e) (nI i) (nd_st0, (Cd, M)) = df_X2_evaluate_13 n m (nI c) (nI e) (nI (i + 1)) (nd_st0, (pu Cd t (t + 1) v, M)) := by
  simp (disch := (first | assumption | decide | omega)) only [(show df_X2_evaluate_13 n (m + 1) = dF_X2_evaluate_13 n (df_X2_evaluate_13 n m) from rfl), dF_X2_evaluate_13, df_X2_evaluate_372, df_X2_evaluate_355, df_X2_evaluate_349, df_X2_evaluate_141, df_X2_evaluate_221, df_X2_evaluate_196, df_X2_evaluate_184, df_X2_evaluate_163, df_X2_evaluate_149, df_X2_evaluate_71, df_X2_evaluate_0, df_X2_evaluate, df_X2_put_32, df_X2_put_0, df_X2_put, hc, hf, ht, hv, eq_self, Nat.reduceEqDiff, Nat.reduceLeDiff, nl_0, nl_1, nl_2, nl_3, nl_4, nl_19, nl_23, nl_30, nl_33, nl_34, nl_35, nl_40, nl_41, nl_160, no_1, no_1024, pk_mul, nI_add, nm_ck, nI_clamp, nI_ltI, nI_leI, nI_eq, nb_b2, nb_b1, ↓nb_let, nm_z0, nm_z1, nb_II, nb_IR, nb_RI, nb_RR, nm_IL, nm_IQ, nm_RL, nm_RQ, nm_LI, nm_LR, nm_LL, nm_LQ, nm_QI, nm_QR, nm_QL, nm_QQ, nm_rr, nm_ii, nm_eqm, not_false_eq_true, pk_sub, nm_div, nm_shl, nm_shr, nm_ush, nm_or8, nm_or64, nm_or256, nm_m1, nm_m3, nm_m7, nm_m15, nm_m31, nm_m63, nm_m255, nm_m511, nm_m1023, nm_m2047, nm_m65535, Nat.reduceMod, Nat.reducePow, Nat.reduceAdd, Nat.reduceSub, Nat.reduceMul, nm_bo, nm_bi, nm_rc, nm_ic, nm_ri, nm_rl, nm_rq, nm_ql, nm_qi, nm_li, nm_us, nm_uu, nm_cp, nm_sa31, nm_sa7, nm_m127, nm_m2, nm_nz, nm_nzk, nm_eq32, nm_nzf, if_true, if_false, ↓reduceIte, if_pos, if_neg]
  rfl
theorem ev_old (n m c e i j b t : Nat) {Cd : St} {M : St × St} (h1 : i < e) (h2 : e ≤ 160) (hc : sR Cd 0 i = nI 23) (ha : sQ Cd 0 i = (nI j).toInt64) (hj : j < 40) (hT : sR Cd 4 j = nI b) (hb : i < b) (hb2 : b ≤ 160) (hf : sI Cd 3 = nI 0) (ht : sI Cd 1 = nI t) (h41 : t < 41) : df_X2_evaluate_13 n (m + 1) (nI c) (nI e) (nI i) (nd_st0, (Cd, M)) = df_X2_evaluate_13 n m (nI c) (nI e) (nI b) (nd_st0, (pu Cd t (t + 1) (sQ Cd 2 j), M)) := by
  have w : (if i < b - 1 then nI (b - 1) else nI i) = nI (b - 1) := by
    by_cases y : i < b - 1
    · rw [if_pos y]
    · rw [if_neg y, show i = b - 1 by omega]
  have w2 : nI (b - 1) + nI 1 = nI b := by rw [nI_add, Nat.sub_add_cancel (by omega)]
  have w3 : nI b - nI 1 = nI (b - 1) := pk_sub (by omega)
  simp (disch := (first | assumption | decide | omega)) only [(show df_X2_evaluate_13 n (m + 1) = dF_X2_evaluate_13 n (df_X2_evaluate_13 n m) from rfl), dF_X2_evaluate_13, df_X2_evaluate_372, df_X2_evaluate_355, df_X2_evaluate_349, df_X2_evaluate_141, df_X2_evaluate_221, df_X2_evaluate_196, df_X2_evaluate_184, df_X2_evaluate_163, df_X2_evaluate_149, df_X2_evaluate_71, df_X2_evaluate_0, df_X2_evaluate, df_X2_put_32, df_X2_put_0, df_X2_put, hc, hf, ht, ha, hT, t3b, w3, w, w2, eq_self, Nat.reduceEqDiff, Nat.reduceLeDiff, nl_0, nl_1, nl_2, nl_3, nl_4, nl_19, nl_23, nl_30, nl_33, nl_34, nl_35, nl_40, nl_41, nl_160, no_1, no_1024, pk_mul, nI_add, nm_ck, nI_clamp, nI_ltI, nI_leI, nI_eq, nb_b2, nb_b1, ↓nb_let, nm_z0, nm_z1, nb_II, nb_IR, nb_RI, nb_RR, nm_IL, nm_IQ, nm_RL, nm_RQ, nm_LI, nm_LR, nm_LL, nm_LQ, nm_QI, nm_QR, nm_QL, nm_QQ, nm_rr, nm_ii, nm_eqm, not_false_eq_true, pk_sub, nm_div, nm_shl, nm_shr, nm_ush, nm_or8, nm_or64, nm_or256, nm_m1, nm_m3, nm_m7, nm_m15, nm_m31, nm_m63, nm_m255, nm_m511, nm_m1023, nm_m2047, nm_m65535, Nat.reduceMod, Nat.reducePow, Nat.reduceAdd, Nat.reduceSub, Nat.reduceMul, nm_bo, nm_bi, nm_rc, nm_ic, nm_ri, nm_rl, nm_rq, nm_ql, nm_qi, nm_li, nm_us, nm_uu, nm_cp, nm_sa31, nm_sa7, nm_m127, nm_m2, nm_nz, nm_nzk, nm_eq32, nm_nzf, if_true, if_false, ↓reduceIte, if_pos, if_neg]
  rfl
/-- what one sign does: 19, 20, 21, 36 -/
theorem ev_un (n m c e i o t : Nat) {Cd : St} {M : St × St} {v : Int64} (h1 : i < e) (h2 : e ≤ 160) (ho : o = 19 ∨ o = 20 ∨ o = 21 ∨ o = 36) (hc : sR Cd 0 i = nI o) (hf : sI Cd 3 = nI 0) (ht : sI Cd 1 = nI (t + 1)) (h41 : t < 41) (hv : sQ Cd 1 t = v) : df_X2_evaluate_13 n (m + 1) (nI c) (nI e) (nI i) (nd_st0, (Cd, M)) = df_X2_evaluate_13 n m (nI c) (nI e) (nI (i + 1)) (nd_st0, (pu Cd t (t + 1) (if o = 36 then tV v else uV o v), M)) := by
  have w1 : nI (t + 1) - nI 1 = nI t := by rw [pk_sub (by omega)]; rfl
  have w2 : pQ Cd 1 (vp_updL (sQ Cd 1) t (if o = 36 then tV v else uV o v)) = pu Cd t (t + 1) (if o = 36 then tV v else uV o v) := pu_e ht
  rw [← w2]
  rcases ho with rfl | rfl | rfl | rfl
  · simp (disch := (first | assumption | decide | omega)) only [(show df_X2_evaluate_13 n (m + 1) = dF_X2_evaluate_13 n (df_X2_evaluate_13 n m) from rfl), dF_X2_evaluate_13, df_X2_evaluate_372, df_X2_evaluate_355, df_X2_evaluate_349, df_X2_evaluate_141, df_X2_evaluate_221, df_X2_evaluate_196, df_X2_evaluate_184, df_X2_evaluate_163, df_X2_evaluate_149, df_X2_evaluate_71, df_X2_evaluate_0, df_X2_evaluate, df_X2_single_64, df_X2_single_106, df_X2_single_88, df_X2_single_0, df_X2_single, hc, hf, ht, hv, w1, uV, lc_eq, eq_self, Nat.reduceEqDiff, Nat.reduceLeDiff, nl_0, nl_1, nl_2, nl_3, nl_4, nl_19, nl_20, nl_21, nl_23, nl_24, nl_30, nl_33, nl_34, nl_35, nl_36, nl_40, nl_41, nl_160, no_1, no_1024, pk_mul, nI_add, nm_ck, nI_clamp, nI_ltI, nI_leI, nI_eq, nb_b2, nb_b1, ↓nb_let, nm_z0, nm_z1, nb_II, nb_IR, nb_RI, nb_RR, nm_IL, nm_IQ, nm_RL, nm_RQ, nm_LI, nm_LR, nm_LL, nm_LQ, nm_QI, nm_QR, nm_QL, nm_QQ, nm_rr, nm_ii, nm_eqm, not_false_eq_true, pk_sub, nm_div, nm_shl, nm_shr, nm_ush, nm_or8, nm_or64, nm_or256, nm_m1, nm_m3, nm_m7, nm_m15, nm_m31, nm_m63, nm_m255, nm_m511, nm_m1023, nm_m2047, nm_m65535, Nat.reduceMod, Nat.reducePow, Nat.reduceAdd, Nat.reduceSub, Nat.reduceMul, nm_bo, nm_bi, nm_rc, nm_ic, nm_ri, nm_rl, nm_rq, nm_ql, nm_qi, nm_li, nm_us, nm_uu, nm_cp, nm_sa31, nm_sa7, nm_m127, nm_m2, nm_nz, nm_nzk, nm_eq32, nm_nzf, if_true, if_false, ↓reduceIte, if_pos, if_neg]
    by_cases y : v = 0
    · rw [if_pos y, if_pos y]; rfl
    · rw [if_neg y, if_neg y]; rfl
  · simp (disch := (first | assumption | decide | omega)) only [(show df_X2_evaluate_13 n (m + 1) = dF_X2_evaluate_13 n (df_X2_evaluate_13 n m) from rfl), dF_X2_evaluate_13, df_X2_evaluate_372, df_X2_evaluate_355, df_X2_evaluate_349, df_X2_evaluate_141, df_X2_evaluate_221, df_X2_evaluate_196, df_X2_evaluate_184, df_X2_evaluate_163, df_X2_evaluate_149, df_X2_evaluate_71, df_X2_evaluate_0, df_X2_evaluate, df_X2_single_64, df_X2_single_106, df_X2_single_88, df_X2_single_0, df_X2_single, hc, hf, ht, hv, w1, uV, lc_eq, eq_self, Nat.reduceEqDiff, Nat.reduceLeDiff, nl_0, nl_1, nl_2, nl_3, nl_4, nl_19, nl_20, nl_21, nl_23, nl_24, nl_30, nl_33, nl_34, nl_35, nl_36, nl_40, nl_41, nl_160, no_1, no_1024, pk_mul, nI_add, nm_ck, nI_clamp, nI_ltI, nI_leI, nI_eq, nb_b2, nb_b1, ↓nb_let, nm_z0, nm_z1, nb_II, nb_IR, nb_RI, nb_RR, nm_IL, nm_IQ, nm_RL, nm_RQ, nm_LI, nm_LR, nm_LL, nm_LQ, nm_QI, nm_QR, nm_QL, nm_QQ, nm_rr, nm_ii, nm_eqm, not_false_eq_true, pk_sub, nm_div, nm_shl, nm_shr, nm_ush, nm_or8, nm_or64, nm_or256, nm_m1, nm_m3, nm_m7, nm_m15, nm_m31, nm_m63, nm_m255, nm_m511, nm_m1023, nm_m2047, nm_m65535, Nat.reduceMod, Nat.reducePow, Nat.reduceAdd, Nat.reduceSub, Nat.reduceMul, nm_bo, nm_bi, nm_rc, nm_ic, nm_ri, nm_rl, nm_rq, nm_ql, nm_qi, nm_li, nm_us, nm_uu, nm_cp, nm_sa31, nm_sa7, nm_m127, nm_m2, nm_nz, nm_nzk, nm_eq32, nm_nzf, if_true, if_false, ↓reduceIte, if_pos, if_neg]
  · simp (disch := (first | assumption | decide | omega)) only [(show df_X2_evaluate_13 n (m + 1) = dF_X2_evaluate_13 n (df_X2_evaluate_13 n m) from rfl), dF_X2_evaluate_13, df_X2_evaluate_372, df_X2_evaluate_355, df_X2_evaluate_349, df_X2_evaluate_141, df_X2_evaluate_221, df_X2_evaluate_196, df_X2_evaluate_184, df_X2_evaluate_163, df_X2_evaluate_149, df_X2_evaluate_71, df_X2_evaluate_0, df_X2_evaluate, df_X2_single_64, df_X2_single_106, df_X2_single_88, df_X2_single_0, df_X2_single, hc, hf, ht, hv, w1, uV, lc_eq, eq_self, Nat.reduceEqDiff, Nat.reduceLeDiff, nl_0, nl_1, nl_2, nl_3, nl_4, nl_19, nl_20, nl_21, nl_23, nl_24, nl_30, nl_33, nl_34, nl_35, nl_36, nl_40, nl_41, nl_160, no_1, no_1024, pk_mul, nI_add, nm_ck, nI_clamp, nI_ltI, nI_leI, nI_eq, nb_b2, nb_b1, ↓nb_let, nm_z0, nm_z1, nb_II, nb_IR, nb_RI, nb_RR, nm_IL, nm_IQ, nm_RL, nm_RQ, nm_LI, nm_LR, nm_LL, nm_LQ, nm_QI, nm_QR, nm_QL, nm_QQ, nm_rr, nm_ii, nm_eqm, not_false_eq_true, pk_sub, nm_div, nm_shl, nm_shr, nm_ush, nm_or8, nm_or64, nm_or256, nm_m1, nm_m3, nm_m7, nm_m15, nm_m31, nm_m63, nm_m255, nm_m511, nm_m1023, nm_m2047, nm_m65535, Nat.reduceMod, Nat.reducePow, Nat.reduceAdd, Nat.reduceSub, Nat.reduceMul, nm_bo, nm_bi, nm_rc, nm_ic, nm_ri, nm_rl, nm_rq, nm_ql, nm_qi, nm_li, nm_us, nm_uu, nm_cp, nm_sa31, nm_sa7, nm_m127, nm_m2, nm_nz, nm_nzk, nm_eq32, nm_nzf, if_true, if_false, ↓reduceIte, if_pos, if_neg]
  · simp (disch := (first | assumption | decide | omega)) only [(show df_X2_evaluate_13 n (m + 1) = dF_X2_evaluate_13 n (df_X2_evaluate_13 n m) from rfl), dF_X2_evaluate_13, df_X2_evaluate_372, df_X2_evaluate_355, df_X2_evaluate_349, df_X2_evaluate_141, df_X2_evaluate_221, df_X2_evaluate_196, df_X2_evaluate_184, df_X2_evaluate_163, df_X2_evaluate_149, df_X2_evaluate_71, df_X2_evaluate_0, df_X2_evaluate, df_X2_single_64, df_X2_single_106, df_X2_single_88, df_X2_single_0, df_X2_single, hc, hf, ht, hv, w1, tV, lc_eq, eq_self, Nat.reduceEqDiff, Nat.reduceLeDiff, nl_0, nl_1, nl_2, nl_3, nl_4, nl_19, nl_20, nl_21, nl_23, nl_24, nl_30, nl_33, nl_34, nl_35, nl_36, nl_40, nl_41, nl_160, no_1, no_1024, pk_mul, nI_add, nm_ck, nI_clamp, nI_ltI, nI_leI, nI_eq, nb_b2, nb_b1, ↓nb_let, nm_z0, nm_z1, nb_II, nb_IR, nb_RI, nb_RR, nm_IL, nm_IQ, nm_RL, nm_RQ, nm_LI, nm_LR, nm_LL, nm_LQ, nm_QI, nm_QR, nm_QL, nm_QQ, nm_rr, nm_ii, nm_eqm, not_false_eq_true, pk_sub, nm_div, nm_shl, nm_shr, nm_ush, nm_or8, nm_or64, nm_or256, nm_m1, nm_m3, nm_m7, nm_m15, nm_m31, nm_m63, nm_m255, nm_m511, nm_m1023, nm_m2047, nm_m65535, Nat.reduceMod, Nat.reducePow, Nat.reduceAdd, Nat.reduceSub, Nat.reduceMul, nm_bo, nm_bi, nm_rc, nm_ic, nm_ri, nm_rl, nm_rq, nm_ql, nm_qi, nm_li, nm_us, nm_uu, nm_cp, nm_sa31, nm_sa7, nm_m127, nm_m2, nm_nz, nm_nzk, nm_eq32, nm_nzf, if_true, if_false, ↓reduceIte, if_pos, if_neg]
    by_cases y : v = 0
    · rw [if_pos y, if_pos y]; rfl
    · rw [if_neg y, if_neg y]; rfl
theorem ev_chg (n m c e i j t : Nat) {Cd : St} {M : St × St} {v : Int64} (h1 : i < e) (h2 : e ≤ 160) (hc : sR Cd 0 i = nI 24) (ha : sQ Cd 0 i = (nI j).toInt64) (hj : j < 40) (hf : sI Cd 3 = nI 0) (ht : sI Cd 1 = nI (t + 1)) (h41 : t < 41) (hv : sQ Cd 1 t = v) : df_X2_evaluate_13 n (m + 1) (nI c) (nI e) (nI i) (nd_st0, (Cd, M)) = df_X2_evaluate_13 n m (nI c) (nI e) (nI (i + 1)) (nd_st0, (pu Cd t (t + 1) (if v = sQ Cd 2 j then 0 else 1), M)) := by
  have w1 : nI (t + 1) - nI 1 = nI t := by rw [pk_sub (by omega)]; rfl
  rw [← pu_e (t := t) (v := if v = sQ Cd 2 j then 0 else 1) ht]
  simp (disch := (first | assumption | decide | omega)) only [(show df_X2_evaluate_13 n (m + 1) = dF_X2_evaluate_13 n (df_X2_evaluate_13 n m) from rfl), dF_X2_evaluate_13, df_X2_evaluate_372, df_X2_evaluate_355, df_X2_evaluate_349, df_X2_evaluate_141, df_X2_evaluate_221, df_X2_evaluate_196, df_X2_evaluate_184, df_X2_evaluate_163, df_X2_evaluate_149, df_X2_evaluate_71, df_X2_evaluate_0, df_X2_evaluate, df_X2_single_64, df_X2_single_106, df_X2_single_88, df_X2_single_0, df_X2_single, hc, hf, ht, hv, ha, t3b, w1, lc_eq, eq_self, Nat.reduceEqDiff, Nat.reduceLeDiff, nl_0, nl_1, nl_2, nl_3, nl_4, nl_19, nl_20, nl_21, nl_23, nl_24, nl_30, nl_33, nl_34, nl_35, nl_36, nl_40, nl_41, nl_160, no_1, no_1024, pk_mul, nI_add, nm_ck, nI_clamp, nI_ltI, nI_leI, nI_eq, nb_b2, nb_b1, ↓nb_let, nm_z0, nm_z1, nb_II, nb_IR, nb_RI, nb_RR, nm_IL, nm_IQ, nm_RL, nm_RQ, nm_LI, nm_LR, nm_LL, nm_LQ, nm_QI, nm_QR, nm_QL, nm_QQ, nm_rr, nm_ii, nm_eqm, not_false_eq_true, pk_sub, nm_div, nm_shl, nm_shr, nm_ush, nm_or8, nm_or64, nm_or256, nm_m1, nm_m3, nm_m7, nm_m15, nm_m31, nm_m63, nm_m255, nm_m511, nm_m1023, nm_m2047, nm_m65535, Nat.reduceMod, Nat.reducePow, Nat.reduceAdd, Nat.reduceSub, Nat.reduceMul, nm_bo, nm_bi, nm_rc, nm_ic, nm_ri, nm_rl, nm_rq, nm_ql, nm_qi, nm_li, nm_us, nm_uu, nm_cp, nm_sa31, nm_sa7, nm_m127, nm_m2, nm_nz, nm_nzk, nm_eq32, nm_nzf, if_true, if_false, ↓reduceIte, if_pos, if_neg]
  by_cases y : v = sQ Cd 2 j
  · rw [if_pos y, if_pos y]; rfl
  · rw [if_neg y, if_neg y]; rfl
theorem ev_mem (n m c e i o t : Nat) {Cd : St} {M : St × St} {v : Int64} {q : Option (Int64 × (St × (St × (St × St))))} (h1 : i < e) (h2 : e ≤ 160) (ho : 25 ≤ o) (ho2 : o ≤ 27) (hc : sR Cd 0 i = nI o) (hf : sI Cd 3 = nI 0) (ht : sI Cd 1 = nI (t + 1)) (h41 : t < 41) (hv : sQ Cd 1 t = v) (hm : df_X2_inSpace n (nI o) v (nd_st0, (Cd, M)) = q) : (∀ x : Int64, q = some (x, (nd_st0, (Cd, M))) → df_X2_evaluate_13 n (m + 1) (nI c) (nI e) (nI i) (nd_st0, (Cd, M)) = df_X2_evaluate_13 n m (nI c) (nI e) (nI (i + 1)) (nd_st0, (pu Cd t (t + 1) x, M))) ∧ (q = some (0, (nd_st0, (pI Cd 3 (nI 1), M))) → df_X2_evaluate_13 n (m + 1) (nI c) (nI e) (nI i) (nd_st0, (Cd, M)) = df_X2_evaluate_13 n m (nI c) (nI e) (nI (i + 1)) (nd_st0, (pQ (pI Cd 3 (nI 1)) 1 (vp_updL (sQ Cd 1) t 0), M))) := by
  have w1 : nI (t + 1) - nI 1 = nI t := by rw [pk_sub (by omega)]; rfl
  have q19 : ¬ o = 19 := by omega
  have q20 : ¬ o = 20 := by omega
  have q21 : ¬ o = 21 := by omega
  have q24 : ¬ o = 24 := by omega
  have q36 : ¬ o = 36 := by omega
  have q23 : ¬ o = 23 := by omega
  have q35 : ¬ o = 35 := by omega
  have q34 : ¬ o = 34 := by omega
  refine ⟨fun x z => ?_, fun z => ?_⟩
  · rw [z] at hm
    rw [← pu_e (t := t) (v := x) ht]
    simp (disch := (first | assumption | decide | omega)) only [(show df_X2_evaluate_13 n (m + 1) = dF_X2_evaluate_13 n (df_X2_evaluate_13 n m) from rfl), dF_X2_evaluate_13, df_X2_evaluate_372, df_X2_evaluate_355, df_X2_evaluate_349, df_X2_evaluate_141, df_X2_evaluate_221, df_X2_evaluate_196, df_X2_evaluate_184, df_X2_evaluate_163, df_X2_evaluate_149, df_X2_evaluate_71, df_X2_evaluate_0, df_X2_evaluate, df_X2_single_64, df_X2_single_106, df_X2_single_88, df_X2_single_0, df_X2_single, hc, hf, ht, hv, w1, hm, eq_self, Nat.reduceEqDiff, Nat.reduceLeDiff, nl_0, nl_1, nl_2, nl_3, nl_4, nl_19, nl_20, nl_21, nl_23, nl_24, nl_30, nl_33, nl_34, nl_35, nl_36, nl_40, nl_41, nl_160, no_1, no_1024, pk_mul, nI_add, nm_ck, nI_clamp, nI_ltI, nI_leI, nI_eq, nb_b2, nb_b1, ↓nb_let, nm_z0, nm_z1, nb_II, nb_IR, nb_RI, nb_RR, nm_IL, nm_IQ, nm_RL, nm_RQ, nm_LI, nm_LR, nm_LL, nm_LQ, nm_QI, nm_QR, nm_QL, nm_QQ, nm_rr, nm_ii, nm_eqm, not_false_eq_true, pk_sub, nm_div, nm_shl, nm_shr, nm_ush, nm_or8, nm_or64, nm_or256, nm_m1, nm_m3, nm_m7, nm_m15, nm_m31, nm_m63, nm_m255, nm_m511, nm_m1023, nm_m2047, nm_m65535, Nat.reduceMod, Nat.reducePow, Nat.reduceAdd, Nat.reduceSub, Nat.reduceMul, nm_bo, nm_bi, nm_rc, nm_ic, nm_ri, nm_rl, nm_rq, nm_ql, nm_qi, nm_li, nm_us, nm_uu, nm_cp, nm_sa31, nm_sa7, nm_m127, nm_m2, nm_nz, nm_nzk, nm_eq32, nm_nzf, if_true, if_false, ↓reduceIte, if_pos, if_neg]
  · rw [z] at hm
    simp (disch := (first | assumption | decide | omega)) only [(show df_X2_evaluate_13 n (m + 1) = dF_X2_evaluate_13 n (df_X2_evaluate_13 n m) from rfl), dF_X2_evaluate_13, df_X2_evaluate_372, df_X2_evaluate_355, df_X2_evaluate_349, df_X2_evaluate_141, df_X2_evaluate_221, df_X2_evaluate_196, df_X2_evaluate_184, df_X2_evaluate_163, df_X2_evaluate_149, df_X2_evaluate_71, df_X2_evaluate_0, df_X2_evaluate, df_X2_single_64, df_X2_single_106, df_X2_single_88, df_X2_single_0, df_X2_single, hc, hf, ht, hv, w1, hm, eq_self, Nat.reduceEqDiff, Nat.reduceLeDiff, nl_0, nl_1, nl_2, nl_3, nl_4, nl_19, nl_20, nl_21, nl_23, nl_24, nl_30, nl_33, nl_34, nl_35, nl_36, nl_40, nl_41, nl_160, no_1, no_1024, pk_mul, nI_add, nm_ck, nI_clamp, nI_ltI, nI_leI, nI_eq, nb_b2, nb_b1, ↓nb_let, nm_z0, nm_z1, nb_II, nb_IR, nb_RI, nb_RR, nm_IL, nm_IQ, nm_RL, nm_RQ, nm_LI, nm_LR, nm_LL, nm_LQ, nm_QI, nm_QR, nm_QL, nm_QQ, nm_rr, nm_ii, nm_eqm, not_false_eq_true, pk_sub, nm_div, nm_shl, nm_shr, nm_ush, nm_or8, nm_or64, nm_or256, nm_m1, nm_m3, nm_m7, nm_m15, nm_m31, nm_m63, nm_m255, nm_m511, nm_m1023, nm_m2047, nm_m65535, Nat.reduceMod, Nat.reducePow, Nat.reduceAdd, Nat.reduceSub, Nat.reduceMul, nm_bo, nm_bi, nm_rc, nm_ic, nm_ri, nm_rl, nm_rq, nm_ql, nm_qi, nm_li, nm_us, nm_uu, nm_cp, nm_sa31, nm_sa7, nm_m127, nm_m2, nm_nz, nm_nzk, nm_eq32, nm_nzf, if_true, if_false, ↓reduceIte, if_pos, if_neg]
theorem ev_bin (n m c e i o t : Nat) {Cd : St} {M : St × St} {x y : Int64} (h1 : i < e) (h2 : e ≤ 160) (ho : 3 ≤ o) (ho2 : o ≤ 18) (hc : sR Cd 0 i = nI o) (hf : sI Cd 3 = nI 0) (ht : sI Cd 1 = nI (t + 2)) (h41 : t + 1 < 41) (hx : sQ Cd 1 t = x) (hy : sQ Cd 1 (t + 1) = y) : df_X2_evaluate_13 n (m + 1) (nI c) (nI e) (nI i) (nd_st0, (Cd, M)) = match bV o x y with | some z => df_X2_evaluate_13 n m (nI c) (nI e) (nI (i + 1)) (nd_st0, (pu Cd t (t + 1) z, M)) | none => df_X2_evaluate_13 n m (nI c) (nI e) (nI (i + 1)) (nd_st0, (pQ (pI (pI Cd 1 (nI (t + 1))) 3 (nI 1)) 1 (vp_updL (sQ Cd 1) t 0), M)) := by
  have w1 : nI (t + 1) - nI 1 = nI t := by rw [pk_sub (by omega)]; rfl
  have w2 : nI (t + 2) - nI 1 = nI (t + 1) := by rw [pk_sub (by omega)]; rfl
  have hj := jn_o n o ho ho2 x y (pI Cd 1 (nI (t + 1)))
  have q23 : ¬ o = 23 := by omega
  have q35 : ¬ o = 35 := by omega
  have q34 : ¬ o = 34 := by omega
  cases hb : bV o x y with
  | none =>
    rw [hb] at hj
    replace hj : df_X2_joined n (nI o) x y (pI Cd 1 (nI (t + 1))) = some (0, pI (pI Cd 1 (nI (t + 1))) 3 (nI 1)) := hj
    simp (disch := (first | assumption | decide | omega)) only [(show df_X2_evaluate_13 n (m + 1) = dF_X2_evaluate_13 n (df_X2_evaluate_13 n m) from rfl), dF_X2_evaluate_13, df_X2_evaluate_372, df_X2_evaluate_355, df_X2_evaluate_349, df_X2_evaluate_141, df_X2_evaluate_221, df_X2_evaluate_196, df_X2_evaluate_184, df_X2_evaluate_163, df_X2_evaluate_149, df_X2_evaluate_71, df_X2_evaluate_0, df_X2_evaluate, hc, hf, ht, hx, hy, w1, w2, hj, eq_self, Nat.reduceEqDiff, Nat.reduceLeDiff, nl_0, nl_1, nl_2, nl_3, nl_4, nl_19, nl_23, nl_30, nl_33, nl_34, nl_35, nl_40, nl_41, nl_160, no_1, no_1024, pk_mul, nI_add, nm_ck, nI_clamp, nI_ltI, nI_leI, nI_eq, nb_b2, nb_b1, ↓nb_let, nm_z0, nm_z1, nb_II, nb_IR, nb_RI, nb_RR, nm_IL, nm_IQ, nm_RL, nm_RQ, nm_LI, nm_LR, nm_LL, nm_LQ, nm_QI, nm_QR, nm_QL, nm_QQ, nm_rr, nm_ii, nm_eqm, not_false_eq_true, pk_sub, nm_div, nm_shl, nm_shr, nm_ush, nm_or8, nm_or64, nm_or256, nm_m1, nm_m3, nm_m7, nm_m15, nm_m31, nm_m63, nm_m255, nm_m511, nm_m1023, nm_m2047, nm_m65535, Nat.reduceMod, Nat.reducePow, Nat.reduceAdd, Nat.reduceSub, Nat.reduceMul, nm_bo, nm_bi, nm_rc, nm_ic, nm_ri, nm_rl, nm_rq, nm_ql, nm_qi, nm_li, nm_us, nm_uu, nm_cp, nm_sa31, nm_sa7, nm_m127, nm_m2, nm_nz, nm_nzk, nm_eq32, nm_nzf, if_true, if_false, ↓reduceIte, if_pos, if_neg]
  | some z =>
    rw [hb] at hj
    replace hj : df_X2_joined n (nI o) x y (pI Cd 1 (nI (t + 1))) = some (z, pI Cd 1 (nI (t + 1))) := hj
    simp (disch := (first | assumption | decide | omega)) only [(show df_X2_evaluate_13 n (m + 1) = dF_X2_evaluate_13 n (df_X2_evaluate_13 n m) from rfl), dF_X2_evaluate_13, df_X2_evaluate_372, df_X2_evaluate_355, df_X2_evaluate_349, df_X2_evaluate_141, df_X2_evaluate_221, df_X2_evaluate_196, df_X2_evaluate_184, df_X2_evaluate_163, df_X2_evaluate_149, df_X2_evaluate_71, df_X2_evaluate_0, df_X2_evaluate, hc, hf, ht, hx, hy, w1, w2, hj, eq_self, Nat.reduceEqDiff, Nat.reduceLeDiff, nl_0, nl_1, nl_2, nl_3, nl_4, nl_19, nl_23, nl_30, nl_33, nl_34, nl_35, nl_40, nl_41, nl_160, no_1, no_1024, pk_mul, nI_add, nm_ck, nI_clamp, nI_ltI, nI_leI, nI_eq, nb_b2, nb_b1, ↓nb_let, nm_z0, nm_z1, nb_II, nb_IR, nb_RI, nb_RR, nm_IL, nm_IQ, nm_RL, nm_RQ, nm_LI, nm_LR, nm_LL, nm_LQ, nm_QI, nm_QR, nm_QL, nm_QQ, nm_rr, nm_ii, nm_eqm, not_false_eq_true, pk_sub, nm_div, nm_shl, nm_shr, nm_ush, nm_or8, nm_or64, nm_or256, nm_m1, nm_m3, nm_m7, nm_m15, nm_m31, nm_m63, nm_m255, nm_m511, nm_m1023, nm_m2047, nm_m65535, Nat.reduceMod, Nat.reducePow, Nat.reduceAdd, Nat.reduceSub, Nat.reduceMul, nm_bo, nm_bi, nm_rc, nm_ic, nm_ri, nm_rl, nm_rq, nm_ql, nm_qi, nm_li, nm_us, nm_uu, nm_cp, nm_sa31, nm_sa7, nm_m127, nm_m2, nm_nz, nm_nzk, nm_eq32, nm_nzf, if_true, if_false, ↓reduceIte, if_pos, if_neg]
    rfl
/-- 35 goes round where it is true, 34 where it isn't -/
theorem ev_if (n m c e i o b t : Nat) {Cd : St} {M : St × St} {v : Int64} (h1 : i < e) (h2 : e ≤ 160) (ho : o = 1 ∨ o = 2) (hc : sR Cd 0 i = nI (36 - o)) (ha : sQ Cd 0 i = (nI b).toInt64) (hb : i < b) (hb2 : b ≤ 160) (hf : sI Cd 3 = nI 0) (ht : sI Cd 1 = nI (t + 1)) (h41 : t < 41) (hv : sQ Cd 1 t = v) : df_X2_evaluate_13 n (m + 1) (nI c) (nI e) (nI i) (nd_st0, (Cd, M)) = if (v = 0 ↔ o = 1) then df_X2_evaluate_13 n m (nI c) (nI e) (nI (i + 1)) (nd_st0, (pI Cd 1 (nI t), M)) else df_X2_evaluate_13 n m (nI c) (nI e) (nI b) (nd_st0, (pu Cd t (t + 1) (if o = 1 then 1 else 0), M)) := by
  have w : (if i < b - 1 then nI (b - 1) else nI i) = nI (b - 1) := by
    by_cases y : i < b - 1
    · rw [if_pos y]
    · rw [if_neg y, show i = b - 1 by omega]
  have w2 : nI (b - 1) + nI 1 = nI b := by rw [nI_add, Nat.sub_add_cancel (by omega)]
  have w3 : nI b - nI 1 = nI (b - 1) := pk_sub (by omega)
  have w1 : nI (t + 1) - nI 1 = nI t := by rw [pk_sub (by omega)]; rfl
  rw [← pu_e (t := t) (v := if o = 1 then 1 else 0) ht]
  rcases ho with rfl | rfl
  · by_cases y : v = 0
    · rw [if_pos (show (v = 0 ↔ (1 : Nat) = 1) from ⟨fun _ => rfl, fun _ => y⟩)]
      replace hc : sR Cd 0 i = nI 35 := hc
      simp (disch := (first | assumption | decide | omega)) only [(show df_X2_evaluate_13 n (m + 1) = dF_X2_evaluate_13 n (df_X2_evaluate_13 n m) from rfl), dF_X2_evaluate_13, df_X2_evaluate_372, df_X2_evaluate_355, df_X2_evaluate_349, df_X2_evaluate_141, df_X2_evaluate_221, df_X2_evaluate_196, df_X2_evaluate_184, df_X2_evaluate_163, df_X2_evaluate_149, df_X2_evaluate_71, df_X2_evaluate_0, df_X2_evaluate, hc, hf, ht, hv, ha, t3b, w1, lc_eq, y, eq_self, Nat.reduceEqDiff, Nat.reduceLeDiff, nl_0, nl_1, nl_2, nl_3, nl_4, nl_19, nl_23, nl_30, nl_33, nl_34, nl_35, nl_40, nl_41, nl_160, no_1, no_1024, pk_mul, nI_add, nm_ck, nI_clamp, nI_ltI, nI_leI, nI_eq, nb_b2, nb_b1, ↓nb_let, nm_z0, nm_z1, nb_II, nb_IR, nb_RI, nb_RR, nm_IL, nm_IQ, nm_RL, nm_RQ, nm_LI, nm_LR, nm_LL, nm_LQ, nm_QI, nm_QR, nm_QL, nm_QQ, nm_rr, nm_ii, nm_eqm, not_false_eq_true, pk_sub, nm_div, nm_shl, nm_shr, nm_ush, nm_or8, nm_or64, nm_or256, nm_m1, nm_m3, nm_m7, nm_m15, nm_m31, nm_m63, nm_m255, nm_m511, nm_m1023, nm_m2047, nm_m65535, Nat.reduceMod, Nat.reducePow, Nat.reduceAdd, Nat.reduceSub, Nat.reduceMul, nm_bo, nm_bi, nm_rc, nm_ic, nm_ri, nm_rl, nm_rq, nm_ql, nm_qi, nm_li, nm_us, nm_uu, nm_cp, nm_sa31, nm_sa7, nm_m127, nm_m2, nm_nz, nm_nzk, nm_eq32, nm_nzf, if_true, if_false, ↓reduceIte, if_pos, if_neg]
    · rw [if_neg (show ¬ (v = 0 ↔ (1 : Nat) = 1) from fun z => y (z.mpr rfl))]
      replace hc : sR Cd 0 i = nI 35 := hc
      simp (disch := (first | assumption | decide | omega)) only [(show df_X2_evaluate_13 n (m + 1) = dF_X2_evaluate_13 n (df_X2_evaluate_13 n m) from rfl), dF_X2_evaluate_13, df_X2_evaluate_372, df_X2_evaluate_355, df_X2_evaluate_349, df_X2_evaluate_141, df_X2_evaluate_221, df_X2_evaluate_196, df_X2_evaluate_184, df_X2_evaluate_163, df_X2_evaluate_149, df_X2_evaluate_71, df_X2_evaluate_0, df_X2_evaluate, hc, hf, ht, hv, ha, t3b, w1, w3, w, w2, lc_eq, y, eq_self, Nat.reduceEqDiff, Nat.reduceLeDiff, nl_0, nl_1, nl_2, nl_3, nl_4, nl_19, nl_23, nl_30, nl_33, nl_34, nl_35, nl_40, nl_41, nl_160, no_1, no_1024, pk_mul, nI_add, nm_ck, nI_clamp, nI_ltI, nI_leI, nI_eq, nb_b2, nb_b1, ↓nb_let, nm_z0, nm_z1, nb_II, nb_IR, nb_RI, nb_RR, nm_IL, nm_IQ, nm_RL, nm_RQ, nm_LI, nm_LR, nm_LL, nm_LQ, nm_QI, nm_QR, nm_QL, nm_QQ, nm_rr, nm_ii, nm_eqm, not_false_eq_true, pk_sub, nm_div, nm_shl, nm_shr, nm_ush, nm_or8, nm_or64, nm_or256, nm_m1, nm_m3, nm_m7, nm_m15, nm_m31, nm_m63, nm_m255, nm_m511, nm_m1023, nm_m2047, nm_m65535, Nat.reduceMod, Nat.reducePow, Nat.reduceAdd, Nat.reduceSub, Nat.reduceMul, nm_bo, nm_bi, nm_rc, nm_ic, nm_ri, nm_rl, nm_rq, nm_ql, nm_qi, nm_li, nm_us, nm_uu, nm_cp, nm_sa31, nm_sa7, nm_m127, nm_m2, nm_nz, nm_nzk, nm_eq32, nm_nzf, if_true, if_false, ↓reduceIte, if_pos, if_neg]
  · by_cases y : v = 0
    · rw [if_neg (show ¬ (v = 0 ↔ (2 : Nat) = 1) from fun z => absurd (z.mp y) (by decide))]
      replace hc : sR Cd 0 i = nI 34 := hc
      simp (disch := (first | assumption | decide | omega)) only [(show df_X2_evaluate_13 n (m + 1) = dF_X2_evaluate_13 n (df_X2_evaluate_13 n m) from rfl), dF_X2_evaluate_13, df_X2_evaluate_372, df_X2_evaluate_355, df_X2_evaluate_349, df_X2_evaluate_141, df_X2_evaluate_221, df_X2_evaluate_196, df_X2_evaluate_184, df_X2_evaluate_163, df_X2_evaluate_149, df_X2_evaluate_71, df_X2_evaluate_0, df_X2_evaluate, hc, hf, ht, hv, ha, t3b, w1, w3, w, w2, lc_eq, y, eq_self, Nat.reduceEqDiff, Nat.reduceLeDiff, nl_0, nl_1, nl_2, nl_3, nl_4, nl_19, nl_23, nl_30, nl_33, nl_34, nl_35, nl_40, nl_41, nl_160, no_1, no_1024, pk_mul, nI_add, nm_ck, nI_clamp, nI_ltI, nI_leI, nI_eq, nb_b2, nb_b1, ↓nb_let, nm_z0, nm_z1, nb_II, nb_IR, nb_RI, nb_RR, nm_IL, nm_IQ, nm_RL, nm_RQ, nm_LI, nm_LR, nm_LL, nm_LQ, nm_QI, nm_QR, nm_QL, nm_QQ, nm_rr, nm_ii, nm_eqm, not_false_eq_true, pk_sub, nm_div, nm_shl, nm_shr, nm_ush, nm_or8, nm_or64, nm_or256, nm_m1, nm_m3, nm_m7, nm_m15, nm_m31, nm_m63, nm_m255, nm_m511, nm_m1023, nm_m2047, nm_m65535, Nat.reduceMod, Nat.reducePow, Nat.reduceAdd, Nat.reduceSub, Nat.reduceMul, nm_bo, nm_bi, nm_rc, nm_ic, nm_ri, nm_rl, nm_rq, nm_ql, nm_qi, nm_li, nm_us, nm_uu, nm_cp, nm_sa31, nm_sa7, nm_m127, nm_m2, nm_nz, nm_nzk, nm_eq32, nm_nzf, if_true, if_false, ↓reduceIte, if_pos, if_neg]
    · rw [if_pos (show (v = 0 ↔ (2 : Nat) = 1) from ⟨fun z => absurd z y, fun z => absurd z (by decide)⟩)]
      replace hc : sR Cd 0 i = nI 34 := hc
      simp (disch := (first | assumption | decide | omega)) only [(show df_X2_evaluate_13 n (m + 1) = dF_X2_evaluate_13 n (df_X2_evaluate_13 n m) from rfl), dF_X2_evaluate_13, df_X2_evaluate_372, df_X2_evaluate_355, df_X2_evaluate_349, df_X2_evaluate_141, df_X2_evaluate_221, df_X2_evaluate_196, df_X2_evaluate_184, df_X2_evaluate_163, df_X2_evaluate_149, df_X2_evaluate_71, df_X2_evaluate_0, df_X2_evaluate, hc, hf, ht, hv, ha, t3b, w1, lc_eq, y, eq_self, Nat.reduceEqDiff, Nat.reduceLeDiff, nl_0, nl_1, nl_2, nl_3, nl_4, nl_19, nl_23, nl_30, nl_33, nl_34, nl_35, nl_40, nl_41, nl_160, no_1, no_1024, pk_mul, nI_add, nm_ck, nI_clamp, nI_ltI, nI_leI, nI_eq, nb_b2, nb_b1, ↓nb_let, nm_z0, nm_z1, nb_II, nb_IR, nb_RI, nb_RR, nm_IL, nm_IQ, nm_RL, nm_RQ, nm_LI, nm_LR, nm_LL, nm_LQ, nm_QI, nm_QR, nm_QL, nm_QQ, nm_rr, nm_ii, nm_eqm, not_false_eq_true, pk_sub, nm_div, nm_shl, nm_shr, nm_ush, nm_or8, nm_or64, nm_or256, nm_m1, nm_m3, nm_m7, nm_m15, nm_m31, nm_m63, nm_m255, nm_m511, nm_m1023, nm_m2047, nm_m65535, Nat.reduceMod, Nat.reducePow, Nat.reduceAdd, Nat.reduceSub, Nat.reduceMul, nm_bo, nm_bi, nm_rc, nm_ic, nm_ri, nm_rl, nm_rq, nm_ql, nm_qi, nm_li, nm_us, nm_uu, nm_cp, nm_sa31, nm_sa7, nm_m127, nm_m2, nm_nz, nm_nzk, nm_eq32, nm_nzf, if_true, if_false, ↓reduceIte, if_pos, if_neg]
/-- behind a failing -/
theorem ev_ff (n m c e i : Nat) {Cd : St} {M : St × St} (hf : sI Cd 3 = nI 1) : ∃ x : Int64, df_X2_evaluate_13 n (m + 1) (nI c) (nI e) (nI i) (nd_st0, (Cd, M)) = some (x, (nd_st0, (Cd, M))) := by
  have k : ∃ x : Int64, df_X2_evaluate_355 n (nd_st0, (Cd, M)) = some (x, (nd_st0, (Cd, M))) := by
    unfold df_X2_evaluate_355 df_X2_evaluate_372
    split
    · exact ⟨_, rfl⟩
    · exact ⟨_, rfl⟩
  obtain ⟨x, k⟩ := k
  refine ⟨x, ?_⟩
  show dF_X2_evaluate_13 n (df_X2_evaluate_13 n m) (nI c) (nI e) (nI i) (nd_st0, (Cd, M)) = _
  unfold dF_X2_evaluate_13
  split
  · exact k
  · rw [if_neg (show ¬ sI ((nd_st0, (Cd, M)) : St × (St × (St × St))).2.1 3 = 0 from fun z => absurd (hf.symm.trans z) (by decide))]
    exact k

/-- what the class's machine answers where a condition asks -/
def eC (n c : Nat) (M : St × St) (E : Evn) : Prop := (∀ r : Nat, r ≤ 32 → df_X2_operand n (nI c) (nI 31) (nI r).toInt64 M = some (E.1 r, M)) ∧ (∀ a : Int64, df_X2_operand n (nI c) (nI 32) a M = some (E.2.1, M)) ∧ (∀ a : Int64, df_X2_operand n (nI c) (nI 33) a M = some (E.2.2.1, M)) ∧ ∀ (o : Nat) (v : Int64) (Cd : St), 25 ≤ o → o ≤ 27 → df_X2_inSpace n (nI o) v (nd_st0, (Cd, M)) = match E.2.2.2 o v with | some x => some (x, (nd_st0, (Cd, M))) | none => some (0, (nd_st0, (pI Cd 3 (nI 1), M)))
/-- a piece of the class's code, from b to b', that is worth d; at most s values lie on the pile meanwhile; what it remembers has the numbers j0 to j1 -/
def gC (d : Dn) (s b b' j0 j1 : Nat) (C : Nat → Int32) (A : Nat → Int64) (T : Nat → Int32) : Prop := b < b' ∧ 1 ≤ s ∧ j0 ≤ j1 ∧ ∀ (n c : Nat) (M : St × St) (E : Evn) (w : Nat → Int64) (Cd : St) (t e g : Nat), eC n c M E → (∀ i : Nat, b ≤ i → i < b' → sR Cd 0 i = C i ∧ sQ Cd 0 i = A i) → (∀ j : Nat, j0 ≤ j → j < j1 → sR Cd 4 j = T j ∧ sQ Cd 2 j = w j) → sI Cd 1 = nI t → sI Cd 3 = nI 0 → t + s ≤ 41 → b' ≤ e → e ≤ 160 → b' - b < g → (∀ v : Int64, d E w = some v → ∃ (g' : Nat) (Cd2 : St), g ≤ g' + (b' - b) ∧ cEv t Cd Cd2 ∧ sI Cd2 1 = nI (t + 1) ∧ sI Cd2 3 = nI 0 ∧ sQ Cd2 1 t = v ∧ df_X2_evaluate_13 n g (nI c) (nI e) (nI b) (nd_st0, (Cd, M)) = df_X2_evaluate_13 n g' (nI c) (nI e) (nI b') (nd_st0, (Cd2, M))) ∧ (d E w = none → ∃ (x : Int64) (Cd2 : St), cEv 0 Cd Cd2 ∧ ¬ sI Cd2 3 = 0 ∧ df_X2_evaluate_13 n g (nI c) (nI e) (nI b) (nd_st0, (Cd, M)) = some (x, (nd_st0, (Cd2, M))))
theorem gC_st {d : Dn} {s b b' j0 j1 : Nat} {C C' : Nat → Int32} {A A' : Nat → Int64} {T T' : Nat → Int32} (h : gC d s b b' j0 j1 C A T) (hC : ∀ i : Nat, b ≤ i → i < b' → C' i = C i ∧ A' i = A i) (hT : ∀ j : Nat, j0 ≤ j → j < j1 → T' j = T j) : gC d s b b' j0 j1 C' A' T' :=
  ⟨h.1, h.2.1, h.2.2.1, fun n c M E w Cd t e g hE hs hj ht hf h41 he he2 hg => h.2.2.2 n c M E w Cd t e g hE (fun i a b => ⟨(hs i a b).1.trans (hC i a b).1, (hs i a b).2.trans (hC i a b).2⟩) (fun j a b => ⟨(hj j a b).1.trans (hT j a b), (hj j a b).2⟩) ht hf h41 he he2 hg⟩
theorem gC_leaf {b j0 o : Nat} {C : Nat → Int32} {A : Nat → Int64} {T : Nat → Int32} (ho : 30 ≤ o) (ho2 : o ≤ 33) (f : Evn → Int64) (hC : C b = nI o) (hv : ∀ (n c : Nat) (M : St × St) (E : Evn), eC n c M E → df_X2_operand n (nI c) (nI o) (A b) M = some (f E, M)) : gC (fun E _ => some (f E)) 1 b (b + 1) j0 j0 C A T := by
  refine ⟨by omega, by omega, Nat.le_refl _, fun n c M E w Cd t e g hE hs hj ht hf h41 he he2 hg => ⟨fun v hv2 => ?_, fun z => (nomatch z)⟩⟩
  obtain ⟨m, rfl⟩ : ∃ m : Nat, g = m + 1 := ⟨g - 1, by omega⟩
  have hv2 : some (f E) = some v := hv2
  injection hv2 with hv2
  subst hv2
  have k := hs b (by omega) (by omega)
  exact ⟨m, pu Cd t (t + 1) (f E), by omega, pu_E .., pu_1 .., hf, pu_t .., ev_op n m c e b o t (by omega) he2 ho ho2 (k.1.trans hC) hf ht (by omega) (by rw [k.2]; exact hv n c M E hE)⟩
theorem gC_old {s b b' j : Nat} {C : Nat → Int32} {A : Nat → Int64} {T : Nat → Int32} (hs1 : 1 ≤ s) (hb : b < b') (hC : C b = nI 23) (hA : A b = (nI j).toInt64) (hj40 : j < 40) (hT : T j = nI b') : gC (fun _ w => some (w j)) s b b' j (j + 1) C A T := by
  refine ⟨hb, hs1, by omega, fun n c M E w Cd t e g hE hs hj ht hf h41 he he2 hg => ⟨fun v hv2 => ?_, fun z => (nomatch z)⟩⟩
  obtain ⟨m, rfl⟩ : ∃ m : Nat, g = m + 1 := ⟨g - 1, by omega⟩
  have hv2 : some (w j) = some v := hv2
  injection hv2 with hv2
  subst hv2
  have k := hs b (by omega) (by omega)
  have q := hj j (by omega) (by omega)
  refine ⟨m, pu Cd t (t + 1) (sQ Cd 2 j), by omega, pu_E .., pu_1 .., hf, (pu_t ..).trans q.2, ev_old n m c e b j b' t (by omega) he2 (k.1.trans hC) (k.2.trans hA) hj40 (q.1.trans hT) hb (by omega) hf ht (by omega)⟩
theorem gC_un {d : Dn} {s b m j0 j1 o : Nat} {C : Nat → Int32} {A : Nat → Int64} {T : Nat → Int32} (ho : o = 19 ∨ o = 20 ∨ o = 21) (h : gC d s b m j0 j1 C A T) (hC : C m = nI o) : gC (dnU o d) s b (m + 1) j0 j1 C A T := by
  obtain ⟨h1, h2, h3, h4⟩ := h
  refine ⟨by omega, h2, h3, fun n c M E w Cd t e g hE hs hj ht hf h41 he he2 hg => ?_⟩
  have k := h4 n c M E w Cd t e g hE (fun i a b => hs i a (by omega)) hj ht hf h41 (by omega) he2 (by omega)
  unfold dnU
  cases hd : d E w with
  | none => exact ⟨fun v z => (nomatch z), fun _ => k.2 hd⟩
  | some v =>
    refine ⟨fun u z => ?_, fun z => (nomatch z)⟩
    have z : some (uV o v) = some u := z
    injection z with z
    subst z
    obtain ⟨g', Cd2, k1, k2, k3, k4, k5, k6⟩ := k.1 v hd
    obtain ⟨q, rfl⟩ : ∃ q : Nat, g' = q + 1 := ⟨g' - 1, by omega⟩
    have x1 : sR Cd2 0 m = nI o := by rw [k2.1.1, (hs m (by omega) (by omega)).1]; exact hC
    have x2 := ev_un n q c e m o t (M := M) (by omega) he2 (by omega) x1 k4 k3 (by omega) k5
    rw [if_neg (by omega)] at x2
    exact ⟨q, pu Cd2 t (t + 1) (uV o v), by omega, cEv_t k2 (pu_E ..), pu_1 .., k4, pu_t .., k6.trans x2⟩
theorem gC_chg {d : Dn} {s b m j : Nat} {C : Nat → Int32} {A : Nat → Int64} {T : Nat → Int32} (h : gC d s b m (j + 1) (j + 1) C A T) (hC : C m = nI 24) (hA : A m = (nI j).toInt64) (hj40 : j < 40) : gC (dnC j d) s b (m + 1) j (j + 1) C A T := by
  obtain ⟨h1, h2, h3, h4⟩ := h
  refine ⟨by omega, h2, by omega, fun n c M E w Cd t e g hE hs hj ht hf h41 he he2 hg => ?_⟩
  have k := h4 n c M E w Cd t e g hE (fun i a b => hs i a (by omega)) (fun i a b => by omega) ht hf h41 (by omega) he2 (by omega)
  unfold dnC
  cases hd : d E w with
  | none => exact ⟨fun v z => (nomatch z), fun _ => k.2 hd⟩
  | some v =>
    refine ⟨fun u z => ?_, fun z => (nomatch z)⟩
    have z : some (if v = w j then (0 : Int64) else 1) = some u := z
    injection z with z
    subst z
    obtain ⟨g', Cd2, k1, k2, k3, k4, k5, k6⟩ := k.1 v hd
    obtain ⟨q, rfl⟩ : ∃ q : Nat, g' = q + 1 := ⟨g' - 1, by omega⟩
    have x1 : sR Cd2 0 m = nI 24 := by rw [k2.1.1, (hs m (by omega) (by omega)).1]; exact hC
    have x3 : sQ Cd2 0 m = (nI j).toInt64 := by rw [k2.1.2.1, (hs m (by omega) (by omega)).2]; exact hA
    have x2 := ev_chg n q c e m j t (M := M) (by omega) he2 x1 x3 hj40 k4 k3 (by omega) k5
    rw [k2.2.1, (hj j (by omega) (by omega)).2] at x2
    exact ⟨q, _, by omega, cEv_t k2 (pu_E ..), pu_1 .., k4, pu_t .., k6.trans x2⟩
theorem gC_mem {d : Dn} {s b m j0 j1 o : Nat} {C : Nat → Int32} {A : Nat → Int64} {T : Nat → Int32} (ho : 25 ≤ o) (ho2 : o ≤ 27) (h : gC d s b m j0 j1 C A T) (hC : C m = nI o) : gC (dnM o d) s b (m + 1) j0 j1 C A T := by
  obtain ⟨h1, h2, h3, h4⟩ := h
  refine ⟨by omega, h2, h3, fun n c M E w Cd t e g hE hs hj ht hf h41 he he2 hg => ?_⟩
  have k := h4 n c M E w Cd t e g hE (fun i a b => hs i a (by omega)) hj ht hf h41 (by omega) he2 (by omega)
  unfold dnM
  cases hd : d E w with
  | none => exact ⟨fun v z => (nomatch z), fun _ => k.2 hd⟩
  | some v =>
    obtain ⟨g', Cd2, k1, k2, k3, k4, k5, k6⟩ := k.1 v hd
    obtain ⟨q, rfl⟩ : ∃ q : Nat, g' = q + 1 + 1 := ⟨g' - 2, by omega⟩
    have x1 : sR Cd2 0 m = nI o := by rw [k2.1.1, (hs m (by omega) (by omega)).1]; exact hC
    have x2 := ev_mem n (q + 1) c e m o t (M := M) (by omega) he2 ho ho2 x1 k4 k3 (by omega) k5 (hE.2.2.2 o v Cd2 ho ho2)
    refine ⟨fun u z => ?_, fun z => ?_⟩
    · have z : E.2.2.2 o v = some u := z
      have x2 := x2.1 u (by rw [z])
      exact ⟨q + 1, pu Cd2 t (t + 1) u, by omega, cEv_t k2 (pu_E ..), pu_1 .., k4, pu_t .., k6.trans x2⟩
    · have z : E.2.2.2 o v = none := z
      have x2 := x2.2 (by rw [z])
      obtain ⟨x, x3⟩ := ev_ff n q c e (m + 1) (Cd := pQ (pI Cd2 3 (nI 1)) 1 (vp_updL (sQ Cd2 1) t 0)) (M := M) rfl
      exact ⟨x, pQ (pI Cd2 3 (nI 1)) 1 (vp_updL (sQ Cd2 1) t 0), ⟨cSt_t k2.1 (cSt_r Cd2), k2.2.1, fun i hi => by omega⟩, show ¬ nI 1 = 0 by decide, k6.trans (x2.trans x3)⟩
theorem gC_bin {d f : Dn} {s u b m p j0 j j1 o : Nat} {C : Nat → Int32} {A : Nat → Int64} {T : Nat → Int32} (ho : 3 ≤ o) (ho2 : o ≤ 18) (h : gC d s b m j0 j C A T) (h' : gC f u m p j j1 C A T) (hC : C p = nI o) : gC (dnB o d f) (s + u) b (p + 1) j0 j1 C A T := by
  obtain ⟨h1, h2, h3, h4⟩ := h
  obtain ⟨i1, i2, i3, i4⟩ := h'
  refine ⟨by omega, by omega, by omega, fun n c M E w Cd t e g hE hs hj ht hf h41 he he2 hg => ?_⟩
  have k := h4 n c M E w Cd t e g hE (fun i a b => hs i a (by omega)) (fun i a b => hj i a (by omega)) ht hf (by omega) (by omega) he2 (by omega)
  unfold dnB
  cases hd : d E w with
  | none => exact ⟨fun v z => (nomatch z), fun _ => k.2 hd⟩
  | some x =>
    obtain ⟨g', Cd1, k1, k2, k3, k4, k5, k6⟩ := k.1 x hd
    have l := i4 n c M E w Cd1 (t + 1) e g' hE (fun i a b => by rw [k2.1.1, k2.1.2.1]; exact hs i (by omega) (by omega)) (fun i a b => by rw [k2.1.2.2.2.2.1, k2.2.1]; exact hj i (by omega) b) k3 k4 (by omega) (by omega) he2 (by omega)
    cases hf2 : f E w with
    | none =>
      refine ⟨fun v z => (nomatch z), fun _ => ?_⟩
      obtain ⟨z, Cd2, l1, l2, l3⟩ := l.2 hf2
      exact ⟨z, Cd2, cEv_t (cEv_l k2 (by omega)) l1, l2, k6.trans l3⟩
    | some y =>
      obtain ⟨g2, Cd2, l1, l2, l3, l4, l5, l6⟩ := l.1 y hf2
      obtain ⟨q, rfl⟩ : ∃ q : Nat, g2 = q + 1 + 1 := ⟨g2 - 2, by omega⟩
      have x1 : sR Cd2 0 p = nI o := by rw [l2.1.1, k2.1.1, (hs p (by omega) (by omega)).1]; exact hC
      have x2 := ev_bin n (q + 1) c e p o t (M := M) (by omega) he2 ho ho2 x1 l4 l3 (by omega) ((l2.2.2 t (by omega)).trans k5) l5
      refine ⟨fun v z => ?_, fun z => ?_⟩
      · have z : bV o x y = some v := z
        rw [z] at x2
        exact ⟨q + 1, pu Cd2 t (t + 1) v, by omega, cEv_t k2 (cEv_t (cEv_l l2 (by omega)) (pu_E ..)), pu_1 .., l4, pu_t .., k6.trans (l6.trans x2)⟩
      · have z : bV o x y = none := z
        rw [z] at x2
        obtain ⟨x', x3⟩ := ev_ff n q c e (p + 1) (Cd := pQ (pI (pI Cd2 1 (nI (t + 1))) 3 (nI 1)) 1 (vp_updL (sQ Cd2 1) t 0)) (M := M) rfl
        exact ⟨x', pQ (pI (pI Cd2 1 (nI (t + 1))) 3 (nI 1)) 1 (vp_updL (sQ Cd2 1) t 0), ⟨cSt_t k2.1 (cSt_t l2.1 (cSt_r Cd2)), l2.2.1.trans k2.2.1, fun i hi => by omega⟩, show ¬ nI 1 = 0 by decide, k6.trans (l6.trans (x2.trans x3))⟩
theorem gC_log {d f : Dn} {s u b m p j0 j j1 o : Nat} {C : Nat → Int32} {A : Nat → Int64} {T : Nat → Int32} (ho : o = 1 ∨ o = 2) (h : gC d s b m j0 j C A T) (h' : gC f u (m + 1) p j j1 C A T) (hC : C p = nI 36) (hI : C m = nI (36 - o)) (hA : A m = (nI (p + 1)).toInt64) : gC (dnG o d f) (s + u) b (p + 1) j0 j1 C A T := by
  obtain ⟨h1, h2, h3, h4⟩ := h
  obtain ⟨i1, i2, i3, i4⟩ := h'
  refine ⟨by omega, by omega, by omega, fun n c M E w Cd t e g hE hs hj ht hf h41 he he2 hg => ?_⟩
  have k := h4 n c M E w Cd t e g hE (fun i a b => hs i a (by omega)) (fun i a b => hj i a (by omega)) ht hf (by omega) (by omega) he2 (by omega)
  unfold dnG
  cases hd : d E w with
  | none => exact ⟨fun v z => (nomatch z), fun _ => k.2 hd⟩
  | some x =>
    obtain ⟨g', Cd1, k1, k2, k3, k4, k5, k6⟩ := k.1 x hd
    obtain ⟨q, rfl⟩ : ∃ q : Nat, g' = q + 1 := ⟨g' - 1, by omega⟩
    have y1 : sR Cd1 0 m = nI (36 - o) := by rw [k2.1.1, (hs m (by omega) (by omega)).1]; exact hI
    have y2 : sQ Cd1 0 m = (nI (p + 1)).toInt64 := by rw [k2.1.2.1, (hs m (by omega) (by omega)).2]; exact hA
    have y3 := ev_if n q c e m o (p + 1) t (M := M) (by omega) he2 ho y1 y2 (by omega) (by omega) k4 k3 (by omega) k5
    by_cases a : x = 0 ↔ o = 1
    · rw [if_pos a] at y3
      have l := i4 n c M E w (pI Cd1 1 (nI t)) t e q hE (fun i a b => by show sR Cd1 0 i = _ ∧ sQ Cd1 0 i = _; rw [k2.1.1, k2.1.2.1]; exact hs i (by omega) (by omega)) (fun i a b => by show sR Cd1 4 i = _ ∧ sQ Cd1 2 i = _; rw [k2.1.2.2.2.2.1, k2.2.1]; exact hj i (by omega) b) rfl k4 (by omega) (by omega) he2 (by omega)
      have x0 : cEv t Cd1 (pI Cd1 1 (nI t)) := ⟨cSt_r Cd1, rfl, fun _ _ => rfl⟩
      cases hf2 : f E w with
      | none =>
        refine ⟨fun v z => ?_, fun _ => ?_⟩
        · have z : (if (x = 0 ↔ o = 1) then (none : Option Int64) else some (if o = 1 then 1 else 0)) = some v := z
          rw [if_pos a] at z
          exact nomatch z
        · obtain ⟨z, Cd2, l1, l2, l3⟩ := l.2 hf2
          exact ⟨z, Cd2, cEv_t (cEv_l (cEv_t k2 x0) (by omega)) l1, l2, k6.trans (y3.trans l3)⟩
      | some y =>
        obtain ⟨g2, Cd2, l1, l2, l3, l4, l5, l6⟩ := l.1 y hf2
        obtain ⟨r, rfl⟩ : ∃ r : Nat, g2 = r + 1 := ⟨g2 - 1, by omega⟩
        have x1 : sR Cd2 0 p = nI 36 := by rw [l2.1.1]; show sR Cd1 0 p = _; rw [k2.1.1, (hs p (by omega) (by omega)).1]; exact hC
        have x2 := ev_un n r c e p 36 t (M := M) (by omega) he2 (by omega) x1 l4 l3 (by omega) l5
        rw [if_pos rfl] at x2
        refine ⟨fun v z => ?_, fun z => ?_⟩
        · have z : (if (x = 0 ↔ o = 1) then some (tV y) else some (if o = 1 then 1 else 0)) = some v := z
          rw [if_pos a] at z
          injection z with z
          subst z
          exact ⟨r, pu Cd2 t (t + 1) (tV y), by omega, cEv_t (cEv_t k2 x0) (cEv_t l2 (pu_E ..)), pu_1 .., l4, pu_t .., k6.trans (y3.trans (l6.trans x2))⟩
        · have z : (if (x = 0 ↔ o = 1) then some (tV y) else some (if o = 1 then 1 else 0)) = none := z
          rw [if_pos a] at z
          exact nomatch z
    · rw [if_neg a] at y3
      refine ⟨fun v z => ?_, fun z => ?_⟩
      · have z : (if (x = 0 ↔ o = 1) then (f E w).bind (fun b => some (tV b)) else some (if o = 1 then 1 else 0)) = some v := z
        rw [if_neg a] at z
        injection z with z
        subst z
        exact ⟨q, _, by omega, cEv_t k2 (pu_E ..), pu_1 .., k4, pu_t .., k6.trans y3⟩
      · have z : (if (x = 0 ↔ o = 1) then (f E w).bind (fun b => some (tV b)) else some (if o = 1 then 1 else 0)) = none := z
        rw [if_neg a] at z
        exact nomatch z

