/-- letters of a form: a register's, which registers it takes, its bits -/
def rlO (l : Nat) : Bool := decide (l = 100 ∨ l = 110 ∨ l = 109 ∨ l = 97 ∨ l = 98 ∨ l = 115 ∨ l = 122 ∨ l = 112 ∨ l = 113)
def rfit (y r : Nat) : Bool := if y = 110 ∨ y = 122 then !decide (r = 0) else if y = 109 then !decide (r = 2) else if y = 112 ∨ y = 113 then decide (8 ≤ r ∧ r ≤ 15) else true
def rgb (y r : Nat) : Int32 := if y = 97 then nI r <<< ((15 : Int32) &&& 31) else if y = 98 then nI r <<< ((20 : Int32) &&& 31) else if y = 115 ∨ y = 122 then nI r <<< ((2 : Int32) &&& 31) else if y = 112 then (nI r &&& 7) <<< ((2 : Int32) &&& 31) else if y = 113 then (nI r &&& 7) <<< ((7 : Int32) &&& 31) else nI r <<< ((7 : Int32) &&& 31)
theorem rl_c {y : Nat} (h : rlO y = true) : y = 100 ∨ y = 110 ∨ y = 109 ∨ y = 97 ∨ y = 98 ∨ y = 115 ∨ y = 122 ∨ y = 112 ∨ y = 113 := of_decide_eq_true h
theorem rf_C (n : Nat) {y : Nat} (h : rlO y = true) {r : Nat} (hr : r < 32) : df_X7_fits n (nI y) (nI r) () = some (bI (rfit y r), ()) := by
  rcases rl_c h with h | h | h | h | h | h | h | h | h
  · subst h; exact fr1_d n hr
  · subst h; exact fr1_n n hr
  · subst h; exact fr1_m n hr
  · subst h; exact fr1_a n hr
  · subst h; exact fr1_b n hr
  · subst h; exact fr1_s n hr
  · subst h; exact fr1_z n hr
  · subst h; exact fr1_p n hr
  · subst h; exact fr1_q n hr
theorem rgb_C (n : Nat) {y : Nat} (h : rlO y = true) (r : Nat) : df_X7_placed n (nI y) (nI r) () = some (rgb y r, ()) := by
  rcases rl_c h with h | h | h | h | h | h | h | h | h
  · subst h; exact plr_d n (nI r)
  · subst h; exact plr_n n (nI r)
  · subst h; exact plr_m n (nI r)
  · subst h; exact plr_a n (nI r)
  · subst h; exact plr_b n (nI r)
  · subst h; exact plr_s n (nI r)
  · subst h; exact plr_z n (nI r)
  · subst h; exact plr_p n (nI r)
  · subst h; exact plr_q n (nI r)
def eL : List Nat → Nat
  | [] => 0
  | l :: F => if 65 ≤ l ∧ l < 97 then l else eL F
def fOK : List Nat → Bool
  | [] => true
  | l :: F => (decide (l = 40 ∨ l = 41 ∨ l = 44) || (rlO l || (decide (65 ≤ l ∧ l < 97) && decide (eL F = 0)))) && fOK F
def RGB : List Nat → List Nat → Int32
  | [], _ => 0
  | l :: F, rs => if 97 ≤ l then (match rs with | r :: rs => rgb l r ||| RGB F rs | [] => 0) else RGB F rs
def FRM (y : Nat) : List Nat := (List.range (ks_n (ko_f y))).map (fun i => kl (ko_f y) i)
theorem frm_1 : ∀ y : Fin 128, ∀ i : Fin 9, (i.1 < ks_n (ko_f y.1) → (FRM y.1).drop i.1 = kl (ko_f y.1) i.1 :: (FRM y.1).drop (i.1 + 1)) ∧ (¬ i.1 < ks_n (ko_f y.1) → (FRM y.1).drop i.1 = []) := by decide +kernel
theorem frm_k : ∀ y : Fin 128, fOK (FRM y.1) = true := by decide +kernel
/-- a form read from a place on: f the fault (0 none), p2 where it ends, the registers, the expression's row of signs -/
def Tr (n L e : Nat) (c : Nat → Nat) (BC : St) : List Nat → Nat → Nat → Nat → List Nat → Nat → (Nat → Tp) → Prop
  | [], p, f, p2, rs, _, _ => f = 0 ∧ p2 = p ∧ rs = []
  | l :: F, p, f, p2, rs, m, P => ∃ (q p' κ τ v : Nat) (x : Int32), TS n L e c BC p q p' κ τ v x ∧ (if l < 65 then (τ = l ∧ Tr n L e c BC F p' f p2 rs m P) ∨ (¬ τ = l ∧ f = 1) else if 97 ≤ l then (tkG c τ q p' < 32 ∧ rfit l (tkG c τ q p') = true ∧ ∃ rs' : List Nat, rs = tkG c τ q p' :: rs' ∧ Tr n L e c BC F p' f p2 rs' m P) ∨ (tkG c τ q p' = 33 ∧ f = 1) ∨ ((tkG c τ q p' = 32 ∨ (tkG c τ q p' < 32 ∧ rfit l (tkG c τ q p') = false)) ∧ f = 3) else ∃ (ok : Bool) (px : Nat), RX n L e c BC p ok px m P ∧ ((ok = true ∧ p ≤ px ∧ px ≤ e ∧ Tr n L e c BC F px f p2 rs m P) ∨ (ok = false ∧ f = 1)))
theorem tkG_l {c : Nat → Nat} {τ q p : Nat} : tkG c τ q p ≤ 33 := by
  have := reS_l (p - q) (c q) (c (q + 1)) (c (q + 2)) (c (q + 3))
  unfold tkG
  split
  · omega
  · split <;> omega
theorem i1_n (i : Nat) : nI i + Int32.ofInt 1 = nI (i + 1) := nI_add i 1
theorem lt_y {α : Type} {y k : Nat} {x : Option α} (h : y < k) : nd_lt y k x = x := if_pos h
/-- without an expression the row of signs doesn't matter -/
theorem Tr_m {n L e : Nat} {c : Nat → Nat} {BC : St} : ∀ {F : List Nat} {p f p2 : Nat} {rs : List Nat} {m m' : Nat} {P P' : Nat → Tp}, eL F = 0 → Tr n L e c BC F p f p2 rs m P → Tr n L e c BC F p f p2 rs m' P' := fun {F} => by
  induction F with
  | nil => intro p f p2 rs m m' P P' _ h; exact h
  | cons a F ih =>
    intro p f p2 rs m m' P P' h0 h
    have na : ¬ (65 ≤ a ∧ a < 97) := fun z => by
      have : eL (a :: F) = a := if_pos z
      omega
    have h0 : eL F = 0 := by
      have : eL (a :: F) = eL F := if_neg na
      omega
    obtain ⟨q, p', κ, τ, v, x, hT, h⟩ := h
    refine ⟨q, p', κ, τ, v, x, hT, ?_⟩
    by_cases z : a < 65
    · rw [if_pos z] at h ⊢
      rcases h with h | h
      · exact Or.inl ⟨h.1, ih h0 h.2⟩
      · exact Or.inr h
    · rw [if_neg z, if_pos (by omega)] at h ⊢
      rcases h with ⟨h1, h2, rs', h3, h4⟩ | h
      · exact Or.inl ⟨h1, h2, rs', h3, ih h0 h4⟩
      · exact Or.inr h
/-- one letter of the class -/
theorem rin_0 (n g y : Nat) (hy : y < 128) (b c l : Int32) (i : Nat) (hi : i ≤ 8) (s1 s2 : St) (h : ¬ i < ks_n (ko_f y) ∨ ¬ sI s1 2 = 0) : df_X1_readInstruction_18 n (g + 1) y b c l (nI i) (s1, s2) = df_X1_readInstruction_110 n y b c l (s1, s2) := by
  have f := fo_l ⟨y, hy⟩
  have f1 : ks_n (ko_f y) ≤ 8 := f.1
  have f2 : ko_f y < 190 := f.2
  show dF_X1_readInstruction_18 n (df_X1_readInstruction_18 n g) y b c l (nI i) (s1, s2) = _
  unfold dF_X1_readInstruction_18
  rw [lt_y hy, lt_y f2, ln_1 n _ f2, nb_b2]
  by_cases z : i < ks_n (ko_f y)
  · rw [if_neg (znle z (by omega)), if_neg (show ¬ sI (s1, s2).1 2 = 0 from by rcases h with h | h; exact absurd z h; exact h)]
  · rw [if_pos (zle (by omega) (by omega))]
theorem rin_1 (n g y : Nat) (hy : y < 128) (b c l : Int32) (i k : Nat) (hi : i < ks_n (ko_f y)) (hk : kl (ko_f y) i = k) (hk2 : k < 127) (s1 s2 : St) (h : sI s1 2 = 0) : df_X1_readInstruction_18 n (g + 1) y b c l (nI i) (s1, s2) = if 65 ≤ k then (if k < 97 then nd_b2 (df_X9_sum n s2) (fun q t => if 0 ≤ q then df_X1_readInstruction_18 n g y b q (nI k) (nI (i + 1)) (s1, t) else nd_b1 (df_X1_blame n 1 (s1, t)) (fun u => df_X1_readInstruction_18 n g y b q (nI k) (nI (i + 1)) u)) else nd_b2 (df_X1_readRegister n (nI k) (s1, s2)) (fun q t => df_X1_readInstruction_18 n g y (b ||| q) c l (nI (i + 1)) t)) else nd_b1 (df_X1_expect n (nI k) (s1, s2)) (fun t => df_X1_readInstruction_18 n g y b c l (nI (i + 1)) t) := by
  have f := fo_l ⟨y, hy⟩
  have f1 : ks_n (ko_f y) ≤ 8 := f.1
  have f2 : ko_f y < 190 := f.2
  have kb := (kl_1 ⟨ko_f y, f2⟩ ⟨i, by omega⟩).1
  have kb : ks_b (ko_f y) i = nI k := hk ▸ kb
  show dF_X1_readInstruction_18 n (df_X1_readInstruction_18 n g) y b c l (nI i) (s1, s2) = _
  unfold dF_X1_readInstruction_18 df_X1_readInstruction_104
  rw [lt_y hy, lt_y f2, ln_1 n _ f2, nb_b2, if_neg (znle hi (by omega)), if_pos (show sI (s1, s2).1 2 = 0 from h), lt_y hy, lt_y f2, ch_1 n _ i f2 hi, kb, nb_b2]
  by_cases z : 65 ≤ k
  · rw [if_pos (show (65 : Int32) ≤ nI k from zle (a := 65) z (by omega)), if_pos z]
    by_cases w : k < 97
    · rw [if_pos (show nI k < (97 : Int32) from zlt (b := 97) w (by omega)), if_pos w]
      rw [i1_n]
      rfl
    · rw [if_neg (show ¬ nI k < (97 : Int32) from znl (b := 97) (by omega) (by omega)), if_neg w]
      rw [i1_n]
      rfl
  · rw [if_neg (show ¬ (65 : Int32) ≤ nI k from znle (a := 65) (by omega) (by omega)), if_neg z]
    rw [i1_n]
    rfl
theorem or_0 (v : Int32) : v ||| 0 = v := Int32.or_zero
theorem pI_2 {s : St} {v : Int32} : sI (pI s 2 v) 2 = v := rfl
/-- a form's letters, one after the other -/
theorem rin_C {n L e : Nat} {c : Nat → Nat} {BC BR0 : St} (hT0 : atx n L e c BC BR0) (y : Nat) (hy : y < 128) : ∀ (F : List Nat) (i g : Nat) (b k l : Int32) (s1 : St) (cs tp st ns : Nat) (fx : Bool) (C A S NM BK : Nat → Int32) (bs ws : Nat → Nat) (p q p' κ τ v : Nat) (x : Int32), fOK F = true → (FRM y).drop i = F → i + F.length = ks_n (ko_f y) → F.length < g → sI s1 2 = 0 → TS n L e c BC p q p' κ τ v x → HT L c ns NM BK bs ws → 0 < p → cs ≤ p + 1 → 2 * ns ≤ p + 1 → (¬ eL F = 0 → cs ≤ p ∧ 2 * ns ≤ p) → ∃ (f p2 : Nat) (rs : List Nat) (m : Nat) (P : Nat → Tp) (b' k' l' : Int32) (cs' tp' st' ns' : Nat) (fx' : Bool) (C' A' S' NM' BK' : Nat → Int32) (bs' ws' : Nat → Nat) (q2 p2' κ2 τ2 v2 : Nat) (x2 : Int32), Tr n L e c BC F p f p2 rs m P ∧ (f = 0 ∨ f = 1 ∨ f = 3) ∧ df_X1_readInstruction_18 n g y b k l (nI i) (s1, uC (xC BC cs tp st ns fx C A S NM BK) p' κ q x) = df_X1_readInstruction_110 n y b' k' l' (if f = 0 then s1 else pI s1 2 (nI f), uC (xC BC cs' tp' st' ns' fx' C' A' S' NM' BK') p2' κ2 q2 x2) ∧ (f = 0 → TS n L e c BC p2 q2 p2' κ2 τ2 v2 x2 ∧ p ≤ p2 ∧ b' = b ||| RGB F rs ∧ PS ns NM bs ws ns' NM' bs' ws' ∧ HT L c ns' NM' BK' bs' ws' ∧ cs' ≤ p2 + 1 ∧ 2 * ns' ≤ p2 + 1 ∧ (eL F = 0 → k' = k ∧ l' = l ∧ cs' = cs ∧ ns' = ns ∧ fx' = fx ∧ C' = C ∧ A' = A ∧ NM' = NM ∧ BK' = BK ∧ bs' = bs ∧ ws' = ws) ∧ (¬ eL F = 0 → k' = nI cs ∧ l' = nI (eL F) ∧ cs' = cs + m + 1 ∧ CR (sR BC 5) c e C A cs ns' bs' ws' m P C' A' ∧ C' (cs + m) = 21 ∧ 0 < m ∧ (fx' = true ↔ fxQ c e bs' ws' NM' ns' m P))) := fun F => by
  have hn : 70000 < n := hT0.1
  have f := fo_l ⟨y, hy⟩
  have f1 : ks_n (ko_f y) ≤ 8 := f.1
  induction F with
  | nil =>
    intro i g b k l s1 cs tp st ns fx C A S NM BK bs ws p q p' κ τ v x h1 h2 h3 h4 h5 hT hH hp0 hc hns _
    obtain ⟨g, rfl⟩ : ∃ m : Nat, g = m + 1 := ⟨g - 1, by have : (0 : Nat) < g := h4; omega⟩
    have h3 : i + 0 = ks_n (ko_f y) := h3
    refine ⟨0, p, [], 0, fun _ => (0, 0, 0), b, k, l, cs, tp, st, ns, fx, C, A, S, NM, BK, bs, ws, q, p', κ, τ, v, x, ⟨rfl, rfl, rfl⟩, Or.inl rfl, rin_0 n g y hy b k l i (by omega) s1 _ (Or.inl (by omega)), fun _ => ⟨hT, Nat.le_refl _, (or_0 b).symm, PS_r, hH, hc, hns, fun _ => ⟨rfl, rfl, rfl, rfl, rfl, rfl, rfl, rfl, rfl, rfl, rfl⟩, fun z => absurd rfl z⟩⟩
  | cons a F ih =>
    intro i g b k l s1 cs tp st ns fx C A S NM BK bs ws p q p' κ τ v x h1 h2 h3 h4 h5 hT hH hp0 hc hns hcap
    obtain ⟨g, rfl⟩ : ∃ m : Nat, g = m + 1 := ⟨g - 1, by have : F.length + 1 < g := h4; omega⟩
    have h4 : F.length + 1 < g + 1 := h4
    have h3 : i + (F.length + 1) = ks_n (ko_f y) := h3
    have hi : i < ks_n (ko_f y) := by omega
    have fr := (frm_1 ⟨y, hy⟩ ⟨i, by omega⟩).1 hi
    have fr : a :: F = kl (ko_f y) i :: (FRM y).drop (i + 1) := h2.symm.trans fr
    obtain ⟨fa, fF⟩ := List.cons.inj fr
    have h1 : ((decide (a = 40 ∨ a = 41 ∨ a = 44) || (rlO a || (decide (65 ≤ a ∧ a < 97) && decide (eL F = 0)))) && fOK F) = true := h1
    rw [Bool.and_eq_true] at h1
    obtain ⟨h1a, h1b⟩ := h1
    have k127 : a < 127 := by
      have := (kl_1 ⟨ko_f y, f.2⟩ ⟨i, by omega⟩).2
      have : kl (ko_f y) i < 127 := this
      omega
    have st1 := rin_1 n g y hy b k l i a hi fa.symm k127 s1 (uC (xC BC cs tp st ns fx C A S NM BK) p' κ q x) h5
    have pe : p ≤ p' := by have := hT.2.2.1; have := hT.2.2.2.1; omega
    rw [Bool.or_eq_true, Bool.or_eq_true, Bool.and_eq_true] at h1a
    rcases h1a with w | w | w
    · -- a sign
      have w := of_decide_eq_true w
      rw [if_neg (by omega)] at st1
      have eF : eL (a :: F) = eL F := if_neg (by omega)
      have rF : ∀ rs : List Nat, RGB (a :: F) rs = RGB F rs := fun rs => if_neg (by omega)
      obtain ⟨x1, x2⟩ := xpt_C hT0 (cs := cs) (tp := tp) (st := st) (ns := ns) (fx := fx) (C := C) (A := A) (S := S) (NM := NM) (BK := BK) s1 h5 a (by omega) p q p' κ τ v x hT
      by_cases z : τ = a
      · obtain ⟨q2, p2, κ2, τ2, v2, xx, e1, e2⟩ := x1 z
        rw [e1, nb_b1] at st1
        obtain ⟨f, p3, rs, m, P, b', k', l', cs', tp', st', ns', fx', C', A', S', NM', BK', bs', ws', q3, p3', κ3, τ3, v3, x3, r1, r2, r3, r4⟩ := ih (i + 1) g b k l s1 cs tp st ns fx C A S NM BK bs ws p' q2 p2 κ2 τ2 v2 xx h1b fF.symm (by omega) (by omega) h5 e2 hH (by omega) (by omega) (by omega) (fun u => by have := hcap (by rw [eF]; exact u); omega)
        refine ⟨f, p3, rs, m, P, b', k', l', cs', tp', st', ns', fx', C', A', S', NM', BK', bs', ws', q3, p3', κ3, τ3, v3, x3, ⟨q, p', κ, τ, v, x, hT, ?_⟩, r2, st1.trans r3, fun u => ?_⟩
        · rw [if_pos (by omega)]
          exact Or.inl ⟨z, r1⟩
        · obtain ⟨a1, a2, a3, a4⟩ := r4 u
          rw [eF, rF]
          exact ⟨a1, by omega, a3, a4⟩
      · rw [x2 z, nb_b1] at st1
        obtain ⟨g, rfl⟩ : ∃ m : Nat, g = m + 1 := ⟨g - 1, by omega⟩
        refine ⟨1, p, [], 0, fun _ => (0, 0, 0), b, k, l, cs, tp, st, ns, fx, C, A, S, NM, BK, bs, ws, q, p', κ, τ, v, x, ⟨q, p', κ, τ, v, x, hT, ?_⟩, Or.inr (Or.inl rfl), st1.trans (rin_0 n g y hy b k l (i + 1) (by omega) _ _ (Or.inr (by rw [pI_2]; decide))), fun u => absurd u (by decide)⟩
        rw [if_pos (by omega)]
        exact Or.inr ⟨z, rfl⟩
    · -- a register
      have l97 : 97 ≤ a := by have := rl_c w; omega
      rw [if_pos (by omega), if_neg (by omega)] at st1
      have eF : eL (a :: F) = eL F := if_neg (by omega)
      obtain ⟨x1, x2, x3⟩ := rrg_C hT0 (cs := cs) (tp := tp) (st := st) (ns := ns) (fx := fx) (C := C) (A := A) (S := S) (NM := NM) (BK := BK) s1 h5 (nI a) (rfit a) (rgb a) (fun r hr => rf_C n w hr) (fun r hr => rgb_C n w r) p q p' κ τ v x hT
      by_cases z : tkG c τ q p' < 32 ∧ rfit a (tkG c τ q p') = true
      · obtain ⟨q2, p2, κ2, τ2, v2, xx, e1, e2⟩ := x3 z
        rw [e1, nb_b2] at st1
        obtain ⟨f, p3, rs, m, P, b', k', l', cs', tp', st', ns', fx', C', A', S', NM', BK', bs', ws', q3, p3', κ3, τ3, v3, y3, r1, r2, r3, r4⟩ := ih (i + 1) g (b ||| rgb a (tkG c τ q p')) k l s1 cs tp st ns fx C A S NM BK bs ws p' q2 p2 κ2 τ2 v2 xx h1b fF.symm (by omega) (by omega) h5 e2 hH (by omega) (by omega) (by omega) (fun u => by have := hcap (by rw [eF]; exact u); omega)
        refine ⟨f, p3, tkG c τ q p' :: rs, m, P, b', k', l', cs', tp', st', ns', fx', C', A', S', NM', BK', bs', ws', q3, p3', κ3, τ3, v3, y3, ⟨q, p', κ, τ, v, x, hT, ?_⟩, r2, st1.trans r3, fun u => ?_⟩
        · rw [if_neg (by omega), if_pos l97]
          exact Or.inl ⟨z.1, z.2, rs, rfl, r1⟩
        · obtain ⟨a1, a2, a3, a4⟩ := r4 u
          rw [eF]
          refine ⟨a1, by omega, ?_, a4⟩
          rw [a3, show RGB (a :: F) (tkG c τ q p' :: rs) = rgb a (tkG c τ q p') ||| RGB F rs from if_pos l97, Int32.or_assoc]
      · have flt : ∀ f : Nat, (f = 1 ∨ f = 3) → df_X1_readRegister n (nI a) (s1, uC (xC BC cs tp st ns fx C A S NM BK) p' κ q x) = some (0, (pI s1 2 (nI f), uC (xC BC cs tp st ns fx C A S NM BK) p' κ q x)) → df_X1_readInstruction_18 n (g + 1) y b k l (nI i) (s1, uC (xC BC cs tp st ns fx C A S NM BK) p' κ q x) = df_X1_readInstruction_110 n y b k l (pI s1 2 (nI f), uC (xC BC cs tp st ns fx C A S NM BK) p' κ q x) := fun f hf e1 => by
          rw [e1, nb_b2, or_0] at st1
          obtain ⟨g, rfl⟩ : ∃ m : Nat, g = m + 1 := ⟨g - 1, by omega⟩
          exact st1.trans (rin_0 n g y hy b k l (i + 1) (by omega) _ _ (Or.inr (by
            rw [pI_2]
            rcases hf with hf | hf <;> subst hf <;> decide)))
        by_cases z3 : tkG c τ q p' = 33
        · refine ⟨1, p, [], 0, fun _ => (0, 0, 0), b, k, l, cs, tp, st, ns, fx, C, A, S, NM, BK, bs, ws, q, p', κ, τ, v, x, ⟨q, p', κ, τ, v, x, hT, ?_⟩, Or.inr (Or.inl rfl), flt 1 (Or.inl rfl) (x1 z3), fun u => absurd u (by decide)⟩
          rw [if_neg (by omega), if_pos l97]
          exact Or.inr (Or.inl ⟨z3, rfl⟩)
        · have z4 : tkG c τ q p' = 32 ∨ (tkG c τ q p' < 32 ∧ rfit a (tkG c τ q p') = false) := by
            have := tkG_l (c := c) (τ := τ) (q := q) (p := p')
            by_cases u : tkG c τ q p' < 32
            · right
              refine ⟨u, ?_⟩
              cases hh : rfit a (tkG c τ q p') with
              | false => rfl
              | true => exact absurd ⟨u, hh⟩ z
            · left; omega
          refine ⟨3, p, [], 0, fun _ => (0, 0, 0), b, k, l, cs, tp, st, ns, fx, C, A, S, NM, BK, bs, ws, q, p', κ, τ, v, x, ⟨q, p', κ, τ, v, x, hT, ?_⟩, Or.inr (Or.inr rfl), flt 3 (Or.inr rfl) (x2 z4), fun u => absurd u (by decide)⟩
          rw [if_neg (by omega), if_pos l97]
          exact Or.inr (Or.inr ⟨z4, rfl⟩)
    · -- an expression
      have w1 := of_decide_eq_true w.1
      have w2 : eL F = 0 := of_decide_eq_true w.2
      rw [if_pos w1.1, if_pos w1.2] at st1
      have eF : eL (a :: F) = a := if_pos w1
      have rF : ∀ rs : List Nat, RGB (a :: F) rs = RGB F rs := fun rs => if_neg (by omega)
      have hcc := hcap (by rw [eF]; omega)
      have he : e - p < 32768 := by have := hT0.2.1; have := hT0.2.2.1; omega
      obtain ⟨ok, p2, q2, p2', κ2, τ2, v2, x2, m2, P2, ns2, fx2, C2, A2, S2, NM2, BK2, bs2, ws2, tp2, e1, e2, e3, e4, e5⟩ := exs_1 hT0 p q p' κ τ v x cs tp st ns fx C A S NM BK bs ws hT hH hcc.1 hcc.2 he
      rw [e1, nb_b2] at st1
      cases ok with
      | true =>
        obtain ⟨d1, d2, d3, d4, d5, d6, d7, d8⟩ := e4 rfl
        rw [if_pos rfl, if_pos (show (0 : Int32) ≤ nI cs from zle (a := 0) (Nat.zero_le _) (by have := hT.1; have := hT0.2.1; have := hT0.2.2.1; omega))] at st1
        obtain ⟨f, p3, rs, m, P, b', k', l', cs', tp', st', ns', fx', C', A', S', NM', BK', bs', ws', q3, p3', κ3, τ3, v3, x3, r1, r2, r3, r4⟩ := ih (i + 1) g b (nI cs) (nI a) s1 (cs + m2 + 1) tp2 (if true = true then 5 else 6) ns2 fx2 C2 A2 S2 NM2 BK2 bs2 ws2 p2 q2 p2' κ2 τ2 v2 x2 h1b fF.symm (by omega) (by omega) h5 d1 e3 (by omega) (by omega) (by omega) (fun u => absurd w2 u)
        have tr0 : Tr n L e c BC F p2 f p3 rs m2 P2 := Tr_m w2 r1
        refine ⟨f, p3, rs, m2, P2, b', k', l', cs', tp', st', ns', fx', C', A', S', NM', BK', bs', ws', q3, p3', κ3, τ3, v3, x3, ⟨q, p', κ, τ, v, x, hT, ?_⟩, r2, st1.trans r3, fun u => ?_⟩
        · rw [if_neg (by omega), if_neg (by omega)]
          exact ⟨true, p2, e5, Or.inl ⟨rfl, d2, d1.1, tr0⟩⟩
        · obtain ⟨a1, a2, a3, a4, a5, a6, a7, a8, a9⟩ := r4 u
          obtain ⟨b1, b2, b3, b4, b5, b6, b7, b8, b9, b10, b11⟩ := a8 w2
          subst b3 b4 b5 b6 b7 b8 b9 b10 b11
          rw [eF, rF]
          refine ⟨a1, by omega, a3, PS_t e2 a4, a5, a6, a7, fun z => absurd z (by omega), fun _ => ⟨b1, b2, rfl, d3, d4, d8, d5⟩⟩
      | false =>
        rw [if_neg (show ¬ false = true from Bool.false_ne_true), if_neg (show ¬ (0 : Int32) ≤ -1 by decide), bl_X1 1 h5, nb_b1] at st1
        obtain ⟨g, rfl⟩ : ∃ m : Nat, g = m + 1 := ⟨g - 1, by omega⟩
        refine ⟨1, p, [], m2, P2, b, -1, nI a, cs + m2 + 1, tp2, 6, ns2, fx2, C2, A2, S2, NM2, BK2, bs2, ws2, q2, p2', κ2, τ2, v2, x2, ⟨q, p', κ, τ, v, x, hT, ?_⟩, Or.inr (Or.inl rfl), st1.trans (rin_0 n g y hy b _ _ (i + 1) (by omega) _ _ (Or.inr (by rw [pI_2]; decide))), fun u => absurd u (by decide)⟩
        rw [if_neg (by omega), if_neg (by omega)]
        exact ⟨false, p2, e5, Or.inr ⟨rfl, rfl⟩⟩
