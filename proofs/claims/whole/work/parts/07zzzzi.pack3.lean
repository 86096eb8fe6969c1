/-- an event like the one before in all -/
def alB (K t : Nat → Nat) (A : Nat → Int64) (B : Nat → Int32) (i : Nat) : Bool := decide (0 < i ∧ K i = K (i - 1) ∧ A i = A (i - 1) ∧ B i = B (i - 1) ∧ dT t i = dT t (i - 1))
theorem on_inj {a b : Nat} (ha : a < 2 ^ 63) (hb : b < 2 ^ 63) : Int64.ofNat a = Int64.ofNat b ↔ a = b := ⟨fun z => by
  have z := congrArg Int64.toInt z
  rw [lT ha, lT hb] at z
  omega, fun z => by rw [z]⟩
theorem pk_alike (n : Nat) {N : Nat} {K t : Nat → Nat} {A : Nat → Int64} {B : Nat → Int32} {V C : St} (h : pkR N K t A B V C) {i : Nat} (hi : i < N) : df_X14_isAlike n (nI i) C = some (if alB K t A B i = true then nI 1 else nI 0, C) := by
  have N8 := h.1
  unfold df_X14_isAlike df_X14_isAlike_0 df_X14_isAlike_37 df_X14_isAlike_38 alB
  by_cases c : i = 0
  · subst c
    rw [if_pos (show nI 0 ≤ (0 : Int32) by decide), if_neg (show ¬ (decide (0 < 0 ∧ _) = true) from fun z => absurd (of_decide_eq_true z).1 (by omega))]
    exact nm_z0
  · have d1 := dT_le h hi
    have d2 := dT_le h (show i - 1 < N by omega)
    obtain ⟨r, r1, s1, s2, s3⟩ := pk_same n h hi (show i - 1 < N by omega)
    obtain ⟨h1, h2, h3, h4, h5⟩ := h
    obtain ⟨_, _, _, _, _, _, ia, _⟩ := h5 i hi
    obtain ⟨_, _, _, _, _, _, ja, _⟩ := h5 (i - 1) (by omega)
    rw [if_neg (show ¬ nI i ≤ (0 : Int32) from fun z => by have z : nI i ≤ nI 0 := z; rw [nI_leI (by omega) (by omega)] at z; omega), nm_ck (by omega) (by omega), show nI i - 1 = nI (i - 1) from pk_sub (show 1 ≤ i by omega), nm_ck (by omega) (by omega), nI_clamp (by omega), nI_clamp (by omega), ia, ja]
    by_cases e : dT t i = dT t (i - 1)
    · rw [if_pos ((lcE _ _).mpr (by rw [e])), s2, nb_b2]
      rcases r1 with z | z
      · rw [if_pos (show r = 0 from z), if_neg (fun y => by
          have y := of_decide_eq_true y
          have := s3.mpr ⟨y.2.1, y.2.2.1, y.2.2.2.1⟩
          rw [z] at this
          exact absurd this (by decide))]
        exact nm_z0
      · have s3 := s3.mp z
        rw [if_neg (show ¬ r = 0 by rw [z]; decide), if_pos (decide_eq_true ⟨by omega, s3.1, s3.2.1, s3.2.2, e⟩)]
        exact nm_z1
    · rw [if_neg (fun z => e ((on_inj (by omega) (by omega)).mp ((lcE _ _).mp z))), if_neg (fun y => e (of_decide_eq_true y).2.2.2.2)]
      exact nm_z0
theorem al_ch {K t : Nat → Nat} {A : Nat → Int64} {B : Nat → Int32} {i : Nat} : ∀ m : Nat, (∀ j : Nat, i ≤ j → j < i + m → alB K t A B j = true) → K (i + m - 1) = K (i - 1) ∧ A (i + m - 1) = A (i - 1) ∧ B (i + m - 1) = B (i - 1) ∧ dT t (i + m - 1) = dT t (i - 1)
  | 0, _ => ⟨rfl, rfl, rfl, rfl⟩
  | m + 1, h => by
    obtain ⟨a, b, c, d⟩ := al_ch m (fun j h1 h2 => h j h1 (by omega))
    have g := of_decide_eq_true (h (i + m) (by omega) (by omega))
    rw [show i + (m + 1) - 1 = i + m by omega]
    exact ⟨g.2.1.trans a, g.2.2.1.trans b, g.2.2.2.1.trans c, g.2.2.2.2.trans d⟩
/-- how many are like the one before, as the class counts them -/
theorem pk_like (n : Nat) {N : Nat} {K t : Nat → Nat} {A : Nat → Int64} {B : Nat → Int32} {V C : St} (h : pkR N K t A B V C) {i r : Nat} (hi : 1 ≤ i) (hr : i + r ≤ N) (a : ∀ j : Nat, i ≤ j → j < i + r → alB K t A B j = true) (b : i + r = N ∨ alB K t A B (i + r) = false) : ∀ (m g k : Nat), k + m = r → m < g → df_X3_likeBefore_2 n g (nI i) (nI k) V = some (nI r, V) := fun m => by
  have N8 := h.1
  induction m with
  | zero =>
    intro g k hk hg
    obtain ⟨g1, rfl⟩ : ∃ g1 : Nat, g = g1 + 1 := ⟨g - 1, by omega⟩
    have hk : k = r := by omega
    subst hk
    show dF_X3_likeBefore_2 n (df_X3_likeBefore_2 n g1) (nI i) (nI k) V = _
    generalize df_X3_likeBefore_2 n g1 = G
    unfold dF_X3_likeBefore_2 df_X3_likeBefore_53
    rw [if_neg (show ¬ nI i ≤ (0 : Int32) from fun z => by have z : nI i ≤ nI 0 := z; rw [nI_leI (by omega) (by omega)] at z; omega), show nI i + nI k = nI (i + k) from nI_add .., h.2.1]
    by_cases e : i + k = N
    · rw [if_pos (show nI N ≤ nI (i + k) by rw [nI_leI (by omega) (by omega)]; omega)]
    · have b := b.resolve_left e
      obtain ⟨q, r1, s1, s2, s3⟩ := pk_same n h (show i + k < N by omega) (show i - 1 < N by omega)
      rw [if_neg (show ¬ nI N ≤ nI (i + k) from fun z => by rw [nI_leI (by omega) (by omega)] at z; omega), show nI i - 1 = nI (i - 1) from pk_sub (show 1 ≤ i by omega), s1, nb_b2]
      rcases r1 with z | z
      · rw [if_pos (show q = 0 from z)]
      · have d1 := dT_le h (show i + k < N by omega)
        have d2 := dT_le h (show i - 1 < N by omega)
        rw [if_neg (show ¬ q = 0 by rw [z]; decide), pk_diff n h (show i + k < N by omega), nb_b2, pk_diff n h (show i - 1 < N by omega), nb_b2, if_neg (fun y => by
          have y := (on_inj (by omega) (by omega)).mp ((lcE _ _).mp y)
          obtain ⟨c1, c2, c3, c4⟩ := al_ch k a
          obtain ⟨e1, e2, e3⟩ := s3.mp z
          have : alB K t A B (i + k) = true := decide_eq_true ⟨by omega, e1.trans c1.symm, e2.trans c2.symm, e3.trans c3.symm, y.trans c4.symm⟩
          rw [b] at this
          exact nomatch this)]
  | succ m ih =>
    intro g k hk hg
    obtain ⟨g1, rfl⟩ : ∃ g1 : Nat, g = g1 + 1 := ⟨g - 1, by omega⟩
    have ih := ih g1 (k + 1) (by omega) (by omega)
    show dF_X3_likeBefore_2 n (df_X3_likeBefore_2 n g1) (nI i) (nI k) V = _
    generalize df_X3_likeBefore_2 n g1 = G at ih
    obtain ⟨q, r1, s1, s2, s3⟩ := pk_same n h (show i + k < N by omega) (show i - 1 < N by omega)
    obtain ⟨c1, c2, c3, c4⟩ := al_ch k (fun j h1 h2 => a j h1 (by omega))
    have g := of_decide_eq_true (a (i + k) (by omega) (by omega))
    have z := s3.mpr ⟨g.2.1.trans c1, g.2.2.1.trans c2, g.2.2.2.1.trans c3⟩
    unfold dF_X3_likeBefore_2
    rw [if_neg (show ¬ nI i ≤ (0 : Int32) from fun z => by have z : nI i ≤ nI 0 := z; rw [nI_leI (by omega) (by omega)] at z; omega), show nI i + nI k = nI (i + k) from nI_add .., h.2.1, if_neg (show ¬ nI N ≤ nI (i + k) from fun z => by rw [nI_leI (by omega) (by omega)] at z; omega), show nI i - 1 = nI (i - 1) from pk_sub (show 1 ≤ i by omega), s1, nb_b2, if_neg (show ¬ q = 0 by rw [z]; decide), pk_diff n h (show i + k < N by omega), nb_b2, pk_diff n h (show i - 1 < N by omega), nb_b2, if_pos ((lcE _ _).mpr (by rw [g.2.2.2.2.trans c4])), nb_let, show nI k + Int32.ofInt 1 = nI (k + 1) from nI_add ..]
    exact ih
/-- the reference's loop, one turn -/
theorem pk_turn (n : Nat) {N : Nat} {K t : Nat → Nat} {A : Nat → Int64} {B : Nat → Int32} {V C : St} (h : pkR N K t A B V C) {e c g : Nat} (he : e < N) (hc : c ≤ 2048) : (alB K t A B e = false → df_X14_pack_18 n (g + 1) (nI c) (nI e) C = nd_b1 (df_X14_entry n (nI e) C) (fun s => df_X14_pack_18 n g (nI 0) (nI (e + 1)) s)) ∧ (alB K t A B e = true → (e + 1 = N ∨ alB K t A B (e + 1) = false) → df_X14_pack_18 n (g + 1) (nI c) (nI e) C = nd_b1 (df_X14_run n (nI (c + 1)) C) (fun s => df_X14_pack_18 n g (nI (c + 1)) (nI (e + 1)) s)) ∧ (alB K t A B e = true → ¬ e + 1 = N → alB K t A B (e + 1) = true → df_X14_pack_18 n (g + 1) (nI c) (nI e) C = df_X14_pack_18 n g (nI (c + 1)) (nI (e + 1)) C) := by
  have N8 := h.1
  have a1 := pk_alike n h he
  have n1 : ¬ nI 1 = (0 : Int32) := by decide
  have n1' : ¬ (1 : Int32) = 0 := by decide
  have n0 : nI 0 = (0 : Int32) := rfl
  have s1 : nI e + 1 = nI (e + 1) := nI_add ..
  have s2 : nI c + 1 = nI (c + 1) := nI_add ..
  have s3 : nI e + Int32.ofInt 1 = nI (e + 1) := nI_add ..
  have c0 : ¬ nI (c + 1) ≤ (0 : Int32) := fun z => by have z : nI (c + 1) ≤ nI 0 := z; rw [nI_leI (by omega) (by omega)] at z; omega
  have z0 : (0 : Int32) ≤ 0 := by decide
  have eN : ¬ e + 1 = N → ¬ nI (e + 1) = nI N := fun y z => by rw [nI_eq (by omega) (by omega)] at z; exact y z
  show (_ → dF_X14_pack_18 n (df_X14_pack_18 n g) (nI c) (nI e) C = _) ∧ (_ → _ → dF_X14_pack_18 n (df_X14_pack_18 n g) (nI c) (nI e) C = _) ∧ (_ → _ → _ → dF_X14_pack_18 n (df_X14_pack_18 n g) (nI c) (nI e) C = _)
  generalize df_X14_pack_18 n g = G
  have beg : dF_X14_pack_18 n G (nI c) (nI e) C = if alB K t A B e = true then df_X14_pack_41 n G (nI e) (nI (c + 1)) C else df_X14_pack_41 n G (nI e) 0 C := by
    unfold dF_X14_pack_18
    rw [h.2.2.1, if_neg (show ¬ nI N ≤ nI e from fun z => by rw [nI_leI (by omega) (by omega)] at z; omega), a1, nb_b2, s2]
    by_cases y : alB K t A B e = true
    · rw [if_pos y, if_pos y, if_neg n1]
    · rw [if_neg y, if_neg y, if_pos n0]
  have fo : ∀ y0 : Int32, (e + 1 = N ∨ alB K t A B (e + 1) = false) → df_X14_pack_41 n G (nI e) y0 C = df_X14_pack_67 n G y0 (nI e) 1 C := fun y0 y => by
    unfold df_X14_pack_41 df_X14_pack_62
    rw [s1, h.2.2.1]
    by_cases q : e + 1 = N
    · rw [if_pos (by rw [q])]
    · rw [if_neg (eN q), pk_alike n h (show e + 1 < N by omega), y.resolve_left q, nb_b2]
      rfl
  have ba : ∀ y0 : Int32, ¬ e + 1 = N → alB K t A B (e + 1) = true → df_X14_pack_41 n G (nI e) y0 C = df_X14_pack_67 n G y0 (nI e) 0 C := fun y0 q y => by
    unfold df_X14_pack_41
    rw [s1, h.2.2.1, if_neg (eN q), pk_alike n h (show e + 1 < N by omega), y, nb_b2]
    rfl
  have en0 : ∀ q : Int32, df_X14_pack_67 n G 0 (nI e) q C = nd_b1 (df_X14_entry n (nI e) C) (fun s => G (nI 0) (nI (e + 1)) s) := fun q => by
    unfold df_X14_pack_67 df_X14_pack_79 df_X14_pack_96
    rw [if_pos z0, if_pos z0]
    show nd_b1 (df_X14_entry n (nI e) C) (fun s14 => G 0 (nI e + Int32.ofInt 1) s14) = _
    rw [s3]
    rfl
  refine ⟨fun y => ?_, fun y q => ?_, fun y q z => ?_⟩
  · rw [beg, if_neg (by rw [y]; decide)]
    by_cases q : e + 1 = N ∨ alB K t A B (e + 1) = false
    · rw [fo _ q, en0]
    · have q1 : ¬ e + 1 = N := fun z => q (Or.inl z)
      have q2 : alB K t A B (e + 1) = true := by
        cases w : alB K t A B (e + 1) with
        | true => rfl
        | false => exact absurd (Or.inr w) q
      rw [ba _ q1 q2, en0]
  · rw [beg, if_pos y, fo _ q]
    unfold df_X14_pack_67 df_X14_pack_79 df_X14_pack_96
    rw [if_neg c0, if_neg n1', if_neg c0]
    show nd_b1 (df_X14_run n (nI (c + 1)) C) (fun s18 => G (nI (c + 1)) (nI e + Int32.ofInt 1) s18) = _
    rw [s3]
  · rw [beg, if_pos y, ba _ q z]
    unfold df_X14_pack_67 df_X14_pack_96
    rw [if_neg c0, if_pos rfl, nb_let, s3]
/-- a run, as the reference finds it -/
theorem pk_rrun (n : Nat) {N : Nat} {K t : Nat → Nat} {A : Nat → Int64} {B : Nat → Int32} {V C : St} (h : pkR N K t A B V C) {i r : Nat} (hr : i + r ≤ N) (a : ∀ j : Nat, i ≤ j → j < i + r → alB K t A B j = true) (b : i + r = N ∨ alB K t A B (i + r) = false) : ∀ (m g k : Nat), k + (m + 1) = r → df_X14_pack_18 n (g + (m + 1)) (nI k) (nI (i + k)) C = nd_b1 (df_X14_run n (nI r) C) (fun s => df_X14_pack_18 n g (nI r) (nI (i + r)) s) := fun m => by
  have N8 := h.1
  induction m with
  | zero =>
    intro g k hk
    have hk : k + 1 = r := by omega
    subst hk
    have := (pk_turn n h (e := i + k) (c := k) (g := g) (by omega) (by omega)).2.1 (a (i + k) (by omega) (by omega)) (by rw [show i + k + 1 = i + (k + 1) by omega]; exact b)
    rw [show i + k + 1 = i + (k + 1) by omega] at this
    exact this
  | succ m ih =>
    intro g k hk
    have := (pk_turn n h (e := i + k) (c := k) (g := g + (m + 1)) (by omega) (by omega)).2.2 (a (i + k) (by omega) (by omega)) (by omega) (a (i + k + 1) (by omega) (by omega))
    rw [show g + (m + 1 + 1) = g + (m + 1) + 1 by omega, this, show i + k + 1 = i + (k + 1) by omega]
    exact ih g (k + 1) (by omega)
/-- a run, in both -/
theorem pk_run (n T : Nat) (hn : 4096 < n) {V0 C0 C : St} {s : St × St} {p r : Nat} (h : pkJ T p V0 C0 s C) (h1 : 1 ≤ r) (h2 : r ≤ 2048) (hp : p + 12 ≤ 32768) (G : Int32 → St × St → Option (Int32 × (St × St))) (x2 : Int32) : ∃ (p' : Nat) (s' : St × St) (C' : St), p' ≤ p + 12 ∧ (if (15 : Int32) < nI r then (df_X3_writeLog_65 n T G x2 (nI r) 5 0 s) else (df_X3_writeLog_65 n T G x2 (nI r) 5 (nI r <<< ((4 : Int32) &&& 31)) s)) = G (x2 + nI r) s' ∧ df_X14_run n (nI r) C = some C' ∧ pkJ T p' V0 C0 s' C' := by
  unfold df_X14_run df_X14_run_0 df_X14_run_13 df_X14_run_31 df_X3_writeLog_65 df_X3_writeLog_81 df_X3_writeLog_85
  by_cases c : r ≤ 15
  · obtain ⟨s1, C1, e1, e2, e3⟩ := pk_byte n T h (by omega) (5 ||| (nI r <<< ((4 : Int32) &&& 31)))
    have l15 : nI r ≤ (15 : Int32) := (show nI r ≤ nI 15 by rw [nI_leI (by omega) (by omega)]; exact c)
    refine ⟨p + 1, s1, C1, by omega, ?_, ?_, e3⟩
    · rw [if_neg (show ¬ (15 : Int32) < nI r from fun z => by have z : nI 15 < nI r := z; rw [nI_ltI (by omega) (by omega)] at z; omega), e1, nb_b1, if_pos l15, nb_let]
    · rw [if_neg (show ¬ (16 : Int32) ≤ nI r from fun z => by have z : nI 16 ≤ nI r := z; rw [nI_leI (by omega) (by omega)] at z; omega), e2, nb_b1, if_pos l15]
  · obtain ⟨s1, C1, e1, e2, e3⟩ := pk_byte n T h (by omega) (5 ||| 0)
    obtain ⟨p2, s2, C2, f0, f1, f2, f3⟩ := pk_varN n T (by omega) (m := 2) (x := r) (by omega) (by omega) (by omega) (by omega) e3
    have l15 : ¬ nI r ≤ (15 : Int32) := fun z => by have z : nI r ≤ nI 15 := z; rw [nI_leI (by omega) (by omega)] at z; omega
    refine ⟨p2, s2, C2, by omega, ?_, ?_, f3⟩
    · rw [if_pos (show (15 : Int32) < nI r from (show nI 15 < nI r by rw [nI_ltI (by omega) (by omega)]; omega)), e1, nb_b1, if_neg l15, nI_64 (by omega), f1, nb_b1, nb_let]
    · rw [if_pos (show (16 : Int32) ≤ nI r from (show nI 16 ≤ nI r by rw [nI_leI (by omega) (by omega)]; omega)), show (5 : Int32) ||| ((0 : Int32) <<< ((4 : Int32) &&& 31)) = 5 ||| 0 by decide, e2, nb_b1, if_neg l15, nI_64 (by omega), f2, nb_b1]
/-- all events, in both -/
theorem pk_loopA (n T : Nat) (hn : 4096 < n) {N : Nat} {K t : Nat → Nat} {A : Nat → Int64} {B : Nat → Int32} {V0 C0 : St} (hR : pkR N K t A B V0 C0) : ∀ (m i c g g' p : Nat) (s : St × St) (C : St), N - i ≤ m → i ≤ N → m < g → N - i < g' → (i < N → alB K t A B i = true → c = 0) → c ≤ 2048 → p ≤ 2 + 12 * i → pkJ T p V0 C0 s C → ∃ (p' : Nat) (s' : St × St) (C' : St), p' ≤ 2 + 12 * N ∧ df_X3_writeLog_21 n T g (nI i) s = some (nI p', s') ∧ df_X14_pack_18 n g' (nI c) (nI i) C = some (nI p', C') ∧ pkJ T p' V0 C0 s' C' := fun m => by
  have N8 := hR.1
  induction m with
  | zero =>
    intro i c g g' p s C hm hi hg hg' hc hc2 hp h
    obtain ⟨g1, rfl⟩ : ∃ g1 : Nat, g = g1 + 1 := ⟨g - 1, by omega⟩
    obtain ⟨g2, rfl⟩ : ∃ g2 : Nat, g' = g2 + 1 := ⟨g' - 1, by omega⟩
    have hi : i = N := by omega
    subst hi
    have R1 := pkR_J hR h
    refine ⟨p, s, C, hp, ?_, ?_, h⟩
    · show dF_X3_writeLog_21 n T (df_X3_writeLog_21 n T g1) (nI i) s = _
      unfold dF_X3_writeLog_21
      rw [R1.2.1, if_pos (show nI i ≤ nI i by rw [nI_leI (by omega) (by omega)]; exact Nat.le_refl i), h.2.2.1]
    · show dF_X14_pack_18 n (df_X14_pack_18 n g2) (nI c) (nI i) C = _
      unfold dF_X14_pack_18
      rw [R1.2.2.1, if_pos (show nI i ≤ nI i by rw [nI_leI (by omega) (by omega)]; exact Nat.le_refl i), h.2.2.2.1]
  | succ m ih =>
    intro i c g g' p s C hm hi hg hg' hc hc2 hp h
    obtain ⟨g1, rfl⟩ : ∃ g1 : Nat, g = g1 + 1 := ⟨g - 1, by omega⟩
    have R1 := pkR_J hR h
    by_cases eN : i = N
    · obtain ⟨g2, rfl⟩ : ∃ g2 : Nat, g' = g2 + 1 := ⟨g' - 1, by omega⟩
      subst eN
      refine ⟨p, s, C, hp, ?_, ?_, h⟩
      · show dF_X3_writeLog_21 n T (df_X3_writeLog_21 n T g1) (nI i) s = _
        unfold dF_X3_writeLog_21
        rw [R1.2.1, if_pos (show nI i ≤ nI i by rw [nI_leI (by omega) (by omega)]; exact Nat.le_refl i), h.2.2.1]
      · show dF_X14_pack_18 n (df_X14_pack_18 n g2) (nI c) (nI i) C = _
        unfold dF_X14_pack_18
        rw [R1.2.2.1, if_pos (show nI i ≤ nI i by rw [nI_leI (by omega) (by omega)]; exact Nat.le_refl i), h.2.2.2.1]
    · have iN : i < N := by omega
      have nN : ¬ nI N ≤ nI i := fun z => by rw [nI_leI (by omega) (by omega)] at z; omega
      have like : ∀ r : Nat, i + r ≤ N → (∀ j : Nat, i ≤ j → j < i + r → alB K t A B j = true) → (i + r = N ∨ alB K t A B (i + r) = false) → df_X3_likeBefore n (nI i) s.2 = some (nI r, s.2) := fun r q1 q2 q3 => by
        by_cases i0 : i = 0
        · subst i0
          have r0 : r = 0 := by
            by_cases y : r = 0
            · exact y
            · have := of_decide_eq_true (q2 0 (by omega) (by omega))
              exact absurd this.1 (by omega)
          subst r0
          obtain ⟨n', rfl⟩ : ∃ n' : Nat, n = n' + 1 := ⟨n - 1, by omega⟩
          show dF_X3_likeBefore_2 (n' + 1) (df_X3_likeBefore_2 (n' + 1) n') (nI 0) 0 s.2 = _
          unfold dF_X3_likeBefore_2 df_X3_likeBefore_53
          rw [if_pos (show nI 0 ≤ (0 : Int32) by decide)]
          rfl
        · exact pk_like n R1 (by omega) q1 q2 q3 r n 0 (by omega) (by omega)
      cases al : alB K t A B i with
      | false =>
        obtain ⟨g2, rfl⟩ : ∃ g2 : Nat, g' = g2 + 1 := ⟨g' - 1, by omega⟩
        have lk := like 0 (by omega) (fun j a b => by omega) (Or.inr al)
        obtain ⟨p1, s1, C1, q1, q2, q3, q4⟩ := pk_entry n T hn hR h iN (by omega)
        obtain ⟨p', s', C', f1, f2, f3, f4⟩ := ih (i + 1) 0 g1 g2 p1 s1 C1 (by omega) (by omega) (by omega) (by omega) (fun _ _ => rfl) (by omega) (by omega) q4
        refine ⟨p', s', C', f1, ?_, ?_, f4⟩
        · show dF_X3_writeLog_21 n T (df_X3_writeLog_21 n T g1) (nI i) s = _
          unfold dF_X3_writeLog_21 df_X3_writeLog_85
          rw [R1.2.1, if_neg nN, lk, nb_b2, nb_let, if_pos (show nI 0 = (0 : Int32) from rfl), q2, nb_b1, nb_let, show nI i + Int32.ofInt 1 = nI (i + 1) from nI_add ..]
          exact f2
        · rw [(pk_turn n R1 iN hc2).1 al, q3, nb_b1]
          exact f3
      | true =>
        have c0 := hc iN al
        subst c0
        obtain ⟨x1, x2, x3, x4⟩ := fN_le (fun k => !alB K t A B k) (N - i) i
        have al' : ∀ j : Nat, i ≤ j → j < fN (fun k => !alB K t A B k) i (N - i) → alB K t A B j = true := fun j a b => by
          have := x4 j a b
          cases w : alB K t A B j with
          | true => rfl
          | false => rw [w] at this; exact absurd this (by decide)
        obtain ⟨r, er⟩ : ∃ r : Nat, fN (fun k => !alB K t A B k) i (N - i) = i + r := ⟨fN (fun k => !alB K t A B k) i (N - i) - i, by omega⟩
        rw [er] at x1 x2 x3 al'
        have r1 : 1 ≤ r := by
          by_cases y : r = 0
          · subst y
            have := x3 (by omega)
            have this : (!alB K t A B (i + 0)) = true := this
            rw [show i + 0 = i from rfl, al] at this
            exact nomatch this
          · omega
        have b : i + r = N ∨ alB K t A B (i + r) = false := by
          by_cases y : i + r = N
          · exact Or.inl y
          · have := x3 (by omega)
            have this : (!alB K t A B (i + r)) = true := this
            cases w : alB K t A B (i + r) with
            | true => rw [w] at this; exact nomatch this
            | false => exact Or.inr rfl
        have lk := like r (by omega) al' b
        obtain ⟨p1, s1, C1, q1, q2, q3, q4⟩ := pk_run n T hn h r1 (by omega) (by omega) (df_X3_writeLog_21 n T g1) (nI i)
        obtain ⟨p', s', C', f1, f2, f3, f4⟩ := ih (i + r) r g1 (g' - r) p1 s1 C1 (by omega) (by omega) (by omega) (by omega) (fun y z => by
          rcases b with b | b
          · omega
          · rw [b] at z; exact nomatch z) (by omega) (by omega) q4
        refine ⟨p', s', C', f1, ?_, ?_, f4⟩
        · show dF_X3_writeLog_21 n T (df_X3_writeLog_21 n T g1) (nI i) s = _
          unfold dF_X3_writeLog_21
          rw [R1.2.1, if_neg nN, lk, nb_b2, nb_let, if_neg (show ¬ nI r = (0 : Int32) from fun z => by have z : nI r = nI 0 := z; rw [nI_eq (by omega) (by omega)] at z; omega)]
          refine Eq.trans q2 ?_
          rw [show nI i + nI r = nI (i + r) from nI_add ..]
          exact f2
        · have rr := pk_rrun n R1 (i := i) (r := r) (by omega) al' b (r - 1) (g' - r) 0 (by omega)
          rw [show g' - r + (r - 1 + 1) = g' by omega, show i + 0 = i from rfl] at rr
          rw [rr, q3, nb_b1]
          exact f3
