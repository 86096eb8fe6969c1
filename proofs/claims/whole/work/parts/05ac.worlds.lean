theorem nd_pm {D : va_G} {cl : List vw_C} {ws : va_W} {H : Heap} : va_P D cl ws H ↔ ∀ q ∈ ws, va_at D cl q H := by
  constructor
  · intro h q hq
    obtain ⟨k, hk⟩ := List.mem_iff_getElem?.mp hq
    exact h k q hk
  · intro h k q hk
    exact h q (List.mem_of_getElem? hk)
def nd_N (w : va_W) : Prop := w.Pairwise (fun x y => x.1 ≠ y.1)
theorem nd_dm {A : Nat → Prop} {w : va_W} : va_D A w ↔ nd_N w ∧ ∀ q ∈ w, A q.1 := by
  constructor
  · intro h
    refine ⟨List.pairwise_iff_getElem.mpr (fun i j hi hj hij e => ?_), fun q hq => ?_⟩
    · have := h.1 i j w[i] w[j] (List.getElem?_eq_getElem hi) (List.getElem?_eq_getElem hj) e
      omega
    · obtain ⟨k, hk⟩ := List.mem_iff_getElem?.mp hq
      exact h.2 k q hk
  · intro h
    refine ⟨fun i j p q hi hj e => ?_, fun k q hk => h.2 q (List.mem_of_getElem? hk)⟩
    have hp := List.pairwise_iff_getElem.mp h.1
    obtain ⟨hi1, hi2⟩ := List.getElem?_eq_some_iff.mp hi
    obtain ⟨hj1, hj2⟩ := List.getElem?_eq_some_iff.mp hj
    rcases Nat.lt_trichotomy i j with c | c | c
    · exact absurd (by rw [hi2, hj2]; exact e) (hp i j hi1 hj1 c)
    · exact c
    · exact absurd (by rw [hi2, hj2]; exact e.symm) (hp j i hj1 hi1 c)
theorem nd_am {w : va_W} {z q : Nat} : va_A w z q ↔ (∃ x ∈ w, x.1 = q) ∨ z ≤ q := by
  constructor
  · rintro (⟨k, e, h⟩ | h)
    · exact Or.inl ⟨(q, e), List.mem_of_getElem? h, rfl⟩
    · exact Or.inr h
  · rintro (⟨x, hx, rfl⟩ | h)
    · obtain ⟨k, hk⟩ := List.mem_iff_getElem?.mp hx
      exact Or.inl ⟨k, x.2, hk⟩
    · exact Or.inr h
/-- cells of two different lists of a world lie apart -/
theorem nd_cr {segs : List va_W} (h : nd_N segs.flatten) {i j : Nat} (hij : i ≠ j) {s t : va_W} (hs : segs[i]? = some s) (ht : segs[j]? = some t) : ∀ x ∈ s, ∀ y ∈ t, x.1 ≠ y.1 := by
  have hp := List.pairwise_iff_getElem.mp (List.pairwise_flatten.mp h).2
  obtain ⟨hi1, hi2⟩ := List.getElem?_eq_some_iff.mp hs
  obtain ⟨hj1, hj2⟩ := List.getElem?_eq_some_iff.mp ht
  intro x hx y hy
  rcases Nat.lt_or_gt_of_ne hij with c | c
  · exact hp i j hi1 hj1 c x (by rw [hi2]; exact hx) y (by rw [hj2]; exact hy)
  · exact Ne.symm (hp j i hj1 hi1 c y (by rw [hj2]; exact hy) x (by rw [hi2]; exact hx))
theorem nd_ato {segs old : List va_W} {ix : List Nat} (ho : ix.map (fun i => segs[i]?) = old.map some) {k : Nat} {s : va_W} (hs : old[k]? = some s) : ∃ i, ix[k]? = some i ∧ segs[i]? = some s := by
  have h1 : (ix.map (fun i => segs[i]?))[k]? = some (some s) := by rw [ho, List.getElem?_map, hs]; rfl
  rw [List.getElem?_map] at h1
  cases hi : ix[k]? with
  | none => rw [hi] at h1; cases h1
  | some i => rw [hi] at h1; exact ⟨i, rfl, Option.some.inj h1⟩
theorem nd_vp {D : va_G} {cl : List vw_C} {segs old : List va_W} {ix : List Nat} {H : Heap} (hP : va_P D cl segs.flatten H) (ho : ix.map (fun i => segs[i]?) = old.map some) : va_P D cl old.flatten H := by
  rw [nd_pm] at hP ⊢
  intro q hq
  obtain ⟨s, hs, hqs⟩ := List.mem_flatten.mp hq
  obtain ⟨k, hk⟩ := List.mem_iff_getElem?.mp hs
  obtain ⟨i, -, hi⟩ := nd_ato ho hk
  exact hP q (List.mem_flatten.mpr ⟨s, List.mem_of_getElem? hi, hqs⟩)
theorem nd_vd {A : Nat → Prop} {segs old : List va_W} {ix : List Nat} (hD : va_D A segs.flatten) (ho : ix.map (fun i => segs[i]?) = old.map some) (hn : ix.Nodup) : va_D A old.flatten := by
  rw [nd_dm] at hD ⊢
  have hin : ∀ s ∈ old, ∃ i : Nat, segs[i]? = some s := fun s hs => by
    obtain ⟨k, hk⟩ := List.mem_iff_getElem?.mp hs
    obtain ⟨i, -, hi⟩ := nd_ato ho hk
    exact ⟨i, hi⟩
  refine ⟨List.pairwise_flatten.mpr ⟨fun s hs => ?_, List.pairwise_iff_getElem.mpr (fun a b ha hb hab => ?_)⟩, fun q hq => ?_⟩
  · obtain ⟨i, hi⟩ := hin s hs
    exact (List.pairwise_flatten.mp hD.1).1 s (List.mem_of_getElem? hi)
  · obtain ⟨i, hi1, hi2⟩ := nd_ato ho (List.getElem?_eq_getElem ha)
    obtain ⟨j, hj1, hj2⟩ := nd_ato ho (List.getElem?_eq_getElem hb)
    refine nd_cr hD.1 (fun e => ?_) hi2 hj2
    subst e
    obtain ⟨ha1, ha2⟩ := List.getElem?_eq_some_iff.mp hi1
    obtain ⟨hb1, hb2⟩ := List.getElem?_eq_some_iff.mp hj1
    exact absurd (ha2.trans hb2.symm) (List.pairwise_iff_getElem.mp hn a b ha1 hb1 hab)
  · obtain ⟨s, hs, hqs⟩ := List.mem_flatten.mp hq
    obtain ⟨i, hi⟩ := hin s hs
    exact hD.2 q (List.mem_flatten.mpr ⟨s, List.mem_of_getElem? hi, hqs⟩)
def nd_sets : List va_W → List Nat → List va_W → List va_W
  | segs, i :: is, n :: ns => nd_sets (segs.set i n) is ns
  | segs, [], _ => segs
  | segs, _ :: _, [] => segs
theorem nd_setm {s : va_W} : ∀ {ix : List Nat} {new segs : List va_W}, new.length = ix.length → s ∈ nd_sets segs ix new → s ∈ new ∨ ∃ j, j ∉ ix ∧ segs[j]? = some s := by
  intro ix
  induction ix with
  | nil =>
    intro new segs _ h
    have h : s ∈ segs := by cases new <;> exact h
    obtain ⟨k, hk⟩ := List.mem_iff_getElem?.mp h
    exact Or.inr ⟨k, List.not_mem_nil, hk⟩
  | cons i is ih =>
    intro new segs hl h
    cases new with
    | nil => cases hl
    | cons n ns =>
      have h : s ∈ nd_sets (segs.set i n) is ns := h
      rcases ih (Nat.succ.inj hl) h with h | ⟨j, h1, h2⟩
      · exact Or.inl (List.mem_cons_of_mem _ h)
      · by_cases c : j = i
        · subst c
          have hlt : j < segs.length := by
            have := (List.getElem?_eq_some_iff.mp h2).1
            rw [List.length_set] at this
            exact this
          rw [List.getElem?_set_self hlt] at h2
          obtain rfl := Option.some.inj h2
          exact Or.inl List.mem_cons_self
        · rw [List.getElem?_set_ne (Ne.symm c)] at h2
          exact Or.inr ⟨j, fun h => by
            rcases List.mem_cons.mp h with h | h
            · exact c h
            · exact h1 h, h2⟩
theorem nd_vn {A : Nat → Prop} {D : va_G} {cl : List vw_C} {segs old new : List va_W} {ix : List Nat} {H H1 : Heap} (hP : va_P D cl segs.flatten H) (hD : va_D A segs.flatten) (ho : ix.map (fun i => segs[i]?) = old.map some) (hl : new.length = ix.length) (hk : ∀ q : Nat, q < H.size → ¬ va_A old.flatten H.size q → H1[q]? = H[q]?) (h1 : va_P D cl new.flatten H1) : va_P D cl (nd_sets segs ix new).flatten H1 := by
  have hP' := nd_pm.mp hP
  rw [nd_pm] at h1 ⊢
  rw [nd_dm] at hD
  intro q hq
  obtain ⟨s, hs, hqs⟩ := List.mem_flatten.mp hq
  rcases nd_setm hl hs with h | ⟨j, hj, hjs⟩
  · exact h1 q (List.mem_flatten.mpr ⟨s, h, hqs⟩)
  · have ha := hP' q (List.mem_flatten.mpr ⟨s, List.mem_of_getElem? hjs, hqs⟩)
    refine ha.kept (hk q.1 ha.lt (fun h => ?_))
    rcases nd_am.mp h with ⟨x, hx, e⟩ | h
    · obtain ⟨t, ht, hxt⟩ := List.mem_flatten.mp hx
      obtain ⟨k, hk2⟩ := List.mem_iff_getElem?.mp ht
      obtain ⟨i, hi1, hi2⟩ := nd_ato ho hk2
      exact nd_cr hD.1 (fun e2 => hj (by rw [← e2]; exact List.mem_of_getElem? hi1)) hi2 hjs x hxt q hqs e
    · exact absurd ha.lt (Nat.not_lt.mpr h)
theorem nd_ks {D : va_G} {cl : List vw_C} {t t' : List (ClassId × FieldType)} {U : State} (h : va_K D cl t U) (hs : ∀ q ∈ t', q ∈ t) : va_K D cl t' U := ⟨h.1, fun k q hk => by
  obtain ⟨j, hj⟩ := List.mem_iff_getElem?.mp (hs q (List.mem_of_getElem? hk))
  exact h.2 j q hj⟩
theorem nd_Da {A : Nat → Prop} {w w' : va_W} (hD : va_D A w) (e : w'.map (fun q => q.1) = w.map (fun q => q.1)) : va_D A w' := by
  have hx : ∀ (k : Nat) (q : Nat × va_E), w'[k]? = some q → ∃ q', w[k]? = some q' ∧ q'.1 = q.1 := fun k q h => by
    have h1 : (w'.map (fun q => q.1))[k]? = some q.1 := by rw [List.getElem?_map, h]; rfl
    rw [e, List.getElem?_map] at h1
    cases hw : w[k]? with
    | none => rw [hw] at h1; cases h1
    | some q' => rw [hw] at h1; exact ⟨q', rfl, Option.some.inj h1⟩
  refine ⟨fun i j p q hi hj h => ?_, fun k q hk => ?_⟩
  · obtain ⟨p', h1, h2⟩ := hx i p hi
    obtain ⟨q', h3, h4⟩ := hx j q hj
    exact hD.1 i j p' q' h1 h3 (by rw [h2, h4]; exact h)
  · obtain ⟨q', h1, h2⟩ := hx k q hk
    rw [← h2]
    exact hD.2 k q' h1
theorem nd_co {α : Type} {a b : α} {l m : List α} (h : a = b) (e : l = m) : a :: l = b :: m := by rw [h, e]
abbrev Rw : Type := Nat → Nat → Option Nat
def pW (ρ : Rw) (k : Nat) (r : Nat → Option Nat) : Rw := fun j => if j = k then r else ρ j
theorem nd_up {g : Nat → Nat} {r : Nat → Option Nat} {i : Nat} {o : Option Nat} : va_up (fun i => Option.map g (r i)) i (Option.map g o) = fun j => Option.map g (va_up r i o j) := by
  funext j
  unfold va_up
  split <;> rfl
def nd_mix (n : Nat) (x y : Rw) : Rw := fun i => if i < n then x i else y i
def nd_m {α : Type} (o : Option Nat) (x : Option α) (k : Nat → Option α) : Option α := match o with
  | none => x
  | some j => k j
def nd_lt {α : Type} (j n : Nat) (x : Option α) : Option α := if j < n then x else none
theorem nd_lt_e {α : Type} {j n : Nat} {x : Option α} {r : α} (h : nd_lt j n x = some r) : j < n ∧ x = some r := by
  unfold nd_lt at h
  by_cases c : j < n
  · rw [if_pos c] at h; exact ⟨c, h⟩
  · rw [if_neg c] at h; exact nomatch h
theorem nd_mN {α : Type} {o : Option Nat} {x : Option α} {k : Nat → Option α} {r : α} (h : nd_m o x k = some r) (e : o = none) : x = some r := by subst e; exact h
theorem nd_mS {α : Type} {o : Option Nat} {x : Option α} {k : Nat → Option α} {r : α} {j : Nat} (h : nd_m o x k = some r) (e : o = some j) : k j = some r := by subst e; exact h
theorem nd_g1 {L R : List va_W} {f : Nat → va_W} {n j b : Nat} (hb : L.length = b) (hj : j < n) : (L ++ ((List.range n).map f ++ R))[b + j]? = some (f j) := by
  subst hb
  rw [List.getElem?_append_right (Nat.le_add_right _ _), Nat.add_sub_cancel_left, List.getElem?_append_left (by rw [List.length_map, List.length_range]; exact hj), List.getElem?_map, List.getElem?_range hj]
  rfl
theorem nd_g2 {L R : List va_W} {f : Nat → va_W} {n j b : Nat} {x : va_W} (hb : L.length = b) (hj : j < n) : (L ++ ((List.range n).map f ++ R)).set (b + j) x = L ++ ((List.range n).map (fun i => if i = j then x else f i) ++ R) := by
  subst hb
  apply List.ext_getElem?
  intro i
  by_cases c : i = L.length + j
  · subst c
    rw [List.getElem?_set_self (by simp; omega), nd_g1 rfl hj, if_pos rfl]
  · rw [List.getElem?_set_ne (Ne.symm c)]
    by_cases d : i < L.length
    · rw [List.getElem?_append_left d, List.getElem?_append_left d]
    · obtain ⟨k, rfl⟩ : ∃ k, i = L.length + k := ⟨i - L.length, by omega⟩
      rw [List.getElem?_append_right (Nat.le_add_right _ _), List.getElem?_append_right (Nat.le_add_right _ _), Nat.add_sub_cancel_left]
      by_cases e : k < n
      · rw [List.getElem?_append_left (by simpa using e), List.getElem?_append_left (by simpa using e), List.getElem?_map, List.getElem?_map, List.getElem?_range e]
        simp only [Option.map_some]
        rw [if_neg (by omega)]
      · rw [List.getElem?_append_right (by simpa using Nat.not_lt.mp e), List.getElem?_append_right (by simpa using Nat.not_lt.mp e)]
        simp
theorem nd_sa {L M : List va_W} {n i : Nat} {x : va_W} (h : L.length = n) : (L ++ M).set (n + i) x = L ++ M.set i x := by
  subst h
  rw [List.set_append_right _ _ (Nat.le_add_right _ _), Nat.add_sub_cancel_left]
theorem nd_g4 {α : Type} {F : Nat → α → va_W} {st : Nat → α} {n j : Nat} {τ : α} {R : List va_W} (hj : j < n) : ((List.range n).map (fun i => F i (st i)) ++ R).set j (F j τ) = (List.range n).map (fun i => F i (if i = j then τ else st i)) ++ R := by
  have h := nd_g2 (L := []) (R := R) (f := fun i => F i (st i)) (n := n) (j := j) (b := 0) (x := F j τ) rfl hj
  rw [List.nil_append, List.nil_append, Nat.zero_add] at h
  rw [h]
  congr 1
  apply List.map_congr_left
  intro i _
  by_cases c : i = j
  · subst c; rw [if_pos rfl, if_pos rfl]
  · rw [if_neg c, if_neg c]
def dwo_X5 (a : Nat → Nat) (ac : Nat → ClassId) (σ : St) : va_W := [(a 0, .inr (6, [.ref (a 4), .ref (a 14), .ref (a 8), .ref (a 11), .ref (a 3), va_rf (Option.map a (sO σ 0)), .ref (a 1), .ref (a 2)])), (a 1, .inl (ac 1, 16, .inl (sR σ 0))), (a 2, .inl (ac 2, 16, .inl (sR σ 1)))]
def dwo_X4 (a : Nat → Nat) (ac : Nat → ClassId) (σ : St) : va_W := [(a 0, .inr (5, [.ref (a 1), .ref (a 5), .int (sI σ 0), .int (sI σ 1), .int (sI σ 2), .int (sI σ 3)]))]
def dwo_X6 (a : Nat → Nat) (ac : Nat → ClassId) (σ : St) : va_W := [(a 0, .inr (7, [.ref (a 1), .ref (a 2), .ref (a 3), .int (sI σ 0), .ref (a 4), .ref (a 5), .ref (a 6), .ref (a 7), .ref (a 8), .ref (a 9), .int (sI σ 1), .ref (a 10), .int (sI σ 2), .int (sI σ 3), .int (sI σ 4), .int (sI σ 5), .int (sI σ 6), .long (sL σ 0), .long (sL σ 1), .int (sI σ 7)])), (a 1, .inl (ac 1, 65536, .inl (sR σ 0))), (a 2, .inl (ac 2, 256, .inl (sR σ 1))), (a 3, .inl (ac 3, 1024, .inl (sR σ 2))), (a 4, .inl (ac 4, 528, .inl (sR σ 3))), (a 5, .inl (ac 5, 528, .inl (sR σ 4))), (a 6, .inl (ac 6, 256, .inl (sR σ 5))), (a 7, .inl (ac 7, 112, .inl (sR σ 6))), (a 8, .inl (ac 8, 16, .inr (.inl (sQ σ 0)))), (a 9, .inl (ac 9, 16, .inl (sR σ 7)))]
def dw_X11o (a : Nat → Nat) (ac : Nat → ClassId) (σ : St) : va_W := ([(a 0, .inr (12, [.ref (a 37), va_rf (Option.map a (sO σ 0)), va_rf (Option.map a (sO σ 1)), .ref (a 7), .ref (a 3), .ref (a 1), .int (sI σ 0), .ref (a 40), .ref (a 2), .int (sI σ 1), .int (sI σ 2), .int (sI σ 3), .int (sI σ 4), .int (sI σ 5), .int (sI σ 6), .int (sI σ 7)])), (a 1, .inl (ac 1, 60000, .inl (sR σ 0))), (a 2, .inl (ac 2, 8, .inl (sR σ 1)))] : va_W)
def dk_X11o (ac : Nat → ClassId) : List (ClassId × FieldType) := ([(ac 1, .int), (ac 2, .int)] : List (ClassId × FieldType))
def dg_X11 (a : Nat → Nat) (ac : Nat → ClassId) (σ : St × Rw × (St × (St × (St × (St)))) × (St) × (St) × (Nat → St) × (Nat → St) × (Nat → St × (St))) : List va_W := ([dw_X11o a ac (σ.1), dwo_X5 (fun k => a (k + 3)) (fun k => ac (k + 3)) (σ.2.2.1.1), dwo_X4 (fun k => a (k + 6)) (fun k => ac (k + 6)) (σ.2.2.1.2.1), dwo_X6 (fun k => a (k + 7)) (fun k => ac (k + 7)) (σ.2.2.1.2.2.1), dw_X10 (fun k => a (k + 17)) (fun k => ac (k + 17)) (σ.2.2.1.2.2.2), dw_X3c (fun k => a (k + 27)) (fun k => ac (k + 27)) (σ.2.2.2.1), dw_X3c (fun k => a (k + 32)) (fun k => ac (k + 32)) (σ.2.2.2.2.1), [(a 37, .inl (ac 37, 4, .inr (.inr (.inr (.inr (fun i => Option.map (fun j => a (0 + j * 5 + 41)) ((σ.2.1) 0 i)))))))], [(a 38, .inl (ac 38, 4, .inr (.inr (.inr (.inr (fun i => Option.map (fun j => a (0 + j * 5 + 41)) ((σ.2.1) 1 i)))))))], [(a 39, .inl (ac 39, 8, .inr (.inr (.inr (.inr (fun i => Option.map (fun j => a (0 + j * 9 + 86)) ((σ.2.1) 2 i)))))))], [(a 40, .inl (ac 40, 8, .inr (.inr (.inr (.inr (fun i => Option.map (fun j => a (0 + j * 20 + 167)) ((σ.2.1) 3 i)))))))]] : List va_W) ++ ((List.range 9).map (fun j => dw_X8 (fun k => a (k + j * 5 + 41)) (fun k => ac (k + j * 5 + 41)) (σ.2.2.2.2.2.1 j)) ++ ((List.range 9).map (fun j => dw_X2c (fun k => a (k + j * 9 + 86)) (fun k => ac (k + j * 9 + 86)) (σ.2.2.2.2.2.2.1 j)) ++ ((List.range 8).map (fun j => dw_X6 (fun k => a (k + j * 20 + 167)) (fun k => ac (k + j * 20 + 167)) (σ.2.2.2.2.2.2.2 j)) ++ [])))
def dw_X11 (a : Nat → Nat) (ac : Nat → ClassId) (σ : St × Rw × (St × (St × (St × (St)))) × (St) × (St) × (Nat → St) × (Nat → St) × (Nat → St × (St))) : va_W := (dg_X11 a ac σ).flatten
def dk_X11 (ac : Nat → ClassId) : List (ClassId × FieldType) := ([(ac 1, .int), (ac 2, .int), (ac 4, .byte), (ac 5, .byte), (ac 8, .int), (ac 9, .int), (ac 10, .int), (ac 11, .int), (ac 12, .int), (ac 13, .int), (ac 14, .int), (ac 15, .long), (ac 16, .int), (ac 18, .int), (ac 19, .int), (ac 20, .int), (ac 21, .byte), (ac 22, .int), (ac 23, .byte), (ac 24, .byte), (ac 25, .byte), (ac 26, .byte), (ac 28, .int), (ac 29, .long), (ac 30, .long), (ac 31, .int), (ac 33, .int), (ac 34, .long), (ac 35, .long), (ac 36, .int), (ac 37, .object RX8), (ac 38, .object RX8), (ac 39, .object RX2), (ac 40, .object RX6)] : List (ClassId × FieldType)) ++ ((List.range 9).flatMap (fun j => dk_X8 (fun k => ac (k + j * 5 + 41))) ++ ((List.range 9).flatMap (fun j => dk_X2c (fun k => ac (k + j * 9 + 86))) ++ ((List.range 8).flatMap (fun j => dk_X6 (fun k => ac (k + j * 20 + 167))) ++ [])))
set_option maxHeartbeats 40000000 in
set_option maxRecDepth 100000 in
theorem dA_X11 {a : Nat → Nat} {ac : Nat → ClassId} {σ σ1 : St × Rw × (St × (St × (St × (St)))) × (St) × (St) × (Nat → St) × (Nat → St) × (Nat → St × (St))} : (dw_X11 a ac σ1).map (fun q => q.1) = (dw_X11 a ac σ).map (fun q => q.1) := by
  unfold dw_X11
  rw [List.map_flatten, List.map_flatten]
  exact congrArg List.flatten rfl
set_option maxHeartbeats 40000000 in
set_option maxRecDepth 100000 in
theorem dx_X11_P8 {a : Nat → Nat} {ac : Nat → ClassId} {σ : St × Rw × (St × (St × (St × (St)))) × (St) × (St) × (Nat → St) × (Nat → St) × (Nat → St × (St))} {j : Nat} (hj : j < 9) : (dg_X11 a ac σ)[11 + j]? = some (dw_X8 (fun k => a (k + j * 5 + 41)) (fun k => ac (k + j * 5 + 41)) (σ.2.2.2.2.2.1 j)) := by
  unfold dg_X11
  exact nd_g1 (f := fun j => dw_X8 (fun k => a (k + j * 5 + 41)) (fun k => ac (k + j * 5 + 41)) (σ.2.2.2.2.2.1 j)) (by simp) hj
set_option maxHeartbeats 40000000 in
set_option maxRecDepth 100000 in
theorem dz_X11_P8 {a : Nat → Nat} {ac : Nat → ClassId} {σ : St × Rw × (St × (St × (St × (St)))) × (St) × (St) × (Nat → St) × (Nat → St) × (Nat → St × (St))} {j : Nat} {τ : St} (hj : j < 9) : (dg_X11 a ac σ).set (11 + j) (dw_X8 (fun k => a (k + j * 5 + 41)) (fun k => ac (k + j * 5 + 41)) τ) = dg_X11 a ac (σ.1, (σ.2.1, (σ.2.2.1, (σ.2.2.2.1, (σ.2.2.2.2.1, ((fun i => if i = j then τ else σ.2.2.2.2.2.1 i), σ.2.2.2.2.2.2)))))) := by
  rw [show 11 + j = 11 + j from by omega]
  unfold dg_X11
  rw [nd_sa (n := 11) rfl, nd_g4 (F := fun j s => dw_X8 (fun k => a (k + j * 5 + 41)) (fun k => ac (k + j * 5 + 41)) s) (st := σ.2.2.2.2.2.1) hj]
set_option maxHeartbeats 40000000 in
set_option maxRecDepth 100000 in
theorem dq_X11_P8 {D : va_G} {U : State} {ac : Nat → ClassId} {j : Nat} (hj : j < 9) (h : va_K D vwCl (dk_X11 ac) U) : va_K D vwCl (dk_X8 (fun k => ac (k + j * 5 + 41))) U := nd_ks h (fun q hq => by
  unfold dk_X11
  refine List.mem_append_right _ ?_
  exact List.mem_append_left _ (List.mem_flatMap.mpr ⟨j, List.mem_range.mpr hj, hq⟩))
set_option maxHeartbeats 40000000 in
set_option maxRecDepth 100000 in
theorem di_X11_P8 {A : Nat → Prop} {a : Nat → Nat} {ac : Nat → ClassId} {σ : St × Rw × (St × (St × (St × (St)))) × (St) × (St) × (Nat → St) × (Nat → St) × (Nat → St × (St))} {i j : Nat} (hi : i < 9) (hj : j < 9) (hD : va_D A (dw_X11 a ac σ)) (e : a (0 + i * 5 + 41) = a (0 + j * 5 + 41)) : i = j := Classical.byContradiction fun c => nd_cr (nd_dm.mp hD).1 (i := 11 + i) (j := 11 + j) (by omega) (dx_X11_P8 hi) (dx_X11_P8 hj) _ (List.mem_of_getElem? (i := 0) rfl) _ (List.mem_of_getElem? (i := 0) rfl) e
set_option maxHeartbeats 40000000 in
set_option maxRecDepth 100000 in
theorem dl_X11_P8 {D : va_G} {H : Heap} {a : Nat → Nat} {ac : Nat → ClassId} {σ : St × Rw × (St × (St × (St × (St)))) × (St) × (St) × (Nat → St) × (Nat → St) × (Nat → St × (St))} {j : Nat} (hj : j < 9) (h : va_P D vwCl (dw_X11 a ac σ) H) : va_P D vwCl (dw_X8 (fun k => a (k + j * 5 + 41)) (fun k => ac (k + j * 5 + 41)) (σ.2.2.2.2.2.1 j)) H := by
  have h2 := nd_vp (segs := dg_X11 a ac σ) (ix := [11 + j]) (old := [dw_X8 (fun k => a (k + j * 5 + 41)) (fun k => ac (k + j * 5 + 41)) (σ.2.2.2.2.2.1 j)]) h (nd_co (dx_X11_P8 hj) rfl)
  simp only [List.flatten_cons, List.flatten_nil, List.append_nil] at h2
  exact h2
set_option maxHeartbeats 40000000 in
set_option maxRecDepth 100000 in
theorem dv_X11_P8 {a : Nat → Nat} {ac : Nat → ClassId} {σ : St × Rw × (St × (St × (St × (St)))) × (St) × (St) × (Nat → St) × (Nat → St) × (Nat → St × (St))} {j : Nat} (hj : j < 9) : ∃ (k : Nat) (vs : List Value), (dw_X11 a ac σ)[k]? = some (a (0 + j * 5 + 41), .inr (9, vs)) := by
  have h1 : (a (0 + j * 5 + 41), (.inr (9, [.ref (a (1 + j * 5 + 41)), .int (sI (σ.2.2.2.2.2.1 j) 0), .int (sI (σ.2.2.2.2.2.1 j) 1), .int (sI (σ.2.2.2.2.2.1 j) 2), .int (sI (σ.2.2.2.2.2.1 j) 3), .ref (a (2 + j * 5 + 41)), .int (sI (σ.2.2.2.2.2.1 j) 4), .ref (a (3 + j * 5 + 41)), .ref (a (4 + j * 5 + 41)), .int (sI (σ.2.2.2.2.2.1 j) 5)]) : va_E)) ∈ dw_X8 (fun k => a (k + j * 5 + 41)) (fun k => ac (k + j * 5 + 41)) (σ.2.2.2.2.2.1 j) := List.mem_of_getElem? (i := 0) rfl
  obtain ⟨k, hk⟩ := List.mem_iff_getElem?.mp (List.mem_flatten.mpr ⟨_, List.mem_of_getElem? (dx_X11_P8 (a := a) (ac := ac) (σ := σ) hj), h1⟩)
  exact ⟨k, _, hk⟩
set_option maxHeartbeats 40000000 in
set_option maxRecDepth 100000 in
theorem dx_X11_K2 {a : Nat → Nat} {ac : Nat → ClassId} {σ : St × Rw × (St × (St × (St × (St)))) × (St) × (St) × (Nat → St) × (Nat → St) × (Nat → St × (St))} {j : Nat} (hj : j < 9) : (dg_X11 a ac σ)[20 + j]? = some (dw_X2c (fun k => a (k + j * 9 + 86)) (fun k => ac (k + j * 9 + 86)) (σ.2.2.2.2.2.2.1 j)) := by
  unfold dg_X11
  rw [← List.append_assoc]; exact nd_g1 (f := fun j => dw_X2c (fun k => a (k + j * 9 + 86)) (fun k => ac (k + j * 9 + 86)) (σ.2.2.2.2.2.2.1 j)) (by simp) hj
set_option maxHeartbeats 40000000 in
set_option maxRecDepth 100000 in
theorem dz_X11_K2 {a : Nat → Nat} {ac : Nat → ClassId} {σ : St × Rw × (St × (St × (St × (St)))) × (St) × (St) × (Nat → St) × (Nat → St) × (Nat → St × (St))} {j : Nat} {τ : St} (hj : j < 9) : (dg_X11 a ac σ).set (20 + j) (dw_X2c (fun k => a (k + j * 9 + 86)) (fun k => ac (k + j * 9 + 86)) τ) = dg_X11 a ac (σ.1, (σ.2.1, (σ.2.2.1, (σ.2.2.2.1, (σ.2.2.2.2.1, (σ.2.2.2.2.2.1, ((fun i => if i = j then τ else σ.2.2.2.2.2.2.1 i), σ.2.2.2.2.2.2.2))))))) := by
  rw [show 20 + j = 11 + (9 + j) from by omega]
  unfold dg_X11
  rw [nd_sa (n := 11) rfl, nd_sa (n := 9) (by simp), nd_g4 (F := fun j s => dw_X2c (fun k => a (k + j * 9 + 86)) (fun k => ac (k + j * 9 + 86)) s) (st := σ.2.2.2.2.2.2.1) hj]
set_option maxHeartbeats 40000000 in
set_option maxRecDepth 100000 in
theorem dq_X11_K2 {D : va_G} {U : State} {ac : Nat → ClassId} {j : Nat} (hj : j < 9) (h : va_K D vwCl (dk_X11 ac) U) : va_K D vwCl (dk_X2c (fun k => ac (k + j * 9 + 86))) U := nd_ks h (fun q hq => by
  unfold dk_X11
  refine List.mem_append_right _ ?_
  refine List.mem_append_right _ ?_
  exact List.mem_append_left _ (List.mem_flatMap.mpr ⟨j, List.mem_range.mpr hj, hq⟩))
set_option maxHeartbeats 40000000 in
set_option maxRecDepth 100000 in
theorem di_X11_K2 {A : Nat → Prop} {a : Nat → Nat} {ac : Nat → ClassId} {σ : St × Rw × (St × (St × (St × (St)))) × (St) × (St) × (Nat → St) × (Nat → St) × (Nat → St × (St))} {i j : Nat} (hi : i < 9) (hj : j < 9) (hD : va_D A (dw_X11 a ac σ)) (e : a (0 + i * 9 + 86) = a (0 + j * 9 + 86)) : i = j := Classical.byContradiction fun c => nd_cr (nd_dm.mp hD).1 (i := 20 + i) (j := 20 + j) (by omega) (dx_X11_K2 hi) (dx_X11_K2 hj) _ (List.mem_of_getElem? (i := 0) rfl) _ (List.mem_of_getElem? (i := 0) rfl) e
set_option maxHeartbeats 40000000 in
set_option maxRecDepth 100000 in
theorem dl_X11_K2 {D : va_G} {H : Heap} {a : Nat → Nat} {ac : Nat → ClassId} {σ : St × Rw × (St × (St × (St × (St)))) × (St) × (St) × (Nat → St) × (Nat → St) × (Nat → St × (St))} {j : Nat} (hj : j < 9) (h : va_P D vwCl (dw_X11 a ac σ) H) : va_P D vwCl (dw_X2c (fun k => a (k + j * 9 + 86)) (fun k => ac (k + j * 9 + 86)) (σ.2.2.2.2.2.2.1 j)) H := by
  have h2 := nd_vp (segs := dg_X11 a ac σ) (ix := [20 + j]) (old := [dw_X2c (fun k => a (k + j * 9 + 86)) (fun k => ac (k + j * 9 + 86)) (σ.2.2.2.2.2.2.1 j)]) h (nd_co (dx_X11_K2 hj) rfl)
  simp only [List.flatten_cons, List.flatten_nil, List.append_nil] at h2
  exact h2
set_option maxHeartbeats 40000000 in
set_option maxRecDepth 100000 in
theorem dv_X11_K2 {a : Nat → Nat} {ac : Nat → ClassId} {σ : St × Rw × (St × (St × (St × (St)))) × (St) × (St) × (Nat → St) × (Nat → St) × (Nat → St × (St))} {j : Nat} (hj : j < 9) : ∃ (k : Nat) (vs : List Value), (dw_X11 a ac σ)[k]? = some (a (0 + j * 9 + 86), .inr (3, vs)) := by
  have h1 : (a (0 + j * 9 + 86), (.inr (3, [.ref (a (1 + j * 9 + 86)), .ref (a (2 + j * 9 + 86)), .int (sI (σ.2.2.2.2.2.2.1 j) 0), .ref (a (3 + j * 9 + 86)), .int (sI (σ.2.2.2.2.2.2.1 j) 1), .ref (a (4 + j * 9 + 86)), .ref (a (5 + j * 9 + 86)), .ref (a (6 + j * 9 + 86)), .ref (a (7 + j * 9 + 86)), .ref (a (8 + j * 9 + 86)), .int (sI (σ.2.2.2.2.2.2.1 j) 2), .int (sI (σ.2.2.2.2.2.2.1 j) 3), va_rf (sO (σ.2.2.2.2.2.2.1 j) 0), .int (sI (σ.2.2.2.2.2.2.1 j) 4), .int (sI (σ.2.2.2.2.2.2.1 j) 5), .int (sI (σ.2.2.2.2.2.2.1 j) 6), .int (sI (σ.2.2.2.2.2.2.1 j) 7), .long (sL (σ.2.2.2.2.2.2.1 j) 0), .int (sI (σ.2.2.2.2.2.2.1 j) 8), .int (sI (σ.2.2.2.2.2.2.1 j) 9)]) : va_E)) ∈ dw_X2c (fun k => a (k + j * 9 + 86)) (fun k => ac (k + j * 9 + 86)) (σ.2.2.2.2.2.2.1 j) := List.mem_of_getElem? (i := 0) rfl
  obtain ⟨k, hk⟩ := List.mem_iff_getElem?.mp (List.mem_flatten.mpr ⟨_, List.mem_of_getElem? (dx_X11_K2 (a := a) (ac := ac) (σ := σ) hj), h1⟩)
  exact ⟨k, _, hk⟩
set_option maxHeartbeats 40000000 in
set_option maxRecDepth 100000 in
theorem dx_X11_C6 {a : Nat → Nat} {ac : Nat → ClassId} {σ : St × Rw × (St × (St × (St × (St)))) × (St) × (St) × (Nat → St) × (Nat → St) × (Nat → St × (St))} {j : Nat} (hj : j < 8) : (dg_X11 a ac σ)[29 + j]? = some (dw_X6 (fun k => a (k + j * 20 + 167)) (fun k => ac (k + j * 20 + 167)) (σ.2.2.2.2.2.2.2 j)) := by
  unfold dg_X11
  rw [← List.append_assoc, ← List.append_assoc]; exact nd_g1 (f := fun j => dw_X6 (fun k => a (k + j * 20 + 167)) (fun k => ac (k + j * 20 + 167)) (σ.2.2.2.2.2.2.2 j)) (by simp) hj
set_option maxHeartbeats 40000000 in
set_option maxRecDepth 100000 in
theorem dz_X11_C6 {a : Nat → Nat} {ac : Nat → ClassId} {σ : St × Rw × (St × (St × (St × (St)))) × (St) × (St) × (Nat → St) × (Nat → St) × (Nat → St × (St))} {j : Nat} {τ : St × (St)} (hj : j < 8) : (dg_X11 a ac σ).set (29 + j) (dw_X6 (fun k => a (k + j * 20 + 167)) (fun k => ac (k + j * 20 + 167)) τ) = dg_X11 a ac (σ.1, (σ.2.1, (σ.2.2.1, (σ.2.2.2.1, (σ.2.2.2.2.1, (σ.2.2.2.2.2.1, (σ.2.2.2.2.2.2.1, (fun i => if i = j then τ else σ.2.2.2.2.2.2.2 i)))))))) := by
  rw [show 29 + j = 11 + (9 + (9 + j)) from by omega]
  unfold dg_X11
  rw [nd_sa (n := 11) rfl, nd_sa (n := 9) (by simp), nd_sa (n := 9) (by simp), nd_g4 (F := fun j s => dw_X6 (fun k => a (k + j * 20 + 167)) (fun k => ac (k + j * 20 + 167)) s) (st := σ.2.2.2.2.2.2.2) hj]
set_option maxHeartbeats 40000000 in
set_option maxRecDepth 100000 in
theorem dq_X11_C6 {D : va_G} {U : State} {ac : Nat → ClassId} {j : Nat} (hj : j < 8) (h : va_K D vwCl (dk_X11 ac) U) : va_K D vwCl (dk_X6 (fun k => ac (k + j * 20 + 167))) U := nd_ks h (fun q hq => by
  unfold dk_X11
  refine List.mem_append_right _ ?_
  refine List.mem_append_right _ ?_
  refine List.mem_append_right _ ?_
  exact List.mem_append_left _ (List.mem_flatMap.mpr ⟨j, List.mem_range.mpr hj, hq⟩))
set_option maxHeartbeats 40000000 in
set_option maxRecDepth 100000 in
theorem di_X11_C6 {A : Nat → Prop} {a : Nat → Nat} {ac : Nat → ClassId} {σ : St × Rw × (St × (St × (St × (St)))) × (St) × (St) × (Nat → St) × (Nat → St) × (Nat → St × (St))} {i j : Nat} (hi : i < 8) (hj : j < 8) (hD : va_D A (dw_X11 a ac σ)) (e : a (0 + i * 20 + 167) = a (0 + j * 20 + 167)) : i = j := Classical.byContradiction fun c => nd_cr (nd_dm.mp hD).1 (i := 29 + i) (j := 29 + j) (by omega) (dx_X11_C6 hi) (dx_X11_C6 hj) _ (List.mem_of_getElem? (i := 0) rfl) _ (List.mem_of_getElem? (i := 0) rfl) e
set_option maxHeartbeats 40000000 in
set_option maxRecDepth 100000 in
theorem dl_X11_C6 {D : va_G} {H : Heap} {a : Nat → Nat} {ac : Nat → ClassId} {σ : St × Rw × (St × (St × (St × (St)))) × (St) × (St) × (Nat → St) × (Nat → St) × (Nat → St × (St))} {j : Nat} (hj : j < 8) (h : va_P D vwCl (dw_X11 a ac σ) H) : va_P D vwCl (dw_X6 (fun k => a (k + j * 20 + 167)) (fun k => ac (k + j * 20 + 167)) (σ.2.2.2.2.2.2.2 j)) H := by
  have h2 := nd_vp (segs := dg_X11 a ac σ) (ix := [29 + j]) (old := [dw_X6 (fun k => a (k + j * 20 + 167)) (fun k => ac (k + j * 20 + 167)) (σ.2.2.2.2.2.2.2 j)]) h (nd_co (dx_X11_C6 hj) rfl)
  simp only [List.flatten_cons, List.flatten_nil, List.append_nil] at h2
  exact h2
set_option maxHeartbeats 40000000 in
set_option maxRecDepth 100000 in
theorem dv_X11_C6 {a : Nat → Nat} {ac : Nat → ClassId} {σ : St × Rw × (St × (St × (St × (St)))) × (St) × (St) × (Nat → St) × (Nat → St) × (Nat → St × (St))} {j : Nat} (hj : j < 8) : ∃ (k : Nat) (vs : List Value), (dw_X11 a ac σ)[k]? = some (a (0 + j * 20 + 167), .inr (7, vs)) := by
  have h1 : (a (0 + j * 20 + 167), (.inr (7, [.ref (a (1 + j * 20 + 167)), .ref (a (2 + j * 20 + 167)), .ref (a (3 + j * 20 + 167)), .int (sI (σ.2.2.2.2.2.2.2 j).1 0), .ref (a (4 + j * 20 + 167)), .ref (a (5 + j * 20 + 167)), .ref (a (6 + j * 20 + 167)), .ref (a (7 + j * 20 + 167)), .ref (a (8 + j * 20 + 167)), .ref (a (9 + j * 20 + 167)), .int (sI (σ.2.2.2.2.2.2.2 j).1 1), .ref (a (10 + j * 20 + 167)), .int (sI (σ.2.2.2.2.2.2.2 j).1 2), .int (sI (σ.2.2.2.2.2.2.2 j).1 3), .int (sI (σ.2.2.2.2.2.2.2 j).1 4), .int (sI (σ.2.2.2.2.2.2.2 j).1 5), .int (sI (σ.2.2.2.2.2.2.2 j).1 6), .long (sL (σ.2.2.2.2.2.2.2 j).1 0), .long (sL (σ.2.2.2.2.2.2.2 j).1 1), .int (sI (σ.2.2.2.2.2.2.2 j).1 7)]) : va_E)) ∈ dw_X6 (fun k => a (k + j * 20 + 167)) (fun k => ac (k + j * 20 + 167)) (σ.2.2.2.2.2.2.2 j) := List.mem_of_getElem? (i := 0) rfl
  obtain ⟨k, hk⟩ := List.mem_iff_getElem?.mp (List.mem_flatten.mpr ⟨_, List.mem_of_getElem? (dx_X11_C6 (a := a) (ac := ac) (σ := σ) hj), h1⟩)
  exact ⟨k, _, hk⟩

