def nd_ix (L : List Nat) (k : Nat) : Nat := L.getD k 0
def nd_cn {α : Type} (x : α) (f : Nat → α) (k : Nat) : α := match k with
  | 0 => x
  | k + 1 => f k
def nd_st0 : St := (fun _ => 0, fun _ => 0, fun _ _ => 0, fun _ _ => 0, fun _ => none)
def nd_fa {α : Type} (ty : FieldType) (f : Nat → Int32) (sp n : Nat) (x : Option α) : Option α := if ∀ i, i < n → fits ty (.int (f (sp + i))) = true then x else none
theorem nd_fa_e {α : Type} {ty : FieldType} {f : Nat → Int32} {sp n : Nat} {x : Option α} {r : α} (h : nd_fa ty f sp n x = some r) : (∀ i, i < n → fits ty (.int (f (sp + i))) = true) ∧ x = some r := by
  unfold nd_fa at h
  by_cases c : ∀ i, i < n → fits ty (.int (f (sp + i))) = true
  · rw [if_pos c] at h; exact ⟨c, h⟩
  · rw [if_neg c] at h; exact nomatch h
def nd_cp {α : Type} (sp dp n : Int32) (n0 n1 : Nat) (x : Option α) : Option α := if (¬ sp < 0) ∧ (¬ dp < 0) ∧ (¬ n < 0) ∧ sp.toNatClampNeg + n.toNatClampNeg ≤ n0 ∧ dp.toNatClampNeg + n.toNatClampNeg ≤ n1 then x else none
theorem nd_cp_e {α : Type} {sp dp n : Int32} {n0 n1 : Nat} {x : Option α} {r : α} (h : nd_cp sp dp n n0 n1 x = some r) : ((¬ sp < 0) ∧ (¬ dp < 0) ∧ (¬ n < 0) ∧ sp.toNatClampNeg + n.toNatClampNeg ≤ n0 ∧ dp.toNatClampNeg + n.toNatClampNeg ≤ n1) ∧ x = some r := by
  unfold nd_cp at h
  by_cases c : (¬ sp < 0) ∧ (¬ dp < 0) ∧ (¬ n < 0) ∧ sp.toNatClampNeg + n.toNatClampNeg ≤ n0 ∧ dp.toNatClampNeg + n.toNatClampNeg ≤ n1
  · rw [if_pos c] at h; exact ⟨c, h⟩
  · rw [if_neg c] at h; exact nomatch h
def nd_fl (n : Nat) (v : Int32) (f : Nat → Int32) : Nat → Int32 := fun j => if j < n then v else f j
theorem nd_c1 {D : va_G} {cl : List vw_C} {w : va_W} {H : Heap} {k : Nat} {q : Nat × va_E} (h : va_P D cl w H) (e : w[k]? = some q) : va_P D cl [q] H := fun j x hx => by
  rcases j with _ | j
  · obtain rfl : q = x := Option.some.inj hx
    exact h k q e
  · exact nomatch (show (none : Option (Nat × va_E)) = some x from hx)
theorem nd_cd {A : Nat → Prop} {w : va_W} {k : Nat} {q : Nat × va_E} (h : va_D A w) (e : w[k]? = some q) : va_D A [q] := by
  constructor
  · intro i j x y hi hj _
    rcases i with _ | i
    · rcases j with _ | j
      · rfl
      · exact nomatch (show (none : Option (Nat × va_E)) = some y from hj)
    · exact nomatch (show (none : Option (Nat × va_E)) = some x from hi)
  · intro j x hx
    rcases j with _ | j
    · obtain rfl : q = x := Option.some.inj hx
      exact h.2 k q e
    · exact nomatch (show (none : Option (Nat × va_E)) = some x from hx)
theorem nd_cs {A : Nat → Prop} {D : va_G} {cl : List vw_C} {w : va_W} {H H1 : Heap} {k b : Nat} {e0 e1 : va_E} (hP : va_P D cl w H) (hD : va_D A w) (e : w[k]? = some (b, e0)) (hk : ∀ q : Nat, q < H.size → ¬ va_A [(b, e0)] H.size q → H1[q]? = H[q]?) (h1 : va_P D cl [(b, e1)] H1) : va_P D cl (w.set k (b, e1)) H1 := fun j x hx => by
  by_cases c : j = k
  · subst c
    have hl := (List.getElem?_eq_some_iff.mp e).1
    rw [List.getElem?_set_self hl] at hx
    obtain rfl : (b, e1) = x := Option.some.inj hx
    exact h1 0 _ rfl
  · rw [List.getElem?_set_ne (Ne.symm c)] at hx
    refine (hP j x hx).kept (hk x.1 (hP j x hx).lt (fun h => ?_))
    rcases h with ⟨i, z, h⟩ | h
    · rcases i with _ | i
      · obtain h9 : (b, e0) = (x.1, z) := Option.some.inj h
        exact c (hD.1 j k x (b, e0) hx e (congrArg Prod.fst h9).symm)
      · exact nomatch (show (none : Option (Nat × va_E)) = some (x.1, z) from h)
    · exact absurd (hP j x hx).lt (Nat.not_lt.mpr h)
theorem nd_fl0 {v : Int32} {f : Nat → Int32} : nd_fl 0 v f = f := funext fun j => if_neg (Nat.not_lt_zero j)
theorem nd_fl1 {n : Nat} {v : Int32} {f : Nat → Int32} : upd (nd_fl n v f) n v = nd_fl (n + 1) v f := by
  funext j
  unfold upd nd_fl
  by_cases c : j = n
  · rw [if_pos c, if_pos (by omega)]
  · rw [if_neg c]
    by_cases d : j < n
    · rw [if_pos d, if_pos (by omega)]
    · rw [if_neg d, if_neg (by omega)]
def dw_X19 (a : Nat → Nat) (ac : Nat → ClassId) (σ : St × (St) × (St × (St × (St))) × (St) × (St)) : va_W := ([(a 0, .inr (20, [.int (sI σ.1 0), .ref (a 92), .int (sI σ.1 1), .int (sI σ.1 2), .ref (a 1), .ref (a 2), .ref (a 3), .ref (a 4), .ref (a 5), .ref (a 26), va_rf (Option.map a (sO σ.1 0)), .ref (a 80), .ref (a 15), .ref (a 44), .ref (a 27), .ref (a 86), .ref (a 93), .int (sI σ.1 3), .int (sI σ.1 4), .int (sI σ.1 5), .int (sI σ.1 6), .int (sI σ.1 7), .int (sI σ.1 8), .int (sI σ.1 9), .int (sI σ.1 10), .int (sI σ.1 11), .ref (a 6), .ref (a 7), .ref (a 8), .ref (a 9), .ref (a 10), .ref (a 11), .ref (a 12), .ref (a 13), .ref (a 14), .int (sI σ.1 12)])), (a 1, .inl (ac 1, 4, .inl (sR σ.1 0))), (a 2, .inl (ac 2, 4, .inl (sR σ.1 1))), (a 3, .inl (ac 3, 4, .inl (sR σ.1 2))), (a 4, .inl (ac 4, 4, .inl (sR σ.1 3))), (a 5, .inl (ac 5, 4, .inl (sR σ.1 4))), (a 6, .inl (ac 6, 2048, .inl (sR σ.1 5))), (a 7, .inl (ac 7, 2048, .inl (sR σ.1 6))), (a 8, .inl (ac 8, 2048, .inl (sR σ.1 7))), (a 9, .inl (ac 9, 2048, .inl (sR σ.1 8))), (a 10, .inl (ac 10, 2048, .inl (sR σ.1 9))), (a 11, .inl (ac 11, 2048, .inr (.inl (sQ σ.1 0)))), (a 12, .inl (ac 12, 2048, .inr (.inl (sQ σ.1 1)))), (a 13, .inl (ac 13, 2048, .inr (.inl (sQ σ.1 2)))), (a 14, .inl (ac 14, 32768, .inl (sR σ.1 10)))] : va_W) ++ (dw_X13 (fun k => a (k + 15)) (fun k => ac (k + 15)) σ.2.1 ++ (dw_X15 (fun k => a (k + 27)) (fun k => ac (k + 27)) σ.2.2.1 ++ (dw_X14 (fun k => a (k + 86)) (fun k => ac (k + 86)) σ.2.2.2.1 ++ (dw_X18 (fun k => a (k + 93)) (fun k => ac (k + 93)) σ.2.2.2.2))))
def dk_X19 (ac : Nat → ClassId) : List (ClassId × FieldType) := ([(ac 1, .boolean), (ac 2, .int), (ac 3, .int), (ac 4, .int), (ac 5, .int), (ac 6, .int), (ac 7, .int), (ac 8, .int), (ac 9, .int), (ac 10, .int), (ac 11, .long), (ac 12, .long), (ac 13, .long), (ac 14, .int)] : List (ClassId × FieldType)) ++ (dk_X13 (fun k => ac (k + 15)) ++ (dk_X15 (fun k => ac (k + 27)) ++ (dk_X14 (fun k => ac (k + 86)) ++ (dk_X18 (fun k => ac (k + 93))))))
set_option maxHeartbeats 40000000 in
set_option maxRecDepth 100000 in
theorem dp_X19_15 {D : va_G} {H : Heap} {a : Nat → Nat} {ac : Nat → ClassId} {σ : St × (St) × (St × (St × (St))) × (St) × (St)} (h : va_P D vwCl (dw_X19 a ac σ) H) : va_P D vwCl (dw_X13 (fun k => a (k + 15)) (fun k => ac (k + 15)) (σ.2.1)) H := (nd_pl (nd_pr h))
set_option maxHeartbeats 40000000 in
set_option maxRecDepth 100000 in
theorem dd_X19_15 {A : Nat → Prop} {a : Nat → Nat} {ac : Nat → ClassId} {σ : St × (St) × (St × (St × (St))) × (St) × (St)} (h : va_D A (dw_X19 a ac σ)) : va_D A (dw_X13 (fun k => a (k + 15)) (fun k => ac (k + 15)) (σ.2.1)) := (nd_dl (nd_dr h))
set_option maxHeartbeats 40000000 in
set_option maxRecDepth 100000 in
theorem dy_X19_15 {D : va_G} {U : State} {ac : Nat → ClassId} (h : va_K D vwCl (dk_X19 ac) U) : va_K D vwCl (dk_X13 (fun k => ac (k + 15))) U := (nd_yl (nd_yr h))
set_option maxHeartbeats 40000000 in
set_option maxRecDepth 100000 in
theorem dn_X19_15 {A0 : Nat → Prop} {D : va_G} {H H1 : Heap} {a : Nat → Nat} {ac : Nat → ClassId} {σ : St × (St) × (St × (St × (St))) × (St) × (St)} {τ : St} (hP : va_P D vwCl (dw_X19 a ac σ) H) (hD : va_D A0 (dw_X19 a ac σ)) (hA : ∀ q : Nat, H.size ≤ q → A0 q) (hk : ∀ q : Nat, q < H.size → ¬ va_A (dw_X13 (fun k => a (k + 15)) (fun k => ac (k + 15)) (σ.2.1)) H.size q → H1[q]? = H[q]?) (h1 : va_P D vwCl (dw_X13 (fun k => a (k + 15)) (fun k => ac (k + 15)) τ) H1) (h2 : va_D (va_A (dw_X13 (fun k => a (k + 15)) (fun k => ac (k + 15)) (σ.2.1)) H.size) (dw_X13 (fun k => a (k + 15)) (fun k => ac (k + 15)) τ)) : va_P D vwCl (dw_X19 a ac (σ.1, (τ, σ.2.2))) H1 ∧ va_D A0 (dw_X19 a ac (σ.1, (τ, σ.2.2))) := by
  obtain ⟨h1, h2, hk⟩ := nd_stepL (nd_pr hP) (nd_dr hD) hk h1 h2
  obtain ⟨h1, h2, hk⟩ := nd_stepR hP hD hk h1 h2
  exact ⟨h1, h2.weaken (fun k q _ h => nd_rq hD hA q.1 h)⟩
set_option maxHeartbeats 40000000 in
set_option maxRecDepth 100000 in
theorem dp_X19_27 {D : va_G} {H : Heap} {a : Nat → Nat} {ac : Nat → ClassId} {σ : St × (St) × (St × (St × (St))) × (St) × (St)} (h : va_P D vwCl (dw_X19 a ac σ) H) : va_P D vwCl (dw_X15 (fun k => a (k + 27)) (fun k => ac (k + 27)) (σ.2.2.1)) H := (nd_pl (nd_pr (nd_pr h)))
set_option maxHeartbeats 40000000 in
set_option maxRecDepth 100000 in
theorem dd_X19_27 {A : Nat → Prop} {a : Nat → Nat} {ac : Nat → ClassId} {σ : St × (St) × (St × (St × (St))) × (St) × (St)} (h : va_D A (dw_X19 a ac σ)) : va_D A (dw_X15 (fun k => a (k + 27)) (fun k => ac (k + 27)) (σ.2.2.1)) := (nd_dl (nd_dr (nd_dr h)))
set_option maxHeartbeats 40000000 in
set_option maxRecDepth 100000 in
theorem dy_X19_27 {D : va_G} {U : State} {ac : Nat → ClassId} (h : va_K D vwCl (dk_X19 ac) U) : va_K D vwCl (dk_X15 (fun k => ac (k + 27))) U := (nd_yl (nd_yr (nd_yr h)))
set_option maxHeartbeats 40000000 in
set_option maxRecDepth 100000 in
theorem dn_X19_27 {A0 : Nat → Prop} {D : va_G} {H H1 : Heap} {a : Nat → Nat} {ac : Nat → ClassId} {σ : St × (St) × (St × (St × (St))) × (St) × (St)} {τ : St × (St × (St))} (hP : va_P D vwCl (dw_X19 a ac σ) H) (hD : va_D A0 (dw_X19 a ac σ)) (hA : ∀ q : Nat, H.size ≤ q → A0 q) (hk : ∀ q : Nat, q < H.size → ¬ va_A (dw_X15 (fun k => a (k + 27)) (fun k => ac (k + 27)) (σ.2.2.1)) H.size q → H1[q]? = H[q]?) (h1 : va_P D vwCl (dw_X15 (fun k => a (k + 27)) (fun k => ac (k + 27)) τ) H1) (h2 : va_D (va_A (dw_X15 (fun k => a (k + 27)) (fun k => ac (k + 27)) (σ.2.2.1)) H.size) (dw_X15 (fun k => a (k + 27)) (fun k => ac (k + 27)) τ)) : va_P D vwCl (dw_X19 a ac (σ.1, (σ.2.1, (τ, σ.2.2.2)))) H1 ∧ va_D A0 (dw_X19 a ac (σ.1, (σ.2.1, (τ, σ.2.2.2)))) := by
  obtain ⟨h1, h2, hk⟩ := nd_stepL (nd_pr (nd_pr hP)) (nd_dr (nd_dr hD)) hk h1 h2
  obtain ⟨h1, h2, hk⟩ := nd_stepR (nd_pr hP) (nd_dr hD) hk h1 h2
  obtain ⟨h1, h2, hk⟩ := nd_stepR hP hD hk h1 h2
  exact ⟨h1, h2.weaken (fun k q _ h => nd_rq hD hA q.1 h)⟩
set_option maxHeartbeats 40000000 in
set_option maxRecDepth 100000 in
theorem dp_X19_44 {D : va_G} {H : Heap} {a : Nat → Nat} {ac : Nat → ClassId} {σ : St × (St) × (St × (St × (St))) × (St) × (St)} (h : va_P D vwCl (dw_X19 a ac σ) H) : va_P D vwCl (dw_X16 (fun k => a (k + 44)) (fun k => ac (k + 44)) (σ.2.2.1.2)) H := (nd_pr (nd_pl (nd_pr (nd_pr h))))
set_option maxHeartbeats 40000000 in
set_option maxRecDepth 100000 in
theorem dd_X19_44 {A : Nat → Prop} {a : Nat → Nat} {ac : Nat → ClassId} {σ : St × (St) × (St × (St × (St))) × (St) × (St)} (h : va_D A (dw_X19 a ac σ)) : va_D A (dw_X16 (fun k => a (k + 44)) (fun k => ac (k + 44)) (σ.2.2.1.2)) := (nd_dr (nd_dl (nd_dr (nd_dr h))))
set_option maxHeartbeats 40000000 in
set_option maxRecDepth 100000 in
theorem dy_X19_44 {D : va_G} {U : State} {ac : Nat → ClassId} (h : va_K D vwCl (dk_X19 ac) U) : va_K D vwCl (dk_X16 (fun k => ac (k + 44))) U := (nd_yr (nd_yl (nd_yr (nd_yr h))))
set_option maxHeartbeats 40000000 in
set_option maxRecDepth 100000 in
theorem dn_X19_44 {A0 : Nat → Prop} {D : va_G} {H H1 : Heap} {a : Nat → Nat} {ac : Nat → ClassId} {σ : St × (St) × (St × (St × (St))) × (St) × (St)} {τ : St × (St)} (hP : va_P D vwCl (dw_X19 a ac σ) H) (hD : va_D A0 (dw_X19 a ac σ)) (hA : ∀ q : Nat, H.size ≤ q → A0 q) (hk : ∀ q : Nat, q < H.size → ¬ va_A (dw_X16 (fun k => a (k + 44)) (fun k => ac (k + 44)) (σ.2.2.1.2)) H.size q → H1[q]? = H[q]?) (h1 : va_P D vwCl (dw_X16 (fun k => a (k + 44)) (fun k => ac (k + 44)) τ) H1) (h2 : va_D (va_A (dw_X16 (fun k => a (k + 44)) (fun k => ac (k + 44)) (σ.2.2.1.2)) H.size) (dw_X16 (fun k => a (k + 44)) (fun k => ac (k + 44)) τ)) : va_P D vwCl (dw_X19 a ac (σ.1, (σ.2.1, ((σ.2.2.1.1, τ), σ.2.2.2)))) H1 ∧ va_D A0 (dw_X19 a ac (σ.1, (σ.2.1, ((σ.2.2.1.1, τ), σ.2.2.2)))) := by
  obtain ⟨h1, h2, hk⟩ := nd_stepR (nd_pl (nd_pr (nd_pr hP))) (nd_dl (nd_dr (nd_dr hD))) hk h1 h2
  obtain ⟨h1, h2, hk⟩ := nd_stepL (nd_pr (nd_pr hP)) (nd_dr (nd_dr hD)) hk h1 h2
  obtain ⟨h1, h2, hk⟩ := nd_stepR (nd_pr hP) (nd_dr hD) hk h1 h2
  obtain ⟨h1, h2, hk⟩ := nd_stepR hP hD hk h1 h2
  exact ⟨h1, h2.weaken (fun k q _ h => nd_rq hD hA q.1 h)⟩
set_option maxHeartbeats 40000000 in
set_option maxRecDepth 100000 in
theorem dp_X19_80 {D : va_G} {H : Heap} {a : Nat → Nat} {ac : Nat → ClassId} {σ : St × (St) × (St × (St × (St))) × (St) × (St)} (h : va_P D vwCl (dw_X19 a ac σ) H) : va_P D vwCl (dw_X17 (fun k => a (k + 80)) (fun k => ac (k + 80)) (σ.2.2.1.2.2)) H := (nd_pr (nd_pr (nd_pl (nd_pr (nd_pr h)))))
set_option maxHeartbeats 40000000 in
set_option maxRecDepth 100000 in
theorem dd_X19_80 {A : Nat → Prop} {a : Nat → Nat} {ac : Nat → ClassId} {σ : St × (St) × (St × (St × (St))) × (St) × (St)} (h : va_D A (dw_X19 a ac σ)) : va_D A (dw_X17 (fun k => a (k + 80)) (fun k => ac (k + 80)) (σ.2.2.1.2.2)) := (nd_dr (nd_dr (nd_dl (nd_dr (nd_dr h)))))
set_option maxHeartbeats 40000000 in
set_option maxRecDepth 100000 in
theorem dy_X19_80 {D : va_G} {U : State} {ac : Nat → ClassId} (h : va_K D vwCl (dk_X19 ac) U) : va_K D vwCl (dk_X17 (fun k => ac (k + 80))) U := (nd_yr (nd_yr (nd_yl (nd_yr (nd_yr h)))))
set_option maxHeartbeats 40000000 in
set_option maxRecDepth 100000 in
theorem dn_X19_80 {A0 : Nat → Prop} {D : va_G} {H H1 : Heap} {a : Nat → Nat} {ac : Nat → ClassId} {σ : St × (St) × (St × (St × (St))) × (St) × (St)} {τ : St} (hP : va_P D vwCl (dw_X19 a ac σ) H) (hD : va_D A0 (dw_X19 a ac σ)) (hA : ∀ q : Nat, H.size ≤ q → A0 q) (hk : ∀ q : Nat, q < H.size → ¬ va_A (dw_X17 (fun k => a (k + 80)) (fun k => ac (k + 80)) (σ.2.2.1.2.2)) H.size q → H1[q]? = H[q]?) (h1 : va_P D vwCl (dw_X17 (fun k => a (k + 80)) (fun k => ac (k + 80)) τ) H1) (h2 : va_D (va_A (dw_X17 (fun k => a (k + 80)) (fun k => ac (k + 80)) (σ.2.2.1.2.2)) H.size) (dw_X17 (fun k => a (k + 80)) (fun k => ac (k + 80)) τ)) : va_P D vwCl (dw_X19 a ac (σ.1, (σ.2.1, ((σ.2.2.1.1, (σ.2.2.1.2.1, τ)), σ.2.2.2)))) H1 ∧ va_D A0 (dw_X19 a ac (σ.1, (σ.2.1, ((σ.2.2.1.1, (σ.2.2.1.2.1, τ)), σ.2.2.2)))) := by
  obtain ⟨h1, h2, hk⟩ := nd_stepR (nd_pr (nd_pl (nd_pr (nd_pr hP)))) (nd_dr (nd_dl (nd_dr (nd_dr hD)))) hk h1 h2
  obtain ⟨h1, h2, hk⟩ := nd_stepR (nd_pl (nd_pr (nd_pr hP))) (nd_dl (nd_dr (nd_dr hD))) hk h1 h2
  obtain ⟨h1, h2, hk⟩ := nd_stepL (nd_pr (nd_pr hP)) (nd_dr (nd_dr hD)) hk h1 h2
  obtain ⟨h1, h2, hk⟩ := nd_stepR (nd_pr hP) (nd_dr hD) hk h1 h2
  obtain ⟨h1, h2, hk⟩ := nd_stepR hP hD hk h1 h2
  exact ⟨h1, h2.weaken (fun k q _ h => nd_rq hD hA q.1 h)⟩
set_option maxHeartbeats 40000000 in
set_option maxRecDepth 100000 in
theorem dp_X19_86 {D : va_G} {H : Heap} {a : Nat → Nat} {ac : Nat → ClassId} {σ : St × (St) × (St × (St × (St))) × (St) × (St)} (h : va_P D vwCl (dw_X19 a ac σ) H) : va_P D vwCl (dw_X14 (fun k => a (k + 86)) (fun k => ac (k + 86)) (σ.2.2.2.1)) H := (nd_pl (nd_pr (nd_pr (nd_pr h))))
set_option maxHeartbeats 40000000 in
set_option maxRecDepth 100000 in
theorem dd_X19_86 {A : Nat → Prop} {a : Nat → Nat} {ac : Nat → ClassId} {σ : St × (St) × (St × (St × (St))) × (St) × (St)} (h : va_D A (dw_X19 a ac σ)) : va_D A (dw_X14 (fun k => a (k + 86)) (fun k => ac (k + 86)) (σ.2.2.2.1)) := (nd_dl (nd_dr (nd_dr (nd_dr h))))
set_option maxHeartbeats 40000000 in
set_option maxRecDepth 100000 in
theorem dy_X19_86 {D : va_G} {U : State} {ac : Nat → ClassId} (h : va_K D vwCl (dk_X19 ac) U) : va_K D vwCl (dk_X14 (fun k => ac (k + 86))) U := (nd_yl (nd_yr (nd_yr (nd_yr h))))
set_option maxHeartbeats 40000000 in
set_option maxRecDepth 100000 in
theorem dn_X19_86 {A0 : Nat → Prop} {D : va_G} {H H1 : Heap} {a : Nat → Nat} {ac : Nat → ClassId} {σ : St × (St) × (St × (St × (St))) × (St) × (St)} {τ : St} (hP : va_P D vwCl (dw_X19 a ac σ) H) (hD : va_D A0 (dw_X19 a ac σ)) (hA : ∀ q : Nat, H.size ≤ q → A0 q) (hk : ∀ q : Nat, q < H.size → ¬ va_A (dw_X14 (fun k => a (k + 86)) (fun k => ac (k + 86)) (σ.2.2.2.1)) H.size q → H1[q]? = H[q]?) (h1 : va_P D vwCl (dw_X14 (fun k => a (k + 86)) (fun k => ac (k + 86)) τ) H1) (h2 : va_D (va_A (dw_X14 (fun k => a (k + 86)) (fun k => ac (k + 86)) (σ.2.2.2.1)) H.size) (dw_X14 (fun k => a (k + 86)) (fun k => ac (k + 86)) τ)) : va_P D vwCl (dw_X19 a ac (σ.1, (σ.2.1, (σ.2.2.1, (τ, σ.2.2.2.2))))) H1 ∧ va_D A0 (dw_X19 a ac (σ.1, (σ.2.1, (σ.2.2.1, (τ, σ.2.2.2.2))))) := by
  obtain ⟨h1, h2, hk⟩ := nd_stepL (nd_pr (nd_pr (nd_pr hP))) (nd_dr (nd_dr (nd_dr hD))) hk h1 h2
  obtain ⟨h1, h2, hk⟩ := nd_stepR (nd_pr (nd_pr hP)) (nd_dr (nd_dr hD)) hk h1 h2
  obtain ⟨h1, h2, hk⟩ := nd_stepR (nd_pr hP) (nd_dr hD) hk h1 h2
  obtain ⟨h1, h2, hk⟩ := nd_stepR hP hD hk h1 h2
  exact ⟨h1, h2.weaken (fun k q _ h => nd_rq hD hA q.1 h)⟩
set_option maxHeartbeats 40000000 in
set_option maxRecDepth 100000 in
theorem dp_X19_93 {D : va_G} {H : Heap} {a : Nat → Nat} {ac : Nat → ClassId} {σ : St × (St) × (St × (St × (St))) × (St) × (St)} (h : va_P D vwCl (dw_X19 a ac σ) H) : va_P D vwCl (dw_X18 (fun k => a (k + 93)) (fun k => ac (k + 93)) (σ.2.2.2.2)) H := (nd_pr (nd_pr (nd_pr (nd_pr h))))
set_option maxHeartbeats 40000000 in
set_option maxRecDepth 100000 in
theorem dd_X19_93 {A : Nat → Prop} {a : Nat → Nat} {ac : Nat → ClassId} {σ : St × (St) × (St × (St × (St))) × (St) × (St)} (h : va_D A (dw_X19 a ac σ)) : va_D A (dw_X18 (fun k => a (k + 93)) (fun k => ac (k + 93)) (σ.2.2.2.2)) := (nd_dr (nd_dr (nd_dr (nd_dr h))))
set_option maxHeartbeats 40000000 in
set_option maxRecDepth 100000 in
theorem dy_X19_93 {D : va_G} {U : State} {ac : Nat → ClassId} (h : va_K D vwCl (dk_X19 ac) U) : va_K D vwCl (dk_X18 (fun k => ac (k + 93))) U := (nd_yr (nd_yr (nd_yr (nd_yr h))))
set_option maxHeartbeats 40000000 in
set_option maxRecDepth 100000 in
theorem dn_X19_93 {A0 : Nat → Prop} {D : va_G} {H H1 : Heap} {a : Nat → Nat} {ac : Nat → ClassId} {σ : St × (St) × (St × (St × (St))) × (St) × (St)} {τ : St} (hP : va_P D vwCl (dw_X19 a ac σ) H) (hD : va_D A0 (dw_X19 a ac σ)) (hA : ∀ q : Nat, H.size ≤ q → A0 q) (hk : ∀ q : Nat, q < H.size → ¬ va_A (dw_X18 (fun k => a (k + 93)) (fun k => ac (k + 93)) (σ.2.2.2.2)) H.size q → H1[q]? = H[q]?) (h1 : va_P D vwCl (dw_X18 (fun k => a (k + 93)) (fun k => ac (k + 93)) τ) H1) (h2 : va_D (va_A (dw_X18 (fun k => a (k + 93)) (fun k => ac (k + 93)) (σ.2.2.2.2)) H.size) (dw_X18 (fun k => a (k + 93)) (fun k => ac (k + 93)) τ)) : va_P D vwCl (dw_X19 a ac (σ.1, (σ.2.1, (σ.2.2.1, (σ.2.2.2.1, τ))))) H1 ∧ va_D A0 (dw_X19 a ac (σ.1, (σ.2.1, (σ.2.2.1, (σ.2.2.2.1, τ))))) := by
  obtain ⟨h1, h2, hk⟩ := nd_stepR (nd_pr (nd_pr (nd_pr hP))) (nd_dr (nd_dr (nd_dr hD))) hk h1 h2
  obtain ⟨h1, h2, hk⟩ := nd_stepR (nd_pr (nd_pr hP)) (nd_dr (nd_dr hD)) hk h1 h2
  obtain ⟨h1, h2, hk⟩ := nd_stepR (nd_pr hP) (nd_dr hD) hk h1 h2
  obtain ⟨h1, h2, hk⟩ := nd_stepR hP hD hk h1 h2
  exact ⟨h1, h2.weaken (fun k q _ h => nd_rq hD hA q.1 h)⟩
def dw_X5 (a : Nat → Nat) (ac : Nat → ClassId) (σ : St × (St × (St × (St)))) : va_W := ([(a 0, .inr (6, [.ref (a 4), .ref (a 14), .ref (a 8), .ref (a 11), .ref (a 3), va_rf (Option.map a (sO σ.1 0)), .ref (a 1), .ref (a 2)])), (a 1, .inl (ac 1, 16, .inl (sR σ.1 0))), (a 2, .inl (ac 2, 16, .inl (sR σ.1 1)))] : va_W) ++ (dw_X4 (fun k => a (k + 3)) (fun k => ac (k + 3)) σ.2)
def dk_X5 (ac : Nat → ClassId) : List (ClassId × FieldType) := ([(ac 1, .byte), (ac 2, .byte)] : List (ClassId × FieldType)) ++ (dk_X4 (fun k => ac (k + 3)))
set_option maxHeartbeats 40000000 in
set_option maxRecDepth 100000 in
theorem dp_X5_3 {D : va_G} {H : Heap} {a : Nat → Nat} {ac : Nat → ClassId} {σ : St × (St × (St × (St)))} (h : va_P D vwCl (dw_X5 a ac σ) H) : va_P D vwCl (dw_X4 (fun k => a (k + 3)) (fun k => ac (k + 3)) (σ.2)) H := (nd_pr h)
set_option maxHeartbeats 40000000 in
set_option maxRecDepth 100000 in
theorem dd_X5_3 {A : Nat → Prop} {a : Nat → Nat} {ac : Nat → ClassId} {σ : St × (St × (St × (St)))} (h : va_D A (dw_X5 a ac σ)) : va_D A (dw_X4 (fun k => a (k + 3)) (fun k => ac (k + 3)) (σ.2)) := (nd_dr h)
set_option maxHeartbeats 40000000 in
set_option maxRecDepth 100000 in
theorem dy_X5_3 {D : va_G} {U : State} {ac : Nat → ClassId} (h : va_K D vwCl (dk_X5 ac) U) : va_K D vwCl (dk_X4 (fun k => ac (k + 3))) U := (nd_yr h)
set_option maxHeartbeats 40000000 in
set_option maxRecDepth 100000 in
theorem dn_X5_3 {A0 : Nat → Prop} {D : va_G} {H H1 : Heap} {a : Nat → Nat} {ac : Nat → ClassId} {σ : St × (St × (St × (St)))} {τ : St × (St × (St))} (hP : va_P D vwCl (dw_X5 a ac σ) H) (hD : va_D A0 (dw_X5 a ac σ)) (hA : ∀ q : Nat, H.size ≤ q → A0 q) (hk : ∀ q : Nat, q < H.size → ¬ va_A (dw_X4 (fun k => a (k + 3)) (fun k => ac (k + 3)) (σ.2)) H.size q → H1[q]? = H[q]?) (h1 : va_P D vwCl (dw_X4 (fun k => a (k + 3)) (fun k => ac (k + 3)) τ) H1) (h2 : va_D (va_A (dw_X4 (fun k => a (k + 3)) (fun k => ac (k + 3)) (σ.2)) H.size) (dw_X4 (fun k => a (k + 3)) (fun k => ac (k + 3)) τ)) : va_P D vwCl (dw_X5 a ac (σ.1, τ)) H1 ∧ va_D A0 (dw_X5 a ac (σ.1, τ)) := by
  obtain ⟨h1, h2, hk⟩ := nd_stepR hP hD hk h1 h2
  exact ⟨h1, h2.weaken (fun k q _ h => nd_rq hD hA q.1 h)⟩
set_option maxHeartbeats 40000000 in
set_option maxRecDepth 100000 in
theorem dp_X5_4 {D : va_G} {H : Heap} {a : Nat → Nat} {ac : Nat → ClassId} {σ : St × (St × (St × (St)))} (h : va_P D vwCl (dw_X5 a ac σ) H) : va_P D vwCl (dw_X6 (fun k => a (k + 4)) (fun k => ac (k + 4)) (σ.2.2)) H := (nd_pr (nd_pr h))
set_option maxHeartbeats 40000000 in
set_option maxRecDepth 100000 in
theorem dd_X5_4 {A : Nat → Prop} {a : Nat → Nat} {ac : Nat → ClassId} {σ : St × (St × (St × (St)))} (h : va_D A (dw_X5 a ac σ)) : va_D A (dw_X6 (fun k => a (k + 4)) (fun k => ac (k + 4)) (σ.2.2)) := (nd_dr (nd_dr h))
set_option maxHeartbeats 40000000 in
set_option maxRecDepth 100000 in
theorem dy_X5_4 {D : va_G} {U : State} {ac : Nat → ClassId} (h : va_K D vwCl (dk_X5 ac) U) : va_K D vwCl (dk_X6 (fun k => ac (k + 4))) U := (nd_yr (nd_yr h))
set_option maxHeartbeats 40000000 in
set_option maxRecDepth 100000 in
theorem dn_X5_4 {A0 : Nat → Prop} {D : va_G} {H H1 : Heap} {a : Nat → Nat} {ac : Nat → ClassId} {σ : St × (St × (St × (St)))} {τ : St × (St)} (hP : va_P D vwCl (dw_X5 a ac σ) H) (hD : va_D A0 (dw_X5 a ac σ)) (hA : ∀ q : Nat, H.size ≤ q → A0 q) (hk : ∀ q : Nat, q < H.size → ¬ va_A (dw_X6 (fun k => a (k + 4)) (fun k => ac (k + 4)) (σ.2.2)) H.size q → H1[q]? = H[q]?) (h1 : va_P D vwCl (dw_X6 (fun k => a (k + 4)) (fun k => ac (k + 4)) τ) H1) (h2 : va_D (va_A (dw_X6 (fun k => a (k + 4)) (fun k => ac (k + 4)) (σ.2.2)) H.size) (dw_X6 (fun k => a (k + 4)) (fun k => ac (k + 4)) τ)) : va_P D vwCl (dw_X5 a ac (σ.1, (σ.2.1, τ))) H1 ∧ va_D A0 (dw_X5 a ac (σ.1, (σ.2.1, τ))) := by
  obtain ⟨h1, h2, hk⟩ := nd_stepR (nd_pr hP) (nd_dr hD) hk h1 h2
  obtain ⟨h1, h2, hk⟩ := nd_stepR hP hD hk h1 h2
  exact ⟨h1, h2.weaken (fun k q _ h => nd_rq hD hA q.1 h)⟩
set_option maxHeartbeats 40000000 in
set_option maxRecDepth 100000 in
theorem dp_X5_14 {D : va_G} {H : Heap} {a : Nat → Nat} {ac : Nat → ClassId} {σ : St × (St × (St × (St)))} (h : va_P D vwCl (dw_X5 a ac σ) H) : va_P D vwCl (dw_X10 (fun k => a (k + 14)) (fun k => ac (k + 14)) (σ.2.2.2)) H := (nd_pr (nd_pr (nd_pr h)))
set_option maxHeartbeats 40000000 in
set_option maxRecDepth 100000 in
theorem dd_X5_14 {A : Nat → Prop} {a : Nat → Nat} {ac : Nat → ClassId} {σ : St × (St × (St × (St)))} (h : va_D A (dw_X5 a ac σ)) : va_D A (dw_X10 (fun k => a (k + 14)) (fun k => ac (k + 14)) (σ.2.2.2)) := (nd_dr (nd_dr (nd_dr h)))
set_option maxHeartbeats 40000000 in
set_option maxRecDepth 100000 in
theorem dy_X5_14 {D : va_G} {U : State} {ac : Nat → ClassId} (h : va_K D vwCl (dk_X5 ac) U) : va_K D vwCl (dk_X10 (fun k => ac (k + 14))) U := (nd_yr (nd_yr (nd_yr h)))
set_option maxHeartbeats 40000000 in
set_option maxRecDepth 100000 in
theorem dn_X5_14 {A0 : Nat → Prop} {D : va_G} {H H1 : Heap} {a : Nat → Nat} {ac : Nat → ClassId} {σ : St × (St × (St × (St)))} {τ : St} (hP : va_P D vwCl (dw_X5 a ac σ) H) (hD : va_D A0 (dw_X5 a ac σ)) (hA : ∀ q : Nat, H.size ≤ q → A0 q) (hk : ∀ q : Nat, q < H.size → ¬ va_A (dw_X10 (fun k => a (k + 14)) (fun k => ac (k + 14)) (σ.2.2.2)) H.size q → H1[q]? = H[q]?) (h1 : va_P D vwCl (dw_X10 (fun k => a (k + 14)) (fun k => ac (k + 14)) τ) H1) (h2 : va_D (va_A (dw_X10 (fun k => a (k + 14)) (fun k => ac (k + 14)) (σ.2.2.2)) H.size) (dw_X10 (fun k => a (k + 14)) (fun k => ac (k + 14)) τ)) : va_P D vwCl (dw_X5 a ac (σ.1, (σ.2.1, (σ.2.2.1, τ)))) H1 ∧ va_D A0 (dw_X5 a ac (σ.1, (σ.2.1, (σ.2.2.1, τ)))) := by
  obtain ⟨h1, h2, hk⟩ := nd_stepR (nd_pr (nd_pr hP)) (nd_dr (nd_dr hD)) hk h1 h2
  obtain ⟨h1, h2, hk⟩ := nd_stepR (nd_pr hP) (nd_dr hD) hk h1 h2
  obtain ⟨h1, h2, hk⟩ := nd_stepR hP hD hk h1 h2
  exact ⟨h1, h2.weaken (fun k q _ h => nd_rq hD hA q.1 h)⟩
def dw_BY (a : Nat → Nat) (ac : Nat → ClassId) (σ : St) : va_W := ([(a 0, .inl (ac 0, 32768, .inl (sR σ 0)))] : va_W)
def dk_BY (ac : Nat → ClassId) : List (ClassId × FieldType) := ([(ac 0, .byte)] : List (ClassId × FieldType))
def dw_X2c (a : Nat → Nat) (ac : Nat → ClassId) (σ : St) : va_W := ([(a 0, .inr (3, [.ref (a 1), .ref (a 2), .int (sI σ 0), .ref (a 3), .int (sI σ 1), .ref (a 4), .ref (a 5), .ref (a 6), .ref (a 7), .ref (a 8), .int (sI σ 2), .int (sI σ 3), va_rf (sO σ 0), .int (sI σ 4), .int (sI σ 5), .int (sI σ 6), .int (sI σ 7), .long (sL σ 0), .int (sI σ 8), .int (sI σ 9)])), (a 1, .inl (ac 1, 160, .inl (sR σ 0))), (a 2, .inl (ac 2, 160, .inr (.inl (sQ σ 0)))), (a 3, .inl (ac 3, 41, .inr (.inl (sQ σ 1)))), (a 4, .inl (ac 4, 41, .inl (sR σ 1))), (a 5, .inl (ac 5, 41, .inl (sR σ 2))), (a 6, .inl (ac 6, 40, .inl (sR σ 3))), (a 7, .inl (ac 7, 40, .inl (sR σ 4))), (a 8, .inl (ac 8, 40, .inr (.inl (sQ σ 2))))] : va_W)
def dk_X2c (ac : Nat → ClassId) : List (ClassId × FieldType) := ([(ac 1, .int), (ac 2, .long), (ac 3, .long), (ac 4, .int), (ac 5, .int), (ac 6, .int), (ac 7, .int), (ac 8, .long)] : List (ClassId × FieldType))
def dw_X2s (a : Nat → Nat) (ac : Nat → ClassId) (σ : St × (St)) : va_W := ([(a 0, .inl (ac 0, 32768, .inl (sR σ.1 0)))] : va_W) ++ (dw_X2c (fun k => a (k + 1)) (fun k => ac (k + 1)) σ.2)
def dk_X2s (ac : Nat → ClassId) : List (ClassId × FieldType) := ([(ac 0, .byte)] : List (ClassId × FieldType)) ++ (dk_X2c (fun k => ac (k + 1)))
set_option maxHeartbeats 40000000 in
set_option maxRecDepth 100000 in
theorem dp_X2s_1 {D : va_G} {H : Heap} {a : Nat → Nat} {ac : Nat → ClassId} {σ : St × (St)} (h : va_P D vwCl (dw_X2s a ac σ) H) : va_P D vwCl (dw_X2c (fun k => a (k + 1)) (fun k => ac (k + 1)) (σ.2)) H := (nd_pr h)
set_option maxHeartbeats 40000000 in
set_option maxRecDepth 100000 in
theorem dd_X2s_1 {A : Nat → Prop} {a : Nat → Nat} {ac : Nat → ClassId} {σ : St × (St)} (h : va_D A (dw_X2s a ac σ)) : va_D A (dw_X2c (fun k => a (k + 1)) (fun k => ac (k + 1)) (σ.2)) := (nd_dr h)
set_option maxHeartbeats 40000000 in
set_option maxRecDepth 100000 in
theorem dy_X2s_1 {D : va_G} {U : State} {ac : Nat → ClassId} (h : va_K D vwCl (dk_X2s ac) U) : va_K D vwCl (dk_X2c (fun k => ac (k + 1))) U := (nd_yr h)
set_option maxHeartbeats 40000000 in
set_option maxRecDepth 100000 in
theorem dn_X2s_1 {A0 : Nat → Prop} {D : va_G} {H H1 : Heap} {a : Nat → Nat} {ac : Nat → ClassId} {σ : St × (St)} {τ : St} (hP : va_P D vwCl (dw_X2s a ac σ) H) (hD : va_D A0 (dw_X2s a ac σ)) (hA : ∀ q : Nat, H.size ≤ q → A0 q) (hk : ∀ q : Nat, q < H.size → ¬ va_A (dw_X2c (fun k => a (k + 1)) (fun k => ac (k + 1)) (σ.2)) H.size q → H1[q]? = H[q]?) (h1 : va_P D vwCl (dw_X2c (fun k => a (k + 1)) (fun k => ac (k + 1)) τ) H1) (h2 : va_D (va_A (dw_X2c (fun k => a (k + 1)) (fun k => ac (k + 1)) (σ.2)) H.size) (dw_X2c (fun k => a (k + 1)) (fun k => ac (k + 1)) τ)) : va_P D vwCl (dw_X2s a ac (σ.1, τ)) H1 ∧ va_D A0 (dw_X2s a ac (σ.1, τ)) := by
  obtain ⟨h1, h2, hk⟩ := nd_stepR hP hD hk h1 h2
  exact ⟨h1, h2.weaken (fun k q _ h => nd_rq hD hA q.1 h)⟩
def dw_X3c (a : Nat → Nat) (ac : Nat → ClassId) (σ : St) : va_W := ([(a 0, .inr (4, [.ref (a 1), .ref (a 2), .ref (a 3), .ref (a 4), .int (sI σ 0), .int (sI σ 1), va_rf (sO σ 0), .int (sI σ 2), .int (sI σ 3), .int (sI σ 4), .int (sI σ 5)])), (a 1, .inl (ac 1, 2048, .inl (sR σ 0))), (a 2, .inl (ac 2, 2048, .inr (.inl (sQ σ 0)))), (a 3, .inl (ac 3, 2048, .inr (.inl (sQ σ 1)))), (a 4, .inl (ac 4, 2048, .inl (sR σ 1)))] : va_W)
def dk_X3c (ac : Nat → ClassId) : List (ClassId × FieldType) := ([(ac 1, .int), (ac 2, .long), (ac 3, .long), (ac 4, .int)] : List (ClassId × FieldType))
def dw_X3s (a : Nat → Nat) (ac : Nat → ClassId) (σ : St × (St)) : va_W := ([(a 0, .inl (ac 0, 32768, .inl (sR σ.1 0)))] : va_W) ++ (dw_X3c (fun k => a (k + 1)) (fun k => ac (k + 1)) σ.2)
def dk_X3s (ac : Nat → ClassId) : List (ClassId × FieldType) := ([(ac 0, .byte)] : List (ClassId × FieldType)) ++ (dk_X3c (fun k => ac (k + 1)))
set_option maxHeartbeats 40000000 in
set_option maxRecDepth 100000 in
theorem dp_X3s_1 {D : va_G} {H : Heap} {a : Nat → Nat} {ac : Nat → ClassId} {σ : St × (St)} (h : va_P D vwCl (dw_X3s a ac σ) H) : va_P D vwCl (dw_X3c (fun k => a (k + 1)) (fun k => ac (k + 1)) (σ.2)) H := (nd_pr h)
set_option maxHeartbeats 40000000 in
set_option maxRecDepth 100000 in
theorem dd_X3s_1 {A : Nat → Prop} {a : Nat → Nat} {ac : Nat → ClassId} {σ : St × (St)} (h : va_D A (dw_X3s a ac σ)) : va_D A (dw_X3c (fun k => a (k + 1)) (fun k => ac (k + 1)) (σ.2)) := (nd_dr h)
set_option maxHeartbeats 40000000 in
set_option maxRecDepth 100000 in
theorem dy_X3s_1 {D : va_G} {U : State} {ac : Nat → ClassId} (h : va_K D vwCl (dk_X3s ac) U) : va_K D vwCl (dk_X3c (fun k => ac (k + 1))) U := (nd_yr h)
set_option maxHeartbeats 40000000 in
set_option maxRecDepth 100000 in
theorem dn_X3s_1 {A0 : Nat → Prop} {D : va_G} {H H1 : Heap} {a : Nat → Nat} {ac : Nat → ClassId} {σ : St × (St)} {τ : St} (hP : va_P D vwCl (dw_X3s a ac σ) H) (hD : va_D A0 (dw_X3s a ac σ)) (hA : ∀ q : Nat, H.size ≤ q → A0 q) (hk : ∀ q : Nat, q < H.size → ¬ va_A (dw_X3c (fun k => a (k + 1)) (fun k => ac (k + 1)) (σ.2)) H.size q → H1[q]? = H[q]?) (h1 : va_P D vwCl (dw_X3c (fun k => a (k + 1)) (fun k => ac (k + 1)) τ) H1) (h2 : va_D (va_A (dw_X3c (fun k => a (k + 1)) (fun k => ac (k + 1)) (σ.2)) H.size) (dw_X3c (fun k => a (k + 1)) (fun k => ac (k + 1)) τ)) : va_P D vwCl (dw_X3s a ac (σ.1, τ)) H1 ∧ va_D A0 (dw_X3s a ac (σ.1, τ)) := by
  obtain ⟨h1, h2, hk⟩ := nd_stepR hP hD hk h1 h2
  exact ⟨h1, h2.weaken (fun k q _ h => nd_rq hD hA q.1 h)⟩
def dw_X13t (a : Nat → Nat) (ac : Nat → ClassId) (σ : St × (St)) : va_W := ([(a 0, .inl (ac 0, 32768, .inl (sR σ.1 0)))] : va_W) ++ (dw_X13 (fun k => a (k + 1)) (fun k => ac (k + 1)) σ.2)
def dk_X13t (ac : Nat → ClassId) : List (ClassId × FieldType) := ([(ac 0, .int)] : List (ClassId × FieldType)) ++ (dk_X13 (fun k => ac (k + 1)))
set_option maxHeartbeats 40000000 in
set_option maxRecDepth 100000 in
theorem dp_X13t_1 {D : va_G} {H : Heap} {a : Nat → Nat} {ac : Nat → ClassId} {σ : St × (St)} (h : va_P D vwCl (dw_X13t a ac σ) H) : va_P D vwCl (dw_X13 (fun k => a (k + 1)) (fun k => ac (k + 1)) (σ.2)) H := (nd_pr h)
set_option maxHeartbeats 40000000 in
set_option maxRecDepth 100000 in
theorem dd_X13t_1 {A : Nat → Prop} {a : Nat → Nat} {ac : Nat → ClassId} {σ : St × (St)} (h : va_D A (dw_X13t a ac σ)) : va_D A (dw_X13 (fun k => a (k + 1)) (fun k => ac (k + 1)) (σ.2)) := (nd_dr h)
set_option maxHeartbeats 40000000 in
set_option maxRecDepth 100000 in
theorem dy_X13t_1 {D : va_G} {U : State} {ac : Nat → ClassId} (h : va_K D vwCl (dk_X13t ac) U) : va_K D vwCl (dk_X13 (fun k => ac (k + 1))) U := (nd_yr h)
set_option maxHeartbeats 40000000 in
set_option maxRecDepth 100000 in
theorem dn_X13t_1 {A0 : Nat → Prop} {D : va_G} {H H1 : Heap} {a : Nat → Nat} {ac : Nat → ClassId} {σ : St × (St)} {τ : St} (hP : va_P D vwCl (dw_X13t a ac σ) H) (hD : va_D A0 (dw_X13t a ac σ)) (hA : ∀ q : Nat, H.size ≤ q → A0 q) (hk : ∀ q : Nat, q < H.size → ¬ va_A (dw_X13 (fun k => a (k + 1)) (fun k => ac (k + 1)) (σ.2)) H.size q → H1[q]? = H[q]?) (h1 : va_P D vwCl (dw_X13 (fun k => a (k + 1)) (fun k => ac (k + 1)) τ) H1) (h2 : va_D (va_A (dw_X13 (fun k => a (k + 1)) (fun k => ac (k + 1)) (σ.2)) H.size) (dw_X13 (fun k => a (k + 1)) (fun k => ac (k + 1)) τ)) : va_P D vwCl (dw_X13t a ac (σ.1, τ)) H1 ∧ va_D A0 (dw_X13t a ac (σ.1, τ)) := by
  obtain ⟨h1, h2, hk⟩ := nd_stepR hP hD hk h1 h2
  exact ⟨h1, h2.weaken (fun k q _ h => nd_rq hD hA q.1 h)⟩
def dw_X15t (a : Nat → Nat) (ac : Nat → ClassId) (σ : St × (St × (St × (St)))) : va_W := ([(a 0, .inl (ac 0, 32768, .inl (sR σ.1 0)))] : va_W) ++ (dw_X15 (fun k => a (k + 1)) (fun k => ac (k + 1)) σ.2)
def dk_X15t (ac : Nat → ClassId) : List (ClassId × FieldType) := ([(ac 0, .int)] : List (ClassId × FieldType)) ++ (dk_X15 (fun k => ac (k + 1)))
set_option maxHeartbeats 40000000 in
set_option maxRecDepth 100000 in
theorem dp_X15t_1 {D : va_G} {H : Heap} {a : Nat → Nat} {ac : Nat → ClassId} {σ : St × (St × (St × (St)))} (h : va_P D vwCl (dw_X15t a ac σ) H) : va_P D vwCl (dw_X15 (fun k => a (k + 1)) (fun k => ac (k + 1)) (σ.2)) H := (nd_pr h)
set_option maxHeartbeats 40000000 in
set_option maxRecDepth 100000 in
theorem dd_X15t_1 {A : Nat → Prop} {a : Nat → Nat} {ac : Nat → ClassId} {σ : St × (St × (St × (St)))} (h : va_D A (dw_X15t a ac σ)) : va_D A (dw_X15 (fun k => a (k + 1)) (fun k => ac (k + 1)) (σ.2)) := (nd_dr h)
set_option maxHeartbeats 40000000 in
set_option maxRecDepth 100000 in
theorem dy_X15t_1 {D : va_G} {U : State} {ac : Nat → ClassId} (h : va_K D vwCl (dk_X15t ac) U) : va_K D vwCl (dk_X15 (fun k => ac (k + 1))) U := (nd_yr h)
set_option maxHeartbeats 40000000 in
set_option maxRecDepth 100000 in
theorem dn_X15t_1 {A0 : Nat → Prop} {D : va_G} {H H1 : Heap} {a : Nat → Nat} {ac : Nat → ClassId} {σ : St × (St × (St × (St)))} {τ : St × (St × (St))} (hP : va_P D vwCl (dw_X15t a ac σ) H) (hD : va_D A0 (dw_X15t a ac σ)) (hA : ∀ q : Nat, H.size ≤ q → A0 q) (hk : ∀ q : Nat, q < H.size → ¬ va_A (dw_X15 (fun k => a (k + 1)) (fun k => ac (k + 1)) (σ.2)) H.size q → H1[q]? = H[q]?) (h1 : va_P D vwCl (dw_X15 (fun k => a (k + 1)) (fun k => ac (k + 1)) τ) H1) (h2 : va_D (va_A (dw_X15 (fun k => a (k + 1)) (fun k => ac (k + 1)) (σ.2)) H.size) (dw_X15 (fun k => a (k + 1)) (fun k => ac (k + 1)) τ)) : va_P D vwCl (dw_X15t a ac (σ.1, τ)) H1 ∧ va_D A0 (dw_X15t a ac (σ.1, τ)) := by
  obtain ⟨h1, h2, hk⟩ := nd_stepR hP hD hk h1 h2
  exact ⟨h1, h2.weaken (fun k q _ h => nd_rq hD hA q.1 h)⟩
set_option maxHeartbeats 40000000 in
set_option maxRecDepth 100000 in
theorem dp_X15t_18 {D : va_G} {H : Heap} {a : Nat → Nat} {ac : Nat → ClassId} {σ : St × (St × (St × (St)))} (h : va_P D vwCl (dw_X15t a ac σ) H) : va_P D vwCl (dw_X16 (fun k => a (k + 18)) (fun k => ac (k + 18)) (σ.2.2)) H := (nd_pr (nd_pr h))
set_option maxHeartbeats 40000000 in
set_option maxRecDepth 100000 in
theorem dd_X15t_18 {A : Nat → Prop} {a : Nat → Nat} {ac : Nat → ClassId} {σ : St × (St × (St × (St)))} (h : va_D A (dw_X15t a ac σ)) : va_D A (dw_X16 (fun k => a (k + 18)) (fun k => ac (k + 18)) (σ.2.2)) := (nd_dr (nd_dr h))
set_option maxHeartbeats 40000000 in
set_option maxRecDepth 100000 in
theorem dy_X15t_18 {D : va_G} {U : State} {ac : Nat → ClassId} (h : va_K D vwCl (dk_X15t ac) U) : va_K D vwCl (dk_X16 (fun k => ac (k + 18))) U := (nd_yr (nd_yr h))
set_option maxHeartbeats 40000000 in
set_option maxRecDepth 100000 in
theorem dn_X15t_18 {A0 : Nat → Prop} {D : va_G} {H H1 : Heap} {a : Nat → Nat} {ac : Nat → ClassId} {σ : St × (St × (St × (St)))} {τ : St × (St)} (hP : va_P D vwCl (dw_X15t a ac σ) H) (hD : va_D A0 (dw_X15t a ac σ)) (hA : ∀ q : Nat, H.size ≤ q → A0 q) (hk : ∀ q : Nat, q < H.size → ¬ va_A (dw_X16 (fun k => a (k + 18)) (fun k => ac (k + 18)) (σ.2.2)) H.size q → H1[q]? = H[q]?) (h1 : va_P D vwCl (dw_X16 (fun k => a (k + 18)) (fun k => ac (k + 18)) τ) H1) (h2 : va_D (va_A (dw_X16 (fun k => a (k + 18)) (fun k => ac (k + 18)) (σ.2.2)) H.size) (dw_X16 (fun k => a (k + 18)) (fun k => ac (k + 18)) τ)) : va_P D vwCl (dw_X15t a ac (σ.1, (σ.2.1, τ))) H1 ∧ va_D A0 (dw_X15t a ac (σ.1, (σ.2.1, τ))) := by
  obtain ⟨h1, h2, hk⟩ := nd_stepR (nd_pr hP) (nd_dr hD) hk h1 h2
  obtain ⟨h1, h2, hk⟩ := nd_stepR hP hD hk h1 h2
  exact ⟨h1, h2.weaken (fun k q _ h => nd_rq hD hA q.1 h)⟩
set_option maxHeartbeats 40000000 in
set_option maxRecDepth 100000 in
theorem dp_X15t_54 {D : va_G} {H : Heap} {a : Nat → Nat} {ac : Nat → ClassId} {σ : St × (St × (St × (St)))} (h : va_P D vwCl (dw_X15t a ac σ) H) : va_P D vwCl (dw_X17 (fun k => a (k + 54)) (fun k => ac (k + 54)) (σ.2.2.2)) H := (nd_pr (nd_pr (nd_pr h)))
set_option maxHeartbeats 40000000 in
set_option maxRecDepth 100000 in
theorem dd_X15t_54 {A : Nat → Prop} {a : Nat → Nat} {ac : Nat → ClassId} {σ : St × (St × (St × (St)))} (h : va_D A (dw_X15t a ac σ)) : va_D A (dw_X17 (fun k => a (k + 54)) (fun k => ac (k + 54)) (σ.2.2.2)) := (nd_dr (nd_dr (nd_dr h)))
set_option maxHeartbeats 40000000 in
set_option maxRecDepth 100000 in
theorem dy_X15t_54 {D : va_G} {U : State} {ac : Nat → ClassId} (h : va_K D vwCl (dk_X15t ac) U) : va_K D vwCl (dk_X17 (fun k => ac (k + 54))) U := (nd_yr (nd_yr (nd_yr h)))
set_option maxHeartbeats 40000000 in
set_option maxRecDepth 100000 in
theorem dn_X15t_54 {A0 : Nat → Prop} {D : va_G} {H H1 : Heap} {a : Nat → Nat} {ac : Nat → ClassId} {σ : St × (St × (St × (St)))} {τ : St} (hP : va_P D vwCl (dw_X15t a ac σ) H) (hD : va_D A0 (dw_X15t a ac σ)) (hA : ∀ q : Nat, H.size ≤ q → A0 q) (hk : ∀ q : Nat, q < H.size → ¬ va_A (dw_X17 (fun k => a (k + 54)) (fun k => ac (k + 54)) (σ.2.2.2)) H.size q → H1[q]? = H[q]?) (h1 : va_P D vwCl (dw_X17 (fun k => a (k + 54)) (fun k => ac (k + 54)) τ) H1) (h2 : va_D (va_A (dw_X17 (fun k => a (k + 54)) (fun k => ac (k + 54)) (σ.2.2.2)) H.size) (dw_X17 (fun k => a (k + 54)) (fun k => ac (k + 54)) τ)) : va_P D vwCl (dw_X15t a ac (σ.1, (σ.2.1, (σ.2.2.1, τ)))) H1 ∧ va_D A0 (dw_X15t a ac (σ.1, (σ.2.1, (σ.2.2.1, τ)))) := by
  obtain ⟨h1, h2, hk⟩ := nd_stepR (nd_pr (nd_pr hP)) (nd_dr (nd_dr hD)) hk h1 h2
  obtain ⟨h1, h2, hk⟩ := nd_stepR (nd_pr hP) (nd_dr hD) hk h1 h2
  obtain ⟨h1, h2, hk⟩ := nd_stepR hP hD hk h1 h2
  exact ⟨h1, h2.weaken (fun k q _ h => nd_rq hD hA q.1 h)⟩
def dw_X10n (a : Nat → Nat) (ac : Nat → ClassId) (σ : St × (St)) : va_W := ([(a 0, .inl (ac 0, 16, .inl (sR σ.1 0)))] : va_W) ++ (dw_X10 (fun k => a (k + 1)) (fun k => ac (k + 1)) σ.2)
def dk_X10n (ac : Nat → ClassId) : List (ClassId × FieldType) := ([(ac 0, .byte)] : List (ClassId × FieldType)) ++ (dk_X10 (fun k => ac (k + 1)))
set_option maxHeartbeats 40000000 in
set_option maxRecDepth 100000 in
theorem dp_X10n_1 {D : va_G} {H : Heap} {a : Nat → Nat} {ac : Nat → ClassId} {σ : St × (St)} (h : va_P D vwCl (dw_X10n a ac σ) H) : va_P D vwCl (dw_X10 (fun k => a (k + 1)) (fun k => ac (k + 1)) (σ.2)) H := (nd_pr h)
set_option maxHeartbeats 40000000 in
set_option maxRecDepth 100000 in
theorem dd_X10n_1 {A : Nat → Prop} {a : Nat → Nat} {ac : Nat → ClassId} {σ : St × (St)} (h : va_D A (dw_X10n a ac σ)) : va_D A (dw_X10 (fun k => a (k + 1)) (fun k => ac (k + 1)) (σ.2)) := (nd_dr h)
set_option maxHeartbeats 40000000 in
set_option maxRecDepth 100000 in
theorem dy_X10n_1 {D : va_G} {U : State} {ac : Nat → ClassId} (h : va_K D vwCl (dk_X10n ac) U) : va_K D vwCl (dk_X10 (fun k => ac (k + 1))) U := (nd_yr h)
set_option maxHeartbeats 40000000 in
set_option maxRecDepth 100000 in
theorem dn_X10n_1 {A0 : Nat → Prop} {D : va_G} {H H1 : Heap} {a : Nat → Nat} {ac : Nat → ClassId} {σ : St × (St)} {τ : St} (hP : va_P D vwCl (dw_X10n a ac σ) H) (hD : va_D A0 (dw_X10n a ac σ)) (hA : ∀ q : Nat, H.size ≤ q → A0 q) (hk : ∀ q : Nat, q < H.size → ¬ va_A (dw_X10 (fun k => a (k + 1)) (fun k => ac (k + 1)) (σ.2)) H.size q → H1[q]? = H[q]?) (h1 : va_P D vwCl (dw_X10 (fun k => a (k + 1)) (fun k => ac (k + 1)) τ) H1) (h2 : va_D (va_A (dw_X10 (fun k => a (k + 1)) (fun k => ac (k + 1)) (σ.2)) H.size) (dw_X10 (fun k => a (k + 1)) (fun k => ac (k + 1)) τ)) : va_P D vwCl (dw_X10n a ac (σ.1, τ)) H1 ∧ va_D A0 (dw_X10n a ac (σ.1, τ)) := by
  obtain ⟨h1, h2, hk⟩ := nd_stepR hP hD hk h1 h2
  exact ⟨h1, h2.weaken (fun k q _ h => nd_rq hD hA q.1 h)⟩
def dw_X10m (a : Nat → Nat) (ac : Nat → ClassId) (σ : St × (St) × (St)) : va_W := ([] : va_W) ++ (dw_X10 (fun k => a (k + 0)) (fun k => ac (k + 0)) σ.2.1 ++ (dw_X10 (fun k => a (k + 10)) (fun k => ac (k + 10)) σ.2.2))
def dk_X10m (ac : Nat → ClassId) : List (ClassId × FieldType) := ([] : List (ClassId × FieldType)) ++ (dk_X10 (fun k => ac (k + 0)) ++ (dk_X10 (fun k => ac (k + 10))))
set_option maxHeartbeats 40000000 in
set_option maxRecDepth 100000 in
theorem dp_X10m_0 {D : va_G} {H : Heap} {a : Nat → Nat} {ac : Nat → ClassId} {σ : St × (St) × (St)} (h : va_P D vwCl (dw_X10m a ac σ) H) : va_P D vwCl (dw_X10 (fun k => a (k + 0)) (fun k => ac (k + 0)) (σ.2.1)) H := (nd_pl (nd_pr h))
set_option maxHeartbeats 40000000 in
set_option maxRecDepth 100000 in
theorem dd_X10m_0 {A : Nat → Prop} {a : Nat → Nat} {ac : Nat → ClassId} {σ : St × (St) × (St)} (h : va_D A (dw_X10m a ac σ)) : va_D A (dw_X10 (fun k => a (k + 0)) (fun k => ac (k + 0)) (σ.2.1)) := (nd_dl (nd_dr h))
set_option maxHeartbeats 40000000 in
set_option maxRecDepth 100000 in
theorem dy_X10m_0 {D : va_G} {U : State} {ac : Nat → ClassId} (h : va_K D vwCl (dk_X10m ac) U) : va_K D vwCl (dk_X10 (fun k => ac (k + 0))) U := (nd_yl (nd_yr h))
set_option maxHeartbeats 40000000 in
set_option maxRecDepth 100000 in
theorem dn_X10m_0 {A0 : Nat → Prop} {D : va_G} {H H1 : Heap} {a : Nat → Nat} {ac : Nat → ClassId} {σ : St × (St) × (St)} {τ : St} (hP : va_P D vwCl (dw_X10m a ac σ) H) (hD : va_D A0 (dw_X10m a ac σ)) (hA : ∀ q : Nat, H.size ≤ q → A0 q) (hk : ∀ q : Nat, q < H.size → ¬ va_A (dw_X10 (fun k => a (k + 0)) (fun k => ac (k + 0)) (σ.2.1)) H.size q → H1[q]? = H[q]?) (h1 : va_P D vwCl (dw_X10 (fun k => a (k + 0)) (fun k => ac (k + 0)) τ) H1) (h2 : va_D (va_A (dw_X10 (fun k => a (k + 0)) (fun k => ac (k + 0)) (σ.2.1)) H.size) (dw_X10 (fun k => a (k + 0)) (fun k => ac (k + 0)) τ)) : va_P D vwCl (dw_X10m a ac (σ.1, (τ, σ.2.2))) H1 ∧ va_D A0 (dw_X10m a ac (σ.1, (τ, σ.2.2))) := by
  obtain ⟨h1, h2, hk⟩ := nd_stepL (nd_pr hP) (nd_dr hD) hk h1 h2
  obtain ⟨h1, h2, hk⟩ := nd_stepR hP hD hk h1 h2
  exact ⟨h1, h2.weaken (fun k q _ h => nd_rq hD hA q.1 h)⟩
set_option maxHeartbeats 40000000 in
set_option maxRecDepth 100000 in
theorem dp_X10m_10 {D : va_G} {H : Heap} {a : Nat → Nat} {ac : Nat → ClassId} {σ : St × (St) × (St)} (h : va_P D vwCl (dw_X10m a ac σ) H) : va_P D vwCl (dw_X10 (fun k => a (k + 10)) (fun k => ac (k + 10)) (σ.2.2)) H := (nd_pr (nd_pr h))
set_option maxHeartbeats 40000000 in
set_option maxRecDepth 100000 in
theorem dd_X10m_10 {A : Nat → Prop} {a : Nat → Nat} {ac : Nat → ClassId} {σ : St × (St) × (St)} (h : va_D A (dw_X10m a ac σ)) : va_D A (dw_X10 (fun k => a (k + 10)) (fun k => ac (k + 10)) (σ.2.2)) := (nd_dr (nd_dr h))
set_option maxHeartbeats 40000000 in
set_option maxRecDepth 100000 in
theorem dy_X10m_10 {D : va_G} {U : State} {ac : Nat → ClassId} (h : va_K D vwCl (dk_X10m ac) U) : va_K D vwCl (dk_X10 (fun k => ac (k + 10))) U := (nd_yr (nd_yr h))
set_option maxHeartbeats 40000000 in
set_option maxRecDepth 100000 in
theorem dn_X10m_10 {A0 : Nat → Prop} {D : va_G} {H H1 : Heap} {a : Nat → Nat} {ac : Nat → ClassId} {σ : St × (St) × (St)} {τ : St} (hP : va_P D vwCl (dw_X10m a ac σ) H) (hD : va_D A0 (dw_X10m a ac σ)) (hA : ∀ q : Nat, H.size ≤ q → A0 q) (hk : ∀ q : Nat, q < H.size → ¬ va_A (dw_X10 (fun k => a (k + 10)) (fun k => ac (k + 10)) (σ.2.2)) H.size q → H1[q]? = H[q]?) (h1 : va_P D vwCl (dw_X10 (fun k => a (k + 10)) (fun k => ac (k + 10)) τ) H1) (h2 : va_D (va_A (dw_X10 (fun k => a (k + 10)) (fun k => ac (k + 10)) (σ.2.2)) H.size) (dw_X10 (fun k => a (k + 10)) (fun k => ac (k + 10)) τ)) : va_P D vwCl (dw_X10m a ac (σ.1, (σ.2.1, τ))) H1 ∧ va_D A0 (dw_X10m a ac (σ.1, (σ.2.1, τ))) := by
  obtain ⟨h1, h2, hk⟩ := nd_stepR (nd_pr hP) (nd_dr hD) hk h1 h2
  obtain ⟨h1, h2, hk⟩ := nd_stepR hP hD hk h1 h2
  exact ⟨h1, h2.weaken (fun k q _ h => nd_rq hD hA q.1 h)⟩
def dw_X6m (a : Nat → Nat) (ac : Nat → ClassId) (σ : St × (St × (St)) × (St × (St))) : va_W := ([] : va_W) ++ (dw_X6 (fun k => a (k + 0)) (fun k => ac (k + 0)) σ.2.1 ++ (dw_X6 (fun k => a (k + 20)) (fun k => ac (k + 20)) σ.2.2))
def dk_X6m (ac : Nat → ClassId) : List (ClassId × FieldType) := ([] : List (ClassId × FieldType)) ++ (dk_X6 (fun k => ac (k + 0)) ++ (dk_X6 (fun k => ac (k + 20))))
set_option maxHeartbeats 40000000 in
set_option maxRecDepth 100000 in
theorem dp_X6m_0 {D : va_G} {H : Heap} {a : Nat → Nat} {ac : Nat → ClassId} {σ : St × (St × (St)) × (St × (St))} (h : va_P D vwCl (dw_X6m a ac σ) H) : va_P D vwCl (dw_X6 (fun k => a (k + 0)) (fun k => ac (k + 0)) (σ.2.1)) H := (nd_pl (nd_pr h))
set_option maxHeartbeats 40000000 in
set_option maxRecDepth 100000 in
theorem dd_X6m_0 {A : Nat → Prop} {a : Nat → Nat} {ac : Nat → ClassId} {σ : St × (St × (St)) × (St × (St))} (h : va_D A (dw_X6m a ac σ)) : va_D A (dw_X6 (fun k => a (k + 0)) (fun k => ac (k + 0)) (σ.2.1)) := (nd_dl (nd_dr h))
set_option maxHeartbeats 40000000 in
set_option maxRecDepth 100000 in
theorem dy_X6m_0 {D : va_G} {U : State} {ac : Nat → ClassId} (h : va_K D vwCl (dk_X6m ac) U) : va_K D vwCl (dk_X6 (fun k => ac (k + 0))) U := (nd_yl (nd_yr h))
set_option maxHeartbeats 40000000 in
set_option maxRecDepth 100000 in
theorem dn_X6m_0 {A0 : Nat → Prop} {D : va_G} {H H1 : Heap} {a : Nat → Nat} {ac : Nat → ClassId} {σ : St × (St × (St)) × (St × (St))} {τ : St × (St)} (hP : va_P D vwCl (dw_X6m a ac σ) H) (hD : va_D A0 (dw_X6m a ac σ)) (hA : ∀ q : Nat, H.size ≤ q → A0 q) (hk : ∀ q : Nat, q < H.size → ¬ va_A (dw_X6 (fun k => a (k + 0)) (fun k => ac (k + 0)) (σ.2.1)) H.size q → H1[q]? = H[q]?) (h1 : va_P D vwCl (dw_X6 (fun k => a (k + 0)) (fun k => ac (k + 0)) τ) H1) (h2 : va_D (va_A (dw_X6 (fun k => a (k + 0)) (fun k => ac (k + 0)) (σ.2.1)) H.size) (dw_X6 (fun k => a (k + 0)) (fun k => ac (k + 0)) τ)) : va_P D vwCl (dw_X6m a ac (σ.1, (τ, σ.2.2))) H1 ∧ va_D A0 (dw_X6m a ac (σ.1, (τ, σ.2.2))) := by
  obtain ⟨h1, h2, hk⟩ := nd_stepL (nd_pr hP) (nd_dr hD) hk h1 h2
  obtain ⟨h1, h2, hk⟩ := nd_stepR hP hD hk h1 h2
  exact ⟨h1, h2.weaken (fun k q _ h => nd_rq hD hA q.1 h)⟩
set_option maxHeartbeats 40000000 in
set_option maxRecDepth 100000 in
theorem dp_X6m_10 {D : va_G} {H : Heap} {a : Nat → Nat} {ac : Nat → ClassId} {σ : St × (St × (St)) × (St × (St))} (h : va_P D vwCl (dw_X6m a ac σ) H) : va_P D vwCl (dw_X10 (fun k => a (k + 10)) (fun k => ac (k + 10)) (σ.2.1.2)) H := (nd_pr (nd_pl (nd_pr h)))
set_option maxHeartbeats 40000000 in
set_option maxRecDepth 100000 in
theorem dd_X6m_10 {A : Nat → Prop} {a : Nat → Nat} {ac : Nat → ClassId} {σ : St × (St × (St)) × (St × (St))} (h : va_D A (dw_X6m a ac σ)) : va_D A (dw_X10 (fun k => a (k + 10)) (fun k => ac (k + 10)) (σ.2.1.2)) := (nd_dr (nd_dl (nd_dr h)))
set_option maxHeartbeats 40000000 in
set_option maxRecDepth 100000 in
theorem dy_X6m_10 {D : va_G} {U : State} {ac : Nat → ClassId} (h : va_K D vwCl (dk_X6m ac) U) : va_K D vwCl (dk_X10 (fun k => ac (k + 10))) U := (nd_yr (nd_yl (nd_yr h)))
set_option maxHeartbeats 40000000 in
set_option maxRecDepth 100000 in
theorem dn_X6m_10 {A0 : Nat → Prop} {D : va_G} {H H1 : Heap} {a : Nat → Nat} {ac : Nat → ClassId} {σ : St × (St × (St)) × (St × (St))} {τ : St} (hP : va_P D vwCl (dw_X6m a ac σ) H) (hD : va_D A0 (dw_X6m a ac σ)) (hA : ∀ q : Nat, H.size ≤ q → A0 q) (hk : ∀ q : Nat, q < H.size → ¬ va_A (dw_X10 (fun k => a (k + 10)) (fun k => ac (k + 10)) (σ.2.1.2)) H.size q → H1[q]? = H[q]?) (h1 : va_P D vwCl (dw_X10 (fun k => a (k + 10)) (fun k => ac (k + 10)) τ) H1) (h2 : va_D (va_A (dw_X10 (fun k => a (k + 10)) (fun k => ac (k + 10)) (σ.2.1.2)) H.size) (dw_X10 (fun k => a (k + 10)) (fun k => ac (k + 10)) τ)) : va_P D vwCl (dw_X6m a ac (σ.1, ((σ.2.1.1, τ), σ.2.2))) H1 ∧ va_D A0 (dw_X6m a ac (σ.1, ((σ.2.1.1, τ), σ.2.2))) := by
  obtain ⟨h1, h2, hk⟩ := nd_stepR (nd_pl (nd_pr hP)) (nd_dl (nd_dr hD)) hk h1 h2
  obtain ⟨h1, h2, hk⟩ := nd_stepL (nd_pr hP) (nd_dr hD) hk h1 h2
  obtain ⟨h1, h2, hk⟩ := nd_stepR hP hD hk h1 h2
  exact ⟨h1, h2.weaken (fun k q _ h => nd_rq hD hA q.1 h)⟩
set_option maxHeartbeats 40000000 in
set_option maxRecDepth 100000 in
theorem dp_X6m_20 {D : va_G} {H : Heap} {a : Nat → Nat} {ac : Nat → ClassId} {σ : St × (St × (St)) × (St × (St))} (h : va_P D vwCl (dw_X6m a ac σ) H) : va_P D vwCl (dw_X6 (fun k => a (k + 20)) (fun k => ac (k + 20)) (σ.2.2)) H := (nd_pr (nd_pr h))
set_option maxHeartbeats 40000000 in
set_option maxRecDepth 100000 in
theorem dd_X6m_20 {A : Nat → Prop} {a : Nat → Nat} {ac : Nat → ClassId} {σ : St × (St × (St)) × (St × (St))} (h : va_D A (dw_X6m a ac σ)) : va_D A (dw_X6 (fun k => a (k + 20)) (fun k => ac (k + 20)) (σ.2.2)) := (nd_dr (nd_dr h))
set_option maxHeartbeats 40000000 in
set_option maxRecDepth 100000 in
theorem dy_X6m_20 {D : va_G} {U : State} {ac : Nat → ClassId} (h : va_K D vwCl (dk_X6m ac) U) : va_K D vwCl (dk_X6 (fun k => ac (k + 20))) U := (nd_yr (nd_yr h))
set_option maxHeartbeats 40000000 in
set_option maxRecDepth 100000 in
theorem dn_X6m_20 {A0 : Nat → Prop} {D : va_G} {H H1 : Heap} {a : Nat → Nat} {ac : Nat → ClassId} {σ : St × (St × (St)) × (St × (St))} {τ : St × (St)} (hP : va_P D vwCl (dw_X6m a ac σ) H) (hD : va_D A0 (dw_X6m a ac σ)) (hA : ∀ q : Nat, H.size ≤ q → A0 q) (hk : ∀ q : Nat, q < H.size → ¬ va_A (dw_X6 (fun k => a (k + 20)) (fun k => ac (k + 20)) (σ.2.2)) H.size q → H1[q]? = H[q]?) (h1 : va_P D vwCl (dw_X6 (fun k => a (k + 20)) (fun k => ac (k + 20)) τ) H1) (h2 : va_D (va_A (dw_X6 (fun k => a (k + 20)) (fun k => ac (k + 20)) (σ.2.2)) H.size) (dw_X6 (fun k => a (k + 20)) (fun k => ac (k + 20)) τ)) : va_P D vwCl (dw_X6m a ac (σ.1, (σ.2.1, τ))) H1 ∧ va_D A0 (dw_X6m a ac (σ.1, (σ.2.1, τ))) := by
  obtain ⟨h1, h2, hk⟩ := nd_stepR (nd_pr hP) (nd_dr hD) hk h1 h2
  obtain ⟨h1, h2, hk⟩ := nd_stepR hP hD hk h1 h2
  exact ⟨h1, h2.weaken (fun k q _ h => nd_rq hD hA q.1 h)⟩
set_option maxHeartbeats 40000000 in
set_option maxRecDepth 100000 in
theorem dp_X6m_30 {D : va_G} {H : Heap} {a : Nat → Nat} {ac : Nat → ClassId} {σ : St × (St × (St)) × (St × (St))} (h : va_P D vwCl (dw_X6m a ac σ) H) : va_P D vwCl (dw_X10 (fun k => a (k + 30)) (fun k => ac (k + 30)) (σ.2.2.2)) H := (nd_pr (nd_pr (nd_pr h)))
set_option maxHeartbeats 40000000 in
set_option maxRecDepth 100000 in
theorem dd_X6m_30 {A : Nat → Prop} {a : Nat → Nat} {ac : Nat → ClassId} {σ : St × (St × (St)) × (St × (St))} (h : va_D A (dw_X6m a ac σ)) : va_D A (dw_X10 (fun k => a (k + 30)) (fun k => ac (k + 30)) (σ.2.2.2)) := (nd_dr (nd_dr (nd_dr h)))
set_option maxHeartbeats 40000000 in
set_option maxRecDepth 100000 in
theorem dy_X6m_30 {D : va_G} {U : State} {ac : Nat → ClassId} (h : va_K D vwCl (dk_X6m ac) U) : va_K D vwCl (dk_X10 (fun k => ac (k + 30))) U := (nd_yr (nd_yr (nd_yr h)))
set_option maxHeartbeats 40000000 in
set_option maxRecDepth 100000 in
theorem dn_X6m_30 {A0 : Nat → Prop} {D : va_G} {H H1 : Heap} {a : Nat → Nat} {ac : Nat → ClassId} {σ : St × (St × (St)) × (St × (St))} {τ : St} (hP : va_P D vwCl (dw_X6m a ac σ) H) (hD : va_D A0 (dw_X6m a ac σ)) (hA : ∀ q : Nat, H.size ≤ q → A0 q) (hk : ∀ q : Nat, q < H.size → ¬ va_A (dw_X10 (fun k => a (k + 30)) (fun k => ac (k + 30)) (σ.2.2.2)) H.size q → H1[q]? = H[q]?) (h1 : va_P D vwCl (dw_X10 (fun k => a (k + 30)) (fun k => ac (k + 30)) τ) H1) (h2 : va_D (va_A (dw_X10 (fun k => a (k + 30)) (fun k => ac (k + 30)) (σ.2.2.2)) H.size) (dw_X10 (fun k => a (k + 30)) (fun k => ac (k + 30)) τ)) : va_P D vwCl (dw_X6m a ac (σ.1, (σ.2.1, (σ.2.2.1, τ)))) H1 ∧ va_D A0 (dw_X6m a ac (σ.1, (σ.2.1, (σ.2.2.1, τ)))) := by
  obtain ⟨h1, h2, hk⟩ := nd_stepR (nd_pr (nd_pr hP)) (nd_dr (nd_dr hD)) hk h1 h2
  obtain ⟨h1, h2, hk⟩ := nd_stepR (nd_pr hP) (nd_dr hD) hk h1 h2
  obtain ⟨h1, h2, hk⟩ := nd_stepR hP hD hk h1 h2
  exact ⟨h1, h2.weaken (fun k q _ h => nd_rq hD hA q.1 h)⟩
def dw_X6p (a : Nat → Nat) (ac : Nat → ClassId) (σ : St × (St × (St)) × (St)) : va_W := ([] : va_W) ++ (dw_X6 (fun k => a (k + 0)) (fun k => ac (k + 0)) σ.2.1 ++ (dw_X8 (fun k => a (k + 20)) (fun k => ac (k + 20)) σ.2.2))
def dk_X6p (ac : Nat → ClassId) : List (ClassId × FieldType) := ([] : List (ClassId × FieldType)) ++ (dk_X6 (fun k => ac (k + 0)) ++ (dk_X8 (fun k => ac (k + 20))))
set_option maxHeartbeats 40000000 in
set_option maxRecDepth 100000 in
theorem dp_X6p_0 {D : va_G} {H : Heap} {a : Nat → Nat} {ac : Nat → ClassId} {σ : St × (St × (St)) × (St)} (h : va_P D vwCl (dw_X6p a ac σ) H) : va_P D vwCl (dw_X6 (fun k => a (k + 0)) (fun k => ac (k + 0)) (σ.2.1)) H := (nd_pl (nd_pr h))
set_option maxHeartbeats 40000000 in
set_option maxRecDepth 100000 in
theorem dd_X6p_0 {A : Nat → Prop} {a : Nat → Nat} {ac : Nat → ClassId} {σ : St × (St × (St)) × (St)} (h : va_D A (dw_X6p a ac σ)) : va_D A (dw_X6 (fun k => a (k + 0)) (fun k => ac (k + 0)) (σ.2.1)) := (nd_dl (nd_dr h))
set_option maxHeartbeats 40000000 in
set_option maxRecDepth 100000 in
theorem dy_X6p_0 {D : va_G} {U : State} {ac : Nat → ClassId} (h : va_K D vwCl (dk_X6p ac) U) : va_K D vwCl (dk_X6 (fun k => ac (k + 0))) U := (nd_yl (nd_yr h))
set_option maxHeartbeats 40000000 in
set_option maxRecDepth 100000 in
theorem dn_X6p_0 {A0 : Nat → Prop} {D : va_G} {H H1 : Heap} {a : Nat → Nat} {ac : Nat → ClassId} {σ : St × (St × (St)) × (St)} {τ : St × (St)} (hP : va_P D vwCl (dw_X6p a ac σ) H) (hD : va_D A0 (dw_X6p a ac σ)) (hA : ∀ q : Nat, H.size ≤ q → A0 q) (hk : ∀ q : Nat, q < H.size → ¬ va_A (dw_X6 (fun k => a (k + 0)) (fun k => ac (k + 0)) (σ.2.1)) H.size q → H1[q]? = H[q]?) (h1 : va_P D vwCl (dw_X6 (fun k => a (k + 0)) (fun k => ac (k + 0)) τ) H1) (h2 : va_D (va_A (dw_X6 (fun k => a (k + 0)) (fun k => ac (k + 0)) (σ.2.1)) H.size) (dw_X6 (fun k => a (k + 0)) (fun k => ac (k + 0)) τ)) : va_P D vwCl (dw_X6p a ac (σ.1, (τ, σ.2.2))) H1 ∧ va_D A0 (dw_X6p a ac (σ.1, (τ, σ.2.2))) := by
  obtain ⟨h1, h2, hk⟩ := nd_stepL (nd_pr hP) (nd_dr hD) hk h1 h2
  obtain ⟨h1, h2, hk⟩ := nd_stepR hP hD hk h1 h2
  exact ⟨h1, h2.weaken (fun k q _ h => nd_rq hD hA q.1 h)⟩
set_option maxHeartbeats 40000000 in
set_option maxRecDepth 100000 in
theorem dp_X6p_10 {D : va_G} {H : Heap} {a : Nat → Nat} {ac : Nat → ClassId} {σ : St × (St × (St)) × (St)} (h : va_P D vwCl (dw_X6p a ac σ) H) : va_P D vwCl (dw_X10 (fun k => a (k + 10)) (fun k => ac (k + 10)) (σ.2.1.2)) H := (nd_pr (nd_pl (nd_pr h)))
set_option maxHeartbeats 40000000 in
set_option maxRecDepth 100000 in
theorem dd_X6p_10 {A : Nat → Prop} {a : Nat → Nat} {ac : Nat → ClassId} {σ : St × (St × (St)) × (St)} (h : va_D A (dw_X6p a ac σ)) : va_D A (dw_X10 (fun k => a (k + 10)) (fun k => ac (k + 10)) (σ.2.1.2)) := (nd_dr (nd_dl (nd_dr h)))
set_option maxHeartbeats 40000000 in
set_option maxRecDepth 100000 in
theorem dy_X6p_10 {D : va_G} {U : State} {ac : Nat → ClassId} (h : va_K D vwCl (dk_X6p ac) U) : va_K D vwCl (dk_X10 (fun k => ac (k + 10))) U := (nd_yr (nd_yl (nd_yr h)))
set_option maxHeartbeats 40000000 in
set_option maxRecDepth 100000 in
theorem dn_X6p_10 {A0 : Nat → Prop} {D : va_G} {H H1 : Heap} {a : Nat → Nat} {ac : Nat → ClassId} {σ : St × (St × (St)) × (St)} {τ : St} (hP : va_P D vwCl (dw_X6p a ac σ) H) (hD : va_D A0 (dw_X6p a ac σ)) (hA : ∀ q : Nat, H.size ≤ q → A0 q) (hk : ∀ q : Nat, q < H.size → ¬ va_A (dw_X10 (fun k => a (k + 10)) (fun k => ac (k + 10)) (σ.2.1.2)) H.size q → H1[q]? = H[q]?) (h1 : va_P D vwCl (dw_X10 (fun k => a (k + 10)) (fun k => ac (k + 10)) τ) H1) (h2 : va_D (va_A (dw_X10 (fun k => a (k + 10)) (fun k => ac (k + 10)) (σ.2.1.2)) H.size) (dw_X10 (fun k => a (k + 10)) (fun k => ac (k + 10)) τ)) : va_P D vwCl (dw_X6p a ac (σ.1, ((σ.2.1.1, τ), σ.2.2))) H1 ∧ va_D A0 (dw_X6p a ac (σ.1, ((σ.2.1.1, τ), σ.2.2))) := by
  obtain ⟨h1, h2, hk⟩ := nd_stepR (nd_pl (nd_pr hP)) (nd_dl (nd_dr hD)) hk h1 h2
  obtain ⟨h1, h2, hk⟩ := nd_stepL (nd_pr hP) (nd_dr hD) hk h1 h2
  obtain ⟨h1, h2, hk⟩ := nd_stepR hP hD hk h1 h2
  exact ⟨h1, h2.weaken (fun k q _ h => nd_rq hD hA q.1 h)⟩
set_option maxHeartbeats 40000000 in
set_option maxRecDepth 100000 in
theorem dp_X6p_20 {D : va_G} {H : Heap} {a : Nat → Nat} {ac : Nat → ClassId} {σ : St × (St × (St)) × (St)} (h : va_P D vwCl (dw_X6p a ac σ) H) : va_P D vwCl (dw_X8 (fun k => a (k + 20)) (fun k => ac (k + 20)) (σ.2.2)) H := (nd_pr (nd_pr h))
set_option maxHeartbeats 40000000 in
set_option maxRecDepth 100000 in
theorem dd_X6p_20 {A : Nat → Prop} {a : Nat → Nat} {ac : Nat → ClassId} {σ : St × (St × (St)) × (St)} (h : va_D A (dw_X6p a ac σ)) : va_D A (dw_X8 (fun k => a (k + 20)) (fun k => ac (k + 20)) (σ.2.2)) := (nd_dr (nd_dr h))
set_option maxHeartbeats 40000000 in
set_option maxRecDepth 100000 in
theorem dy_X6p_20 {D : va_G} {U : State} {ac : Nat → ClassId} (h : va_K D vwCl (dk_X6p ac) U) : va_K D vwCl (dk_X8 (fun k => ac (k + 20))) U := (nd_yr (nd_yr h))
set_option maxHeartbeats 40000000 in
set_option maxRecDepth 100000 in
theorem dn_X6p_20 {A0 : Nat → Prop} {D : va_G} {H H1 : Heap} {a : Nat → Nat} {ac : Nat → ClassId} {σ : St × (St × (St)) × (St)} {τ : St} (hP : va_P D vwCl (dw_X6p a ac σ) H) (hD : va_D A0 (dw_X6p a ac σ)) (hA : ∀ q : Nat, H.size ≤ q → A0 q) (hk : ∀ q : Nat, q < H.size → ¬ va_A (dw_X8 (fun k => a (k + 20)) (fun k => ac (k + 20)) (σ.2.2)) H.size q → H1[q]? = H[q]?) (h1 : va_P D vwCl (dw_X8 (fun k => a (k + 20)) (fun k => ac (k + 20)) τ) H1) (h2 : va_D (va_A (dw_X8 (fun k => a (k + 20)) (fun k => ac (k + 20)) (σ.2.2)) H.size) (dw_X8 (fun k => a (k + 20)) (fun k => ac (k + 20)) τ)) : va_P D vwCl (dw_X6p a ac (σ.1, (σ.2.1, τ))) H1 ∧ va_D A0 (dw_X6p a ac (σ.1, (σ.2.1, τ))) := by
  obtain ⟨h1, h2, hk⟩ := nd_stepR (nd_pr hP) (nd_dr hD) hk h1 h2
  obtain ⟨h1, h2, hk⟩ := nd_stepR hP hD hk h1 h2
  exact ⟨h1, h2.weaken (fun k q _ h => nd_rq hD hA q.1 h)⟩
def dw_X1p (a : Nat → Nat) (ac : Nat → ClassId) (σ : St × (St × (St)) × (St)) : va_W := ([] : va_W) ++ (dw_X1 (fun k => a (k + 5)) (fun k => ac (k + 5)) σ.2.1 ++ (dw_X8 (fun k => a (k + 0)) (fun k => ac (k + 0)) σ.2.2))
def dk_X1p (ac : Nat → ClassId) : List (ClassId × FieldType) := ([] : List (ClassId × FieldType)) ++ (dk_X1 (fun k => ac (k + 5)) ++ (dk_X8 (fun k => ac (k + 0))))
set_option maxHeartbeats 40000000 in
set_option maxRecDepth 100000 in
theorem dp_X1p_5 {D : va_G} {H : Heap} {a : Nat → Nat} {ac : Nat → ClassId} {σ : St × (St × (St)) × (St)} (h : va_P D vwCl (dw_X1p a ac σ) H) : va_P D vwCl (dw_X1 (fun k => a (k + 5)) (fun k => ac (k + 5)) (σ.2.1)) H := (nd_pl (nd_pr h))
set_option maxHeartbeats 40000000 in
set_option maxRecDepth 100000 in
theorem dd_X1p_5 {A : Nat → Prop} {a : Nat → Nat} {ac : Nat → ClassId} {σ : St × (St × (St)) × (St)} (h : va_D A (dw_X1p a ac σ)) : va_D A (dw_X1 (fun k => a (k + 5)) (fun k => ac (k + 5)) (σ.2.1)) := (nd_dl (nd_dr h))
set_option maxHeartbeats 40000000 in
set_option maxRecDepth 100000 in
theorem dy_X1p_5 {D : va_G} {U : State} {ac : Nat → ClassId} (h : va_K D vwCl (dk_X1p ac) U) : va_K D vwCl (dk_X1 (fun k => ac (k + 5))) U := (nd_yl (nd_yr h))
set_option maxHeartbeats 40000000 in
set_option maxRecDepth 100000 in
theorem dn_X1p_5 {A0 : Nat → Prop} {D : va_G} {H H1 : Heap} {a : Nat → Nat} {ac : Nat → ClassId} {σ : St × (St × (St)) × (St)} {τ : St × (St)} (hP : va_P D vwCl (dw_X1p a ac σ) H) (hD : va_D A0 (dw_X1p a ac σ)) (hA : ∀ q : Nat, H.size ≤ q → A0 q) (hk : ∀ q : Nat, q < H.size → ¬ va_A (dw_X1 (fun k => a (k + 5)) (fun k => ac (k + 5)) (σ.2.1)) H.size q → H1[q]? = H[q]?) (h1 : va_P D vwCl (dw_X1 (fun k => a (k + 5)) (fun k => ac (k + 5)) τ) H1) (h2 : va_D (va_A (dw_X1 (fun k => a (k + 5)) (fun k => ac (k + 5)) (σ.2.1)) H.size) (dw_X1 (fun k => a (k + 5)) (fun k => ac (k + 5)) τ)) : va_P D vwCl (dw_X1p a ac (σ.1, (τ, σ.2.2))) H1 ∧ va_D A0 (dw_X1p a ac (σ.1, (τ, σ.2.2))) := by
  obtain ⟨h1, h2, hk⟩ := nd_stepL (nd_pr hP) (nd_dr hD) hk h1 h2
  obtain ⟨h1, h2, hk⟩ := nd_stepR hP hD hk h1 h2
  exact ⟨h1, h2.weaken (fun k q _ h => nd_rq hD hA q.1 h)⟩
set_option maxHeartbeats 40000000 in
set_option maxRecDepth 100000 in
theorem dp_X1p_8 {D : va_G} {H : Heap} {a : Nat → Nat} {ac : Nat → ClassId} {σ : St × (St × (St)) × (St)} (h : va_P D vwCl (dw_X1p a ac σ) H) : va_P D vwCl (dw_X9 (fun k => a (k + 8)) (fun k => ac (k + 8)) (σ.2.1.2)) H := (nd_pr (nd_pl (nd_pr h)))
set_option maxHeartbeats 40000000 in
set_option maxRecDepth 100000 in
theorem dd_X1p_8 {A : Nat → Prop} {a : Nat → Nat} {ac : Nat → ClassId} {σ : St × (St × (St)) × (St)} (h : va_D A (dw_X1p a ac σ)) : va_D A (dw_X9 (fun k => a (k + 8)) (fun k => ac (k + 8)) (σ.2.1.2)) := (nd_dr (nd_dl (nd_dr h)))
set_option maxHeartbeats 40000000 in
set_option maxRecDepth 100000 in
theorem dy_X1p_8 {D : va_G} {U : State} {ac : Nat → ClassId} (h : va_K D vwCl (dk_X1p ac) U) : va_K D vwCl (dk_X9 (fun k => ac (k + 8))) U := (nd_yr (nd_yl (nd_yr h)))
set_option maxHeartbeats 40000000 in
set_option maxRecDepth 100000 in
theorem dn_X1p_8 {A0 : Nat → Prop} {D : va_G} {H H1 : Heap} {a : Nat → Nat} {ac : Nat → ClassId} {σ : St × (St × (St)) × (St)} {τ : St} (hP : va_P D vwCl (dw_X1p a ac σ) H) (hD : va_D A0 (dw_X1p a ac σ)) (hA : ∀ q : Nat, H.size ≤ q → A0 q) (hk : ∀ q : Nat, q < H.size → ¬ va_A (dw_X9 (fun k => a (k + 8)) (fun k => ac (k + 8)) (σ.2.1.2)) H.size q → H1[q]? = H[q]?) (h1 : va_P D vwCl (dw_X9 (fun k => a (k + 8)) (fun k => ac (k + 8)) τ) H1) (h2 : va_D (va_A (dw_X9 (fun k => a (k + 8)) (fun k => ac (k + 8)) (σ.2.1.2)) H.size) (dw_X9 (fun k => a (k + 8)) (fun k => ac (k + 8)) τ)) : va_P D vwCl (dw_X1p a ac (σ.1, ((σ.2.1.1, τ), σ.2.2))) H1 ∧ va_D A0 (dw_X1p a ac (σ.1, ((σ.2.1.1, τ), σ.2.2))) := by
  obtain ⟨h1, h2, hk⟩ := nd_stepR (nd_pl (nd_pr hP)) (nd_dl (nd_dr hD)) hk h1 h2
  obtain ⟨h1, h2, hk⟩ := nd_stepL (nd_pr hP) (nd_dr hD) hk h1 h2
  obtain ⟨h1, h2, hk⟩ := nd_stepR hP hD hk h1 h2
  exact ⟨h1, h2.weaken (fun k q _ h => nd_rq hD hA q.1 h)⟩
set_option maxHeartbeats 40000000 in
set_option maxRecDepth 100000 in
theorem dp_X1p_0 {D : va_G} {H : Heap} {a : Nat → Nat} {ac : Nat → ClassId} {σ : St × (St × (St)) × (St)} (h : va_P D vwCl (dw_X1p a ac σ) H) : va_P D vwCl (dw_X8 (fun k => a (k + 0)) (fun k => ac (k + 0)) (σ.2.2)) H := (nd_pr (nd_pr h))
set_option maxHeartbeats 40000000 in
set_option maxRecDepth 100000 in
theorem dd_X1p_0 {A : Nat → Prop} {a : Nat → Nat} {ac : Nat → ClassId} {σ : St × (St × (St)) × (St)} (h : va_D A (dw_X1p a ac σ)) : va_D A (dw_X8 (fun k => a (k + 0)) (fun k => ac (k + 0)) (σ.2.2)) := (nd_dr (nd_dr h))
set_option maxHeartbeats 40000000 in
set_option maxRecDepth 100000 in
theorem dy_X1p_0 {D : va_G} {U : State} {ac : Nat → ClassId} (h : va_K D vwCl (dk_X1p ac) U) : va_K D vwCl (dk_X8 (fun k => ac (k + 0))) U := (nd_yr (nd_yr h))
set_option maxHeartbeats 40000000 in
set_option maxRecDepth 100000 in
theorem dn_X1p_0 {A0 : Nat → Prop} {D : va_G} {H H1 : Heap} {a : Nat → Nat} {ac : Nat → ClassId} {σ : St × (St × (St)) × (St)} {τ : St} (hP : va_P D vwCl (dw_X1p a ac σ) H) (hD : va_D A0 (dw_X1p a ac σ)) (hA : ∀ q : Nat, H.size ≤ q → A0 q) (hk : ∀ q : Nat, q < H.size → ¬ va_A (dw_X8 (fun k => a (k + 0)) (fun k => ac (k + 0)) (σ.2.2)) H.size q → H1[q]? = H[q]?) (h1 : va_P D vwCl (dw_X8 (fun k => a (k + 0)) (fun k => ac (k + 0)) τ) H1) (h2 : va_D (va_A (dw_X8 (fun k => a (k + 0)) (fun k => ac (k + 0)) (σ.2.2)) H.size) (dw_X8 (fun k => a (k + 0)) (fun k => ac (k + 0)) τ)) : va_P D vwCl (dw_X1p a ac (σ.1, (σ.2.1, τ))) H1 ∧ va_D A0 (dw_X1p a ac (σ.1, (σ.2.1, τ))) := by
  obtain ⟨h1, h2, hk⟩ := nd_stepR (nd_pr hP) (nd_dr hD) hk h1 h2
  obtain ⟨h1, h2, hk⟩ := nd_stepR hP hD hk h1 h2
  exact ⟨h1, h2.weaken (fun k q _ h => nd_rq hD hA q.1 h)⟩
def dw_X2m (a : Nat → Nat) (ac : Nat → ClassId) (σ : St × (St) × (St × (St))) : va_W := ([] : va_W) ++ (dw_X2c (fun k => a (k + 0)) (fun k => ac (k + 0)) σ.2.1 ++ (dw_X6 (fun k => a (k + 9)) (fun k => ac (k + 9)) σ.2.2))
def dk_X2m (ac : Nat → ClassId) : List (ClassId × FieldType) := ([] : List (ClassId × FieldType)) ++ (dk_X2c (fun k => ac (k + 0)) ++ (dk_X6 (fun k => ac (k + 9))))
set_option maxHeartbeats 40000000 in
set_option maxRecDepth 100000 in
theorem dp_X2m_0 {D : va_G} {H : Heap} {a : Nat → Nat} {ac : Nat → ClassId} {σ : St × (St) × (St × (St))} (h : va_P D vwCl (dw_X2m a ac σ) H) : va_P D vwCl (dw_X2c (fun k => a (k + 0)) (fun k => ac (k + 0)) (σ.2.1)) H := (nd_pl (nd_pr h))
set_option maxHeartbeats 40000000 in
set_option maxRecDepth 100000 in
theorem dd_X2m_0 {A : Nat → Prop} {a : Nat → Nat} {ac : Nat → ClassId} {σ : St × (St) × (St × (St))} (h : va_D A (dw_X2m a ac σ)) : va_D A (dw_X2c (fun k => a (k + 0)) (fun k => ac (k + 0)) (σ.2.1)) := (nd_dl (nd_dr h))
set_option maxHeartbeats 40000000 in
set_option maxRecDepth 100000 in
theorem dy_X2m_0 {D : va_G} {U : State} {ac : Nat → ClassId} (h : va_K D vwCl (dk_X2m ac) U) : va_K D vwCl (dk_X2c (fun k => ac (k + 0))) U := (nd_yl (nd_yr h))
set_option maxHeartbeats 40000000 in
set_option maxRecDepth 100000 in
theorem dn_X2m_0 {A0 : Nat → Prop} {D : va_G} {H H1 : Heap} {a : Nat → Nat} {ac : Nat → ClassId} {σ : St × (St) × (St × (St))} {τ : St} (hP : va_P D vwCl (dw_X2m a ac σ) H) (hD : va_D A0 (dw_X2m a ac σ)) (hA : ∀ q : Nat, H.size ≤ q → A0 q) (hk : ∀ q : Nat, q < H.size → ¬ va_A (dw_X2c (fun k => a (k + 0)) (fun k => ac (k + 0)) (σ.2.1)) H.size q → H1[q]? = H[q]?) (h1 : va_P D vwCl (dw_X2c (fun k => a (k + 0)) (fun k => ac (k + 0)) τ) H1) (h2 : va_D (va_A (dw_X2c (fun k => a (k + 0)) (fun k => ac (k + 0)) (σ.2.1)) H.size) (dw_X2c (fun k => a (k + 0)) (fun k => ac (k + 0)) τ)) : va_P D vwCl (dw_X2m a ac (σ.1, (τ, σ.2.2))) H1 ∧ va_D A0 (dw_X2m a ac (σ.1, (τ, σ.2.2))) := by
  obtain ⟨h1, h2, hk⟩ := nd_stepL (nd_pr hP) (nd_dr hD) hk h1 h2
  obtain ⟨h1, h2, hk⟩ := nd_stepR hP hD hk h1 h2
  exact ⟨h1, h2.weaken (fun k q _ h => nd_rq hD hA q.1 h)⟩
set_option maxHeartbeats 40000000 in
set_option maxRecDepth 100000 in
theorem dp_X2m_9 {D : va_G} {H : Heap} {a : Nat → Nat} {ac : Nat → ClassId} {σ : St × (St) × (St × (St))} (h : va_P D vwCl (dw_X2m a ac σ) H) : va_P D vwCl (dw_X6 (fun k => a (k + 9)) (fun k => ac (k + 9)) (σ.2.2)) H := (nd_pr (nd_pr h))
set_option maxHeartbeats 40000000 in
set_option maxRecDepth 100000 in
theorem dd_X2m_9 {A : Nat → Prop} {a : Nat → Nat} {ac : Nat → ClassId} {σ : St × (St) × (St × (St))} (h : va_D A (dw_X2m a ac σ)) : va_D A (dw_X6 (fun k => a (k + 9)) (fun k => ac (k + 9)) (σ.2.2)) := (nd_dr (nd_dr h))
set_option maxHeartbeats 40000000 in
set_option maxRecDepth 100000 in
theorem dy_X2m_9 {D : va_G} {U : State} {ac : Nat → ClassId} (h : va_K D vwCl (dk_X2m ac) U) : va_K D vwCl (dk_X6 (fun k => ac (k + 9))) U := (nd_yr (nd_yr h))
set_option maxHeartbeats 40000000 in
set_option maxRecDepth 100000 in
theorem dn_X2m_9 {A0 : Nat → Prop} {D : va_G} {H H1 : Heap} {a : Nat → Nat} {ac : Nat → ClassId} {σ : St × (St) × (St × (St))} {τ : St × (St)} (hP : va_P D vwCl (dw_X2m a ac σ) H) (hD : va_D A0 (dw_X2m a ac σ)) (hA : ∀ q : Nat, H.size ≤ q → A0 q) (hk : ∀ q : Nat, q < H.size → ¬ va_A (dw_X6 (fun k => a (k + 9)) (fun k => ac (k + 9)) (σ.2.2)) H.size q → H1[q]? = H[q]?) (h1 : va_P D vwCl (dw_X6 (fun k => a (k + 9)) (fun k => ac (k + 9)) τ) H1) (h2 : va_D (va_A (dw_X6 (fun k => a (k + 9)) (fun k => ac (k + 9)) (σ.2.2)) H.size) (dw_X6 (fun k => a (k + 9)) (fun k => ac (k + 9)) τ)) : va_P D vwCl (dw_X2m a ac (σ.1, (σ.2.1, τ))) H1 ∧ va_D A0 (dw_X2m a ac (σ.1, (σ.2.1, τ))) := by
  obtain ⟨h1, h2, hk⟩ := nd_stepR (nd_pr hP) (nd_dr hD) hk h1 h2
  obtain ⟨h1, h2, hk⟩ := nd_stepR hP hD hk h1 h2
  exact ⟨h1, h2.weaken (fun k q _ h => nd_rq hD hA q.1 h)⟩
set_option maxHeartbeats 40000000 in
set_option maxRecDepth 100000 in
theorem dp_X2m_19 {D : va_G} {H : Heap} {a : Nat → Nat} {ac : Nat → ClassId} {σ : St × (St) × (St × (St))} (h : va_P D vwCl (dw_X2m a ac σ) H) : va_P D vwCl (dw_X10 (fun k => a (k + 19)) (fun k => ac (k + 19)) (σ.2.2.2)) H := (nd_pr (nd_pr (nd_pr h)))
set_option maxHeartbeats 40000000 in
set_option maxRecDepth 100000 in
theorem dd_X2m_19 {A : Nat → Prop} {a : Nat → Nat} {ac : Nat → ClassId} {σ : St × (St) × (St × (St))} (h : va_D A (dw_X2m a ac σ)) : va_D A (dw_X10 (fun k => a (k + 19)) (fun k => ac (k + 19)) (σ.2.2.2)) := (nd_dr (nd_dr (nd_dr h)))
set_option maxHeartbeats 40000000 in
set_option maxRecDepth 100000 in
theorem dy_X2m_19 {D : va_G} {U : State} {ac : Nat → ClassId} (h : va_K D vwCl (dk_X2m ac) U) : va_K D vwCl (dk_X10 (fun k => ac (k + 19))) U := (nd_yr (nd_yr (nd_yr h)))
set_option maxHeartbeats 40000000 in
set_option maxRecDepth 100000 in
theorem dn_X2m_19 {A0 : Nat → Prop} {D : va_G} {H H1 : Heap} {a : Nat → Nat} {ac : Nat → ClassId} {σ : St × (St) × (St × (St))} {τ : St} (hP : va_P D vwCl (dw_X2m a ac σ) H) (hD : va_D A0 (dw_X2m a ac σ)) (hA : ∀ q : Nat, H.size ≤ q → A0 q) (hk : ∀ q : Nat, q < H.size → ¬ va_A (dw_X10 (fun k => a (k + 19)) (fun k => ac (k + 19)) (σ.2.2.2)) H.size q → H1[q]? = H[q]?) (h1 : va_P D vwCl (dw_X10 (fun k => a (k + 19)) (fun k => ac (k + 19)) τ) H1) (h2 : va_D (va_A (dw_X10 (fun k => a (k + 19)) (fun k => ac (k + 19)) (σ.2.2.2)) H.size) (dw_X10 (fun k => a (k + 19)) (fun k => ac (k + 19)) τ)) : va_P D vwCl (dw_X2m a ac (σ.1, (σ.2.1, (σ.2.2.1, τ)))) H1 ∧ va_D A0 (dw_X2m a ac (σ.1, (σ.2.1, (σ.2.2.1, τ)))) := by
  obtain ⟨h1, h2, hk⟩ := nd_stepR (nd_pr (nd_pr hP)) (nd_dr (nd_dr hD)) hk h1 h2
  obtain ⟨h1, h2, hk⟩ := nd_stepR (nd_pr hP) (nd_dr hD) hk h1 h2
  obtain ⟨h1, h2, hk⟩ := nd_stepR hP hD hk h1 h2
  exact ⟨h1, h2.weaken (fun k q _ h => nd_rq hD hA q.1 h)⟩

