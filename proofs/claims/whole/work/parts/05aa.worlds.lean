abbrev St : Type := (Nat → Int32) × (Nat → Int64) × (Nat → Nat → Int32) × (Nat → Nat → Int64) × (Nat → Option Nat)
def sI (σ : St) (k : Nat) : Int32 := σ.1 k
def sL (σ : St) (k : Nat) : Int64 := σ.2.1 k
def sR (σ : St) (k : Nat) : Nat → Int32 := σ.2.2.1 k
def sQ (σ : St) (k : Nat) : Nat → Int64 := σ.2.2.2.1 k
def sO (σ : St) (k : Nat) : Option Nat := σ.2.2.2.2 k
def pI (σ : St) (k : Nat) (v : Int32) : St := (fun j => if j = k then v else σ.1 j, σ.2)
def pL (σ : St) (k : Nat) (v : Int64) : St := (σ.1, fun j => if j = k then v else σ.2.1 j, σ.2.2)
def pR (σ : St) (k : Nat) (v : Nat → Int32) : St := (σ.1, σ.2.1, fun j => if j = k then v else σ.2.2.1 j, σ.2.2.2)
def pQ (σ : St) (k : Nat) (v : Nat → Int64) : St := (σ.1, σ.2.1, σ.2.2.1, fun j => if j = k then v else σ.2.2.2.1 j, σ.2.2.2.2)
def pO (σ : St) (k : Nat) (v : Option Nat) : St := (σ.1, σ.2.1, σ.2.2.1, σ.2.2.2.1, fun j => if j = k then v else σ.2.2.2.2 j)
def nd_ck {α : Type} (i : Int32) (n : Nat) (x : Option α) : Option α := if 0 ≤ i.toInt ∧ i.toInt < (n : Int) then x else none
theorem nd_ck_e {α : Type} {i : Int32} {n : Nat} {x : Option α} {r : α} (h : nd_ck i n x = some r) : vp_in i n ∧ x = some r := by
  unfold nd_ck at h
  by_cases c : 0 ≤ i.toInt ∧ i.toInt < (n : Int)
  · rw [if_pos c] at h; exact ⟨vp_in_iff.mpr c, h⟩
  · rw [if_neg c] at h; exact nomatch h
def nd_nz {α : Type} (b : Bool) (x : Option α) : Option α := if b = true then none else x
theorem nd_nz_e {α : Type} {p : Prop} {i : Decidable p} {x : Option α} {r : α} (h : nd_nz (@decide p i) x = some r) : (¬ p) ∧ x = some r := by
  unfold nd_nz at h
  by_cases c : p
  · rw [if_pos (decide_eq_true c)] at h; exact nomatch h
  · exact ⟨c, by rw [if_neg (fun h9 => c (of_decide_eq_true h9))] at h; exact h⟩
def nd_z {α : Type} (ty : FieldType) (v : Int32) (x : Option α) : Option α := if vp_nar ty v = v then x else none
theorem nd_z_e {α : Type} {ty : FieldType} {v : Int32} {x : Option α} {r : α} (hk : ∃ y, narrow ty (.int v) = .int y) (h : nd_z ty v x = some r) : narrow ty (.int v) = .int v ∧ x = some r := by
  unfold nd_z at h
  obtain ⟨y, hy⟩ := hk
  by_cases c : vp_nar ty v = v
  · rw [if_pos c] at h
    unfold vp_nar at c
    rw [hy] at c
    exact ⟨by rw [hy]; exact congrArg Value.int c, h⟩
  · rw [if_neg c] at h; exact nomatch h
def nd_o {α : Type} (o : Option Nat) (a : Nat) (x : Option α) : Option α := if o = some a then x else none
theorem nd_o_e {α : Type} {o : Option Nat} {a : Nat} {x : Option α} {r : α} (h : nd_o o a x = some r) : o = some a ∧ x = some r := by
  unfold nd_o at h
  by_cases c : o = some a
  · rw [if_pos c] at h; exact ⟨c, h⟩
  · rw [if_neg c] at h; exact nomatch h
def nd_let {α β : Type} (x : α) (k : α → Option β) : Option β := k x
theorem nd_let_e {α β : Type} {x : α} {k : α → Option β} {r : β} (h : nd_let x k = some r) : ∃ z : α, z = x ∧ k z = some r := ⟨x, rfl, h⟩
theorem nd_at {α β : Type} {x z : α} {k : α → Option β} {r : β} (h : nd_let x k = some r) (e : z = x) : k z = some r := by rw [e]; exact h
def nd_b1 {α β : Type} (x : Option α) (k : α → Option β) : Option β := x.bind k
theorem nd_b1_e {α β : Type} {x : Option α} {k : α → Option β} {r : β} (h : nd_b1 x k = some r) : ∃ z : α, x = some z ∧ k z = some r := Option.bind_eq_some_iff.mp h
def nd_b2 {α γ β : Type} (x : Option (α × γ)) (k : α → γ → Option β) : Option β := x.bind (fun q => k q.1 q.2)
theorem nd_b2_e {α γ β : Type} {x : Option (α × γ)} {k : α → γ → Option β} {r : β} (h : nd_b2 x k = some r) : ∃ (z : α) (w : γ), x = some (z, w) ∧ k z w = some r := by
  obtain ⟨⟨z, w⟩, h1, h2⟩ := Option.bind_eq_some_iff.mp h
  exact ⟨z, w, h1, h2⟩
theorem nd_pos {α : Type} {c : Prop} {i : Decidable c} {x y : Option α} {r : α} (h : @ite _ c i x y = some r) (hc : c) : x = some r := by rw [if_pos hc] at h; exact h
theorem nd_neg {α : Type} {c : Prop} {i : Decidable c} {x y : Option α} {r : α} (h : @ite _ c i x y = some r) (hc : ¬ c) : y = some r := by rw [if_neg hc] at h; exact h
/-- what stands while a method runs: its code, its words, its class, the arrays' classes -/
def nd_C (p : Program) (l : Launch) (s : State) (m : MethodId) (args : Array Value) (c : Code) (A : Nat → Prop) (D : va_G) (cc : ByteArray) (ml : Nat) (own : String) (ow : List Cond) (tys : List (ClassId × FieldType)) : Prop := l.stackTraces = false ∧ p.tables.exec = Jvm.exec ∧ c.code = cc ∧ c.maxLocals = ml ∧ s.vm.findClass own = some m.cls ∧ (∀ w ∈ ow, w.before args s = true) ∧ nv_E D.2 A s ∧ (∀ q : Nat, s.heap.size ≤ q → A q) ∧ va_K D vwCl tys s
theorem nd_rs {A0 : Nat → Prop} {H0 H : Heap} {locs : List Loc} {w : va_W} (hD : va_D A0 w) (hS : va_S A0 H0 H locs) (hA : ∀ q, H0.size ≤ q → A0 q) : ∀ q, va_A w H.size q → A0 q := fun q h => by
  rcases h with ⟨k, e, h⟩ | h
  · exact hD.2 k (q, e) h
  · exact hA q (Nat.le_trans hS.1 h)
theorem nd_rq {A0 : Nat → Prop} {z : Nat} {w : va_W} (hD : va_D A0 w) (hA : ∀ q, z ≤ q → A0 q) : ∀ q, va_A w z q → A0 q := fun q h => by
  rcases h with ⟨k, e, h⟩ | h
  · exact hD.2 k (q, e) h
  · exact hA q h
theorem nd_pr {D : va_G} {cl : List vw_C} {L M : va_W} {H : Heap} (h : va_P D cl (L ++ M) H) : va_P D cl M H := fun k q e => h (L.length + k) q (by rw [List.getElem?_append_right (Nat.le_add_right _ _), Nat.add_sub_cancel_left]; exact e)
theorem nd_pl {D : va_G} {cl : List vw_C} {L M : va_W} {H : Heap} (h : va_P D cl (L ++ M) H) : va_P D cl L H := fun k q e => h k q (by rw [List.getElem?_append_left (List.getElem?_eq_some_iff.mp e).1]; exact e)
theorem nd_dr {A : Nat → Prop} {L M : va_W} (h : va_D A (L ++ M)) : va_D A M := ⟨fun i j p q hi hj e => Nat.add_left_cancel (h.1 (L.length + i) (L.length + j) p q (by rw [List.getElem?_append_right (Nat.le_add_right _ _), Nat.add_sub_cancel_left]; exact hi) (by rw [List.getElem?_append_right (Nat.le_add_right _ _), Nat.add_sub_cancel_left]; exact hj) e), fun k q e => h.2 (L.length + k) q (by rw [List.getElem?_append_right (Nat.le_add_right _ _), Nat.add_sub_cancel_left]; exact e)⟩
theorem nd_dl {A : Nat → Prop} {L M : va_W} (h : va_D A (L ++ M)) : va_D A L := ⟨fun i j p q hi hj e => h.1 i j p q (by rw [List.getElem?_append_left (List.getElem?_eq_some_iff.mp hi).1]; exact hi) (by rw [List.getElem?_append_left (List.getElem?_eq_some_iff.mp hj).1]; exact hj) e, fun k q e => h.2 k q (by rw [List.getElem?_append_left (List.getElem?_eq_some_iff.mp e).1]; exact e)⟩
theorem nd_yr {D : va_G} {cl : List vw_C} {L M : List (ClassId × FieldType)} {U : State} (h : va_K D cl (L ++ M) U) : va_K D cl M U := ⟨h.1, fun k q e => h.2 (L.length + k) q (by rw [List.getElem?_append_right (Nat.le_add_right _ _), Nat.add_sub_cancel_left]; exact e)⟩
theorem nd_yl {D : va_G} {cl : List vw_C} {L M : List (ClassId × FieldType)} {U : State} (h : va_K D cl (L ++ M) U) : va_K D cl L U := ⟨h.1, fun k q e => h.2 k q (by rw [List.getElem?_append_left (List.getElem?_eq_some_iff.mp e).1]; exact e)⟩
/-- the cells of two lists lie apart -/
theorem nd_ap {A : Nat → Prop} {L M : va_W} (h : va_D A (L ++ M)) {i j : Nat} {p q : Nat × va_E} (hi : L[i]? = some p) (hj : M[j]? = some q) : p.1 ≠ q.1 := fun e => by
  have h1 := (List.getElem?_eq_some_iff.mp hi).1
  have h2 := h.1 i (L.length + j) p q (by rw [List.getElem?_append_left h1]; exact hi) (by rw [List.getElem?_append_right (Nat.le_add_right _ _), Nat.add_sub_cancel_left]; exact hj) e
  omega
theorem nd_stepR {A : Nat → Prop} {D : va_G} {cl : List vw_C} {L M M' : va_W} {H H1 : Heap} (hP : va_P D cl (L ++ M) H) (hD : va_D A (L ++ M)) (hk : ∀ q : Nat, q < H.size → ¬ va_A M H.size q → H1[q]? = H[q]?) (h1 : va_P D cl M' H1) (h2 : va_D (va_A M H.size) M') : va_P D cl (L ++ M') H1 ∧ va_D (va_A (L ++ M) H.size) (L ++ M') ∧ ∀ q : Nat, q < H.size → ¬ va_A (L ++ M) H.size q → H1[q]? = H[q]? := by
  have up : ∀ q, va_A M H.size q → va_A (L ++ M) H.size q := fun q h => by
    rcases h with ⟨k, e, h⟩ | h
    · exact Or.inl ⟨L.length + k, e, by rw [List.getElem?_append_right (Nat.le_add_right _ _), Nat.add_sub_cancel_left]; exact h⟩
    · exact Or.inr h
  have no : ∀ (k : Nat) (q : Nat × va_E), L[k]? = some q → ¬ va_A M H.size q.1 := fun k q hq h => by
    rcases h with ⟨j, e, h⟩ | h
    · exact nd_ap hD hq h rfl
    · exact absurd (nd_pl hP k q hq).lt (Nat.not_lt.mpr h)
  refine ⟨va_P.app ((nd_pl hP).kept (fun k q hq => hk q.1 (nd_pl hP k q hq).lt (no k q hq))) h1, va_D.app ⟨(nd_dl hD).1, fun k q hq => Or.inl ⟨k, q.2, by rw [List.getElem?_append_left (List.getElem?_eq_some_iff.mp hq).1]; exact hq⟩⟩ (h2.weaken (fun k q _ h => up q.1 h)) (fun i j p q hi hj e => no i p hi (by rw [e]; exact h2.2 j q hj)), fun q a b => hk q a (fun h => b (up q h))⟩
theorem nd_stepL {A : Nat → Prop} {D : va_G} {cl : List vw_C} {L L' M : va_W} {H H1 : Heap} (hP : va_P D cl (L ++ M) H) (hD : va_D A (L ++ M)) (hk : ∀ q : Nat, q < H.size → ¬ va_A L H.size q → H1[q]? = H[q]?) (h1 : va_P D cl L' H1) (h2 : va_D (va_A L H.size) L') : va_P D cl (L' ++ M) H1 ∧ va_D (va_A (L ++ M) H.size) (L' ++ M) ∧ ∀ q : Nat, q < H.size → ¬ va_A (L ++ M) H.size q → H1[q]? = H[q]? := by
  have up : ∀ q, va_A L H.size q → va_A (L ++ M) H.size q := fun q h => by
    rcases h with ⟨k, e, h⟩ | h
    · exact Or.inl ⟨k, e, by rw [List.getElem?_append_left (List.getElem?_eq_some_iff.mp h).1]; exact h⟩
    · exact Or.inr h
  have no : ∀ (k : Nat) (q : Nat × va_E), M[k]? = some q → ¬ va_A L H.size q.1 := fun k q hq h => by
    rcases h with ⟨j, e, h⟩ | h
    · exact nd_ap hD h hq rfl
    · exact absurd (nd_pr hP k q hq).lt (Nat.not_lt.mpr h)
  refine ⟨va_P.app h1 ((nd_pr hP).kept (fun k q hq => hk q.1 (nd_pr hP k q hq).lt (no k q hq))), va_D.app (h2.weaken (fun k q _ h => up q.1 h)) ⟨(nd_dr hD).1, fun k q hq => Or.inl ⟨L.length + k, q.2, by rw [List.getElem?_append_right (Nat.le_add_right _ _), Nat.add_sub_cancel_left]; exact hq⟩⟩ (fun i j p q hi hj e => no j q hj (by rw [← e]; exact h2.2 i p hi)), fun q a b => hk q a (fun h => b (up q h))⟩
/-- a return, at any place of the code -/
def nd_Ki (p : Program) (l : Launch) (e : Env) (R : Room) (s : State) (m : MethodId) (args : Array Value) (below : List Frame) (meth : Method) (c : Code) (Q : State → Prop) (A : Nat → Prop) (D : va_G) (cc : ByteArray) (ty : FieldType) (S : Type) (wf : S → va_W) (r : Int32 × S) : Prop := ∀ (pc : Nat) (v : Int32) (τ : S) (H : Heap) (locs : List Loc) (ls : Array Slot), decode cc pc = .ok (.ireturn, 1) → narrow ty (.int v) = .int v → r = (v, τ) → va_P D vwCl (wf τ) H → va_D A (wf τ) → va_S A s.heap H locs → W p l e R s m args below meth c H locs 0 0 Q (F0 m pc ls [.int v])
def nd_Kl (p : Program) (l : Launch) (e : Env) (R : Room) (s : State) (m : MethodId) (args : Array Value) (below : List Frame) (meth : Method) (c : Code) (Q : State → Prop) (A : Nat → Prop) (D : va_G) (cc : ByteArray) (S : Type) (wf : S → va_W) (r : Int64 × S) : Prop := ∀ (pc : Nat) (v : Int64) (τ : S) (H : Heap) (locs : List Loc) (ls : Array Slot), decode cc pc = .ok (.lreturn, 1) → r = (v, τ) → va_P D vwCl (wf τ) H → va_D A (wf τ) → va_S A s.heap H locs → W p l e R s m args below meth c H locs 0 0 Q (F0 m pc ls [.long v])
def nd_Kv (p : Program) (l : Launch) (e : Env) (R : Room) (s : State) (m : MethodId) (args : Array Value) (below : List Frame) (meth : Method) (c : Code) (Q : State → Prop) (A : Nat → Prop) (D : va_G) (cc : ByteArray) (S : Type) (wf : S → va_W) (r : S) : Prop := ∀ (pc : Nat) (τ : S) (H : Heap) (locs : List Loc) (ls : Array Slot), decode cc pc = .ok (.return_, 1) → r = τ → va_P D vwCl (wf τ) H → va_D A (wf τ) → va_S A s.heap H locs → W p l e R s m args below meth c H locs 0 0 Q (F0 m pc ls [])
def nd_f {α : Type} (ty : FieldType) (v : Int32) (x : Option α) : Option α := if fits ty (.int v) = true then x else none
theorem nd_f_e {α : Type} {ty : FieldType} {v : Int32} {x : Option α} {r : α} (h : nd_f ty v x = some r) : fits ty (.int v) = true ∧ x = some r := by
  unfold nd_f at h
  by_cases c : fits ty (.int v) = true
  · rw [if_pos c] at h; exact ⟨c, h⟩
  · rw [if_neg c] at h; exact nomatch h
set_option maxHeartbeats 40000000 in
set_option maxRecDepth 100000 in
theorem nd_cVi {p : Program} {l : Launch} {e : Env} {R : Room} {s : State} {m : MethodId} {args : Array Value} {below : List Frame} {meth : Method} {c : Code} {H : Heap} {locs : List Loc} {Q : State → Prop} {A : Nat → Prop} {D : va_G} {cc : ByteArray} {nL : Nat} {own C : String} {Ts ows : List Cond} {index : Nat} {y : MethodName} {bytes : ByteArray} {maxL : Nat} {ret : Option FieldType} {rm : Room} {n : Nat} {w w' : va_W} {tys : List (ClassId × FieldType)} {b : Nat} {As rest : List Value} {q : Int32} {pc : Nat} {ls : Array Slot} {st : List Value} (S : CallFix p m c cc nL s args Ts own)
    (hM : ∀ sz : Nat, Met l y ows rm (va_Pc (.ref b :: As) (fun U => U.heap.size = sz ∧ va_P D vwCl w U.heap ∧ va_K D vwCl tys U ∧ va_D (fun _ => True) w ∧ nv_E D.2 (va_A w sz) U)) (va_Qi (fun x (_ : Unit) => x = q) (fun _ t => va_P D vwCl w' t.heap ∧ va_K D vwCl tys t ∧ va_D (va_A w sz) w') (va_A w sz)) 0 0 (va_A w sz))
    (cw : CallW R s args own C index y bytes maxL ret ows rm 0 0 n) (hP : va_P D vwCl w H) (hD : va_D A w) (hK : va_K D vwCl tys s) (hS : va_S A s.heap H locs) (hA : ∀ q : Nat, s.heap.size ≤ q → A q) (hN : nv_E D.2 A s) (hv : ∃ cell : Cell, H[b]? = some cell ∧ cell.vm.isStatics = false ∧ s.vm.findClass C = some cell.cls) (hn : As.length = n) (hsize : ls.size = nL) (hst : st = As.reverse ++ .ref b :: rest) (hW : (rest.map fun v => v.category).sum ≤ 8) (hdg : decode cc pc = .ok (.invokevirtual index, 3))
    (kk : ∀ (H1 : Heap) (locs1 : List Loc), va_P D vwCl w' H1 → va_D (va_A w H.size) w' → (∀ q : Nat, q < H.size → ¬ va_A w H.size q → H1[q]? = H[q]?) → va_S A s.heap H1 locs1 → W p l e R s m args below meth c H1 locs1 0 0 Q (F0 m (pc + 3) ls (.int q :: rest))) : W p l e R s m args below meth c H locs 0 0 Q (F0 m pc ls st) := by
  have hF := nd_rs hD hS hA
  subst hst
  refine va_calli (va_runV (As := As) (rest := rest) S (hM H.size) cw ⟨fun a U g mk q => by obtain ⟨q0, q1, qP, qK, qD, qN⟩ := q; exact ⟨q0, q1, qP, va_K.moved (u := U) (U := U.calling g mk a) (Vm.Alike.refl U.vm) qK, qD, nv_same rfl rfl qN⟩, hv, fun U hU hW => ⟨rfl, by rw [hU], by rw [hU]; exact hP, va_K.moved hW.alike hK, hD.weaken (fun _ _ _ _ => trivial), nv_call hS hF hU hW hN⟩⟩ rfl hn hsize rfl (lv_room hW) hdg ⟨Nat.zero_le _, Nat.zero_le _⟩) hS (fun q _ h => hF q h) hF (fun r u t H1 locs ht hvm hw hB hz1 hk1 hS => ?_)
  obtain rfl : q = r := Eq.symm hw
  obtain ⟨hP1, -, hD1⟩ := hB
  rw [ht] at hP1
  exact kk H1 locs hP1 hD1 hk1 hS
set_option maxHeartbeats 40000000 in
set_option maxRecDepth 100000 in
theorem nd_cVl {p : Program} {l : Launch} {e : Env} {R : Room} {s : State} {m : MethodId} {args : Array Value} {below : List Frame} {meth : Method} {c : Code} {H : Heap} {locs : List Loc} {Q : State → Prop} {A : Nat → Prop} {D : va_G} {cc : ByteArray} {nL : Nat} {own C : String} {Ts ows : List Cond} {index : Nat} {y : MethodName} {bytes : ByteArray} {maxL : Nat} {ret : Option FieldType} {rm : Room} {n : Nat} {w w' : va_W} {tys : List (ClassId × FieldType)} {b : Nat} {As rest : List Value} {q : Int64} {pc : Nat} {ls : Array Slot} {st : List Value} (S : CallFix p m c cc nL s args Ts own)
    (hM : ∀ sz : Nat, Met l y ows rm (va_Pc (.ref b :: As) (fun U => U.heap.size = sz ∧ va_P D vwCl w U.heap ∧ va_K D vwCl tys U ∧ va_D (fun _ => True) w ∧ nv_E D.2 (va_A w sz) U)) (va_Ql (fun x (_ : Unit) => x = q) (fun _ t => va_P D vwCl w' t.heap ∧ va_K D vwCl tys t ∧ va_D (va_A w sz) w') (va_A w sz)) 0 0 (va_A w sz))
    (cw : CallW R s args own C index y bytes maxL ret ows rm 0 0 n) (hP : va_P D vwCl w H) (hD : va_D A w) (hK : va_K D vwCl tys s) (hS : va_S A s.heap H locs) (hA : ∀ q : Nat, s.heap.size ≤ q → A q) (hN : nv_E D.2 A s) (hv : ∃ cell : Cell, H[b]? = some cell ∧ cell.vm.isStatics = false ∧ s.vm.findClass C = some cell.cls) (hn : As.length = n) (hsize : ls.size = nL) (hst : st = As.reverse ++ .ref b :: rest) (hW : (rest.map fun v => v.category).sum ≤ 8) (hdg : decode cc pc = .ok (.invokevirtual index, 3))
    (kk : ∀ (H1 : Heap) (locs1 : List Loc), va_P D vwCl w' H1 → va_D (va_A w H.size) w' → (∀ q : Nat, q < H.size → ¬ va_A w H.size q → H1[q]? = H[q]?) → va_S A s.heap H1 locs1 → W p l e R s m args below meth c H1 locs1 0 0 Q (F0 m (pc + 3) ls (.long q :: rest))) : W p l e R s m args below meth c H locs 0 0 Q (F0 m pc ls st) := by
  have hF := nd_rs hD hS hA
  subst hst
  refine va_calll (va_runV (As := As) (rest := rest) S (hM H.size) cw ⟨fun a U g mk q => by obtain ⟨q0, q1, qP, qK, qD, qN⟩ := q; exact ⟨q0, q1, qP, va_K.moved (u := U) (U := U.calling g mk a) (Vm.Alike.refl U.vm) qK, qD, nv_same rfl rfl qN⟩, hv, fun U hU hW => ⟨rfl, by rw [hU], by rw [hU]; exact hP, va_K.moved hW.alike hK, hD.weaken (fun _ _ _ _ => trivial), nv_call hS hF hU hW hN⟩⟩ rfl hn hsize rfl (lv_room hW) hdg ⟨Nat.zero_le _, Nat.zero_le _⟩) hS (fun q _ h => hF q h) hF (fun r u t H1 locs ht hvm hw hB hz1 hk1 hS => ?_)
  obtain rfl : q = r := Eq.symm hw
  obtain ⟨hP1, -, hD1⟩ := hB
  rw [ht] at hP1
  exact kk H1 locs hP1 hD1 hk1 hS
set_option maxHeartbeats 40000000 in
set_option maxRecDepth 100000 in
theorem nd_cVv {p : Program} {l : Launch} {e : Env} {R : Room} {s : State} {m : MethodId} {args : Array Value} {below : List Frame} {meth : Method} {c : Code} {H : Heap} {locs : List Loc} {Q : State → Prop} {A : Nat → Prop} {D : va_G} {cc : ByteArray} {nL : Nat} {own C : String} {Ts ows : List Cond} {index : Nat} {y : MethodName} {bytes : ByteArray} {maxL : Nat} {ret : Option FieldType} {rm : Room} {n : Nat} {w w' : va_W} {tys : List (ClassId × FieldType)} {b : Nat} {As rest : List Value} {pc : Nat} {ls : Array Slot} {st : List Value} (S : CallFix p m c cc nL s args Ts own)
    (hM : ∀ sz : Nat, Met l y ows rm (va_Pc (.ref b :: As) (fun U => U.heap.size = sz ∧ va_P D vwCl w U.heap ∧ va_K D vwCl tys U ∧ va_D (fun _ => True) w ∧ nv_E D.2 (va_A w sz) U)) (va_Qv (fun (_ : Unit) => True) (fun _ t => va_P D vwCl w' t.heap ∧ va_K D vwCl tys t ∧ va_D (va_A w sz) w') (va_A w sz)) 0 0 (va_A w sz))
    (cw : CallW R s args own C index y bytes maxL ret ows rm 0 0 n) (hP : va_P D vwCl w H) (hD : va_D A w) (hK : va_K D vwCl tys s) (hS : va_S A s.heap H locs) (hA : ∀ q : Nat, s.heap.size ≤ q → A q) (hN : nv_E D.2 A s) (hv : ∃ cell : Cell, H[b]? = some cell ∧ cell.vm.isStatics = false ∧ s.vm.findClass C = some cell.cls) (hn : As.length = n) (hsize : ls.size = nL) (hst : st = As.reverse ++ .ref b :: rest) (hW : (rest.map fun v => v.category).sum ≤ 8) (hdg : decode cc pc = .ok (.invokevirtual index, 3))
    (kk : ∀ (H1 : Heap) (locs1 : List Loc), va_P D vwCl w' H1 → va_D (va_A w H.size) w' → (∀ q : Nat, q < H.size → ¬ va_A w H.size q → H1[q]? = H[q]?) → va_S A s.heap H1 locs1 → W p l e R s m args below meth c H1 locs1 0 0 Q (F0 m (pc + 3) ls (rest))) : W p l e R s m args below meth c H locs 0 0 Q (F0 m pc ls st) := by
  have hF := nd_rs hD hS hA
  subst hst
  refine va_callv (va_runV (As := As) (rest := rest) S (hM H.size) cw ⟨fun a U g mk q => by obtain ⟨q0, q1, qP, qK, qD, qN⟩ := q; exact ⟨q0, q1, qP, va_K.moved (u := U) (U := U.calling g mk a) (Vm.Alike.refl U.vm) qK, qD, nv_same rfl rfl qN⟩, hv, fun U hU hW => ⟨rfl, by rw [hU], by rw [hU]; exact hP, va_K.moved hW.alike hK, hD.weaken (fun _ _ _ _ => trivial), nv_call hS hF hU hW hN⟩⟩ rfl hn hsize rfl (lv_room hW) hdg ⟨Nat.zero_le _, Nat.zero_le _⟩) hS (fun q _ h => hF q h) hF (fun u t H1 locs ht hvm hw hB hz1 hk1 hS => ?_)
  obtain ⟨hP1, -, hD1⟩ := hB
  rw [ht] at hP1
  exact kk H1 locs hP1 hD1 hk1 hS
set_option maxHeartbeats 40000000 in
set_option maxRecDepth 100000 in
theorem nd_cSi {p : Program} {l : Launch} {e : Env} {R : Room} {s : State} {m : MethodId} {args : Array Value} {below : List Frame} {meth : Method} {c : Code} {H : Heap} {locs : List Loc} {Q : State → Prop} {A : Nat → Prop} {D : va_G} {cc : ByteArray} {nL : Nat} {own : String} {Ts ows : List Cond} {index : Nat} {y : MethodName} {bytes : ByteArray} {maxL : Nat} {ret : Option FieldType} {rm : Room} {n : Nat} {w w' : va_W} {tys : List (ClassId × FieldType)} {As rest : List Value} {q : Int32} {pc : Nat} {ls : Array Slot} {st : List Value} (S : CallFix p m c cc nL s args Ts own)
    (hM : ∀ sz : Nat, Met l y ows rm (va_Pc As (fun U => U.heap.size = sz ∧ va_P D vwCl w U.heap ∧ va_K D vwCl tys U ∧ va_D (fun _ => True) w ∧ nv_E D.2 (va_A w sz) U)) (va_Qi (fun x (_ : Unit) => x = q) (fun _ t => va_P D vwCl w' t.heap ∧ va_K D vwCl tys t ∧ va_D (va_A w sz) w') (va_A w sz)) 0 0 (va_A w sz))
    (cw : CallB R s args own index y bytes maxL ret ows rm 0 0 n ∧ (Cond.static y).before args s = true) (hP : va_P D vwCl w H) (hD : va_D A w) (hK : va_K D vwCl tys s) (hS : va_S A s.heap H locs) (hA : ∀ q : Nat, s.heap.size ≤ q → A q) (hN : nv_E D.2 A s) (hn : As.length = n) (hsize : ls.size = nL) (hst : st = As.reverse ++ rest) (hW : (rest.map fun v => v.category).sum ≤ 8) (hdg : decode cc pc = .ok (.invokestatic index, 3))
    (kk : ∀ (H1 : Heap) (locs1 : List Loc), va_P D vwCl w' H1 → va_D (va_A w H.size) w' → (∀ q : Nat, q < H.size → ¬ va_A w H.size q → H1[q]? = H[q]?) → va_S A s.heap H1 locs1 → W p l e R s m args below meth c H1 locs1 0 0 Q (F0 m (pc + 3) ls (.int q :: rest))) : W p l e R s m args below meth c H locs 0 0 Q (F0 m pc ls st) := by
  have hF := nd_rs hD hS hA
  subst hst
  refine va_calli (va_runS (As := As) (rest := rest) S (hM H.size) cw ⟨fun a U g mk q => by obtain ⟨q0, q1, qP, qK, qD, qN⟩ := q; exact ⟨q0, q1, qP, va_K.moved (u := U) (U := U.calling g mk a) (Vm.Alike.refl U.vm) qK, qD, nv_same rfl rfl qN⟩, fun U hU hW => ⟨rfl, by rw [hU], by rw [hU]; exact hP, va_K.moved hW.alike hK, hD.weaken (fun _ _ _ _ => trivial), nv_call hS hF hU hW hN⟩⟩ rfl hn hsize rfl (lv_room hW) hdg ⟨Nat.zero_le _, Nat.zero_le _⟩) hS (fun q _ h => hF q h) hF (fun r u t H1 locs ht hvm hw hB hz1 hk1 hS => ?_)
  obtain rfl : q = r := Eq.symm hw
  obtain ⟨hP1, -, hD1⟩ := hB
  rw [ht] at hP1
  exact kk H1 locs hP1 hD1 hk1 hS
set_option maxHeartbeats 40000000 in
set_option maxRecDepth 100000 in
theorem nd_cSl {p : Program} {l : Launch} {e : Env} {R : Room} {s : State} {m : MethodId} {args : Array Value} {below : List Frame} {meth : Method} {c : Code} {H : Heap} {locs : List Loc} {Q : State → Prop} {A : Nat → Prop} {D : va_G} {cc : ByteArray} {nL : Nat} {own : String} {Ts ows : List Cond} {index : Nat} {y : MethodName} {bytes : ByteArray} {maxL : Nat} {ret : Option FieldType} {rm : Room} {n : Nat} {w w' : va_W} {tys : List (ClassId × FieldType)} {As rest : List Value} {q : Int64} {pc : Nat} {ls : Array Slot} {st : List Value} (S : CallFix p m c cc nL s args Ts own)
    (hM : ∀ sz : Nat, Met l y ows rm (va_Pc As (fun U => U.heap.size = sz ∧ va_P D vwCl w U.heap ∧ va_K D vwCl tys U ∧ va_D (fun _ => True) w ∧ nv_E D.2 (va_A w sz) U)) (va_Ql (fun x (_ : Unit) => x = q) (fun _ t => va_P D vwCl w' t.heap ∧ va_K D vwCl tys t ∧ va_D (va_A w sz) w') (va_A w sz)) 0 0 (va_A w sz))
    (cw : CallB R s args own index y bytes maxL ret ows rm 0 0 n ∧ (Cond.static y).before args s = true) (hP : va_P D vwCl w H) (hD : va_D A w) (hK : va_K D vwCl tys s) (hS : va_S A s.heap H locs) (hA : ∀ q : Nat, s.heap.size ≤ q → A q) (hN : nv_E D.2 A s) (hn : As.length = n) (hsize : ls.size = nL) (hst : st = As.reverse ++ rest) (hW : (rest.map fun v => v.category).sum ≤ 8) (hdg : decode cc pc = .ok (.invokestatic index, 3))
    (kk : ∀ (H1 : Heap) (locs1 : List Loc), va_P D vwCl w' H1 → va_D (va_A w H.size) w' → (∀ q : Nat, q < H.size → ¬ va_A w H.size q → H1[q]? = H[q]?) → va_S A s.heap H1 locs1 → W p l e R s m args below meth c H1 locs1 0 0 Q (F0 m (pc + 3) ls (.long q :: rest))) : W p l e R s m args below meth c H locs 0 0 Q (F0 m pc ls st) := by
  have hF := nd_rs hD hS hA
  subst hst
  refine va_calll (va_runS (As := As) (rest := rest) S (hM H.size) cw ⟨fun a U g mk q => by obtain ⟨q0, q1, qP, qK, qD, qN⟩ := q; exact ⟨q0, q1, qP, va_K.moved (u := U) (U := U.calling g mk a) (Vm.Alike.refl U.vm) qK, qD, nv_same rfl rfl qN⟩, fun U hU hW => ⟨rfl, by rw [hU], by rw [hU]; exact hP, va_K.moved hW.alike hK, hD.weaken (fun _ _ _ _ => trivial), nv_call hS hF hU hW hN⟩⟩ rfl hn hsize rfl (lv_room hW) hdg ⟨Nat.zero_le _, Nat.zero_le _⟩) hS (fun q _ h => hF q h) hF (fun r u t H1 locs ht hvm hw hB hz1 hk1 hS => ?_)
  obtain rfl : q = r := Eq.symm hw
  obtain ⟨hP1, -, hD1⟩ := hB
  rw [ht] at hP1
  exact kk H1 locs hP1 hD1 hk1 hS
set_option maxHeartbeats 40000000 in
set_option maxRecDepth 100000 in
theorem nd_cSv {p : Program} {l : Launch} {e : Env} {R : Room} {s : State} {m : MethodId} {args : Array Value} {below : List Frame} {meth : Method} {c : Code} {H : Heap} {locs : List Loc} {Q : State → Prop} {A : Nat → Prop} {D : va_G} {cc : ByteArray} {nL : Nat} {own : String} {Ts ows : List Cond} {index : Nat} {y : MethodName} {bytes : ByteArray} {maxL : Nat} {ret : Option FieldType} {rm : Room} {n : Nat} {w w' : va_W} {tys : List (ClassId × FieldType)} {As rest : List Value} {pc : Nat} {ls : Array Slot} {st : List Value} (S : CallFix p m c cc nL s args Ts own)
    (hM : ∀ sz : Nat, Met l y ows rm (va_Pc As (fun U => U.heap.size = sz ∧ va_P D vwCl w U.heap ∧ va_K D vwCl tys U ∧ va_D (fun _ => True) w ∧ nv_E D.2 (va_A w sz) U)) (va_Qv (fun (_ : Unit) => True) (fun _ t => va_P D vwCl w' t.heap ∧ va_K D vwCl tys t ∧ va_D (va_A w sz) w') (va_A w sz)) 0 0 (va_A w sz))
    (cw : CallB R s args own index y bytes maxL ret ows rm 0 0 n ∧ (Cond.static y).before args s = true) (hP : va_P D vwCl w H) (hD : va_D A w) (hK : va_K D vwCl tys s) (hS : va_S A s.heap H locs) (hA : ∀ q : Nat, s.heap.size ≤ q → A q) (hN : nv_E D.2 A s) (hn : As.length = n) (hsize : ls.size = nL) (hst : st = As.reverse ++ rest) (hW : (rest.map fun v => v.category).sum ≤ 8) (hdg : decode cc pc = .ok (.invokestatic index, 3))
    (kk : ∀ (H1 : Heap) (locs1 : List Loc), va_P D vwCl w' H1 → va_D (va_A w H.size) w' → (∀ q : Nat, q < H.size → ¬ va_A w H.size q → H1[q]? = H[q]?) → va_S A s.heap H1 locs1 → W p l e R s m args below meth c H1 locs1 0 0 Q (F0 m (pc + 3) ls (rest))) : W p l e R s m args below meth c H locs 0 0 Q (F0 m pc ls st) := by
  have hF := nd_rs hD hS hA
  subst hst
  refine va_callv (va_runS (As := As) (rest := rest) S (hM H.size) cw ⟨fun a U g mk q => by obtain ⟨q0, q1, qP, qK, qD, qN⟩ := q; exact ⟨q0, q1, qP, va_K.moved (u := U) (U := U.calling g mk a) (Vm.Alike.refl U.vm) qK, qD, nv_same rfl rfl qN⟩, fun U hU hW => ⟨rfl, by rw [hU], by rw [hU]; exact hP, va_K.moved hW.alike hK, hD.weaken (fun _ _ _ _ => trivial), nv_call hS hF hU hW hN⟩⟩ rfl hn hsize rfl (lv_room hW) hdg ⟨Nat.zero_le _, Nat.zero_le _⟩) hS (fun q _ h => hF q h) hF (fun u t H1 locs ht hvm hw hB hz1 hk1 hS => ?_)
  obtain ⟨hP1, -, hD1⟩ := hB
  rw [ht] at hP1
  exact kk H1 locs hP1 hD1 hk1 hS
def dw_P (_ : Nat → Nat) (_ : Nat → ClassId) (_ : Unit) : va_W := []
def dk_P (_ : Nat → ClassId) : List (ClassId × FieldType) := []
theorem nd_p0 {D : va_G} {H : Heap} {a : Nat → Nat} {ac : Nat → ClassId} : va_P D vwCl (dw_P a ac ()) H := fun k q h => nomatch (show (none : Option (Nat × va_E)) = some q by rw [← h]; exact (List.getElem?_nil).symm)
theorem nd_d0 {A : Nat → Prop} {a : Nat → Nat} {ac : Nat → ClassId} : va_D A (dw_P a ac ()) := ⟨fun i j p q h => (nomatch (show (none : Option (Nat × va_E)) = some p by rw [← h]; exact (List.getElem?_nil).symm)), fun k q h => nomatch (show (none : Option (Nat × va_E)) = some q by rw [← h]; exact (List.getElem?_nil).symm)⟩
theorem nd_y0 {D : va_G} {U : State} {tys : List (ClassId × FieldType)} {ac : Nat → ClassId} (h : va_K D vwCl tys U) : va_K D vwCl (dk_P ac) U := ⟨h.1, fun k q h => nomatch (show (none : Option (ClassId × FieldType)) = some q by rw [← h]; exact (List.getElem?_nil).symm)⟩
theorem nd_r0 {A0 : Nat → Prop} {H0 H : Heap} {locs : List Loc} {a : Nat → Nat} {ac : Nat → ClassId} (hS : va_S A0 H0 H locs) (hA : ∀ q, H0.size ≤ q → A0 q) : ∀ q, va_A (dw_P a ac ()) H.size q → A0 q := fun q h => by
  rcases h with ⟨k, e, h⟩ | h
  · exact nomatch (show (none : Option (Nat × va_E)) = some (q, e) by rw [← h]; exact (List.getElem?_nil).symm)
  · exact hA q (Nat.le_trans hS.1 h)
theorem nd_n0 {D : va_G} {H H1 : Heap} {a : Nat → Nat} {ac : Nat → ClassId} {w : va_W} (hP : va_P D vwCl w H) (hk : ∀ q : Nat, q < H.size → ¬ va_A (dw_P a ac ()) H.size q → H1[q]? = H[q]?) : va_P D vwCl w H1 := hP.kept (fun k q h => hk q.1 (hP k q h).lt (fun h9 => by
  rcases h9 with ⟨k, e, h9⟩ | h9
  · exact nomatch (show (none : Option (Nat × va_E)) = some (q.1, e) by rw [← h9]; exact (List.getElem?_nil).symm)
  · exact absurd h9 (Nat.not_le.mpr (hP k q h).lt)))
def dw_X17 (a : Nat → Nat) (ac : Nat → ClassId) (σ : St) : va_W := ([(a 0, .inr (18, [.ref (a 1), .ref (a 2), .ref (a 3), .ref (a 4), .ref (a 5)])), (a 1, .inl (ac 1, 4, .inl (sR σ 0))), (a 2, .inl (ac 2, 4, .inl (sR σ 1))), (a 3, .inl (ac 3, 4, .inl (sR σ 2))), (a 4, .inl (ac 4, 4, .inl (sR σ 3))), (a 5, .inl (ac 5, 32768, .inl (sR σ 4)))] : va_W)
def dk_X17 (ac : Nat → ClassId) : List (ClassId × FieldType) := ([(ac 1, .boolean), (ac 2, .int), (ac 3, .int), (ac 4, .int), (ac 5, .int)] : List (ClassId × FieldType))
def dw_X18 (a : Nat → Nat) (ac : Nat → ClassId) (σ : St) : va_W := ([(a 0, .inr (19, [.ref (a 1), .int (sI σ 0), .int (sI σ 1), .int (sI σ 2), .int (sI σ 3), .int (sI σ 4), .int (sI σ 5), .int (sI σ 6), .int (sI σ 7), .ref (a 2)])), (a 1, .inl (ac 1, 64, .inl (sR σ 0))), (a 2, .inl (ac 2, 32, .inl (sR σ 1)))] : va_W)
def dk_X18 (ac : Nat → ClassId) : List (ClassId × FieldType) := ([(ac 1, .char), (ac 2, .int)] : List (ClassId × FieldType))
def dw_X13 (a : Nat → Nat) (ac : Nat → ClassId) (σ : St) : va_W := ([(a 0, .inr (14, [.ref (a 1), .ref (a 2), .ref (a 3), .ref (a 4), .int (sI σ 0), .int (sI σ 1), .int (sI σ 2), .ref (a 5), .ref (a 6), .ref (a 7), .int (sI σ 3), .ref (a 8), .ref (a 9), .int (sI σ 4), .int (sI σ 5), .int (sI σ 6), .int (sI σ 7), .int (sI σ 8), .int (sI σ 9), .int (sI σ 10), .int (sI σ 11), .int (sI σ 12), .int (sI σ 13), .int (sI σ 14), .int (sI σ 15), .int (sI σ 16), .int (sI σ 17), .int (sI σ 18), .int (sI σ 19), va_rf (Option.map a (sO σ 0)), .int (sI σ 20), .int (sI σ 21), .int (sI σ 22), .int (sI σ 23), .ref (a 10), .int (sI σ 24), .int (sI σ 25)])), (a 1, .inl (ac 1, 128, .inr (.inl (sQ σ 0)))), (a 2, .inl (ac 2, 128, .inl (sR σ 0))), (a 3, .inl (ac 3, 128, .inl (sR σ 1))), (a 4, .inl (ac 4, 32772, .inl (sR σ 2))), (a 5, .inl (ac 5, 11000, .inl (sR σ 3))), (a 6, .inl (ac 6, 11000, .inl (sR σ 4))), (a 7, .inl (ac 7, 11000, .inl (sR σ 5))), (a 8, .inl (ac 8, 16500, .inl (sR σ 6))), (a 9, .inl (ac 9, 16500, .inl (sR σ 7))), (a 10, .inl (ac 10, 32800, .inl (sR σ 8))), (a 11, .inl (ac 11, 131072, .inl (sR σ 9)))] : va_W)
def dk_X13 (ac : Nat → ClassId) : List (ClassId × FieldType) := ([(ac 1, .long), (ac 2, .byte), (ac 3, .int), (ac 4, .char), (ac 5, .int), (ac 6, .int), (ac 7, .int), (ac 8, .int), (ac 9, .int), (ac 10, .int), (ac 11, .int)] : List (ClassId × FieldType))
def dw_X14 (a : Nat → Nat) (ac : Nat → ClassId) (σ : St) : va_W := ([(a 0, .inr (15, [.int (sI σ 0), .ref (a 1), .ref (a 2), .ref (a 3), .ref (a 4), .ref (a 5), .int (sI σ 1), va_rf (Option.map a (sO σ 0)), .int (sI σ 2), .int (sI σ 3), .int (sI σ 4)])), (a 1, .inl (ac 1, 2048, .inl (sR σ 0))), (a 2, .inl (ac 2, 2048, .inl (sR σ 1))), (a 3, .inl (ac 3, 2048, .inr (.inl (sQ σ 0)))), (a 4, .inl (ac 4, 2048, .inr (.inl (sQ σ 1)))), (a 5, .inl (ac 5, 32768, .inl (sR σ 2))), (a 6, .inl (ac 6, 32768, .inl (sR σ 3)))] : va_W)
def dk_X14 (ac : Nat → ClassId) : List (ClassId × FieldType) := ([(ac 1, .int), (ac 2, .int), (ac 3, .long), (ac 4, .long), (ac 5, .int), (ac 6, .int)] : List (ClassId × FieldType))
def dw_X16 (a : Nat → Nat) (ac : Nat → ClassId) (σ : St × (St)) : va_W := ([(a 0, .inr (17, [.ref (a 36), .int (sI σ.1 0), .int (sI σ.1 1), .int (sI σ.1 2), .int (sI σ.1 3), .int (sI σ.1 4), .long (sL σ.1 0), .long (sL σ.1 1), .ref (a 1), .int (sI σ.1 5), .ref (a 2), .ref (a 3), .ref (a 4), .ref (a 5), .ref (a 6), .ref (a 7), .ref (a 8), .ref (a 9), .ref (a 10), .ref (a 11), .ref (a 12), .ref (a 13), .ref (a 14), .ref (a 15), .ref (a 16), .ref (a 17), .ref (a 18), .ref (a 19), .ref (a 20), .int (sI σ.1 6), .ref (a 21), .ref (a 22), .ref (a 23), .ref (a 24), .ref (a 25), .ref (a 26), .ref (a 27), .ref (a 28), .ref (a 29), .ref (a 30), .ref (a 31), .ref (a 32), .int (sI σ.1 7), .ref (a 33), .ref (a 34), .long (sL σ.1 2), .ref (a 35), .int (sI σ.1 8), .int (sI σ.1 9), .int (sI σ.1 10), .int (sI σ.1 11), .int (sI σ.1 12), .int (sI σ.1 13), .int (sI σ.1 14), .int (sI σ.1 15), .int (sI σ.1 16)])), (a 1, .inl (ac 1, 16, .inl (sR σ.1 0))), (a 2, .inl (ac 2, 16, .inl (sR σ.1 1))), (a 3, .inl (ac 3, 16, .inl (sR σ.1 2))), (a 4, .inl (ac 4, 16, .inl (sR σ.1 3))), (a 5, .inl (ac 5, 16, .inl (sR σ.1 4))), (a 6, .inl (ac 6, 16, .inl (sR σ.1 5))), (a 7, .inl (ac 7, 16, .inl (sR σ.1 6))), (a 8, .inl (ac 8, 16, .inl (sR σ.1 7))), (a 9, .inl (ac 9, 16, .inl (sR σ.1 8))), (a 10, .inl (ac 10, 16, .inr (.inl (sQ σ.1 0)))), (a 11, .inl (ac 11, 512, .inl (sR σ.1 9))), (a 12, .inl (ac 12, 16, .inl (sR σ.1 10))), (a 13, .inl (ac 13, 512, .inl (sR σ.1 11))), (a 14, .inl (ac 14, 16, .inl (sR σ.1 12))), (a 15, .inl (ac 15, 256, .inl (sR σ.1 13))), (a 16, .inl (ac 16, 256, .inl (sR σ.1 14))), (a 17, .inl (ac 17, 262144, .inl (sR σ.1 15))), (a 18, .inl (ac 18, 1024, .inl (sR σ.1 16))), (a 19, .inl (ac 19, 1024, .inl (sR σ.1 17))), (a 20, .inl (ac 20, 1024, .inl (sR σ.1 18))), (a 21, .inl (ac 21, 48, .inl (sR σ.1 19))), (a 22, .inl (ac 22, 48, .inl (sR σ.1 20))), (a 23, .inl (ac 23, 48, .inl (sR σ.1 21))), (a 24, .inl (ac 24, 48, .inl (sR σ.1 22))), (a 25, .inl (ac 25, 8, .inl (sR σ.1 23))), (a 26, .inl (ac 26, 16, .inl (sR σ.1 24))), (a 27, .inl (ac 27, 16, .inl (sR σ.1 25))), (a 28, .inl (ac 28, 8, .inl (sR σ.1 26))), (a 29, .inl (ac 29, 4096, .inl (sR σ.1 27))), (a 30, .inl (ac 30, 16, .inl (sR σ.1 28))), (a 31, .inl (ac 31, 8192, .inl (sR σ.1 29))), (a 32, .inl (ac 32, 256, .inl (sR σ.1 30))), (a 33, .inl (ac 33, 512, .inl (sR σ.1 31))), (a 34, .inl (ac 34, 2048, .inl (sR σ.1 32))), (a 35, .inl (ac 35, 16, .inl (sR σ.1 33)))] : va_W) ++ (dw_X17 (fun k => a (k + 36)) (fun k => ac (k + 36)) σ.2)
def dk_X16 (ac : Nat → ClassId) : List (ClassId × FieldType) := ([(ac 1, .int), (ac 2, .int), (ac 3, .int), (ac 4, .int), (ac 5, .int), (ac 6, .int), (ac 7, .int), (ac 8, .int), (ac 9, .boolean), (ac 10, .long), (ac 11, .int), (ac 12, .int), (ac 13, .int), (ac 14, .int), (ac 15, .int), (ac 16, .int), (ac 17, .int), (ac 18, .int), (ac 19, .int), (ac 20, .int), (ac 21, .int), (ac 22, .int), (ac 23, .int), (ac 24, .int), (ac 25, .boolean), (ac 26, .boolean), (ac 27, .boolean), (ac 28, .int), (ac 29, .int), (ac 30, .int), (ac 31, .int), (ac 32, .int), (ac 33, .int), (ac 34, .int), (ac 35, .int)] : List (ClassId × FieldType)) ++ (dk_X17 (fun k => ac (k + 36)))
set_option maxHeartbeats 40000000 in
set_option maxRecDepth 100000 in
theorem dp_X16_36 {D : va_G} {H : Heap} {a : Nat → Nat} {ac : Nat → ClassId} {σ : St × (St)} (h : va_P D vwCl (dw_X16 a ac σ) H) : va_P D vwCl (dw_X17 (fun k => a (k + 36)) (fun k => ac (k + 36)) (σ.2)) H := (nd_pr h)
set_option maxHeartbeats 40000000 in
set_option maxRecDepth 100000 in
theorem dd_X16_36 {A : Nat → Prop} {a : Nat → Nat} {ac : Nat → ClassId} {σ : St × (St)} (h : va_D A (dw_X16 a ac σ)) : va_D A (dw_X17 (fun k => a (k + 36)) (fun k => ac (k + 36)) (σ.2)) := (nd_dr h)
set_option maxHeartbeats 40000000 in
set_option maxRecDepth 100000 in
theorem dy_X16_36 {D : va_G} {U : State} {ac : Nat → ClassId} (h : va_K D vwCl (dk_X16 ac) U) : va_K D vwCl (dk_X17 (fun k => ac (k + 36))) U := (nd_yr h)
set_option maxHeartbeats 40000000 in
set_option maxRecDepth 100000 in
theorem dn_X16_36 {A0 : Nat → Prop} {D : va_G} {H H1 : Heap} {a : Nat → Nat} {ac : Nat → ClassId} {σ : St × (St)} {τ : St} (hP : va_P D vwCl (dw_X16 a ac σ) H) (hD : va_D A0 (dw_X16 a ac σ)) (hA : ∀ q : Nat, H.size ≤ q → A0 q) (hk : ∀ q : Nat, q < H.size → ¬ va_A (dw_X17 (fun k => a (k + 36)) (fun k => ac (k + 36)) (σ.2)) H.size q → H1[q]? = H[q]?) (h1 : va_P D vwCl (dw_X17 (fun k => a (k + 36)) (fun k => ac (k + 36)) τ) H1) (h2 : va_D (va_A (dw_X17 (fun k => a (k + 36)) (fun k => ac (k + 36)) (σ.2)) H.size) (dw_X17 (fun k => a (k + 36)) (fun k => ac (k + 36)) τ)) : va_P D vwCl (dw_X16 a ac (σ.1, τ)) H1 ∧ va_D A0 (dw_X16 a ac (σ.1, τ)) := by
  obtain ⟨h1, h2, hk⟩ := nd_stepR hP hD hk h1 h2
  exact ⟨h1, h2.weaken (fun k q _ h => nd_rq hD hA q.1 h)⟩
def dw_X15 (a : Nat → Nat) (ac : Nat → ClassId) (σ : St × (St × (St))) : va_W := ([(a 0, .inr (16, [.ref (a 17), .int (sI σ.1 0), .ref (a 1), .ref (a 2), .ref (a 3), .ref (a 4), .ref (a 5), .ref (a 6), .ref (a 7), .int (sI σ.1 1), .int (sI σ.1 2), .int (sI σ.1 3), .int (sI σ.1 4), .int (sI σ.1 5), .int (sI σ.1 6), .long (sL σ.1 0), .ref (a 8), .ref (a 9), .ref (a 10), .ref (a 11), .int (sI σ.1 7), .int (sI σ.1 8), .long (sL σ.1 1), .ref (a 12), .ref (a 13), .ref (a 14), .ref (a 15), .ref (a 16)])), (a 1, .inl (ac 1, 120, .inl (sR σ.1 0))), (a 2, .inl (ac 2, 8, .inl (sR σ.1 1))), (a 3, .inl (ac 3, 8, .inl (sR σ.1 2))), (a 4, .inl (ac 4, 960, .inl (sR σ.1 3))), (a 5, .inl (ac 5, 960, .inl (sR σ.1 4))), (a 6, .inl (ac 6, 960, .inr (.inl (sQ σ.1 0)))), (a 7, .inl (ac 7, 960, .inr (.inl (sQ σ.1 1)))), (a 8, .inl (ac 8, 120, .inl (sR σ.1 5))), (a 9, .inl (ac 9, 120, .inl (sR σ.1 6))), (a 10, .inl (ac 10, 10, .inl (sR σ.1 7))), (a 11, .inl (ac 11, 120, .inr (.inl (sQ σ.1 2)))), (a 12, .inl (ac 12, 130, .inl (sR σ.1 8))), (a 13, .inl (ac 13, 130, .inl (sR σ.1 9))), (a 14, .inl (ac 14, 130, .inl (sR σ.1 10))), (a 15, .inl (ac 15, 130, .inl (sR σ.1 11))), (a 16, .inl (ac 16, 130, .inr (.inl (sQ σ.1 3))))] : va_W) ++ (dw_X16 (fun k => a (k + 17)) (fun k => ac (k + 17)) σ.2)
def dk_X15 (ac : Nat → ClassId) : List (ClassId × FieldType) := ([(ac 1, .char), (ac 2, .boolean), (ac 3, .int), (ac 4, .int), (ac 5, .int), (ac 6, .long), (ac 7, .long), (ac 8, .int), (ac 9, .int), (ac 10, .int), (ac 11, .long), (ac 12, .int), (ac 13, .int), (ac 14, .int), (ac 15, .int), (ac 16, .long)] : List (ClassId × FieldType)) ++ (dk_X16 (fun k => ac (k + 17)))
set_option maxHeartbeats 40000000 in
set_option maxRecDepth 100000 in
theorem dp_X15_17 {D : va_G} {H : Heap} {a : Nat → Nat} {ac : Nat → ClassId} {σ : St × (St × (St))} (h : va_P D vwCl (dw_X15 a ac σ) H) : va_P D vwCl (dw_X16 (fun k => a (k + 17)) (fun k => ac (k + 17)) (σ.2)) H := (nd_pr h)
set_option maxHeartbeats 40000000 in
set_option maxRecDepth 100000 in
theorem dd_X15_17 {A : Nat → Prop} {a : Nat → Nat} {ac : Nat → ClassId} {σ : St × (St × (St))} (h : va_D A (dw_X15 a ac σ)) : va_D A (dw_X16 (fun k => a (k + 17)) (fun k => ac (k + 17)) (σ.2)) := (nd_dr h)
set_option maxHeartbeats 40000000 in
set_option maxRecDepth 100000 in
theorem dy_X15_17 {D : va_G} {U : State} {ac : Nat → ClassId} (h : va_K D vwCl (dk_X15 ac) U) : va_K D vwCl (dk_X16 (fun k => ac (k + 17))) U := (nd_yr h)
set_option maxHeartbeats 40000000 in
set_option maxRecDepth 100000 in
theorem dn_X15_17 {A0 : Nat → Prop} {D : va_G} {H H1 : Heap} {a : Nat → Nat} {ac : Nat → ClassId} {σ : St × (St × (St))} {τ : St × (St)} (hP : va_P D vwCl (dw_X15 a ac σ) H) (hD : va_D A0 (dw_X15 a ac σ)) (hA : ∀ q : Nat, H.size ≤ q → A0 q) (hk : ∀ q : Nat, q < H.size → ¬ va_A (dw_X16 (fun k => a (k + 17)) (fun k => ac (k + 17)) (σ.2)) H.size q → H1[q]? = H[q]?) (h1 : va_P D vwCl (dw_X16 (fun k => a (k + 17)) (fun k => ac (k + 17)) τ) H1) (h2 : va_D (va_A (dw_X16 (fun k => a (k + 17)) (fun k => ac (k + 17)) (σ.2)) H.size) (dw_X16 (fun k => a (k + 17)) (fun k => ac (k + 17)) τ)) : va_P D vwCl (dw_X15 a ac (σ.1, τ)) H1 ∧ va_D A0 (dw_X15 a ac (σ.1, τ)) := by
  obtain ⟨h1, h2, hk⟩ := nd_stepR hP hD hk h1 h2
  exact ⟨h1, h2.weaken (fun k q _ h => nd_rq hD hA q.1 h)⟩
set_option maxHeartbeats 40000000 in
set_option maxRecDepth 100000 in
theorem dp_X15_53 {D : va_G} {H : Heap} {a : Nat → Nat} {ac : Nat → ClassId} {σ : St × (St × (St))} (h : va_P D vwCl (dw_X15 a ac σ) H) : va_P D vwCl (dw_X17 (fun k => a (k + 53)) (fun k => ac (k + 53)) (σ.2.2)) H := (nd_pr (nd_pr h))
set_option maxHeartbeats 40000000 in
set_option maxRecDepth 100000 in
theorem dd_X15_53 {A : Nat → Prop} {a : Nat → Nat} {ac : Nat → ClassId} {σ : St × (St × (St))} (h : va_D A (dw_X15 a ac σ)) : va_D A (dw_X17 (fun k => a (k + 53)) (fun k => ac (k + 53)) (σ.2.2)) := (nd_dr (nd_dr h))
set_option maxHeartbeats 40000000 in
set_option maxRecDepth 100000 in
theorem dy_X15_53 {D : va_G} {U : State} {ac : Nat → ClassId} (h : va_K D vwCl (dk_X15 ac) U) : va_K D vwCl (dk_X17 (fun k => ac (k + 53))) U := (nd_yr (nd_yr h))
set_option maxHeartbeats 40000000 in
set_option maxRecDepth 100000 in
theorem dn_X15_53 {A0 : Nat → Prop} {D : va_G} {H H1 : Heap} {a : Nat → Nat} {ac : Nat → ClassId} {σ : St × (St × (St))} {τ : St} (hP : va_P D vwCl (dw_X15 a ac σ) H) (hD : va_D A0 (dw_X15 a ac σ)) (hA : ∀ q : Nat, H.size ≤ q → A0 q) (hk : ∀ q : Nat, q < H.size → ¬ va_A (dw_X17 (fun k => a (k + 53)) (fun k => ac (k + 53)) (σ.2.2)) H.size q → H1[q]? = H[q]?) (h1 : va_P D vwCl (dw_X17 (fun k => a (k + 53)) (fun k => ac (k + 53)) τ) H1) (h2 : va_D (va_A (dw_X17 (fun k => a (k + 53)) (fun k => ac (k + 53)) (σ.2.2)) H.size) (dw_X17 (fun k => a (k + 53)) (fun k => ac (k + 53)) τ)) : va_P D vwCl (dw_X15 a ac (σ.1, (σ.2.1, τ))) H1 ∧ va_D A0 (dw_X15 a ac (σ.1, (σ.2.1, τ))) := by
  obtain ⟨h1, h2, hk⟩ := nd_stepR (nd_pr hP) (nd_dr hD) hk h1 h2
  obtain ⟨h1, h2, hk⟩ := nd_stepR hP hD hk h1 h2
  exact ⟨h1, h2.weaken (fun k q _ h => nd_rq hD hA q.1 h)⟩
def dw_X10 (a : Nat → Nat) (ac : Nat → ClassId) (σ : St) : va_W := ([(a 0, .inr (11, [.ref (a 1), .ref (a 2), .ref (a 3), .ref (a 4), .ref (a 5), .ref (a 6), .ref (a 7), .ref (a 8), .int (sI σ 0), .ref (a 9), .long (sL σ 0)])), (a 1, .inl (ac 1, 256, .inl (sR σ 0))), (a 2, .inl (ac 2, 240, .inl (sR σ 1))), (a 3, .inl (ac 3, 32, .inl (sR σ 2))), (a 4, .inl (ac 4, 4096, .inl (sR σ 3))), (a 5, .inl (ac 5, 48, .inl (sR σ 4))), (a 6, .inl (ac 6, 8192, .inl (sR σ 5))), (a 7, .inl (ac 7, 256, .inl (sR σ 6))), (a 8, .inl (ac 8, 512, .inl (sR σ 7))), (a 9, .inl (ac 9, 2048, .inl (sR σ 8)))] : va_W)
def dk_X10 (ac : Nat → ClassId) : List (ClassId × FieldType) := ([(ac 1, .int), (ac 2, .int), (ac 3, .int), (ac 4, .byte), (ac 5, .int), (ac 6, .byte), (ac 7, .byte), (ac 8, .byte), (ac 9, .byte)] : List (ClassId × FieldType))
def dw_X6 (a : Nat → Nat) (ac : Nat → ClassId) (σ : St × (St)) : va_W := ([(a 0, .inr (7, [.ref (a 1), .ref (a 2), .ref (a 3), .int (sI σ.1 0), .ref (a 4), .ref (a 5), .ref (a 6), .ref (a 7), .ref (a 8), .ref (a 9), .int (sI σ.1 1), .ref (a 10), .int (sI σ.1 2), .int (sI σ.1 3), .int (sI σ.1 4), .int (sI σ.1 5), .int (sI σ.1 6), .long (sL σ.1 0), .long (sL σ.1 1), .int (sI σ.1 7)])), (a 1, .inl (ac 1, 65536, .inl (sR σ.1 0))), (a 2, .inl (ac 2, 256, .inl (sR σ.1 1))), (a 3, .inl (ac 3, 1024, .inl (sR σ.1 2))), (a 4, .inl (ac 4, 528, .inl (sR σ.1 3))), (a 5, .inl (ac 5, 528, .inl (sR σ.1 4))), (a 6, .inl (ac 6, 256, .inl (sR σ.1 5))), (a 7, .inl (ac 7, 112, .inl (sR σ.1 6))), (a 8, .inl (ac 8, 16, .inr (.inl (sQ σ.1 0)))), (a 9, .inl (ac 9, 16, .inl (sR σ.1 7)))] : va_W) ++ (dw_X10 (fun k => a (k + 10)) (fun k => ac (k + 10)) σ.2)
def dk_X6 (ac : Nat → ClassId) : List (ClassId × FieldType) := ([(ac 1, .int), (ac 2, .int), (ac 3, .int), (ac 4, .int), (ac 5, .int), (ac 6, .int), (ac 7, .int), (ac 8, .long), (ac 9, .int)] : List (ClassId × FieldType)) ++ (dk_X10 (fun k => ac (k + 10)))
set_option maxHeartbeats 40000000 in
set_option maxRecDepth 100000 in
theorem dp_X6_10 {D : va_G} {H : Heap} {a : Nat → Nat} {ac : Nat → ClassId} {σ : St × (St)} (h : va_P D vwCl (dw_X6 a ac σ) H) : va_P D vwCl (dw_X10 (fun k => a (k + 10)) (fun k => ac (k + 10)) (σ.2)) H := (nd_pr h)
set_option maxHeartbeats 40000000 in
set_option maxRecDepth 100000 in
theorem dd_X6_10 {A : Nat → Prop} {a : Nat → Nat} {ac : Nat → ClassId} {σ : St × (St)} (h : va_D A (dw_X6 a ac σ)) : va_D A (dw_X10 (fun k => a (k + 10)) (fun k => ac (k + 10)) (σ.2)) := (nd_dr h)
set_option maxHeartbeats 40000000 in
set_option maxRecDepth 100000 in
theorem dy_X6_10 {D : va_G} {U : State} {ac : Nat → ClassId} (h : va_K D vwCl (dk_X6 ac) U) : va_K D vwCl (dk_X10 (fun k => ac (k + 10))) U := (nd_yr h)
set_option maxHeartbeats 40000000 in
set_option maxRecDepth 100000 in
theorem dn_X6_10 {A0 : Nat → Prop} {D : va_G} {H H1 : Heap} {a : Nat → Nat} {ac : Nat → ClassId} {σ : St × (St)} {τ : St} (hP : va_P D vwCl (dw_X6 a ac σ) H) (hD : va_D A0 (dw_X6 a ac σ)) (hA : ∀ q : Nat, H.size ≤ q → A0 q) (hk : ∀ q : Nat, q < H.size → ¬ va_A (dw_X10 (fun k => a (k + 10)) (fun k => ac (k + 10)) (σ.2)) H.size q → H1[q]? = H[q]?) (h1 : va_P D vwCl (dw_X10 (fun k => a (k + 10)) (fun k => ac (k + 10)) τ) H1) (h2 : va_D (va_A (dw_X10 (fun k => a (k + 10)) (fun k => ac (k + 10)) (σ.2)) H.size) (dw_X10 (fun k => a (k + 10)) (fun k => ac (k + 10)) τ)) : va_P D vwCl (dw_X6 a ac (σ.1, τ)) H1 ∧ va_D A0 (dw_X6 a ac (σ.1, τ)) := by
  obtain ⟨h1, h2, hk⟩ := nd_stepR hP hD hk h1 h2
  exact ⟨h1, h2.weaken (fun k q _ h => nd_rq hD hA q.1 h)⟩
def dw_X4 (a : Nat → Nat) (ac : Nat → ClassId) (σ : St × (St × (St))) : va_W := ([(a 0, .inr (5, [.ref (a 1), .ref (a 5), .int (sI σ.1 0), .int (sI σ.1 1), .int (sI σ.1 2), .int (sI σ.1 3)]))] : va_W) ++ (dw_X6 (fun k => a (k + 1)) (fun k => ac (k + 1)) σ.2)
def dk_X4 (ac : Nat → ClassId) : List (ClassId × FieldType) := ([] : List (ClassId × FieldType)) ++ (dk_X6 (fun k => ac (k + 1)))
set_option maxHeartbeats 40000000 in
set_option maxRecDepth 100000 in
theorem dp_X4_1 {D : va_G} {H : Heap} {a : Nat → Nat} {ac : Nat → ClassId} {σ : St × (St × (St))} (h : va_P D vwCl (dw_X4 a ac σ) H) : va_P D vwCl (dw_X6 (fun k => a (k + 1)) (fun k => ac (k + 1)) (σ.2)) H := (nd_pr h)
set_option maxHeartbeats 40000000 in
set_option maxRecDepth 100000 in
theorem dd_X4_1 {A : Nat → Prop} {a : Nat → Nat} {ac : Nat → ClassId} {σ : St × (St × (St))} (h : va_D A (dw_X4 a ac σ)) : va_D A (dw_X6 (fun k => a (k + 1)) (fun k => ac (k + 1)) (σ.2)) := (nd_dr h)
set_option maxHeartbeats 40000000 in
set_option maxRecDepth 100000 in
theorem dy_X4_1 {D : va_G} {U : State} {ac : Nat → ClassId} (h : va_K D vwCl (dk_X4 ac) U) : va_K D vwCl (dk_X6 (fun k => ac (k + 1))) U := (nd_yr h)
set_option maxHeartbeats 40000000 in
set_option maxRecDepth 100000 in
theorem dn_X4_1 {A0 : Nat → Prop} {D : va_G} {H H1 : Heap} {a : Nat → Nat} {ac : Nat → ClassId} {σ : St × (St × (St))} {τ : St × (St)} (hP : va_P D vwCl (dw_X4 a ac σ) H) (hD : va_D A0 (dw_X4 a ac σ)) (hA : ∀ q : Nat, H.size ≤ q → A0 q) (hk : ∀ q : Nat, q < H.size → ¬ va_A (dw_X6 (fun k => a (k + 1)) (fun k => ac (k + 1)) (σ.2)) H.size q → H1[q]? = H[q]?) (h1 : va_P D vwCl (dw_X6 (fun k => a (k + 1)) (fun k => ac (k + 1)) τ) H1) (h2 : va_D (va_A (dw_X6 (fun k => a (k + 1)) (fun k => ac (k + 1)) (σ.2)) H.size) (dw_X6 (fun k => a (k + 1)) (fun k => ac (k + 1)) τ)) : va_P D vwCl (dw_X4 a ac (σ.1, τ)) H1 ∧ va_D A0 (dw_X4 a ac (σ.1, τ)) := by
  obtain ⟨h1, h2, hk⟩ := nd_stepR hP hD hk h1 h2
  exact ⟨h1, h2.weaken (fun k q _ h => nd_rq hD hA q.1 h)⟩
set_option maxHeartbeats 40000000 in
set_option maxRecDepth 100000 in
theorem dp_X4_11 {D : va_G} {H : Heap} {a : Nat → Nat} {ac : Nat → ClassId} {σ : St × (St × (St))} (h : va_P D vwCl (dw_X4 a ac σ) H) : va_P D vwCl (dw_X10 (fun k => a (k + 11)) (fun k => ac (k + 11)) (σ.2.2)) H := (nd_pr (nd_pr h))
set_option maxHeartbeats 40000000 in
set_option maxRecDepth 100000 in
theorem dd_X4_11 {A : Nat → Prop} {a : Nat → Nat} {ac : Nat → ClassId} {σ : St × (St × (St))} (h : va_D A (dw_X4 a ac σ)) : va_D A (dw_X10 (fun k => a (k + 11)) (fun k => ac (k + 11)) (σ.2.2)) := (nd_dr (nd_dr h))
set_option maxHeartbeats 40000000 in
set_option maxRecDepth 100000 in
theorem dy_X4_11 {D : va_G} {U : State} {ac : Nat → ClassId} (h : va_K D vwCl (dk_X4 ac) U) : va_K D vwCl (dk_X10 (fun k => ac (k + 11))) U := (nd_yr (nd_yr h))
set_option maxHeartbeats 40000000 in
set_option maxRecDepth 100000 in
theorem dn_X4_11 {A0 : Nat → Prop} {D : va_G} {H H1 : Heap} {a : Nat → Nat} {ac : Nat → ClassId} {σ : St × (St × (St))} {τ : St} (hP : va_P D vwCl (dw_X4 a ac σ) H) (hD : va_D A0 (dw_X4 a ac σ)) (hA : ∀ q : Nat, H.size ≤ q → A0 q) (hk : ∀ q : Nat, q < H.size → ¬ va_A (dw_X10 (fun k => a (k + 11)) (fun k => ac (k + 11)) (σ.2.2)) H.size q → H1[q]? = H[q]?) (h1 : va_P D vwCl (dw_X10 (fun k => a (k + 11)) (fun k => ac (k + 11)) τ) H1) (h2 : va_D (va_A (dw_X10 (fun k => a (k + 11)) (fun k => ac (k + 11)) (σ.2.2)) H.size) (dw_X10 (fun k => a (k + 11)) (fun k => ac (k + 11)) τ)) : va_P D vwCl (dw_X4 a ac (σ.1, (σ.2.1, τ))) H1 ∧ va_D A0 (dw_X4 a ac (σ.1, (σ.2.1, τ))) := by
  obtain ⟨h1, h2, hk⟩ := nd_stepR (nd_pr hP) (nd_dr hD) hk h1 h2
  obtain ⟨h1, h2, hk⟩ := nd_stepR hP hD hk h1 h2
  exact ⟨h1, h2.weaken (fun k q _ h => nd_rq hD hA q.1 h)⟩
def dw_X9 (a : Nat → Nat) (ac : Nat → ClassId) (σ : St) : va_W := ([(a 0, .inr (10, [va_rf (Option.map a (sO σ 0)), .int (sI σ 0), .int (sI σ 1), .int (sI σ 2), .int (sI σ 3), .int (sI σ 4), .ref (a 1), .ref (a 2), .int (sI σ 5), .ref (a 3), .int (sI σ 6), .int (sI σ 7), .ref (a 4), .int (sI σ 8), .ref (a 5), .ref (a 6), .ref (a 7), .int (sI σ 9), .int (sI σ 10), .int (sI σ 11)])), (a 1, .inl (ac 1, 32832, .inl (sR σ 0))), (a 2, .inl (ac 2, 32832, .inl (sR σ 1))), (a 3, .inl (ac 3, 32832, .inl (sR σ 2))), (a 4, .inl (ac 4, 81925, .inl (sR σ 3))), (a 5, .inl (ac 5, 256, .inl (sR σ 4))), (a 6, .inl (ac 6, 20, .inl (sR σ 5))), (a 7, .inl (ac 7, 81925, .inl (sR σ 6))), (a 8, .inl (ac 8, 32768, .inl (sR σ 7)))] : va_W)
def dk_X9 (ac : Nat → ClassId) : List (ClassId × FieldType) := ([(ac 1, .int), (ac 2, .int), (ac 3, .int), (ac 4, .int), (ac 5, .int), (ac 6, .int), (ac 7, .int), (ac 8, .byte)] : List (ClassId × FieldType))
def dw_X1 (a : Nat → Nat) (ac : Nat → ClassId) (σ : St × (St)) : va_W := ([(a 0, .inr (2, [.ref (a 3), .ref (a 1), .int (sI σ.1 0), .ref (a 2), .int (sI σ.1 1), .int (sI σ.1 2), .int (sI σ.1 3), .int (sI σ.1 4), .int (sI σ.1 5), .int (sI σ.1 6), .int (sI σ.1 7), .int (sI σ.1 8), .int (sI σ.1 9)])), (a 1, .inl (ac 1, 65552, .inl (sR σ.1 0))), (a 2, .inl (ac 2, 32832, .inl (sR σ.1 1)))] : va_W) ++ (dw_X9 (fun k => a (k + 3)) (fun k => ac (k + 3)) σ.2)
def dk_X1 (ac : Nat → ClassId) : List (ClassId × FieldType) := ([(ac 1, .int), (ac 2, .byte)] : List (ClassId × FieldType)) ++ (dk_X9 (fun k => ac (k + 3)))
set_option maxHeartbeats 40000000 in
set_option maxRecDepth 100000 in
theorem dp_X1_3 {D : va_G} {H : Heap} {a : Nat → Nat} {ac : Nat → ClassId} {σ : St × (St)} (h : va_P D vwCl (dw_X1 a ac σ) H) : va_P D vwCl (dw_X9 (fun k => a (k + 3)) (fun k => ac (k + 3)) (σ.2)) H := (nd_pr h)
set_option maxHeartbeats 40000000 in
set_option maxRecDepth 100000 in
theorem dd_X1_3 {A : Nat → Prop} {a : Nat → Nat} {ac : Nat → ClassId} {σ : St × (St)} (h : va_D A (dw_X1 a ac σ)) : va_D A (dw_X9 (fun k => a (k + 3)) (fun k => ac (k + 3)) (σ.2)) := (nd_dr h)
set_option maxHeartbeats 40000000 in
set_option maxRecDepth 100000 in
theorem dy_X1_3 {D : va_G} {U : State} {ac : Nat → ClassId} (h : va_K D vwCl (dk_X1 ac) U) : va_K D vwCl (dk_X9 (fun k => ac (k + 3))) U := (nd_yr h)
set_option maxHeartbeats 40000000 in
set_option maxRecDepth 100000 in
theorem dn_X1_3 {A0 : Nat → Prop} {D : va_G} {H H1 : Heap} {a : Nat → Nat} {ac : Nat → ClassId} {σ : St × (St)} {τ : St} (hP : va_P D vwCl (dw_X1 a ac σ) H) (hD : va_D A0 (dw_X1 a ac σ)) (hA : ∀ q : Nat, H.size ≤ q → A0 q) (hk : ∀ q : Nat, q < H.size → ¬ va_A (dw_X9 (fun k => a (k + 3)) (fun k => ac (k + 3)) (σ.2)) H.size q → H1[q]? = H[q]?) (h1 : va_P D vwCl (dw_X9 (fun k => a (k + 3)) (fun k => ac (k + 3)) τ) H1) (h2 : va_D (va_A (dw_X9 (fun k => a (k + 3)) (fun k => ac (k + 3)) (σ.2)) H.size) (dw_X9 (fun k => a (k + 3)) (fun k => ac (k + 3)) τ)) : va_P D vwCl (dw_X1 a ac (σ.1, τ)) H1 ∧ va_D A0 (dw_X1 a ac (σ.1, τ)) := by
  obtain ⟨h1, h2, hk⟩ := nd_stepR hP hD hk h1 h2
  exact ⟨h1, h2.weaken (fun k q _ h => nd_rq hD hA q.1 h)⟩
def dw_X3 (a : Nat → Nat) (ac : Nat → ClassId) (σ : St) : va_W := ([(a 0, .inr (4, [.ref (a 1), .ref (a 2), .ref (a 3), .ref (a 4), .int (sI σ 0), .int (sI σ 1), va_rf (Option.map a (sO σ 0)), .int (sI σ 2), .int (sI σ 3), .int (sI σ 4), .int (sI σ 5)])), (a 1, .inl (ac 1, 2048, .inl (sR σ 0))), (a 2, .inl (ac 2, 2048, .inr (.inl (sQ σ 0)))), (a 3, .inl (ac 3, 2048, .inr (.inl (sQ σ 1)))), (a 4, .inl (ac 4, 2048, .inl (sR σ 1))), (a 5, .inl (ac 5, 32768, .inl (sR σ 2)))] : va_W)
def dk_X3 (ac : Nat → ClassId) : List (ClassId × FieldType) := ([(ac 1, .int), (ac 2, .long), (ac 3, .long), (ac 4, .int), (ac 5, .byte)] : List (ClassId × FieldType))
def dw_X8 (a : Nat → Nat) (ac : Nat → ClassId) (σ : St) : va_W := ([(a 0, .inr (9, [.ref (a 1), .int (sI σ 0), .int (sI σ 1), .int (sI σ 2), .int (sI σ 3), .ref (a 2), .int (sI σ 4), .ref (a 3), .ref (a 4), .int (sI σ 5)])), (a 1, .inl (ac 1, 32768, .inl (sR σ 0))), (a 2, .inl (ac 2, 10986, .inl (sR σ 1))), (a 3, .inl (ac 3, 8194, .inl (sR σ 2))), (a 4, .inl (ac 4, 8194, .inl (sR σ 3)))] : va_W)
def dk_X8 (ac : Nat → ClassId) : List (ClassId × FieldType) := ([(ac 1, .byte), (ac 2, .int), (ac 3, .int), (ac 4, .int)] : List (ClassId × FieldType))
def dw_X2 (a : Nat → Nat) (ac : Nat → ClassId) (σ : St) : va_W := ([(a 0, .inr (3, [.ref (a 1), .ref (a 2), .int (sI σ 0), .ref (a 3), .int (sI σ 1), .ref (a 4), .ref (a 5), .ref (a 6), .ref (a 7), .ref (a 8), .int (sI σ 2), .int (sI σ 3), va_rf (Option.map a (sO σ 0)), .int (sI σ 4), .int (sI σ 5), .int (sI σ 6), .int (sI σ 7), .long (sL σ 0), .int (sI σ 8), .int (sI σ 9)])), (a 1, .inl (ac 1, 160, .inl (sR σ 0))), (a 2, .inl (ac 2, 160, .inr (.inl (sQ σ 0)))), (a 3, .inl (ac 3, 41, .inr (.inl (sQ σ 1)))), (a 4, .inl (ac 4, 41, .inl (sR σ 1))), (a 5, .inl (ac 5, 41, .inl (sR σ 2))), (a 6, .inl (ac 6, 40, .inl (sR σ 3))), (a 7, .inl (ac 7, 40, .inl (sR σ 4))), (a 8, .inl (ac 8, 40, .inr (.inl (sQ σ 2)))), (a 9, .inl (ac 9, 32768, .inl (sR σ 5)))] : va_W)
def dk_X2 (ac : Nat → ClassId) : List (ClassId × FieldType) := ([(ac 1, .int), (ac 2, .long), (ac 3, .long), (ac 4, .int), (ac 5, .int), (ac 6, .int), (ac 7, .int), (ac 8, .long), (ac 9, .byte)] : List (ClassId × FieldType))

