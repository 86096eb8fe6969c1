def nv_Dl : List MethodName := [⟨"java/lang/RuntimeException", "<init>", "()V"⟩, ⟨"java/lang/Exception", "<init>", "()V"⟩, ⟨"java/lang/Throwable", "<init>", "()V"⟩]
def nv_Dc (U : State) : Prop := ∀ q ∈ nv_Dl, va_Nw (.declares q) U
theorem nv_Dcall {s U : State} (hW : s.WarmedH U.vm) (h : nv_Dc s) : nv_Dc U := fun q hq => va_Nw.warmD hW (h q hq)
theorem nv_Dsame {u U : State} (e : u.vm = U.vm) (h : nv_Dc u) : nv_Dc U := fun q hq => va_Nw.same rfl e (h q hq)
def dwo_X19 (a : Nat → Nat) (ac : Nat → ClassId) (s : St) : va_W := ([(a 0, .inr (20, [.int (sI s 0), .ref (a 92), .int (sI s 1), .int (sI s 2), .ref (a 1), .ref (a 2), .ref (a 3), .ref (a 4), .ref (a 5), .ref (a 26), va_rf (Option.map a (sO s 0)), .ref (a 80), .ref (a 15), .ref (a 44), .ref (a 27), .ref (a 86), .ref (a 93), .int (sI s 3), .int (sI s 4), .int (sI s 5), .int (sI s 6), .int (sI s 7), .int (sI s 8), .int (sI s 9), .int (sI s 10), .int (sI s 11), .ref (a 6), .ref (a 7), .ref (a 8), .ref (a 9), .ref (a 10), .ref (a 11), .ref (a 12), .ref (a 13), .ref (a 14), .int (sI s 12)])), (a 1, .inl (ac 1, 4, .inl (sR s 0))), (a 2, .inl (ac 2, 4, .inl (sR s 1))), (a 3, .inl (ac 3, 4, .inl (sR s 2))), (a 4, .inl (ac 4, 4, .inl (sR s 3))), (a 5, .inl (ac 5, 4, .inl (sR s 4))), (a 6, .inl (ac 6, 2048, .inl (sR s 5))), (a 7, .inl (ac 7, 2048, .inl (sR s 6))), (a 8, .inl (ac 8, 2048, .inl (sR s 7))), (a 9, .inl (ac 9, 2048, .inl (sR s 8))), (a 10, .inl (ac 10, 2048, .inl (sR s 9))), (a 11, .inl (ac 11, 2048, .inr (.inl (sQ s 0)))), (a 12, .inl (ac 12, 2048, .inr (.inl (sQ s 1)))), (a 13, .inl (ac 13, 2048, .inr (.inl (sQ s 2)))), (a 14, .inl (ac 14, 32768, .inl (sR s 10)))] : va_W)
def dwo_X14 (a : Nat → Nat) (ac : Nat → ClassId) (σ : St) : va_W := ([(a 0, .inr (15, [.int (sI σ 0), .ref (a 1), .ref (a 2), .ref (a 3), .ref (a 4), .ref (a 5), .int (sI σ 1), va_rf (Option.map a (sO σ 0)), .int (sI σ 2), .int (sI σ 3), .int (sI σ 4)])), (a 1, .inl (ac 1, 2048, .inl (sR σ 0))), (a 2, .inl (ac 2, 2048, .inl (sR σ 1))), (a 3, .inl (ac 3, 2048, .inr (.inl (sQ σ 0)))), (a 4, .inl (ac 4, 2048, .inr (.inl (sQ σ 1)))), (a 5, .inl (ac 5, 32768, .inl (sR σ 2)))] : va_W)
def sgX19 (a : Nat → Nat) (ac : Nat → ClassId) (σ : St × (St) × (St × (St × (St))) × (St) × (St)) : List va_W := [dwo_X19 a ac σ.1, dw_X13 (fun k => a (k + 15)) (fun k => ac (k + 15)) σ.2.1, dw_X15 (fun k => a (k + 27)) (fun k => ac (k + 27)) σ.2.2.1, dwo_X14 (fun k => a (k + 86)) (fun k => ac (k + 86)) σ.2.2.2.1, [(a 92, .inl (ac 92, 32768, .inl (sR σ.2.2.2.1 3)))], dw_X18 (fun k => a (k + 93)) (fun k => ac (k + 93)) σ.2.2.2.2]
set_option maxHeartbeats 40000000 in
set_option maxRecDepth 100000 in
theorem eX19 {a : Nat → Nat} {ac : Nat → ClassId} {σ : St × (St) × (St × (St × (St))) × (St) × (St)} : dw_X19 a ac σ = (sgX19 a ac σ).flatten := by
  unfold sgX19 dw_X19 dwo_X19
  rw [List.flatten_cons, List.flatten_cons, List.flatten_cons, List.flatten_cons, List.flatten_cons, List.flatten_cons, List.flatten_nil, List.append_nil]
  rfl
set_option maxHeartbeats 40000000 in
set_option maxRecDepth 100000 in
theorem dA_X19 {a : Nat → Nat} {ac : Nat → ClassId} {σ σ1 : St × (St) × (St × (St × (St))) × (St) × (St)} : (dw_X19 a ac σ1).map (fun q => q.1) = (dw_X19 a ac σ).map (fun q => q.1) := by
  rw [eX19, eX19, List.map_flatten, List.map_flatten]
  exact congrArg List.flatten rfl
theorem nv_aldg {p : Program} {l : Launch} {e : Env} {R : Room} {s : State} {m : MethodId} {args : Array Value} {below : List Frame} {meth : Method} {c : Code} {H : Heap} {locs : List Loc} {cells slots : Nat} {Q : State → Prop} {cc : ByteArray} {pc : Nat} {ls : Array Slot} {rest : List Value} {D : va_G} {cl : List vw_C} {a : Nat} {tys : List (ClassId × FieldType)} {ws : va_W} (hexec : p.tables.exec = Jvm.exec) (hb : c.code = cc) (hK : va_K D cl tys s) (hP : va_P D cl ws H) (q0 t0 : Nat) {cA : ClassId} {n : Nat} {f : Nat → Option Nat} (ha : ws[q0]? = some (a, .inl (cA, n, .inr (.inr (.inr (.inr f)))))) (ht : tys[t0]? = some (cA, .array .int)) {i : Int32} (hin : vp_in i n) (hdg : decode cc pc = .ok (.aaload, 1))
    (kk : W p l e R s m args below meth c H locs cells slots Q (F0 m (pc + 1) ls (va_rf (f i.toNatClampNeg) :: rest))) : W p l e R s m args below meth c H locs cells slots Q (F0 m pc ls (.int i :: .ref a :: rest)) := by
  have hlt : i.toNatClampNeg < n := Nat.not_le.mp fun q => hin (Or.inr q)
  exact W.aald (v := va_rf (f i.toNatClampNeg)) (ty := .array .int) hexec hb (hP q0 _ ha) ((hK.2 t0 _ ht).1 n (fun j => va_rf (f j))) rfl (fun q => by cases q) (by show ¬ (i < 0 ∨ (arrV _ _ _).slots.size ≤ _); rw [arrV_size]; exact hin) (by show (arrV _ _ _).slots[_]? = _; rw [arrV_read _ _ hlt]) rfl rfl hdg kk
abbrev Lx : Type := Option (Nat × Nat × (Nat → Int32))
abbrev Lb : Type := Nat → Lx
def dw_LB (c : ClassId) (x : Lx) : va_W := match x with
  | none => []
  | some y => [(y.1, .inl (c, y.2.1, .inl y.2.2))]
def dw_lab (a : Nat → Nat) (ac : Nat → ClassId) (ℓ : Lb) : va_W := (a 96, .inl (ac 96, 4, .inr (.inr (.inr (.inr (fun i => Option.map (fun x => x.1) (ℓ i))))))) :: ((List.range 4).map (fun j => dw_LB (ac 2) (ℓ j))).flatten
def dw_X19L (a : Nat → Nat) (ac : Nat → ClassId) (σ : (St × (St) × (St × (St × (St))) × (St) × (St)) × Lb) : va_W := dw_X19 a ac σ.1 ++ dw_lab a ac σ.2
def dk_X19L (ac : Nat → ClassId) : List (ClassId × FieldType) := dk_X19 ac ++ [(ac 96, .array .int)]
def nd_l {α : Type} (o : Lx) (k : Nat × Nat × (Nat → Int32) → Option α) : Option α := match o with
  | none => none
  | some x => k x
theorem nd_l_e {α : Type} {o : Lx} {k : Nat × Nat × (Nat → Int32) → Option α} {r : α} (h : nd_l o k = some r) : ∃ x, o = some x ∧ k x = some r := by
  cases o with
  | none => exact nomatch h
  | some x => exact ⟨x, rfl, h⟩
theorem dlab {D : va_G} {H : Heap} {a : Nat → Nat} {ac : Nat → ClassId} {σ : (St × (St) × (St × (St × (St))) × (St) × (St)) × Lb} {j : Nat} {x : Nat × Nat × (Nat → Int32)} (h : va_P D vwCl (dw_X19L a ac σ) H) (e : σ.2 j = some x) (hj : j < 4) : va_P D vwCl [(x.1, .inl (ac 2, x.2.1, .inl x.2.2))] H := fun k q hk => by
  rcases k with _ | k
  · obtain rfl : (x.1, _) = q := Option.some.inj hk
    have hm : (x.1, (.inl (ac 2, x.2.1, .inl x.2.2) : va_E)) ∈ dw_X19L a ac σ := by
      refine List.mem_append_right _ (List.mem_cons_of_mem _ (List.mem_flatten.mpr ⟨dw_LB (ac 2) (σ.2 j), List.mem_map.mpr ⟨j, List.mem_range.mpr hj, rfl⟩, ?_⟩))
      rw [e]
      exact List.mem_singleton.mpr rfl
    obtain ⟨k, hk2⟩ := List.mem_iff_getElem?.mp hm
    exact h k _ hk2
  · exact nomatch (show (none : Option (Nat × va_E)) = some q from hk)
set_option maxHeartbeats 40000000 in
set_option maxRecDepth 100000 in
theorem dp_X19L_0 {D : va_G} {H : Heap} {a : Nat → Nat} {ac : Nat → ClassId} {σ : (St × (St) × (St × (St × (St))) × (St) × (St)) × Lb} (h : va_P D vwCl (dw_X19L a ac σ) H) : va_P D vwCl (dw_X19 (fun k => a (k + 0)) (fun k => ac (k + 0)) (σ.1)) H := (nd_pl h)
set_option maxHeartbeats 40000000 in
set_option maxRecDepth 100000 in
theorem dd_X19L_0 {A : Nat → Prop} {a : Nat → Nat} {ac : Nat → ClassId} {σ : (St × (St) × (St × (St × (St))) × (St) × (St)) × Lb} (h : va_D A (dw_X19L a ac σ)) : va_D A (dw_X19 (fun k => a (k + 0)) (fun k => ac (k + 0)) (σ.1)) := (nd_dl h)
set_option maxHeartbeats 40000000 in
set_option maxRecDepth 100000 in
theorem dy_X19L_0 {D : va_G} {U : State} {ac : Nat → ClassId} (h : va_K D vwCl (dk_X19L ac) U) : va_K D vwCl (dk_X19 (fun k => ac (k + 0))) U := (nd_yl h)
set_option maxHeartbeats 40000000 in
set_option maxRecDepth 100000 in
theorem dn_X19L_0 {A0 : Nat → Prop} {D : va_G} {H H1 : Heap} {a : Nat → Nat} {ac : Nat → ClassId} {σ : (St × (St) × (St × (St × (St))) × (St) × (St)) × Lb} {τ : St × (St) × (St × (St × (St))) × (St) × (St)} (hP : va_P D vwCl (dw_X19L a ac σ) H) (hD : va_D A0 (dw_X19L a ac σ)) (hA : ∀ q : Nat, H.size ≤ q → A0 q) (hk : ∀ q : Nat, q < H.size → ¬ va_A (dw_X19 (fun k => a (k + 0)) (fun k => ac (k + 0)) (σ.1)) H.size q → H1[q]? = H[q]?) (h1 : va_P D vwCl (dw_X19 (fun k => a (k + 0)) (fun k => ac (k + 0)) τ) H1) (h2 : va_D (va_A (dw_X19 (fun k => a (k + 0)) (fun k => ac (k + 0)) (σ.1)) H.size) (dw_X19 (fun k => a (k + 0)) (fun k => ac (k + 0)) τ)) : va_P D vwCl (dw_X19L a ac (τ, σ.2)) H1 ∧ va_D A0 (dw_X19L a ac (τ, σ.2)) := by
  obtain ⟨h1, h2, hk⟩ := nd_stepL hP hD hk h1 h2
  exact ⟨h1, h2.weaken (fun k q _ h => nd_rq hD hA q.1 h)⟩
set_option maxHeartbeats 40000000 in
set_option maxRecDepth 100000 in
theorem dp_X19L_15 {D : va_G} {H : Heap} {a : Nat → Nat} {ac : Nat → ClassId} {σ : (St × (St) × (St × (St × (St))) × (St) × (St)) × Lb} (h : va_P D vwCl (dw_X19L a ac σ) H) : va_P D vwCl (dw_X13 (fun k => a (k + 15)) (fun k => ac (k + 15)) (σ.1.2.1)) H := (nd_pl (nd_pr (nd_pl h)))
set_option maxHeartbeats 40000000 in
set_option maxRecDepth 100000 in
theorem dd_X19L_15 {A : Nat → Prop} {a : Nat → Nat} {ac : Nat → ClassId} {σ : (St × (St) × (St × (St × (St))) × (St) × (St)) × Lb} (h : va_D A (dw_X19L a ac σ)) : va_D A (dw_X13 (fun k => a (k + 15)) (fun k => ac (k + 15)) (σ.1.2.1)) := (nd_dl (nd_dr (nd_dl h)))
set_option maxHeartbeats 40000000 in
set_option maxRecDepth 100000 in
theorem dy_X19L_15 {D : va_G} {U : State} {ac : Nat → ClassId} (h : va_K D vwCl (dk_X19L ac) U) : va_K D vwCl (dk_X13 (fun k => ac (k + 15))) U := (nd_yl (nd_yr (nd_yl h)))
set_option maxHeartbeats 40000000 in
set_option maxRecDepth 100000 in
theorem dn_X19L_15 {A0 : Nat → Prop} {D : va_G} {H H1 : Heap} {a : Nat → Nat} {ac : Nat → ClassId} {σ : (St × (St) × (St × (St × (St))) × (St) × (St)) × Lb} {τ : St} (hP : va_P D vwCl (dw_X19L a ac σ) H) (hD : va_D A0 (dw_X19L a ac σ)) (hA : ∀ q : Nat, H.size ≤ q → A0 q) (hk : ∀ q : Nat, q < H.size → ¬ va_A (dw_X13 (fun k => a (k + 15)) (fun k => ac (k + 15)) (σ.1.2.1)) H.size q → H1[q]? = H[q]?) (h1 : va_P D vwCl (dw_X13 (fun k => a (k + 15)) (fun k => ac (k + 15)) τ) H1) (h2 : va_D (va_A (dw_X13 (fun k => a (k + 15)) (fun k => ac (k + 15)) (σ.1.2.1)) H.size) (dw_X13 (fun k => a (k + 15)) (fun k => ac (k + 15)) τ)) : va_P D vwCl (dw_X19L a ac ((σ.1.1, (τ, σ.1.2.2)), σ.2)) H1 ∧ va_D A0 (dw_X19L a ac ((σ.1.1, (τ, σ.1.2.2)), σ.2)) := by
  obtain ⟨h1, h2, hk⟩ := nd_stepL (nd_pr (nd_pl hP)) (nd_dr (nd_dl hD)) hk h1 h2
  obtain ⟨h1, h2, hk⟩ := nd_stepR (nd_pl hP) (nd_dl hD) hk h1 h2
  obtain ⟨h1, h2, hk⟩ := nd_stepL hP hD hk h1 h2
  exact ⟨h1, h2.weaken (fun k q _ h => nd_rq hD hA q.1 h)⟩
set_option maxHeartbeats 40000000 in
set_option maxRecDepth 100000 in
theorem dp_X19L_27 {D : va_G} {H : Heap} {a : Nat → Nat} {ac : Nat → ClassId} {σ : (St × (St) × (St × (St × (St))) × (St) × (St)) × Lb} (h : va_P D vwCl (dw_X19L a ac σ) H) : va_P D vwCl (dw_X15 (fun k => a (k + 27)) (fun k => ac (k + 27)) (σ.1.2.2.1)) H := (nd_pl (nd_pr (nd_pr (nd_pl h))))
set_option maxHeartbeats 40000000 in
set_option maxRecDepth 100000 in
theorem dd_X19L_27 {A : Nat → Prop} {a : Nat → Nat} {ac : Nat → ClassId} {σ : (St × (St) × (St × (St × (St))) × (St) × (St)) × Lb} (h : va_D A (dw_X19L a ac σ)) : va_D A (dw_X15 (fun k => a (k + 27)) (fun k => ac (k + 27)) (σ.1.2.2.1)) := (nd_dl (nd_dr (nd_dr (nd_dl h))))
set_option maxHeartbeats 40000000 in
set_option maxRecDepth 100000 in
theorem dy_X19L_27 {D : va_G} {U : State} {ac : Nat → ClassId} (h : va_K D vwCl (dk_X19L ac) U) : va_K D vwCl (dk_X15 (fun k => ac (k + 27))) U := (nd_yl (nd_yr (nd_yr (nd_yl h))))
set_option maxHeartbeats 40000000 in
set_option maxRecDepth 100000 in
theorem dn_X19L_27 {A0 : Nat → Prop} {D : va_G} {H H1 : Heap} {a : Nat → Nat} {ac : Nat → ClassId} {σ : (St × (St) × (St × (St × (St))) × (St) × (St)) × Lb} {τ : St × (St × (St))} (hP : va_P D vwCl (dw_X19L a ac σ) H) (hD : va_D A0 (dw_X19L a ac σ)) (hA : ∀ q : Nat, H.size ≤ q → A0 q) (hk : ∀ q : Nat, q < H.size → ¬ va_A (dw_X15 (fun k => a (k + 27)) (fun k => ac (k + 27)) (σ.1.2.2.1)) H.size q → H1[q]? = H[q]?) (h1 : va_P D vwCl (dw_X15 (fun k => a (k + 27)) (fun k => ac (k + 27)) τ) H1) (h2 : va_D (va_A (dw_X15 (fun k => a (k + 27)) (fun k => ac (k + 27)) (σ.1.2.2.1)) H.size) (dw_X15 (fun k => a (k + 27)) (fun k => ac (k + 27)) τ)) : va_P D vwCl (dw_X19L a ac ((σ.1.1, (σ.1.2.1, (τ, σ.1.2.2.2))), σ.2)) H1 ∧ va_D A0 (dw_X19L a ac ((σ.1.1, (σ.1.2.1, (τ, σ.1.2.2.2))), σ.2)) := by
  obtain ⟨h1, h2, hk⟩ := nd_stepL (nd_pr (nd_pr (nd_pl hP))) (nd_dr (nd_dr (nd_dl hD))) hk h1 h2
  obtain ⟨h1, h2, hk⟩ := nd_stepR (nd_pr (nd_pl hP)) (nd_dr (nd_dl hD)) hk h1 h2
  obtain ⟨h1, h2, hk⟩ := nd_stepR (nd_pl hP) (nd_dl hD) hk h1 h2
  obtain ⟨h1, h2, hk⟩ := nd_stepL hP hD hk h1 h2
  exact ⟨h1, h2.weaken (fun k q _ h => nd_rq hD hA q.1 h)⟩
set_option maxHeartbeats 40000000 in
set_option maxRecDepth 100000 in
theorem dp_X19L_44 {D : va_G} {H : Heap} {a : Nat → Nat} {ac : Nat → ClassId} {σ : (St × (St) × (St × (St × (St))) × (St) × (St)) × Lb} (h : va_P D vwCl (dw_X19L a ac σ) H) : va_P D vwCl (dw_X16 (fun k => a (k + 44)) (fun k => ac (k + 44)) (σ.1.2.2.1.2)) H := (nd_pr (nd_pl (nd_pr (nd_pr (nd_pl h)))))
set_option maxHeartbeats 40000000 in
set_option maxRecDepth 100000 in
theorem dd_X19L_44 {A : Nat → Prop} {a : Nat → Nat} {ac : Nat → ClassId} {σ : (St × (St) × (St × (St × (St))) × (St) × (St)) × Lb} (h : va_D A (dw_X19L a ac σ)) : va_D A (dw_X16 (fun k => a (k + 44)) (fun k => ac (k + 44)) (σ.1.2.2.1.2)) := (nd_dr (nd_dl (nd_dr (nd_dr (nd_dl h)))))
set_option maxHeartbeats 40000000 in
set_option maxRecDepth 100000 in
theorem dy_X19L_44 {D : va_G} {U : State} {ac : Nat → ClassId} (h : va_K D vwCl (dk_X19L ac) U) : va_K D vwCl (dk_X16 (fun k => ac (k + 44))) U := (nd_yr (nd_yl (nd_yr (nd_yr (nd_yl h)))))
set_option maxHeartbeats 40000000 in
set_option maxRecDepth 100000 in
theorem dn_X19L_44 {A0 : Nat → Prop} {D : va_G} {H H1 : Heap} {a : Nat → Nat} {ac : Nat → ClassId} {σ : (St × (St) × (St × (St × (St))) × (St) × (St)) × Lb} {τ : St × (St)} (hP : va_P D vwCl (dw_X19L a ac σ) H) (hD : va_D A0 (dw_X19L a ac σ)) (hA : ∀ q : Nat, H.size ≤ q → A0 q) (hk : ∀ q : Nat, q < H.size → ¬ va_A (dw_X16 (fun k => a (k + 44)) (fun k => ac (k + 44)) (σ.1.2.2.1.2)) H.size q → H1[q]? = H[q]?) (h1 : va_P D vwCl (dw_X16 (fun k => a (k + 44)) (fun k => ac (k + 44)) τ) H1) (h2 : va_D (va_A (dw_X16 (fun k => a (k + 44)) (fun k => ac (k + 44)) (σ.1.2.2.1.2)) H.size) (dw_X16 (fun k => a (k + 44)) (fun k => ac (k + 44)) τ)) : va_P D vwCl (dw_X19L a ac ((σ.1.1, (σ.1.2.1, ((σ.1.2.2.1.1, τ), σ.1.2.2.2))), σ.2)) H1 ∧ va_D A0 (dw_X19L a ac ((σ.1.1, (σ.1.2.1, ((σ.1.2.2.1.1, τ), σ.1.2.2.2))), σ.2)) := by
  obtain ⟨h1, h2, hk⟩ := nd_stepR (nd_pl (nd_pr (nd_pr (nd_pl hP)))) (nd_dl (nd_dr (nd_dr (nd_dl hD)))) hk h1 h2
  obtain ⟨h1, h2, hk⟩ := nd_stepL (nd_pr (nd_pr (nd_pl hP))) (nd_dr (nd_dr (nd_dl hD))) hk h1 h2
  obtain ⟨h1, h2, hk⟩ := nd_stepR (nd_pr (nd_pl hP)) (nd_dr (nd_dl hD)) hk h1 h2
  obtain ⟨h1, h2, hk⟩ := nd_stepR (nd_pl hP) (nd_dl hD) hk h1 h2
  obtain ⟨h1, h2, hk⟩ := nd_stepL hP hD hk h1 h2
  exact ⟨h1, h2.weaken (fun k q _ h => nd_rq hD hA q.1 h)⟩
set_option maxHeartbeats 40000000 in
set_option maxRecDepth 100000 in
theorem dp_X19L_80 {D : va_G} {H : Heap} {a : Nat → Nat} {ac : Nat → ClassId} {σ : (St × (St) × (St × (St × (St))) × (St) × (St)) × Lb} (h : va_P D vwCl (dw_X19L a ac σ) H) : va_P D vwCl (dw_X17 (fun k => a (k + 80)) (fun k => ac (k + 80)) (σ.1.2.2.1.2.2)) H := (nd_pr (nd_pr (nd_pl (nd_pr (nd_pr (nd_pl h))))))
set_option maxHeartbeats 40000000 in
set_option maxRecDepth 100000 in
theorem dd_X19L_80 {A : Nat → Prop} {a : Nat → Nat} {ac : Nat → ClassId} {σ : (St × (St) × (St × (St × (St))) × (St) × (St)) × Lb} (h : va_D A (dw_X19L a ac σ)) : va_D A (dw_X17 (fun k => a (k + 80)) (fun k => ac (k + 80)) (σ.1.2.2.1.2.2)) := (nd_dr (nd_dr (nd_dl (nd_dr (nd_dr (nd_dl h))))))
set_option maxHeartbeats 40000000 in
set_option maxRecDepth 100000 in
theorem dy_X19L_80 {D : va_G} {U : State} {ac : Nat → ClassId} (h : va_K D vwCl (dk_X19L ac) U) : va_K D vwCl (dk_X17 (fun k => ac (k + 80))) U := (nd_yr (nd_yr (nd_yl (nd_yr (nd_yr (nd_yl h))))))
set_option maxHeartbeats 40000000 in
set_option maxRecDepth 100000 in
theorem dn_X19L_80 {A0 : Nat → Prop} {D : va_G} {H H1 : Heap} {a : Nat → Nat} {ac : Nat → ClassId} {σ : (St × (St) × (St × (St × (St))) × (St) × (St)) × Lb} {τ : St} (hP : va_P D vwCl (dw_X19L a ac σ) H) (hD : va_D A0 (dw_X19L a ac σ)) (hA : ∀ q : Nat, H.size ≤ q → A0 q) (hk : ∀ q : Nat, q < H.size → ¬ va_A (dw_X17 (fun k => a (k + 80)) (fun k => ac (k + 80)) (σ.1.2.2.1.2.2)) H.size q → H1[q]? = H[q]?) (h1 : va_P D vwCl (dw_X17 (fun k => a (k + 80)) (fun k => ac (k + 80)) τ) H1) (h2 : va_D (va_A (dw_X17 (fun k => a (k + 80)) (fun k => ac (k + 80)) (σ.1.2.2.1.2.2)) H.size) (dw_X17 (fun k => a (k + 80)) (fun k => ac (k + 80)) τ)) : va_P D vwCl (dw_X19L a ac ((σ.1.1, (σ.1.2.1, ((σ.1.2.2.1.1, (σ.1.2.2.1.2.1, τ)), σ.1.2.2.2))), σ.2)) H1 ∧ va_D A0 (dw_X19L a ac ((σ.1.1, (σ.1.2.1, ((σ.1.2.2.1.1, (σ.1.2.2.1.2.1, τ)), σ.1.2.2.2))), σ.2)) := by
  obtain ⟨h1, h2, hk⟩ := nd_stepR (nd_pr (nd_pl (nd_pr (nd_pr (nd_pl hP))))) (nd_dr (nd_dl (nd_dr (nd_dr (nd_dl hD))))) hk h1 h2
  obtain ⟨h1, h2, hk⟩ := nd_stepR (nd_pl (nd_pr (nd_pr (nd_pl hP)))) (nd_dl (nd_dr (nd_dr (nd_dl hD)))) hk h1 h2
  obtain ⟨h1, h2, hk⟩ := nd_stepL (nd_pr (nd_pr (nd_pl hP))) (nd_dr (nd_dr (nd_dl hD))) hk h1 h2
  obtain ⟨h1, h2, hk⟩ := nd_stepR (nd_pr (nd_pl hP)) (nd_dr (nd_dl hD)) hk h1 h2
  obtain ⟨h1, h2, hk⟩ := nd_stepR (nd_pl hP) (nd_dl hD) hk h1 h2
  obtain ⟨h1, h2, hk⟩ := nd_stepL hP hD hk h1 h2
  exact ⟨h1, h2.weaken (fun k q _ h => nd_rq hD hA q.1 h)⟩
set_option maxHeartbeats 40000000 in
set_option maxRecDepth 100000 in
theorem dp_X19L_86 {D : va_G} {H : Heap} {a : Nat → Nat} {ac : Nat → ClassId} {σ : (St × (St) × (St × (St × (St))) × (St) × (St)) × Lb} (h : va_P D vwCl (dw_X19L a ac σ) H) : va_P D vwCl (dw_X14 (fun k => a (k + 86)) (fun k => ac (k + 86)) (σ.1.2.2.2.1)) H := (nd_pl (nd_pr (nd_pr (nd_pr (nd_pl h)))))
set_option maxHeartbeats 40000000 in
set_option maxRecDepth 100000 in
theorem dd_X19L_86 {A : Nat → Prop} {a : Nat → Nat} {ac : Nat → ClassId} {σ : (St × (St) × (St × (St × (St))) × (St) × (St)) × Lb} (h : va_D A (dw_X19L a ac σ)) : va_D A (dw_X14 (fun k => a (k + 86)) (fun k => ac (k + 86)) (σ.1.2.2.2.1)) := (nd_dl (nd_dr (nd_dr (nd_dr (nd_dl h)))))
set_option maxHeartbeats 40000000 in
set_option maxRecDepth 100000 in
theorem dy_X19L_86 {D : va_G} {U : State} {ac : Nat → ClassId} (h : va_K D vwCl (dk_X19L ac) U) : va_K D vwCl (dk_X14 (fun k => ac (k + 86))) U := (nd_yl (nd_yr (nd_yr (nd_yr (nd_yl h)))))
set_option maxHeartbeats 40000000 in
set_option maxRecDepth 100000 in
theorem dn_X19L_86 {A0 : Nat → Prop} {D : va_G} {H H1 : Heap} {a : Nat → Nat} {ac : Nat → ClassId} {σ : (St × (St) × (St × (St × (St))) × (St) × (St)) × Lb} {τ : St} (hP : va_P D vwCl (dw_X19L a ac σ) H) (hD : va_D A0 (dw_X19L a ac σ)) (hA : ∀ q : Nat, H.size ≤ q → A0 q) (hk : ∀ q : Nat, q < H.size → ¬ va_A (dw_X14 (fun k => a (k + 86)) (fun k => ac (k + 86)) (σ.1.2.2.2.1)) H.size q → H1[q]? = H[q]?) (h1 : va_P D vwCl (dw_X14 (fun k => a (k + 86)) (fun k => ac (k + 86)) τ) H1) (h2 : va_D (va_A (dw_X14 (fun k => a (k + 86)) (fun k => ac (k + 86)) (σ.1.2.2.2.1)) H.size) (dw_X14 (fun k => a (k + 86)) (fun k => ac (k + 86)) τ)) : va_P D vwCl (dw_X19L a ac ((σ.1.1, (σ.1.2.1, (σ.1.2.2.1, (τ, σ.1.2.2.2.2)))), σ.2)) H1 ∧ va_D A0 (dw_X19L a ac ((σ.1.1, (σ.1.2.1, (σ.1.2.2.1, (τ, σ.1.2.2.2.2)))), σ.2)) := by
  obtain ⟨h1, h2, hk⟩ := nd_stepL (nd_pr (nd_pr (nd_pr (nd_pl hP)))) (nd_dr (nd_dr (nd_dr (nd_dl hD)))) hk h1 h2
  obtain ⟨h1, h2, hk⟩ := nd_stepR (nd_pr (nd_pr (nd_pl hP))) (nd_dr (nd_dr (nd_dl hD))) hk h1 h2
  obtain ⟨h1, h2, hk⟩ := nd_stepR (nd_pr (nd_pl hP)) (nd_dr (nd_dl hD)) hk h1 h2
  obtain ⟨h1, h2, hk⟩ := nd_stepR (nd_pl hP) (nd_dl hD) hk h1 h2
  obtain ⟨h1, h2, hk⟩ := nd_stepL hP hD hk h1 h2
  exact ⟨h1, h2.weaken (fun k q _ h => nd_rq hD hA q.1 h)⟩
set_option maxHeartbeats 40000000 in
set_option maxRecDepth 100000 in
theorem dp_X19L_93 {D : va_G} {H : Heap} {a : Nat → Nat} {ac : Nat → ClassId} {σ : (St × (St) × (St × (St × (St))) × (St) × (St)) × Lb} (h : va_P D vwCl (dw_X19L a ac σ) H) : va_P D vwCl (dw_X18 (fun k => a (k + 93)) (fun k => ac (k + 93)) (σ.1.2.2.2.2)) H := (nd_pr (nd_pr (nd_pr (nd_pr (nd_pl h)))))
set_option maxHeartbeats 40000000 in
set_option maxRecDepth 100000 in
theorem dd_X19L_93 {A : Nat → Prop} {a : Nat → Nat} {ac : Nat → ClassId} {σ : (St × (St) × (St × (St × (St))) × (St) × (St)) × Lb} (h : va_D A (dw_X19L a ac σ)) : va_D A (dw_X18 (fun k => a (k + 93)) (fun k => ac (k + 93)) (σ.1.2.2.2.2)) := (nd_dr (nd_dr (nd_dr (nd_dr (nd_dl h)))))
set_option maxHeartbeats 40000000 in
set_option maxRecDepth 100000 in
theorem dy_X19L_93 {D : va_G} {U : State} {ac : Nat → ClassId} (h : va_K D vwCl (dk_X19L ac) U) : va_K D vwCl (dk_X18 (fun k => ac (k + 93))) U := (nd_yr (nd_yr (nd_yr (nd_yr (nd_yl h)))))
set_option maxHeartbeats 40000000 in
set_option maxRecDepth 100000 in
theorem dn_X19L_93 {A0 : Nat → Prop} {D : va_G} {H H1 : Heap} {a : Nat → Nat} {ac : Nat → ClassId} {σ : (St × (St) × (St × (St × (St))) × (St) × (St)) × Lb} {τ : St} (hP : va_P D vwCl (dw_X19L a ac σ) H) (hD : va_D A0 (dw_X19L a ac σ)) (hA : ∀ q : Nat, H.size ≤ q → A0 q) (hk : ∀ q : Nat, q < H.size → ¬ va_A (dw_X18 (fun k => a (k + 93)) (fun k => ac (k + 93)) (σ.1.2.2.2.2)) H.size q → H1[q]? = H[q]?) (h1 : va_P D vwCl (dw_X18 (fun k => a (k + 93)) (fun k => ac (k + 93)) τ) H1) (h2 : va_D (va_A (dw_X18 (fun k => a (k + 93)) (fun k => ac (k + 93)) (σ.1.2.2.2.2)) H.size) (dw_X18 (fun k => a (k + 93)) (fun k => ac (k + 93)) τ)) : va_P D vwCl (dw_X19L a ac ((σ.1.1, (σ.1.2.1, (σ.1.2.2.1, (σ.1.2.2.2.1, τ)))), σ.2)) H1 ∧ va_D A0 (dw_X19L a ac ((σ.1.1, (σ.1.2.1, (σ.1.2.2.1, (σ.1.2.2.2.1, τ)))), σ.2)) := by
  obtain ⟨h1, h2, hk⟩ := nd_stepR (nd_pr (nd_pr (nd_pr (nd_pl hP)))) (nd_dr (nd_dr (nd_dr (nd_dl hD)))) hk h1 h2
  obtain ⟨h1, h2, hk⟩ := nd_stepR (nd_pr (nd_pr (nd_pl hP))) (nd_dr (nd_dr (nd_dl hD))) hk h1 h2
  obtain ⟨h1, h2, hk⟩ := nd_stepR (nd_pr (nd_pl hP)) (nd_dr (nd_dl hD)) hk h1 h2
  obtain ⟨h1, h2, hk⟩ := nd_stepR (nd_pl hP) (nd_dl hD) hk h1 h2
  obtain ⟨h1, h2, hk⟩ := nd_stepL hP hD hk h1 h2
  exact ⟨h1, h2.weaken (fun k q _ h => nd_rq hD hA q.1 h)⟩
def nd_Kq (p : Program) (l : Launch) (e : Env) (R : Room) (s : State) (m : MethodId) (args : Array Value) (below : List Frame) (meth : Method) (c : Code) (Q : State → Prop) (A : Nat → Prop) (D : va_G) (cc : ByteArray) (S : Type) (wf : S → va_W) (g : Nat → Nat) (r : Option Nat × S) : Prop := ∀ (pc : Nat) (o : Option Nat) (τ : S) (H : Heap) (locs : List Loc) (ls : Array Slot), decode cc pc = .ok (.areturn, 1) → r = (o, τ) → va_P D vwCl (wf τ) H → va_D A (wf τ) → va_S A s.heap H locs → W p l e R s m args below meth c H locs 0 0 Q (F0 m pc ls [va_rf (Option.map g o)])
def nd_XC {α : Type} (D : va_G) (S : Type) (wf : S → va_W) (A : Nat → Prop) (r : α ⊕ (String × S)) : String → State → State → Prop := vx_X (fun _ : S => True) (fun E u t => r = Sum.inr (E, u) ∧ va_P D vwCl (wf u) t.heap ∧ va_D A (wf u)) A
def nd_Ti (p : Program) (l : Launch) (e : Env) (R : Room) (s : State) (m : MethodId) (args : Array Value) (below : List Frame) (meth : Method) (c : Code) (Q : State → Prop) (A : Nat → Prop) (D : va_G) (cc : ByteArray) (ty : FieldType) (S : Type) (wf : S → va_W) (r : (Int32 × S) ⊕ (String × S)) : Prop := ∀ (pc : Nat) (v : Int32) (τ : S) (H : Heap) (locs : List Loc) (ls : Array Slot), decode cc pc = .ok (.ireturn, 1) → narrow ty (.int v) = .int v → r = Sum.inl (v, τ) → va_P D vwCl (wf τ) H → va_D A (wf τ) → va_S A s.heap H locs → W p l e R s m args below meth c H locs 0 0 Q (F0 m pc ls [.int v])
def nd_Tl (p : Program) (l : Launch) (e : Env) (R : Room) (s : State) (m : MethodId) (args : Array Value) (below : List Frame) (meth : Method) (c : Code) (Q : State → Prop) (A : Nat → Prop) (D : va_G) (cc : ByteArray) (S : Type) (wf : S → va_W) (r : (Int64 × S) ⊕ (String × S)) : Prop := ∀ (pc : Nat) (v : Int64) (τ : S) (H : Heap) (locs : List Loc) (ls : Array Slot), decode cc pc = .ok (.lreturn, 1) → r = Sum.inl (v, τ) → va_P D vwCl (wf τ) H → va_D A (wf τ) → va_S A s.heap H locs → W p l e R s m args below meth c H locs 0 0 Q (F0 m pc ls [.long v])
def nd_Tv (p : Program) (l : Launch) (e : Env) (R : Room) (s : State) (m : MethodId) (args : Array Value) (below : List Frame) (meth : Method) (c : Code) (Q : State → Prop) (A : Nat → Prop) (D : va_G) (cc : ByteArray) (S : Type) (wf : S → va_W) (r : S ⊕ (String × S)) : Prop := ∀ (pc : Nat) (τ : S) (H : Heap) (locs : List Loc) (ls : Array Slot), decode cc pc = .ok (.return_, 1) → r = Sum.inl τ → va_P D vwCl (wf τ) H → va_D A (wf τ) → va_S A s.heap H locs → W p l e R s m args below meth c H locs 0 0 Q (F0 m pc ls [])
set_option maxHeartbeats 40000000 in
set_option maxRecDepth 100000 in
theorem nd_cVq {p : Program} {l : Launch} {e : Env} {R : Room} {s : State} {m : MethodId} {args : Array Value} {below : List Frame} {meth : Method} {c : Code} {H : Heap} {locs : List Loc} {Q : State → Prop} {A : Nat → Prop} {D : va_G} {cc : ByteArray} {nL : Nat} {own C : String} {Ts ows : List Cond} {index : Nat} {y : MethodName} {bytes : ByteArray} {maxL : Nat} {ret : Option FieldType} {rm : Room} {n : Nat} {w w' : va_W} {tys : List (ClassId × FieldType)} {b : Nat} {As rest : List Value} {q : Option Nat} {pc : Nat} {ls : Array Slot} {st : List Value} (S : CallFix p m c cc nL s args Ts own)
    (hM : ∀ sz : Nat, Met l y ows rm (va_Pc (.ref b :: As) (fun U => U.heap.size = sz ∧ va_P D vwCl w U.heap ∧ va_K D vwCl tys U ∧ va_D (fun _ => True) w ∧ nv_E D.2 (va_A w sz) U)) (va_Qq (fun x (_ : Unit) => x = q) (fun _ t => va_P D vwCl w' t.heap ∧ va_K D vwCl tys t ∧ va_D (va_A w sz) w') (va_A w sz)) 0 0 (va_A w sz))
    (cw : CallW R s args own C index y bytes maxL ret ows rm 0 0 n) (hP : va_P D vwCl w H) (hD : va_D A w) (hK : va_K D vwCl tys s) (hS : va_S A s.heap H locs) (hA : ∀ q : Nat, s.heap.size ≤ q → A q) (hN : nv_E D.2 A s) (hv : ∃ cell : Cell, H[b]? = some cell ∧ cell.vm.isStatics = false ∧ s.vm.findClass C = some cell.cls) (hn : As.length = n) (hsize : ls.size = nL) (hst : st = As.reverse ++ .ref b :: rest) (hW : (rest.map fun v => v.category).sum ≤ 8) (hdg : decode cc pc = .ok (.invokevirtual index, 3))
    (kk : ∀ (H1 : Heap) (locs1 : List Loc), va_P D vwCl w' H1 → va_D (va_A w H.size) w' → (∀ q : Nat, q < H.size → ¬ va_A w H.size q → H1[q]? = H[q]?) → va_S A s.heap H1 locs1 → W p l e R s m args below meth c H1 locs1 0 0 Q (F0 m (pc + 3) ls (va_rf q :: rest))) : W p l e R s m args below meth c H locs 0 0 Q (F0 m pc ls st) := by
  have hF := nd_rs hD hS hA
  subst hst
  refine va_callq (va_runV (As := As) (rest := rest) S (hM H.size) cw ⟨fun a U g mk q => by obtain ⟨q0, q1, qP, qK, qD, qN⟩ := q; exact ⟨q0, q1, qP, va_K.moved (u := U) (U := U.calling g mk a) (Vm.Alike.refl U.vm) qK, qD, nv_same rfl rfl qN⟩, hv, fun U hU hW => ⟨rfl, by rw [hU], by rw [hU]; exact hP, va_K.moved hW.alike hK, hD.weaken (fun _ _ _ _ => trivial), nv_call hS hF hU hW hN⟩⟩ rfl hn hsize rfl (lv_room hW) hdg ⟨Nat.zero_le _, Nat.zero_le _⟩) hS (fun q _ h => hF q h) hF (fun r u t H1 locs ht hvm hw hB hz1 hk1 hS => ?_)
  obtain rfl : q = r := Eq.symm hw
  obtain ⟨hP1, -, hD1⟩ := hB
  rw [ht] at hP1
  exact kk H1 locs hP1 hD1 hk1 hS
set_option maxHeartbeats 40000000 in
set_option maxRecDepth 100000 in
theorem nd_cSq {p : Program} {l : Launch} {e : Env} {R : Room} {s : State} {m : MethodId} {args : Array Value} {below : List Frame} {meth : Method} {c : Code} {H : Heap} {locs : List Loc} {Q : State → Prop} {A : Nat → Prop} {D : va_G} {cc : ByteArray} {nL : Nat} {own : String} {Ts ows : List Cond} {index : Nat} {y : MethodName} {bytes : ByteArray} {maxL : Nat} {ret : Option FieldType} {rm : Room} {n : Nat} {w w' : va_W} {tys : List (ClassId × FieldType)} {As rest : List Value} {q : Option Nat} {pc : Nat} {ls : Array Slot} {st : List Value} (S : CallFix p m c cc nL s args Ts own)
    (hM : ∀ sz : Nat, Met l y ows rm (va_Pc As (fun U => U.heap.size = sz ∧ va_P D vwCl w U.heap ∧ va_K D vwCl tys U ∧ va_D (fun _ => True) w ∧ nv_E D.2 (va_A w sz) U)) (va_Qq (fun x (_ : Unit) => x = q) (fun _ t => va_P D vwCl w' t.heap ∧ va_K D vwCl tys t ∧ va_D (va_A w sz) w') (va_A w sz)) 0 0 (va_A w sz))
    (cw : CallB R s args own index y bytes maxL ret ows rm 0 0 n ∧ (Cond.static y).before args s = true) (hP : va_P D vwCl w H) (hD : va_D A w) (hK : va_K D vwCl tys s) (hS : va_S A s.heap H locs) (hA : ∀ q : Nat, s.heap.size ≤ q → A q) (hN : nv_E D.2 A s) (hn : As.length = n) (hsize : ls.size = nL) (hst : st = As.reverse ++ rest) (hW : (rest.map fun v => v.category).sum ≤ 8) (hdg : decode cc pc = .ok (.invokestatic index, 3))
    (kk : ∀ (H1 : Heap) (locs1 : List Loc), va_P D vwCl w' H1 → va_D (va_A w H.size) w' → (∀ q : Nat, q < H.size → ¬ va_A w H.size q → H1[q]? = H[q]?) → va_S A s.heap H1 locs1 → W p l e R s m args below meth c H1 locs1 0 0 Q (F0 m (pc + 3) ls (va_rf q :: rest))) : W p l e R s m args below meth c H locs 0 0 Q (F0 m pc ls st) := by
  have hF := nd_rs hD hS hA
  subst hst
  refine va_callq (va_runS (As := As) (rest := rest) S (hM H.size) cw ⟨fun a U g mk q => by obtain ⟨q0, q1, qP, qK, qD, qN⟩ := q; exact ⟨q0, q1, qP, va_K.moved (u := U) (U := U.calling g mk a) (Vm.Alike.refl U.vm) qK, qD, nv_same rfl rfl qN⟩, fun U hU hW => ⟨rfl, by rw [hU], by rw [hU]; exact hP, va_K.moved hW.alike hK, hD.weaken (fun _ _ _ _ => trivial), nv_call hS hF hU hW hN⟩⟩ rfl hn hsize rfl (lv_room hW) hdg ⟨Nat.zero_le _, Nat.zero_le _⟩) hS (fun q _ h => hF q h) hF (fun r u t H1 locs ht hvm hw hB hz1 hk1 hS => ?_)
  obtain rfl : q = r := Eq.symm hw
  obtain ⟨hP1, -, hD1⟩ := hB
  rw [ht] at hP1
  exact kk H1 locs hP1 hD1 hk1 hS
def dwo_X1 (a : Nat → Nat) (ac : Nat → ClassId) (σ : St) : va_W := [(a 0, .inr (2, [.ref (a 3), .ref (a 1), .int (sI σ 0), .ref (a 2), .int (sI σ 1), .int (sI σ 2), .int (sI σ 3), .int (sI σ 4), .int (sI σ 5), .int (sI σ 6), .int (sI σ 7), .int (sI σ 8), .int (sI σ 9)])), (a 1, .inl (ac 1, 65552, .inl (sR σ 0))), (a 2, .inl (ac 2, 32832, .inl (sR σ 1)))]
def dwc_X9 (a : Nat → Nat) (ac : Nat → ClassId) (σ : St) : va_W := [(a 0, .inr (10, [va_rf (Option.map a (sO σ 0)), .int (sI σ 0), .int (sI σ 1), .int (sI σ 2), .int (sI σ 3), .int (sI σ 4), .ref (a 1), .ref (a 2), .int (sI σ 5), .ref (a 3), .int (sI σ 6), .int (sI σ 7), .ref (a 4), .int (sI σ 8), .ref (a 5), .ref (a 6), .ref (a 7), .int (sI σ 9), .int (sI σ 10), .int (sI σ 11)])), (a 1, .inl (ac 1, 32832, .inl (sR σ 0))), (a 2, .inl (ac 2, 32832, .inl (sR σ 1))), (a 3, .inl (ac 3, 32832, .inl (sR σ 2))), (a 4, .inl (ac 4, 81925, .inl (sR σ 3))), (a 5, .inl (ac 5, 256, .inl (sR σ 4))), (a 6, .inl (ac 6, 20, .inl (sR σ 5))), (a 7, .inl (ac 7, 81925, .inl (sR σ 6)))]
def dw_X12o (a : Nat → Nat) (ac : Nat → ClassId) (σ : St) : va_W := ([(a 0, .inr (13, [.ref (a 15), .int (sI σ 0), .int (sI σ 1), .ref (a 54), .ref (a 1), .ref (a 4), .ref (a 16), .ref (a 55), .ref (a 2), .ref (a 3), .int (sI σ 2), .ref (a 9999)]))] : va_W)
def dk_X12o (ac : Nat → ClassId) : List (ClassId × FieldType) := ([] : List (ClassId × FieldType))
def dw_LG (a : Nat → Nat) (ac : Nat → ClassId) (σ : St) : va_W := ([(a 0, .inl (ac 0, 32768, .inl (sR σ 0)))] : va_W)
def dk_LG (ac : Nat → ClassId) : List (ClassId × FieldType) := ([(ac 0, .byte)] : List (ClassId × FieldType))
def dg_X12 (a : Nat → Nat) (ac : Nat → ClassId) (σ : St × Rw × (St) × (St × (St)) × (St) × (St × (St × (St × (St)))) × (St) × (St) × (Nat → St) × (Nat → St) × (Nat → St × (St))) : List va_W := ([dw_X12o a ac (σ.1), [(a 1, .inl (ac 1, 9, .inr (.inr (.inr (.inr (fun i => Option.map (fun j => a (0 + j * 5 + 57)) ((σ.2.1) 4 i)))))))], [(a 2, .inl (ac 2, 9, .inr (.inr (.inr (.inr (fun i => Option.map (fun j => a (0 + j * 9 + 102)) ((σ.2.1) 5 i)))))))], dw_LG (fun k => a (k + 3)) (fun k => ac (k + 3)) (σ.2.2.1), dwo_X1 (fun k => a (k + 4)) (fun k => ac (k + 4)) (σ.2.2.2.1.1), dwc_X9 (fun k => a (k + 7)) (fun k => ac (k + 7)) (σ.2.2.2.1.2), [(a 15, .inl (ac 15, 32768, .inl (sR (σ.2.2.2.1.2) 7)))], dw_X11o (fun k => a (k + 16)) (fun k => ac (k + 16)) (σ.2.2.2.2.1), dwo_X5 (fun k => a (k + 19)) (fun k => ac (k + 19)) (σ.2.2.2.2.2.1.1), dwo_X4 (fun k => a (k + 22)) (fun k => ac (k + 22)) (σ.2.2.2.2.2.1.2.1), dwo_X6 (fun k => a (k + 23)) (fun k => ac (k + 23)) (σ.2.2.2.2.2.1.2.2.1), dw_X10 (fun k => a (k + 33)) (fun k => ac (k + 33)) (σ.2.2.2.2.2.1.2.2.2), dw_X3c (fun k => a (k + 43)) (fun k => ac (k + 43)) (σ.2.2.2.2.2.2.1), dw_X3c (fun k => a (k + 48)) (fun k => ac (k + 48)) (σ.2.2.2.2.2.2.2.1), [(a 53, .inl (ac 53, 4, .inr (.inr (.inr (.inr (fun i => Option.map (fun j => a (0 + j * 5 + 57)) ((σ.2.1) 0 i)))))))], [(a 54, .inl (ac 54, 4, .inr (.inr (.inr (.inr (fun i => Option.map (fun j => a (0 + j * 5 + 57)) ((σ.2.1) 1 i)))))))], [(a 55, .inl (ac 55, 8, .inr (.inr (.inr (.inr (fun i => Option.map (fun j => a (0 + j * 9 + 102)) ((σ.2.1) 2 i)))))))], [(a 56, .inl (ac 56, 8, .inr (.inr (.inr (.inr (fun i => Option.map (fun j => a (0 + j * 20 + 183)) ((σ.2.1) 3 i)))))))]] : List va_W) ++ ((List.range 9).map (fun j => dw_X8 (fun k => a (k + j * 5 + 57)) (fun k => ac (k + j * 5 + 57)) (σ.2.2.2.2.2.2.2.2.1 j)) ++ ((List.range 9).map (fun j => dw_X2c (fun k => a (k + j * 9 + 102)) (fun k => ac (k + j * 9 + 102)) (σ.2.2.2.2.2.2.2.2.2.1 j)) ++ ((List.range 8).map (fun j => dw_X6 (fun k => a (k + j * 20 + 183)) (fun k => ac (k + j * 20 + 183)) (σ.2.2.2.2.2.2.2.2.2.2 j)) ++ [])))
def dw_X12 (a : Nat → Nat) (ac : Nat → ClassId) (σ : St × Rw × (St) × (St × (St)) × (St) × (St × (St × (St × (St)))) × (St) × (St) × (Nat → St) × (Nat → St) × (Nat → St × (St))) : va_W := (dg_X12 a ac σ).flatten
def dk_X12 (ac : Nat → ClassId) : List (ClassId × FieldType) := ([(ac 1, .object RX8), (ac 2, .object RX2), (ac 3, .byte), (ac 5, .int), (ac 6, .byte), (ac 8, .int), (ac 9, .int), (ac 10, .int), (ac 11, .int), (ac 12, .int), (ac 13, .int), (ac 14, .int), (ac 15, .byte), (ac 17, .int), (ac 18, .int), (ac 20, .byte), (ac 21, .byte), (ac 24, .int), (ac 25, .int), (ac 26, .int), (ac 27, .int), (ac 28, .int), (ac 29, .int), (ac 30, .int), (ac 31, .long), (ac 32, .int), (ac 34, .int), (ac 35, .int), (ac 36, .int), (ac 37, .byte), (ac 38, .int), (ac 39, .byte), (ac 40, .byte), (ac 41, .byte), (ac 42, .byte), (ac 44, .int), (ac 45, .long), (ac 46, .long), (ac 47, .int), (ac 49, .int), (ac 50, .long), (ac 51, .long), (ac 52, .int), (ac 53, .object RX8), (ac 54, .object RX8), (ac 55, .object RX2), (ac 56, .object RX6)] : List (ClassId × FieldType)) ++ ((List.range 9).flatMap (fun j => dk_X8 (fun k => ac (k + j * 5 + 57))) ++ ((List.range 9).flatMap (fun j => dk_X2c (fun k => ac (k + j * 9 + 102))) ++ ((List.range 8).flatMap (fun j => dk_X6 (fun k => ac (k + j * 20 + 183))) ++ [])))
set_option maxHeartbeats 40000000 in
set_option maxRecDepth 100000 in
theorem dA_X12 {a : Nat → Nat} {ac : Nat → ClassId} {σ σ1 : St × Rw × (St) × (St × (St)) × (St) × (St × (St × (St × (St)))) × (St) × (St) × (Nat → St) × (Nat → St) × (Nat → St × (St))} : (dw_X12 a ac σ1).map (fun q => q.1) = (dw_X12 a ac σ).map (fun q => q.1) := by
  unfold dw_X12
  rw [List.map_flatten, List.map_flatten]
  exact congrArg List.flatten rfl
set_option maxHeartbeats 40000000 in
set_option maxRecDepth 100000 in
theorem dx_X12_P8 {a : Nat → Nat} {ac : Nat → ClassId} {σ : St × Rw × (St) × (St × (St)) × (St) × (St × (St × (St × (St)))) × (St) × (St) × (Nat → St) × (Nat → St) × (Nat → St × (St))} {j : Nat} (hj : j < 9) : (dg_X12 a ac σ)[18 + j]? = some (dw_X8 (fun k => a (k + j * 5 + 57)) (fun k => ac (k + j * 5 + 57)) (σ.2.2.2.2.2.2.2.2.1 j)) := by
  unfold dg_X12
  exact nd_g1 (f := fun j => dw_X8 (fun k => a (k + j * 5 + 57)) (fun k => ac (k + j * 5 + 57)) (σ.2.2.2.2.2.2.2.2.1 j)) (by simp) hj
set_option maxHeartbeats 40000000 in
set_option maxRecDepth 100000 in
theorem dz_X12_P8 {a : Nat → Nat} {ac : Nat → ClassId} {σ : St × Rw × (St) × (St × (St)) × (St) × (St × (St × (St × (St)))) × (St) × (St) × (Nat → St) × (Nat → St) × (Nat → St × (St))} {j : Nat} {τ : St} (hj : j < 9) : (dg_X12 a ac σ).set (18 + j) (dw_X8 (fun k => a (k + j * 5 + 57)) (fun k => ac (k + j * 5 + 57)) τ) = dg_X12 a ac (σ.1, (σ.2.1, (σ.2.2.1, (σ.2.2.2.1, (σ.2.2.2.2.1, (σ.2.2.2.2.2.1, (σ.2.2.2.2.2.2.1, (σ.2.2.2.2.2.2.2.1, ((fun i => if i = j then τ else σ.2.2.2.2.2.2.2.2.1 i), σ.2.2.2.2.2.2.2.2.2))))))))) := by
  rw [show 18 + j = 18 + j from by omega]
  unfold dg_X12
  rw [nd_sa (n := 18) rfl, nd_g4 (F := fun j s => dw_X8 (fun k => a (k + j * 5 + 57)) (fun k => ac (k + j * 5 + 57)) s) (st := σ.2.2.2.2.2.2.2.2.1) hj]
set_option maxHeartbeats 40000000 in
set_option maxRecDepth 100000 in
theorem dq_X12_P8 {D : va_G} {U : State} {ac : Nat → ClassId} {j : Nat} (hj : j < 9) (h : va_K D vwCl (dk_X12 ac) U) : va_K D vwCl (dk_X8 (fun k => ac (k + j * 5 + 57))) U := nd_ks h (fun q hq => by
  unfold dk_X12
  refine List.mem_append_right _ ?_
  exact List.mem_append_left _ (List.mem_flatMap.mpr ⟨j, List.mem_range.mpr hj, hq⟩))
set_option maxHeartbeats 40000000 in
set_option maxRecDepth 100000 in
theorem di_X12_P8 {A : Nat → Prop} {a : Nat → Nat} {ac : Nat → ClassId} {σ : St × Rw × (St) × (St × (St)) × (St) × (St × (St × (St × (St)))) × (St) × (St) × (Nat → St) × (Nat → St) × (Nat → St × (St))} {i j : Nat} (hi : i < 9) (hj : j < 9) (hD : va_D A (dw_X12 a ac σ)) (e : a (0 + i * 5 + 57) = a (0 + j * 5 + 57)) : i = j := Classical.byContradiction fun c => nd_cr (nd_dm.mp hD).1 (i := 18 + i) (j := 18 + j) (by omega) (dx_X12_P8 hi) (dx_X12_P8 hj) _ (List.mem_of_getElem? (i := 0) rfl) _ (List.mem_of_getElem? (i := 0) rfl) e
set_option maxHeartbeats 40000000 in
set_option maxRecDepth 100000 in
theorem dl_X12_P8 {D : va_G} {H : Heap} {a : Nat → Nat} {ac : Nat → ClassId} {σ : St × Rw × (St) × (St × (St)) × (St) × (St × (St × (St × (St)))) × (St) × (St) × (Nat → St) × (Nat → St) × (Nat → St × (St))} {j : Nat} (hj : j < 9) (h : va_P D vwCl (dw_X12 a ac σ) H) : va_P D vwCl (dw_X8 (fun k => a (k + j * 5 + 57)) (fun k => ac (k + j * 5 + 57)) (σ.2.2.2.2.2.2.2.2.1 j)) H := by
  have h2 := nd_vp (segs := dg_X12 a ac σ) (ix := [18 + j]) (old := [dw_X8 (fun k => a (k + j * 5 + 57)) (fun k => ac (k + j * 5 + 57)) (σ.2.2.2.2.2.2.2.2.1 j)]) h (nd_co (dx_X12_P8 hj) rfl)
  simp only [List.flatten_cons, List.flatten_nil, List.append_nil] at h2
  exact h2
set_option maxHeartbeats 40000000 in
set_option maxRecDepth 100000 in
theorem dv_X12_P8 {a : Nat → Nat} {ac : Nat → ClassId} {σ : St × Rw × (St) × (St × (St)) × (St) × (St × (St × (St × (St)))) × (St) × (St) × (Nat → St) × (Nat → St) × (Nat → St × (St))} {j : Nat} (hj : j < 9) : ∃ (k : Nat) (vs : List Value), (dw_X12 a ac σ)[k]? = some (a (0 + j * 5 + 57), .inr (9, vs)) := by
  have h1 : (a (0 + j * 5 + 57), (.inr (9, [.ref (a (1 + j * 5 + 57)), .int (sI (σ.2.2.2.2.2.2.2.2.1 j) 0), .int (sI (σ.2.2.2.2.2.2.2.2.1 j) 1), .int (sI (σ.2.2.2.2.2.2.2.2.1 j) 2), .int (sI (σ.2.2.2.2.2.2.2.2.1 j) 3), .ref (a (2 + j * 5 + 57)), .int (sI (σ.2.2.2.2.2.2.2.2.1 j) 4), .ref (a (3 + j * 5 + 57)), .ref (a (4 + j * 5 + 57)), .int (sI (σ.2.2.2.2.2.2.2.2.1 j) 5)]) : va_E)) ∈ dw_X8 (fun k => a (k + j * 5 + 57)) (fun k => ac (k + j * 5 + 57)) (σ.2.2.2.2.2.2.2.2.1 j) := List.mem_of_getElem? (i := 0) rfl
  obtain ⟨k, hk⟩ := List.mem_iff_getElem?.mp (List.mem_flatten.mpr ⟨_, List.mem_of_getElem? (dx_X12_P8 (a := a) (ac := ac) (σ := σ) hj), h1⟩)
  exact ⟨k, _, hk⟩
set_option maxHeartbeats 40000000 in
set_option maxRecDepth 100000 in
theorem dx_X12_K2 {a : Nat → Nat} {ac : Nat → ClassId} {σ : St × Rw × (St) × (St × (St)) × (St) × (St × (St × (St × (St)))) × (St) × (St) × (Nat → St) × (Nat → St) × (Nat → St × (St))} {j : Nat} (hj : j < 9) : (dg_X12 a ac σ)[27 + j]? = some (dw_X2c (fun k => a (k + j * 9 + 102)) (fun k => ac (k + j * 9 + 102)) (σ.2.2.2.2.2.2.2.2.2.1 j)) := by
  unfold dg_X12
  rw [← List.append_assoc]; exact nd_g1 (f := fun j => dw_X2c (fun k => a (k + j * 9 + 102)) (fun k => ac (k + j * 9 + 102)) (σ.2.2.2.2.2.2.2.2.2.1 j)) (by simp) hj
set_option maxHeartbeats 40000000 in
set_option maxRecDepth 100000 in
theorem dz_X12_K2 {a : Nat → Nat} {ac : Nat → ClassId} {σ : St × Rw × (St) × (St × (St)) × (St) × (St × (St × (St × (St)))) × (St) × (St) × (Nat → St) × (Nat → St) × (Nat → St × (St))} {j : Nat} {τ : St} (hj : j < 9) : (dg_X12 a ac σ).set (27 + j) (dw_X2c (fun k => a (k + j * 9 + 102)) (fun k => ac (k + j * 9 + 102)) τ) = dg_X12 a ac (σ.1, (σ.2.1, (σ.2.2.1, (σ.2.2.2.1, (σ.2.2.2.2.1, (σ.2.2.2.2.2.1, (σ.2.2.2.2.2.2.1, (σ.2.2.2.2.2.2.2.1, (σ.2.2.2.2.2.2.2.2.1, ((fun i => if i = j then τ else σ.2.2.2.2.2.2.2.2.2.1 i), σ.2.2.2.2.2.2.2.2.2.2)))))))))) := by
  rw [show 27 + j = 18 + (9 + j) from by omega]
  unfold dg_X12
  rw [nd_sa (n := 18) rfl, nd_sa (n := 9) (by simp), nd_g4 (F := fun j s => dw_X2c (fun k => a (k + j * 9 + 102)) (fun k => ac (k + j * 9 + 102)) s) (st := σ.2.2.2.2.2.2.2.2.2.1) hj]
set_option maxHeartbeats 40000000 in
set_option maxRecDepth 100000 in
theorem dq_X12_K2 {D : va_G} {U : State} {ac : Nat → ClassId} {j : Nat} (hj : j < 9) (h : va_K D vwCl (dk_X12 ac) U) : va_K D vwCl (dk_X2c (fun k => ac (k + j * 9 + 102))) U := nd_ks h (fun q hq => by
  unfold dk_X12
  refine List.mem_append_right _ ?_
  refine List.mem_append_right _ ?_
  exact List.mem_append_left _ (List.mem_flatMap.mpr ⟨j, List.mem_range.mpr hj, hq⟩))
set_option maxHeartbeats 40000000 in
set_option maxRecDepth 100000 in
theorem di_X12_K2 {A : Nat → Prop} {a : Nat → Nat} {ac : Nat → ClassId} {σ : St × Rw × (St) × (St × (St)) × (St) × (St × (St × (St × (St)))) × (St) × (St) × (Nat → St) × (Nat → St) × (Nat → St × (St))} {i j : Nat} (hi : i < 9) (hj : j < 9) (hD : va_D A (dw_X12 a ac σ)) (e : a (0 + i * 9 + 102) = a (0 + j * 9 + 102)) : i = j := Classical.byContradiction fun c => nd_cr (nd_dm.mp hD).1 (i := 27 + i) (j := 27 + j) (by omega) (dx_X12_K2 hi) (dx_X12_K2 hj) _ (List.mem_of_getElem? (i := 0) rfl) _ (List.mem_of_getElem? (i := 0) rfl) e
set_option maxHeartbeats 40000000 in
set_option maxRecDepth 100000 in
theorem dl_X12_K2 {D : va_G} {H : Heap} {a : Nat → Nat} {ac : Nat → ClassId} {σ : St × Rw × (St) × (St × (St)) × (St) × (St × (St × (St × (St)))) × (St) × (St) × (Nat → St) × (Nat → St) × (Nat → St × (St))} {j : Nat} (hj : j < 9) (h : va_P D vwCl (dw_X12 a ac σ) H) : va_P D vwCl (dw_X2c (fun k => a (k + j * 9 + 102)) (fun k => ac (k + j * 9 + 102)) (σ.2.2.2.2.2.2.2.2.2.1 j)) H := by
  have h2 := nd_vp (segs := dg_X12 a ac σ) (ix := [27 + j]) (old := [dw_X2c (fun k => a (k + j * 9 + 102)) (fun k => ac (k + j * 9 + 102)) (σ.2.2.2.2.2.2.2.2.2.1 j)]) h (nd_co (dx_X12_K2 hj) rfl)
  simp only [List.flatten_cons, List.flatten_nil, List.append_nil] at h2
  exact h2
set_option maxHeartbeats 40000000 in
set_option maxRecDepth 100000 in
theorem dv_X12_K2 {a : Nat → Nat} {ac : Nat → ClassId} {σ : St × Rw × (St) × (St × (St)) × (St) × (St × (St × (St × (St)))) × (St) × (St) × (Nat → St) × (Nat → St) × (Nat → St × (St))} {j : Nat} (hj : j < 9) : ∃ (k : Nat) (vs : List Value), (dw_X12 a ac σ)[k]? = some (a (0 + j * 9 + 102), .inr (3, vs)) := by
  have h1 : (a (0 + j * 9 + 102), (.inr (3, [.ref (a (1 + j * 9 + 102)), .ref (a (2 + j * 9 + 102)), .int (sI (σ.2.2.2.2.2.2.2.2.2.1 j) 0), .ref (a (3 + j * 9 + 102)), .int (sI (σ.2.2.2.2.2.2.2.2.2.1 j) 1), .ref (a (4 + j * 9 + 102)), .ref (a (5 + j * 9 + 102)), .ref (a (6 + j * 9 + 102)), .ref (a (7 + j * 9 + 102)), .ref (a (8 + j * 9 + 102)), .int (sI (σ.2.2.2.2.2.2.2.2.2.1 j) 2), .int (sI (σ.2.2.2.2.2.2.2.2.2.1 j) 3), va_rf (sO (σ.2.2.2.2.2.2.2.2.2.1 j) 0), .int (sI (σ.2.2.2.2.2.2.2.2.2.1 j) 4), .int (sI (σ.2.2.2.2.2.2.2.2.2.1 j) 5), .int (sI (σ.2.2.2.2.2.2.2.2.2.1 j) 6), .int (sI (σ.2.2.2.2.2.2.2.2.2.1 j) 7), .long (sL (σ.2.2.2.2.2.2.2.2.2.1 j) 0), .int (sI (σ.2.2.2.2.2.2.2.2.2.1 j) 8), .int (sI (σ.2.2.2.2.2.2.2.2.2.1 j) 9)]) : va_E)) ∈ dw_X2c (fun k => a (k + j * 9 + 102)) (fun k => ac (k + j * 9 + 102)) (σ.2.2.2.2.2.2.2.2.2.1 j) := List.mem_of_getElem? (i := 0) rfl
  obtain ⟨k, hk⟩ := List.mem_iff_getElem?.mp (List.mem_flatten.mpr ⟨_, List.mem_of_getElem? (dx_X12_K2 (a := a) (ac := ac) (σ := σ) hj), h1⟩)
  exact ⟨k, _, hk⟩
set_option maxHeartbeats 40000000 in
set_option maxRecDepth 100000 in
theorem dx_X12_C6 {a : Nat → Nat} {ac : Nat → ClassId} {σ : St × Rw × (St) × (St × (St)) × (St) × (St × (St × (St × (St)))) × (St) × (St) × (Nat → St) × (Nat → St) × (Nat → St × (St))} {j : Nat} (hj : j < 8) : (dg_X12 a ac σ)[36 + j]? = some (dw_X6 (fun k => a (k + j * 20 + 183)) (fun k => ac (k + j * 20 + 183)) (σ.2.2.2.2.2.2.2.2.2.2 j)) := by
  unfold dg_X12
  rw [← List.append_assoc, ← List.append_assoc]; exact nd_g1 (f := fun j => dw_X6 (fun k => a (k + j * 20 + 183)) (fun k => ac (k + j * 20 + 183)) (σ.2.2.2.2.2.2.2.2.2.2 j)) (by simp) hj
set_option maxHeartbeats 40000000 in
set_option maxRecDepth 100000 in
theorem dz_X12_C6 {a : Nat → Nat} {ac : Nat → ClassId} {σ : St × Rw × (St) × (St × (St)) × (St) × (St × (St × (St × (St)))) × (St) × (St) × (Nat → St) × (Nat → St) × (Nat → St × (St))} {j : Nat} {τ : St × (St)} (hj : j < 8) : (dg_X12 a ac σ).set (36 + j) (dw_X6 (fun k => a (k + j * 20 + 183)) (fun k => ac (k + j * 20 + 183)) τ) = dg_X12 a ac (σ.1, (σ.2.1, (σ.2.2.1, (σ.2.2.2.1, (σ.2.2.2.2.1, (σ.2.2.2.2.2.1, (σ.2.2.2.2.2.2.1, (σ.2.2.2.2.2.2.2.1, (σ.2.2.2.2.2.2.2.2.1, (σ.2.2.2.2.2.2.2.2.2.1, (fun i => if i = j then τ else σ.2.2.2.2.2.2.2.2.2.2 i))))))))))) := by
  rw [show 36 + j = 18 + (9 + (9 + j)) from by omega]
  unfold dg_X12
  rw [nd_sa (n := 18) rfl, nd_sa (n := 9) (by simp), nd_sa (n := 9) (by simp), nd_g4 (F := fun j s => dw_X6 (fun k => a (k + j * 20 + 183)) (fun k => ac (k + j * 20 + 183)) s) (st := σ.2.2.2.2.2.2.2.2.2.2) hj]
set_option maxHeartbeats 40000000 in
set_option maxRecDepth 100000 in
theorem dq_X12_C6 {D : va_G} {U : State} {ac : Nat → ClassId} {j : Nat} (hj : j < 8) (h : va_K D vwCl (dk_X12 ac) U) : va_K D vwCl (dk_X6 (fun k => ac (k + j * 20 + 183))) U := nd_ks h (fun q hq => by
  unfold dk_X12
  refine List.mem_append_right _ ?_
  refine List.mem_append_right _ ?_
  refine List.mem_append_right _ ?_
  exact List.mem_append_left _ (List.mem_flatMap.mpr ⟨j, List.mem_range.mpr hj, hq⟩))
set_option maxHeartbeats 40000000 in
set_option maxRecDepth 100000 in
theorem di_X12_C6 {A : Nat → Prop} {a : Nat → Nat} {ac : Nat → ClassId} {σ : St × Rw × (St) × (St × (St)) × (St) × (St × (St × (St × (St)))) × (St) × (St) × (Nat → St) × (Nat → St) × (Nat → St × (St))} {i j : Nat} (hi : i < 8) (hj : j < 8) (hD : va_D A (dw_X12 a ac σ)) (e : a (0 + i * 20 + 183) = a (0 + j * 20 + 183)) : i = j := Classical.byContradiction fun c => nd_cr (nd_dm.mp hD).1 (i := 36 + i) (j := 36 + j) (by omega) (dx_X12_C6 hi) (dx_X12_C6 hj) _ (List.mem_of_getElem? (i := 0) rfl) _ (List.mem_of_getElem? (i := 0) rfl) e
set_option maxHeartbeats 40000000 in
set_option maxRecDepth 100000 in
theorem dl_X12_C6 {D : va_G} {H : Heap} {a : Nat → Nat} {ac : Nat → ClassId} {σ : St × Rw × (St) × (St × (St)) × (St) × (St × (St × (St × (St)))) × (St) × (St) × (Nat → St) × (Nat → St) × (Nat → St × (St))} {j : Nat} (hj : j < 8) (h : va_P D vwCl (dw_X12 a ac σ) H) : va_P D vwCl (dw_X6 (fun k => a (k + j * 20 + 183)) (fun k => ac (k + j * 20 + 183)) (σ.2.2.2.2.2.2.2.2.2.2 j)) H := by
  have h2 := nd_vp (segs := dg_X12 a ac σ) (ix := [36 + j]) (old := [dw_X6 (fun k => a (k + j * 20 + 183)) (fun k => ac (k + j * 20 + 183)) (σ.2.2.2.2.2.2.2.2.2.2 j)]) h (nd_co (dx_X12_C6 hj) rfl)
  simp only [List.flatten_cons, List.flatten_nil, List.append_nil] at h2
  exact h2
set_option maxHeartbeats 40000000 in
set_option maxRecDepth 100000 in
theorem dv_X12_C6 {a : Nat → Nat} {ac : Nat → ClassId} {σ : St × Rw × (St) × (St × (St)) × (St) × (St × (St × (St × (St)))) × (St) × (St) × (Nat → St) × (Nat → St) × (Nat → St × (St))} {j : Nat} (hj : j < 8) : ∃ (k : Nat) (vs : List Value), (dw_X12 a ac σ)[k]? = some (a (0 + j * 20 + 183), .inr (7, vs)) := by
  have h1 : (a (0 + j * 20 + 183), (.inr (7, [.ref (a (1 + j * 20 + 183)), .ref (a (2 + j * 20 + 183)), .ref (a (3 + j * 20 + 183)), .int (sI (σ.2.2.2.2.2.2.2.2.2.2 j).1 0), .ref (a (4 + j * 20 + 183)), .ref (a (5 + j * 20 + 183)), .ref (a (6 + j * 20 + 183)), .ref (a (7 + j * 20 + 183)), .ref (a (8 + j * 20 + 183)), .ref (a (9 + j * 20 + 183)), .int (sI (σ.2.2.2.2.2.2.2.2.2.2 j).1 1), .ref (a (10 + j * 20 + 183)), .int (sI (σ.2.2.2.2.2.2.2.2.2.2 j).1 2), .int (sI (σ.2.2.2.2.2.2.2.2.2.2 j).1 3), .int (sI (σ.2.2.2.2.2.2.2.2.2.2 j).1 4), .int (sI (σ.2.2.2.2.2.2.2.2.2.2 j).1 5), .int (sI (σ.2.2.2.2.2.2.2.2.2.2 j).1 6), .long (sL (σ.2.2.2.2.2.2.2.2.2.2 j).1 0), .long (sL (σ.2.2.2.2.2.2.2.2.2.2 j).1 1), .int (sI (σ.2.2.2.2.2.2.2.2.2.2 j).1 7)]) : va_E)) ∈ dw_X6 (fun k => a (k + j * 20 + 183)) (fun k => ac (k + j * 20 + 183)) (σ.2.2.2.2.2.2.2.2.2.2 j) := List.mem_of_getElem? (i := 0) rfl
  obtain ⟨k, hk⟩ := List.mem_iff_getElem?.mp (List.mem_flatten.mpr ⟨_, List.mem_of_getElem? (dx_X12_C6 (a := a) (ac := ac) (σ := σ) hj), h1⟩)
  exact ⟨k, _, hk⟩

