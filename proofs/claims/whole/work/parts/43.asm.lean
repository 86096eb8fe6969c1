def nd_Ko (p : Program) (l : Launch) (e : Env) (R : Room) (s : State) (m : MethodId) (args : Array Value) (below : List Frame) (meth : Method) (c : Code) (Q : State → Prop) (A : Nat → Prop) (D : va_G) (cc : ByteArray) (ty : FieldType) (_ : Type) (wf : ((St × (St) × (St × (St × (St))) × (St) × (St)) × Lb) → va_W) (r : Int32 × (((St × (St) × (St × (St × (St))) × (St) × (St)) × Lb) × Ox)) : Prop := ∀ (k1 k2 na pc : Nat) (v : Int32) (τ : (St × (St) × (St × (St × (St))) × (St) × (St)) × Lb) (o : Ox) (H : Heap) (locs : List Loc) (ls : Array Slot), k1 ≤ 1 → k2 ≤ oxN r.2.2 → decode cc pc = .ok (.ireturn, 1) → narrow ty (.int v) = .int v → r = (v, (τ, o)) → va_P D vwCl (wf (asL na (τ, o))) H → va_D A (wf (asL na (τ, o))) → va_S A s.heap H locs → W p l e R s m args below meth c H locs k1 k2 Q (F0 m pc ls [.int v])
set_option maxHeartbeats 40000000 in
set_option maxRecDepth 100000 in
theorem nd_cVNv {p : Program} {l : Launch} {e : Env} {R : Room} {s : State} {m : MethodId} {args : Array Value} {below : List Frame} {meth : Method} {c : Code} {H : Heap} {locs : List Loc} {cells slots : Nat} {Q : State → Prop} {A : Nat → Prop} {D : va_G} {cc : ByteArray} {nL : Nat} {own C : String} {Ts ows : List Cond} {index : Nat} {y : MethodName} {bytes : ByteArray} {maxL : Nat} {ret : Option FieldType} {rm : Room} {n : Nat} {w w' : va_W} {tys : List (ClassId × FieldType)} {b : Nat} {As rest : List Value} {pc : Nat} {ls : Array Slot} {st : List Value} (S : CallFix p m c cc nL s args Ts own)
    (hM : ∀ sz : Nat, Met l y ows rm (va_Pc (.ref b :: As) (fun U => U.heap.size = sz ∧ va_P D vwCl w U.heap ∧ va_K D vwCl tys U ∧ va_D (fun _ => True) w ∧ nv_E D.2 (va_A w sz) U)) (va_Qv (fun (_ : Unit) => True) (fun _ t => va_P D vwCl w' t.heap ∧ va_K D vwCl tys t ∧ va_D (va_A w sz) w') (va_A w sz)) 0 0 (va_A w sz))
    (cw : CallW R s args own C index y bytes maxL ret ows rm 0 0 n) (hP : va_P D vwCl w H) (hD : va_D A w) (hK : va_K D vwCl tys s) (hS : va_S A s.heap H locs) (hA : ∀ q : Nat, s.heap.size ≤ q → A q) (hN : nv_E D.2 A s) (hv : ∃ cell : Cell, H[b]? = some cell ∧ cell.vm.isStatics = false ∧ s.vm.findClass C = some cell.cls) (hn : As.length = n) (hsize : ls.size = nL) (hst : st = As.reverse ++ .ref b :: rest) (hW : (rest.map fun v => v.category).sum ≤ 8) (hdg : decode cc pc = .ok (.invokevirtual index, 3)) (hcs : cells + 0 ≤ R.cells ∧ slots + 0 ≤ R.slots)
    (kk : ∀ (H1 : Heap) (locs1 : List Loc), va_P D vwCl w' H1 → va_D (va_A w H.size) w' → (∀ q : Nat, q < H.size → ¬ va_A w H.size q → H1[q]? = H[q]?) → va_S A s.heap H1 locs1 → W p l e R s m args below meth c H1 locs1 cells slots Q (F0 m (pc + 3) ls (rest))) : W p l e R s m args below meth c H locs cells slots Q (F0 m pc ls st) := by
  have hF := nd_rs hD hS hA
  subst hst
  refine va_callv (va_runV (As := As) (rest := rest) S (hM H.size) cw ⟨fun a U g mk q => by obtain ⟨q0, q1, qP, qK, qD, qN⟩ := q; exact ⟨q0, q1, qP, va_K.moved (u := U) (U := U.calling g mk a) (Vm.Alike.refl U.vm) qK, qD, nv_same rfl rfl qN⟩, hv, fun U hU hW => ⟨rfl, by rw [hU], by rw [hU]; exact hP, va_K.moved hW.alike hK, hD.weaken (fun _ _ _ _ => trivial), nv_call hS hF hU hW hN⟩⟩ rfl hn hsize rfl (lv_room hW) hdg hcs) hS (fun q _ h => hF q h) hF (fun u t H1 locs ht hvm hw hB hz1 hk1 hS => ?_)
  obtain ⟨hP1, -, hD1⟩ := hB
  rw [ht] at hP1
  exact kk H1 locs hP1 hD1 hk1 hS
set_option maxHeartbeats 40000000 in
set_option maxRecDepth 100000 in
theorem nd_cVr {p : Program} {l : Launch} {e : Env} {R : Room} {s : State} {m : MethodId} {args : Array Value} {below : List Frame} {meth : Method} {c : Code} {H : Heap} {locs : List Loc} {Q : State → Prop} {A : Nat → Prop} {D : va_G} {cc : ByteArray} {nL : Nat} {own C : String} {Ts ows : List Cond} {index : Nat} {y : MethodName} {bytes : ByteArray} {maxL : Nat} {ret : Option FieldType} {rm : Room} {n : Nat} {mc ms : Nat} {w : va_W} {w' : Nat → va_W} {tys : List (ClassId × FieldType)} {b : Nat} {As rest : List Value} {pc : Nat} {ls : Array Slot} {st : List Value} (S : CallFix p m c cc nL s args Ts own)
    (hM : ∀ sz : Nat, Met l y ows rm (va_Pc (.ref b :: As) (fun U => U.heap.size = sz ∧ va_P D vwCl w U.heap ∧ va_K D vwCl tys U ∧ va_D (fun _ => True) w ∧ nv_E D.2 (va_A w sz) U)) (va_Qr (fun (_ : Unit) => True) (fun _ na t => va_P D vwCl (w' na) t.heap ∧ va_K D vwCl tys t ∧ va_D (va_A w sz) (w' na)) (va_A w sz)) mc ms (va_A w sz))
    (cw : CallW R s args own C index y bytes maxL ret ows rm mc ms n) (hP : va_P D vwCl w H) (hD : va_D A w) (hK : va_K D vwCl tys s) (hS : va_S A s.heap H locs) (hA : ∀ q : Nat, s.heap.size ≤ q → A q) (hN : nv_E D.2 A s) (hv : ∃ cell : Cell, H[b]? = some cell ∧ cell.vm.isStatics = false ∧ s.vm.findClass C = some cell.cls) (hn : As.length = n) (hsize : ls.size = nL) (hst : st = As.reverse ++ .ref b :: rest) (hW : (rest.map fun v => v.category).sum ≤ 8) (hdg : decode cc pc = .ok (.invokevirtual index, 3)) (hcs : 0 + mc ≤ R.cells ∧ 0 + ms ≤ R.slots)
    (kk : ∀ (na : Nat) (H1 : Heap) (locs1 : List Loc), va_P D vwCl (w' na) H1 → va_D (va_A w H.size) (w' na) → (∀ q : Nat, q < H.size → ¬ va_A w H.size q → H1[q]? = H[q]?) → va_S A s.heap H1 locs1 → W p l e R s m args below meth c H1 locs1 (0 + mc) (0 + ms) Q (F0 m (pc + 3) ls (.ref na :: rest))) : W p l e R s m args below meth c H locs 0 0 Q (F0 m pc ls st) := by
  have hF := nd_rs hD hS hA
  subst hst
  refine va_callr (va_runV (As := As) (rest := rest) S (hM H.size) cw ⟨fun a U g mk q => by obtain ⟨q0, q1, qP, qK, qD, qN⟩ := q; exact ⟨q0, q1, qP, va_K.moved (u := U) (U := U.calling g mk a) (Vm.Alike.refl U.vm) qK, qD, nv_same rfl rfl qN⟩, hv, fun U hU hW => ⟨rfl, by rw [hU], by rw [hU]; exact hP, va_K.moved hW.alike hK, hD.weaken (fun _ _ _ _ => trivial), nv_call hS hF hU hW hN⟩⟩ rfl hn hsize rfl (lv_room hW) hdg hcs) hS (fun q _ h => hF q h) hF (fun u na t H1 locs ht hvm hw hB hz1 hk1 hS => ?_)
  obtain ⟨hP1, -, hD1⟩ := hB
  rw [ht] at hP1
  exact kk na H1 locs hP1 hD1 hk1 hS
set_option maxHeartbeats 4000000 in
theorem nv_astg {p : Program} {l : Launch} {e : Env} {R : Room} {s : State} {m : MethodId} {args : Array Value} {below : List Frame} {meth : Method} {c : Code} {H : Heap} {locs : List Loc} {cells slots : Nat} {Q : State → Prop} {cc : ByteArray} {pc : Nat} {ls : Array Slot} {rest : List Value} {D : va_G} {cl : List vw_C} {A : Nat → Prop} {a : Nat} {tys : List (ClassId × FieldType)} {ws : va_W} {H0 : Heap}
    (hexec : p.tables.exec = Jvm.exec) (hb : c.code = cc) (hover : (Cond.arrayOver (.array .int)).before #[] s = true) (hK : va_K D cl tys s) (hP : va_P D cl ws H) (hD : va_D A ws) (hS : va_S A H0 H locs) (q0 t0 qk tk : Nat) {cA cB : ClassId} {n nb v : Nat} {f : Nat → Option Nat} {g : Nat → Int32} (ha : ws[q0]? = some (a, .inl (cA, n, .inr (.inr (.inr (.inr f)))))) (ht : tys[t0]? = some (cA, .array .int)) (hv : ws[qk]? = some (v, .inl (cB, nb, .inl g))) (hu : tys[tk]? = some (cB, .int)) {i : Int32} (hin : vp_in i n) (hdg : decode cc pc = .ok (.aastore, 1))
    (kk : ∀ (H1 : Heap) (locs1 : List Loc), va_P D cl (ws.set q0 (a, .inl (cA, n, .inr (.inr (.inr (.inr (va_up f i.toNatClampNeg (some v)))))))) H1 → va_D A (ws.set q0 (a, .inl (cA, n, .inr (.inr (.inr (.inr (va_up f i.toNatClampNeg (some v)))))))) → va_S A H0 H1 locs1 → W p l e R s m args below meth c H1 locs1 cells slots Q (F0 m (pc + 1) ls rest)) : W p l e R s m args below meth c H locs cells slots Q (F0 m pc ls (.ref v :: .int i :: .ref a :: rest)) := by
  have hlt : i.toNatClampNeg < n := Nat.not_le.mp fun q => hin (Or.inr q)
  have h0 : ¬ i < 0 := fun q => hin (Or.inl q)
  have nA : s.vm.findClass ("[" ++ (FieldType.array .int).toString) = some cA := (hK.2 t0 _ ht).2
  have nB : s.vm.findClass (FieldType.array .int).toString = some cB := (hK.2 tk _ hu).2
  obtain ⟨comp, c1, kA, h1, -, h3, h4, h5⟩ := nv_over hover
  cases Option.some.inj (h5.symm.trans nA)
  cases Option.some.inj (h1.symm.trans nB)
  obtain ⟨kB, hkB, -⟩ := Vm.findClass_spec nB
  refine W.aast hexec hb (hP q0 _ ha) (fun q h => by cases h) (fun h => by cases h) h3 h4 rfl hkB ⟨h0, by show _ < (arrV _ _ _).slots.size; rw [arrV_size]; exact hlt⟩ (hP qk _ hv) (fun q h => by cases h) hkB (va_asg _ _) rfl rfl hdg fun H1 e z oq => ?_
  refine kk H1 _ (hP.set hD ha ?_ oq) (hD.set ha) (hS.put z oq (hD.2 q0 _ ha))
  show H1[a]? = some (vp_cell _ _)
  rw [e]
  rw [vp_cell_q, vp_cell_q, arrV_store]
  congr 2
  funext q
  by_cases hq : q = i.toNatClampNeg
  · subst hq
    simp [updV, va_up, va_rf]
  · simp [updV, va_up, hq]
theorem nd_mv {A : Nat → Prop} {x y : Nat × va_E} {X P1 F P2 : va_W} (h : va_D A (x :: (X ++ (y :: (P1 ++ (F ++ P2)))))) : va_D A (X ++ (y :: (P1 ++ (x :: P2)))) := by
  obtain ⟨h1, h2⟩ := nd_nb h
  refine nd_nn ?_ (fun z hz => h2 z ?_)
  · have s1 : List.Sublist (x :: (X ++ (y :: (P1 ++ P2)))) (x :: (X ++ (y :: (P1 ++ (F ++ P2))))) := List.Sublist.cons_cons x ((List.Sublist.refl X).append (List.Sublist.cons_cons y ((List.Sublist.refl P1).append (List.sublist_append_right F P2))))
    have n1 := h1.sublist (s1.map (fun x => x.1))
    have p1 : List.Perm (X ++ (y :: (P1 ++ (x :: P2)))) (x :: (X ++ (y :: (P1 ++ P2)))) := by
      have := List.perm_middle (a := x) (l₁ := X ++ (y :: P1)) (l₂ := P2)
      simpa only [List.append_assoc, List.cons_append] using this
    exact (p1.map (fun x => x.1)).nodup_iff.mpr n1
  · simp only [List.mem_append, List.mem_cons] at hz ⊢
    rcases hz with a | a | a | a | a
    · exact Or.inr (Or.inl a)
    · exact Or.inr (Or.inr (Or.inl a))
    · exact Or.inr (Or.inr (Or.inr (Or.inl a)))
    · exact Or.inl a
    · exact Or.inr (Or.inr (Or.inr (Or.inr (Or.inr a))))
set_option maxHeartbeats 40000000 in
set_option maxRecDepth 100000 in
theorem nd_newL {A0 : Nat → Prop} {D : va_G} {H H1 : Heap} {a : Nat → Nat} {ac : Nat → ClassId} {σ : (St × (St) × (St × (St × (St))) × (St) × (St)) × Lb} {τ : St} {na m : Nat} {cA : ClassId} {row : Nat → Int32} (hP : va_P D vwCl (dw_X19L a ac σ) H) (hD : va_D A0 (dw_X19L a ac σ)) (hA : ∀ q : Nat, H.size ≤ q → A0 q) (hk : ∀ q : Nat, q < H.size → ¬ va_A (dw_X13 (fun k => a (k + 15)) (fun k => ac (k + 15)) (σ.1.2.1)) H.size q → H1[q]? = H[q]?) (h1 : va_P D vwCl (dw_X13r (fun k => a (k + 15)) (fun k => ac (k + 15)) na cA m (row, τ)) H1) (h2 : va_D (va_A (dw_X13 (fun k => a (k + 15)) (fun k => ac (k + 15)) (σ.1.2.1)) H.size) (dw_X13r (fun k => a (k + 15)) (fun k => ac (k + 15)) na cA m (row, τ))) : va_P D vwCl ((na, .inl (cA, m, .inl row)) :: dw_X19L a ac ((σ.1.1, (τ, σ.1.2.2)), σ.2)) H1 ∧ va_D A0 ((na, .inl (cA, m, .inl row)) :: dw_X19L a ac ((σ.1.1, (τ, σ.1.2.2)), σ.2)) := by
  obtain ⟨hP2, hD2⟩ := dn_X19L_15 hP hD hA hk (nd_pl h1) (nd_dl h2)
  have hc : va_P D vwCl [(na, .inl (cA, m, .inl row))] H1 := nd_pr h1
  have hna : H.size ≤ na := by
    rcases h2.2 12 (na, .inl (cA, m, .inl row)) rfl with ⟨k, e, hk⟩ | h
    · exfalso
      have e1 : (dw_X13 (fun k => a (k + 15)) (fun k => ac (k + 15)) σ.1.2.1).map (fun x => x.1) = (dw_X13 (fun k => a (k + 15)) (fun k => ac (k + 15)) τ).map (fun x => x.1) := rfl
      have e2 : ((dw_X13 (fun k => a (k + 15)) (fun k => ac (k + 15)) τ).map (fun x => x.1))[k]? = some na := by
        rw [← e1, List.getElem?_map, hk]; rfl
      rw [List.getElem?_map] at e2
      obtain ⟨q, q1, q2⟩ := Option.map_eq_some_iff.mp e2
      have kl : k < 12 := (List.getElem?_eq_some_iff.mp q1).1
      have q3 : (dw_X13r (fun k => a (k + 15)) (fun k => ac (k + 15)) na cA m (row, τ))[k]? = some q := by
        unfold dw_X13r
        rw [List.getElem?_append_left (List.getElem?_eq_some_iff.mp q1).1]
        exact q1
      have := h2.1 k 12 q (na, .inl (cA, m, .inl row)) q3 rfl q2
      omega
    · exact h
  refine ⟨hc.app hP2, ?_⟩
  obtain ⟨n1, n2⟩ := nd_nb hD2
  have e3 : (dw_X19L a ac ((σ.1.1, (τ, σ.1.2.2)), σ.2)).map (fun x => x.1) = (dw_X19L a ac σ).map (fun x => x.1) := by
    unfold dw_X19L
    rw [List.map_append, List.map_append]
    rfl
  refine nd_nn ?_ (fun x hx => ?_)
  · rw [List.map_cons, List.nodup_cons]
    refine ⟨fun hm => ?_, n1⟩
    rw [e3] at hm
    obtain ⟨x, x1, x2⟩ := List.mem_map.mp hm
    obtain ⟨i, hi⟩ := List.mem_iff_getElem?.mp x1
    have := (hP i x hi).lt
    have x2 : x.1 = na := x2
    omega
  · rcases List.mem_cons.mp hx with y | y
    · rw [y]; exact hA _ hna
    · exact n2 x y
set_option maxHeartbeats 40000000 in
set_option maxRecDepth 100000 in
theorem nd_setL {A : Nat → Prop} {D : va_G} {H : Heap} {a : Nat → Nat} {ac : Nat → ClassId} {σ : (St × (St) × (St × (St × (St))) × (St) × (St)) × Lb} {na m p : Nat} {row : Nat → Int32} (hp : p < 4) (hP : va_P D vwCl (((na, .inl (ac 2, m, .inl row)) :: dw_X19L a ac σ).set (96 + 1) (a 96, .inl (ac 96, 4, .inr (.inr (.inr (.inr (va_up (fun i => Option.map (fun x => x.1) (σ.2 i)) p (some na)))))))) H) (hD : va_D A (((na, .inl (ac 2, m, .inl row)) :: dw_X19L a ac σ).set (96 + 1) (a 96, .inl (ac 96, 4, .inr (.inr (.inr (.inr (va_up (fun i => Option.map (fun x => x.1) (σ.2 i)) p (some na))))))))) : va_P D vwCl (dw_X19L a ac (σ.1, lbU σ.2 na (some (p, (m, row))))) H ∧ va_D A (dw_X19L a ac (σ.1, lbU σ.2 na (some (p, (m, row))))) := by
  have e0 : ((na, .inl (ac 2, m, .inl row)) :: dw_X19L a ac σ).set (96 + 1) (a 96, .inl (ac 96, 4, .inr (.inr (.inr (.inr (va_up (fun i => Option.map (fun x => x.1) (σ.2 i)) p (some na))))))) = (na, .inl (ac 2, m, .inl row)) :: (dw_X19 a ac σ.1 ++ ((a 96, .inl (ac 96, 4, .inr (.inr (.inr (.inr (va_up (fun i => Option.map (fun x => x.1) (σ.2 i)) p (some na))))))) :: ((List.range 4).map (fun j => dw_LB (ac 2) (σ.2 j))).flatten)) := rfl
  rw [e0] at hP hD
  have ef : va_up (fun i => Option.map (fun x => x.1) (σ.2 i)) p (some na) = fun i => Option.map (fun x : Nat × Nat × (Nat → Int32) => x.1) (lbU σ.2 na (some (p, (m, row))) i) := by
    funext i
    unfold va_up lbU
    by_cases z : i = p
    · simp only [z, if_true]; rfl
    · simp only [z, if_false]
  rw [ef] at hP hD
  have el : ∀ j : Nat, ¬ j = p → lbU σ.2 na (some (p, (m, row))) j = σ.2 j := fun j hj => if_neg hj
  have ep : dw_LB (ac 2) (lbU σ.2 na (some (p, (m, row))) p) = [(na, .inl (ac 2, m, .inl row))] := by
    rw [show lbU σ.2 na (some (p, (m, row))) p = some (na, m, row) from if_pos rfl]
    rfl
  show va_P D vwCl (dw_X19 a ac σ.1 ++ ((a 96, .inl (ac 96, 4, .inr (.inr (.inr (.inr (fun i => Option.map (fun x => x.1) (lbU σ.2 na (some (p, (m, row))) i))))))) :: (dw_LB (ac 2) (lbU σ.2 na (some (p, (m, row))) 0) ++ (dw_LB (ac 2) (lbU σ.2 na (some (p, (m, row))) 1) ++ (dw_LB (ac 2) (lbU σ.2 na (some (p, (m, row))) 2) ++ (dw_LB (ac 2) (lbU σ.2 na (some (p, (m, row))) 3) ++ [])))))) H ∧ va_D A (dw_X19 a ac σ.1 ++ ((a 96, .inl (ac 96, 4, .inr (.inr (.inr (.inr (fun i => Option.map (fun x => x.1) (lbU σ.2 na (some (p, (m, row))) i))))))) :: (dw_LB (ac 2) (lbU σ.2 na (some (p, (m, row))) 0) ++ (dw_LB (ac 2) (lbU σ.2 na (some (p, (m, row))) 1) ++ (dw_LB (ac 2) (lbU σ.2 na (some (p, (m, row))) 2) ++ (dw_LB (ac 2) (lbU σ.2 na (some (p, (m, row))) 3) ++ []))))))
  have hP2 : va_P D vwCl ((na, .inl (ac 2, m, .inl row)) :: (dw_X19 a ac σ.1 ++ ((a 96, .inl (ac 96, 4, .inr (.inr (.inr (.inr (fun i => Option.map (fun x => x.1) (lbU σ.2 na (some (p, (m, row))) i))))))) :: (dw_LB (ac 2) (σ.2 0) ++ (dw_LB (ac 2) (σ.2 1) ++ (dw_LB (ac 2) (σ.2 2) ++ (dw_LB (ac 2) (σ.2 3) ++ []))))))) H := hP
  have hD2 : va_D A ((na, .inl (ac 2, m, .inl row)) :: (dw_X19 a ac σ.1 ++ ((a 96, .inl (ac 96, 4, .inr (.inr (.inr (.inr (fun i => Option.map (fun x => x.1) (lbU σ.2 na (some (p, (m, row))) i))))))) :: (dw_LB (ac 2) (σ.2 0) ++ (dw_LB (ac 2) (σ.2 1) ++ (dw_LB (ac 2) (σ.2 2) ++ (dw_LB (ac 2) (σ.2 3) ++ []))))))) := hD
  have key : ∀ (y : Nat × va_E) (P1 F P2 : va_W), va_P D vwCl ((na, .inl (ac 2, m, .inl row)) :: (dw_X19 a ac σ.1 ++ (y :: (P1 ++ (F ++ P2))))) H → va_D A ((na, .inl (ac 2, m, .inl row)) :: (dw_X19 a ac σ.1 ++ (y :: (P1 ++ (F ++ P2))))) → va_P D vwCl (dw_X19 a ac σ.1 ++ (y :: (P1 ++ ((na, .inl (ac 2, m, .inl row)) :: P2)))) H ∧ va_D A (dw_X19 a ac σ.1 ++ (y :: (P1 ++ ((na, .inl (ac 2, m, .inl row)) :: P2)))) := fun y P1 F P2 h1 h2 => ⟨nd_mm h1 (fun z hz => by
    simp only [List.mem_append, List.mem_cons] at hz ⊢
    rcases hz with a | a | a | a | a
    · exact Or.inr (Or.inl a)
    · exact Or.inr (Or.inr (Or.inl a))
    · exact Or.inr (Or.inr (Or.inr (Or.inl a)))
    · exact Or.inl a
    · exact Or.inr (Or.inr (Or.inr (Or.inr (Or.inr a))))), nd_mv h2⟩
  have c4 : p = 0 ∨ p = 1 ∨ p = 2 ∨ p = 3 := by omega
  rcases c4 with z | z | z | z
  · subst z
    rw [ep, el 1 (by omega), el 2 (by omega), el 3 (by omega)]
    exact key _ [] _ _ hP2 hD2
  · subst z
    rw [ep, el 0 (by omega), el 2 (by omega), el 3 (by omega)]
    exact key _ _ _ _ hP2 hD2
  · subst z
    rw [ep, el 0 (by omega), el 1 (by omega), el 3 (by omega)]
    have := key _ (dw_LB (ac 2) (σ.2 0) ++ dw_LB (ac 2) (σ.2 1)) _ _ (by rw [List.append_assoc]; exact hP2) (by rw [List.append_assoc]; exact hD2)
    rw [List.append_assoc] at this
    exact this
  · subst z
    rw [ep, el 0 (by omega), el 1 (by omega), el 2 (by omega)]
    have := key _ (dw_LB (ac 2) (σ.2 0) ++ (dw_LB (ac 2) (σ.2 1) ++ dw_LB (ac 2) (σ.2 2))) _ _ (by rw [List.append_assoc, List.append_assoc]; exact hP2) (by rw [List.append_assoc, List.append_assoc]; exact hD2)
    rw [List.append_assoc, List.append_assoc] at this
    exact this
set_option maxHeartbeats 40000000 in
set_option maxRecDepth 100000 in
theorem de_vX19_X13t_0 {a : Nat → Nat} {ac : Nat → ClassId} {τ : St × (St)} : ([[(a 92, .inl (ac 92, 32768, .inl (sR τ.1 0)))], dw_X13 (fun k => a (k + 15)) (fun k => ac (k + 15)) τ.2] : List va_W).flatten = dw_X13t (nd_cn (a 92) (fun k => a (k + 15))) (nd_cn (ac 92) (fun k => ac (k + 15))) τ := by
  simp only [List.flatten_cons, List.flatten_nil, List.append_nil]
  rfl
set_option maxHeartbeats 40000000 in
set_option maxRecDepth 100000 in
theorem dp_vX19_X13t_0 {D : va_G} {H : Heap} {a : Nat → Nat} {ac : Nat → ClassId} {σ : St × (St) × (St × (St × (St))) × (St) × (St)} (h : va_P D vwCl (dw_X19 a ac σ) H) : va_P D vwCl (dw_X13t (nd_cn (a 92) (fun k => a (k + 15))) (nd_cn (ac 92) (fun k => ac (k + 15))) ((pR nd_st0 0 (sR σ.2.2.2.1 3)), σ.2.1)) H := by
  rw [eX19] at h
  have h2 := nd_vp (segs := sgX19 a ac σ) (ix := [4, 1]) (old := [[(a 92, .inl (ac 92, 32768, .inl (sR σ.2.2.2.1 3)))], dw_X13 (fun k => a (k + 15)) (fun k => ac (k + 15)) σ.2.1]) h (nd_co rfl (nd_co rfl rfl))
  have e := de_vX19_X13t_0 (a := a) (ac := ac) (τ := ((pR nd_st0 0 (sR σ.2.2.2.1 3)), σ.2.1))
  exact e ▸ h2
set_option maxHeartbeats 40000000 in
set_option maxRecDepth 100000 in
theorem dd_vX19_X13t_0 {A : Nat → Prop} {a : Nat → Nat} {ac : Nat → ClassId} {σ : St × (St) × (St × (St × (St))) × (St) × (St)} (h : va_D A (dw_X19 a ac σ)) : va_D A (dw_X13t (nd_cn (a 92) (fun k => a (k + 15))) (nd_cn (ac 92) (fun k => ac (k + 15))) ((pR nd_st0 0 (sR σ.2.2.2.1 3)), σ.2.1)) := by
  rw [eX19] at h
  have h2 := nd_vd (segs := sgX19 a ac σ) (ix := [4, 1]) (old := [[(a 92, .inl (ac 92, 32768, .inl (sR σ.2.2.2.1 3)))], dw_X13 (fun k => a (k + 15)) (fun k => ac (k + 15)) σ.2.1]) h (nd_co rfl (nd_co rfl rfl)) (by decide)
  have e := de_vX19_X13t_0 (a := a) (ac := ac) (τ := ((pR nd_st0 0 (sR σ.2.2.2.1 3)), σ.2.1))
  exact e ▸ h2
set_option maxHeartbeats 40000000 in
set_option maxRecDepth 100000 in
theorem dy_vX19_X13t_0 {D : va_G} {U : State} {ac : Nat → ClassId} (h : va_K D vwCl (dk_X19 ac) U) : va_K D vwCl (dk_X13t (nd_cn (ac 92) (fun k => ac (k + 15)))) U := h.sub [86, 14, 15, 16, 17, 18, 19, 20, 21, 22, 23, 24] rfl
set_option maxHeartbeats 40000000 in
set_option maxRecDepth 100000 in
theorem dn_vX19_X13t_0 {A0 : Nat → Prop} {D : va_G} {H H1 : Heap} {a : Nat → Nat} {ac : Nat → ClassId} {σ : St × (St) × (St × (St × (St))) × (St) × (St)} {τ : St × (St)} (hP : va_P D vwCl (dw_X19 a ac σ) H) (hD : va_D A0 (dw_X19 a ac σ)) (hA : ∀ q : Nat, H.size ≤ q → A0 q) (hk : ∀ q : Nat, q < H.size → ¬ va_A (dw_X13t (nd_cn (a 92) (fun k => a (k + 15))) (nd_cn (ac 92) (fun k => ac (k + 15))) ((pR nd_st0 0 (sR σ.2.2.2.1 3)), σ.2.1)) H.size q → H1[q]? = H[q]?) (h1 : va_P D vwCl (dw_X13t (nd_cn (a 92) (fun k => a (k + 15))) (nd_cn (ac 92) (fun k => ac (k + 15))) τ) H1) (h2 : va_D (va_A (dw_X13t (nd_cn (a 92) (fun k => a (k + 15))) (nd_cn (ac 92) (fun k => ac (k + 15))) ((pR nd_st0 0 (sR σ.2.2.2.1 3)), σ.2.1)) H.size) (dw_X13t (nd_cn (a 92) (fun k => a (k + 15))) (nd_cn (ac 92) (fun k => ac (k + 15))) τ)) : va_P D vwCl (dw_X19 a ac ((σ.1, (σ.2.1, (σ.2.2.1, ((pR σ.2.2.2.1 3 (sR τ.1 0)), σ.2.2.2.2)))).1, (τ.2, (σ.1, (σ.2.1, (σ.2.2.1, ((pR σ.2.2.2.1 3 (sR τ.1 0)), σ.2.2.2.2)))).2.2))) H1 ∧ va_D A0 (dw_X19 a ac ((σ.1, (σ.2.1, (σ.2.2.1, ((pR σ.2.2.2.1 3 (sR τ.1 0)), σ.2.2.2.2)))).1, (τ.2, (σ.1, (σ.2.1, (σ.2.2.1, ((pR σ.2.2.2.1 3 (sR τ.1 0)), σ.2.2.2.2)))).2.2))) := by
  have eo := de_vX19_X13t_0 (a := a) (ac := ac) (τ := ((pR nd_st0 0 (sR σ.2.2.2.1 3)), σ.2.1))
  have en := de_vX19_X13t_0 (a := a) (ac := ac) (τ := τ)
  have hD1 := hD
  rw [eX19] at hP hD
  have h := nd_vn (segs := sgX19 a ac σ) (ix := [4, 1]) (old := [[(a 92, .inl (ac 92, 32768, .inl (sR σ.2.2.2.1 3)))], dw_X13 (fun k => a (k + 15)) (fun k => ac (k + 15)) σ.2.1]) (new := [[(a 92, .inl (ac 92, 32768, .inl (sR τ.1 0)))], dw_X13 (fun k => a (k + 15)) (fun k => ac (k + 15)) τ.2]) hP hD (nd_co rfl (nd_co rfl rfl)) rfl (fun q z y => hk q z (fun w => y (eo ▸ w))) (en ▸ h1)
  have ee : nd_sets (sgX19 a ac σ) [4, 1] [[(a 92, .inl (ac 92, 32768, .inl (sR τ.1 0)))], dw_X13 (fun k => a (k + 15)) (fun k => ac (k + 15)) τ.2] = sgX19 a ac ((σ.1, (σ.2.1, (σ.2.2.1, ((pR σ.2.2.2.1 3 (sR τ.1 0)), σ.2.2.2.2)))).1, (τ.2, (σ.1, (σ.2.1, (σ.2.2.1, ((pR σ.2.2.2.1 3 (sR τ.1 0)), σ.2.2.2.2)))).2.2)) := rfl
  rw [ee, ← eX19] at h
  exact ⟨h, nd_Da hD1 dA_X19⟩
set_option maxHeartbeats 40000000 in
set_option maxRecDepth 100000 in
theorem dp_vX19L_X13t_0 {D : va_G} {H : Heap} {a : Nat → Nat} {ac : Nat → ClassId} {σ : (St × (St) × (St × (St × (St))) × (St) × (St)) × Lb} (h : va_P D vwCl (dw_X19L a ac σ) H) : va_P D vwCl (dw_X13t (nd_cn (a 92) (fun k => a (k + 15))) (nd_cn (ac 92) (fun k => ac (k + 15))) ((pR nd_st0 0 (sR σ.1.2.2.2.1 3)), σ.1.2.1)) H := dp_vX19_X13t_0 (σ := σ.1) (nd_pl h)
set_option maxHeartbeats 40000000 in
set_option maxRecDepth 100000 in
theorem dd_vX19L_X13t_0 {A : Nat → Prop} {a : Nat → Nat} {ac : Nat → ClassId} {σ : (St × (St) × (St × (St × (St))) × (St) × (St)) × Lb} (h : va_D A (dw_X19L a ac σ)) : va_D A (dw_X13t (nd_cn (a 92) (fun k => a (k + 15))) (nd_cn (ac 92) (fun k => ac (k + 15))) ((pR nd_st0 0 (sR σ.1.2.2.2.1 3)), σ.1.2.1)) := dd_vX19_X13t_0 (σ := σ.1) (nd_dl h)
set_option maxHeartbeats 40000000 in
set_option maxRecDepth 100000 in
theorem dy_vX19L_X13t_0 {D : va_G} {U : State} {ac : Nat → ClassId} (h : va_K D vwCl (dk_X19L ac) U) : va_K D vwCl (dk_X13t (nd_cn (ac 92) (fun k => ac (k + 15)))) U := dy_vX19_X13t_0 (nd_yl h)
set_option maxHeartbeats 40000000 in
set_option maxRecDepth 100000 in
theorem dn_vX19L_X13t_0 {A0 : Nat → Prop} {D : va_G} {H H1 : Heap} {a : Nat → Nat} {ac : Nat → ClassId} {σ : (St × (St) × (St × (St × (St))) × (St) × (St)) × Lb} {τ : St × (St)} (hP : va_P D vwCl (dw_X19L a ac σ) H) (hD : va_D A0 (dw_X19L a ac σ)) (hA : ∀ q : Nat, H.size ≤ q → A0 q) (hk : ∀ q : Nat, q < H.size → ¬ va_A (dw_X13t (nd_cn (a 92) (fun k => a (k + 15))) (nd_cn (ac 92) (fun k => ac (k + 15))) ((pR nd_st0 0 (sR σ.1.2.2.2.1 3)), σ.1.2.1)) H.size q → H1[q]? = H[q]?) (h1 : va_P D vwCl (dw_X13t (nd_cn (a 92) (fun k => a (k + 15))) (nd_cn (ac 92) (fun k => ac (k + 15))) τ) H1) (h2 : va_D (va_A (dw_X13t (nd_cn (a 92) (fun k => a (k + 15))) (nd_cn (ac 92) (fun k => ac (k + 15))) ((pR nd_st0 0 (sR σ.1.2.2.2.1 3)), σ.1.2.1)) H.size) (dw_X13t (nd_cn (a 92) (fun k => a (k + 15))) (nd_cn (ac 92) (fun k => ac (k + 15))) τ)) : va_P D vwCl (dw_X19L a ac ((((σ.1.1, (σ.1.2.1, (σ.1.2.2.1, ((pR σ.1.2.2.2.1 3 (sR τ.1 0)), σ.1.2.2.2.2)))), σ.2).1.1, (τ.2, ((σ.1.1, (σ.1.2.1, (σ.1.2.2.1, ((pR σ.1.2.2.2.1 3 (sR τ.1 0)), σ.1.2.2.2.2)))), σ.2).1.2.2)), ((σ.1.1, (σ.1.2.1, (σ.1.2.2.1, ((pR σ.1.2.2.2.1 3 (sR τ.1 0)), σ.1.2.2.2.2)))), σ.2).2)) H1 ∧ va_D A0 (dw_X19L a ac ((((σ.1.1, (σ.1.2.1, (σ.1.2.2.1, ((pR σ.1.2.2.2.1 3 (sR τ.1 0)), σ.1.2.2.2.2)))), σ.2).1.1, (τ.2, ((σ.1.1, (σ.1.2.1, (σ.1.2.2.1, ((pR σ.1.2.2.2.1 3 (sR τ.1 0)), σ.1.2.2.2.2)))), σ.2).1.2.2)), ((σ.1.1, (σ.1.2.1, (σ.1.2.2.1, ((pR σ.1.2.2.2.1 3 (sR τ.1 0)), σ.1.2.2.2.2)))), σ.2).2)) := by
  have hD0 : va_D (fun _ => True) (dw_X19 a ac σ.1) := (nd_dl hD).weaken (fun _ _ _ _ => trivial)
  have hD' : va_D (va_A (dw_X19 a ac σ.1) H.size) (dw_X19 a ac σ.1) := hD0.self (sz := H.size)
  obtain ⟨p1, p2⟩ := dn_vX19_X13t_0 (A0 := va_A (dw_X19 a ac σ.1) H.size) (σ := σ.1) (nd_pl hP) hD' (fun q h => Or.inr h) hk h1 h2
  have hk' : ∀ q : Nat, q < H.size → ¬ va_A (dw_X19 a ac σ.1) H.size q → H1[q]? = H[q]? := fun q hq hn => hk q hq (fun hz => hn (by
    rcases hz with ⟨k, e, he⟩ | hz
    · exact (dd_vX19_X13t_0 (σ := σ.1) hD').2 k (q, e) he
    · exact Or.inr hz))
  obtain ⟨q1, q2, -⟩ := nd_stepL hP hD hk' p1 p2
  exact ⟨q1, q2.weaken (fun k q _ h => nd_rq hD hA q.1 h)⟩
def ow_dm_X19_assemble : List Cond := Cond.code yX19_assemble cX19_assemble 3 (some .int) :: ([Cond.constantLong RX19 134 (3), Cond.methodLink RX19 126 yX19_in, Cond.static yX19_in, Cond.initialized RX19, Cond.methodLink RX19 136 yX19_fails, Cond.instanceMethod yX19_fails, Cond.selects RX19 yX19_fails yX19_fails, Cond.methodLink RX19 140 yX19_strange, Cond.instanceMethod yX19_strange, Cond.selects RX19 yX19_strange yX19_strange, Cond.fieldLink RX19 49 "TimeMachineModel" "assembler" "LTimeMachineModel$Assembler;", Cond.fieldLink RX19 10 "TimeMachineModel" "tape" "[I", Cond.fieldLink RX19 117 "TimeMachineModel" "taped" "I", Cond.methodLink RX19 144 yX13_assemble, Cond.instanceMethod yX13_assemble, Cond.selects RX13 yX13_assemble yX13_assemble, Cond.initialized RX13, Cond.methodLink RX19 148 yX19_use, Cond.instanceMethod yX19_use, Cond.selects RX19 yX19_use yX19_use, Cond.fieldLink RX19 14 "TimeMachineModel" "isProgram" "[Z", Cond.fieldLink RX19 18 "TimeMachineModel" "text" "[I", Cond.methodLink RX19 151 yX13_textSize, Cond.instanceMethod yX13_textSize, Cond.selects RX13 yX13_textSize yX13_textSize, Cond.fieldLink RX19 21 "TimeMachineModel" "data" "[I", Cond.methodLink RX19 154 yX13_dataBegin, Cond.instanceMethod yX13_dataBegin, Cond.selects RX13 yX13_dataBegin yX13_dataBegin, Cond.fieldLink RX19 24 "TimeMachineModel" "ends" "[I", Cond.methodLink RX19 157 yX13_end, Cond.instanceMethod yX13_end, Cond.selects RX13 yX13_end yX13_end, Cond.fieldLink RX19 27 "TimeMachineModel" "constants" "[I", Cond.methodLink RX19 160 yX13_countOf, Cond.instanceMethod yX13_countOf, Cond.selects RX13 yX13_countOf yX13_countOf, Cond.fieldLink RX19 35 "TimeMachineModel" "labels" "[[I", Cond.methodLink RX19 164 yX13_addresses, Cond.instanceMethod yX13_addresses, Cond.selects RX13 yX13_addresses yX13_addresses, Cond.fieldLink RX19 31 "TimeMachineModel" "images" "[I", Cond.constant RX19 9 (32768), Cond.methodLink RX19 168 yX13_put_, Cond.instanceMethod yX13_put_, Cond.selects RX13 yX13_put_ yX13_put_] ++ (u_ws RX19 TX19 36 ++ (ow_dm_X19_in ++ (ow_dm_X19_fails ++ (ow_dm_X19_strange ++ (ow_dm_X13_assemble ++ (ow_dm_X19_use ++ (ow_dm_X13_textSize ++ (ow_dm_X13_dataBegin ++ (ow_dm_X13_end ++ (ow_dm_X13_countOf ++ (ow_dm_X13_addresses ++ (ow_dm_X13_put_ ++ [])))))))))))))
theorem gd_dm_X19_assemble : ∀ w ∈ ow_dm_X19_assemble, (w.onTables && w.keeps) = true ∨ ∃ ty, w = Cond.arrayClass ty := List.forall_mem_cons.mpr ⟨good_of_word rfl, List.forall_mem_append.mpr ⟨fun w h => good_of_word (List.all_eq_true.mp (by decide +kernel) w h), List.forall_mem_append.mpr ⟨gu_X19, List.forall_mem_append.mpr ⟨gd_dm_X19_in, List.forall_mem_append.mpr ⟨gd_dm_X19_fails, List.forall_mem_append.mpr ⟨gd_dm_X19_strange, List.forall_mem_append.mpr ⟨gd_dm_X13_assemble, List.forall_mem_append.mpr ⟨gd_dm_X19_use, List.forall_mem_append.mpr ⟨gd_dm_X13_textSize, List.forall_mem_append.mpr ⟨gd_dm_X13_dataBegin, List.forall_mem_append.mpr ⟨gd_dm_X13_end, List.forall_mem_append.mpr ⟨gd_dm_X13_countOf, List.forall_mem_append.mpr ⟨gd_dm_X13_addresses, List.forall_mem_append.mpr ⟨gd_dm_X13_put_, fun _ h => nomatch h⟩⟩⟩⟩⟩⟩⟩⟩⟩⟩⟩⟩⟩⟩
theorem hi_dm_X19_assemble_X19 : ∀ w ∈ u_ws RX19 TX19 36, w ∈ ow_dm_X19_assemble := fun w h => List.mem_cons_of_mem _ (List.mem_append_right _ (List.mem_append_left _ h))
theorem gi_dm_X19_assemble_0 : GoodIn ow_dm_X19_assemble (wsS RX19 126 yX19_in ow_dm_X19_in) := goodIn_app (goodIn_of _ (by decide +kernel)) (fun w h => ⟨List.mem_cons_of_mem _ (List.mem_append_right _ (List.mem_append_right _ (List.mem_append_left _ h))), gd_dm_X19_in w h⟩)
theorem gi_dm_X19_assemble_1 : GoodIn ow_dm_X19_assemble (wsV RX19 136 RX19 yX19_fails ow_dm_X19_fails) := goodIn_app (goodIn_of _ (by decide +kernel)) (fun w h => ⟨List.mem_cons_of_mem _ (List.mem_append_right _ (List.mem_append_right _ (List.mem_append_right _ (List.mem_append_left _ h)))), gd_dm_X19_fails w h⟩)
theorem gi_dm_X19_assemble_2 : GoodIn ow_dm_X19_assemble (wsV RX19 140 RX19 yX19_strange ow_dm_X19_strange) := goodIn_app (goodIn_of _ (by decide +kernel)) (fun w h => ⟨List.mem_cons_of_mem _ (List.mem_append_right _ (List.mem_append_right _ (List.mem_append_right _ (List.mem_append_right _ (List.mem_append_left _ h))))), gd_dm_X19_strange w h⟩)
theorem gi_dm_X19_assemble_3 : GoodIn ow_dm_X19_assemble (wsV RX19 144 RX13 yX13_assemble ow_dm_X13_assemble) := goodIn_app (goodIn_of _ (by decide +kernel)) (fun w h => ⟨List.mem_cons_of_mem _ (List.mem_append_right _ (List.mem_append_right _ (List.mem_append_right _ (List.mem_append_right _ (List.mem_append_right _ (List.mem_append_left _ h)))))), gd_dm_X13_assemble w h⟩)
theorem gi_dm_X19_assemble_4 : GoodIn ow_dm_X19_assemble (wsV RX19 148 RX19 yX19_use ow_dm_X19_use) := goodIn_app (goodIn_of _ (by decide +kernel)) (fun w h => ⟨List.mem_cons_of_mem _ (List.mem_append_right _ (List.mem_append_right _ (List.mem_append_right _ (List.mem_append_right _ (List.mem_append_right _ (List.mem_append_right _ (List.mem_append_left _ h))))))), gd_dm_X19_use w h⟩)
theorem gi_dm_X19_assemble_5 : GoodIn ow_dm_X19_assemble (wsV RX19 151 RX13 yX13_textSize ow_dm_X13_textSize) := goodIn_app (goodIn_of _ (by decide +kernel)) (fun w h => ⟨List.mem_cons_of_mem _ (List.mem_append_right _ (List.mem_append_right _ (List.mem_append_right _ (List.mem_append_right _ (List.mem_append_right _ (List.mem_append_right _ (List.mem_append_right _ (List.mem_append_left _ h)))))))), gd_dm_X13_textSize w h⟩)
theorem gi_dm_X19_assemble_6 : GoodIn ow_dm_X19_assemble (wsV RX19 154 RX13 yX13_dataBegin ow_dm_X13_dataBegin) := goodIn_app (goodIn_of _ (by decide +kernel)) (fun w h => ⟨List.mem_cons_of_mem _ (List.mem_append_right _ (List.mem_append_right _ (List.mem_append_right _ (List.mem_append_right _ (List.mem_append_right _ (List.mem_append_right _ (List.mem_append_right _ (List.mem_append_right _ (List.mem_append_left _ h))))))))), gd_dm_X13_dataBegin w h⟩)
theorem gi_dm_X19_assemble_7 : GoodIn ow_dm_X19_assemble (wsV RX19 157 RX13 yX13_end ow_dm_X13_end) := goodIn_app (goodIn_of _ (by decide +kernel)) (fun w h => ⟨List.mem_cons_of_mem _ (List.mem_append_right _ (List.mem_append_right _ (List.mem_append_right _ (List.mem_append_right _ (List.mem_append_right _ (List.mem_append_right _ (List.mem_append_right _ (List.mem_append_right _ (List.mem_append_right _ (List.mem_append_left _ h)))))))))), gd_dm_X13_end w h⟩)
theorem gi_dm_X19_assemble_8 : GoodIn ow_dm_X19_assemble (wsV RX19 160 RX13 yX13_countOf ow_dm_X13_countOf) := goodIn_app (goodIn_of _ (by decide +kernel)) (fun w h => ⟨List.mem_cons_of_mem _ (List.mem_append_right _ (List.mem_append_right _ (List.mem_append_right _ (List.mem_append_right _ (List.mem_append_right _ (List.mem_append_right _ (List.mem_append_right _ (List.mem_append_right _ (List.mem_append_right _ (List.mem_append_right _ (List.mem_append_left _ h))))))))))), gd_dm_X13_countOf w h⟩)
theorem gi_dm_X19_assemble_9 : GoodIn ow_dm_X19_assemble (wsV RX19 164 RX13 yX13_addresses ow_dm_X13_addresses) := goodIn_app (goodIn_of _ (by decide +kernel)) (fun w h => ⟨List.mem_cons_of_mem _ (List.mem_append_right _ (List.mem_append_right _ (List.mem_append_right _ (List.mem_append_right _ (List.mem_append_right _ (List.mem_append_right _ (List.mem_append_right _ (List.mem_append_right _ (List.mem_append_right _ (List.mem_append_right _ (List.mem_append_right _ (List.mem_append_left _ h)))))))))))), gd_dm_X13_addresses w h⟩)
theorem gi_dm_X19_assemble_10 : GoodIn ow_dm_X19_assemble (wsV RX19 168 RX13 yX13_put_ ow_dm_X13_put_) := goodIn_app (goodIn_of _ (by decide +kernel)) (fun w h => ⟨List.mem_cons_of_mem _ (List.mem_append_right _ (List.mem_append_right _ (List.mem_append_right _ (List.mem_append_right _ (List.mem_append_right _ (List.mem_append_right _ (List.mem_append_right _ (List.mem_append_right _ (List.mem_append_right _ (List.mem_append_right _ (List.mem_append_right _ (List.mem_append_right _ (List.mem_append_left _ h))))))))))))), gd_dm_X13_put_ w h⟩)
def dj_X19_assemble_132 (p : Program) (l : Launch) (e : Env) (s : State) (m : MethodId) (args : Array Value) (below : List Frame) (meth : Method) (c : Code) (Q : State → Prop) (A : Nat → Prop) (dC : Nat → ClassId) (dI : Nat → Nat → Nat) (a : Nat → Nat) (ac : Nat → ClassId) (g : Int32 → ((St × (St) × (St × (St × (St))) × (St) × (St)) × Lb) → Option (Int32 × (((St × (St) × (St × (St × (St))) × (St) × (St)) × Lb) × Ox))) (r : Int32 × (((St × (St) × (St × (St × (St))) × (St) × (St)) × Lb) × Ox)) : Prop := ∀ (x1 : Int32) (s0 : (St × (St) × (St × (St × (St))) × (St) × (St)) × Lb) (H : Heap) (locs : List Loc) (ls : Array Slot), g x1 s0 = some r → va_P (dC, dI) vwCl (dw_X19L a ac s0) H → va_D A (dw_X19L a ac s0) → va_S A s.heap H locs → lv_has ls 3 [(0, .ref (a 0)), (1, .int x1)] → W p l e (headSpec ow_dm_X19_assemble ({ frames := 15, cells := 1, slots := oxN r.2.2, locals := 354 })).room s m args below meth c H locs 0 0 Q (F0 m 132 ls [])
def dj_X19_assemble_61 (p : Program) (l : Launch) (e : Env) (s : State) (m : MethodId) (args : Array Value) (below : List Frame) (meth : Method) (c : Code) (Q : State → Prop) (A : Nat → Prop) (dC : Nat → ClassId) (dI : Nat → Nat → Nat) (a : Nat → Nat) (ac : Nat → ClassId) (g : Int32 → Int32 → ((St × (St) × (St × (St × (St))) × (St) × (St)) × Lb) → Option (Int32 × (((St × (St) × (St × (St × (St))) × (St) × (St)) × Lb) × Ox))) (r : Int32 × (((St × (St) × (St × (St × (St))) × (St) × (St)) × Lb) × Ox)) : Prop := ∀ (x1 : Int32) (y0 : Int32) (s0 : (St × (St) × (St × (St × (St))) × (St) × (St)) × Lb) (H : Heap) (locs : List Loc) (ls : Array Slot), g x1 y0 s0 = some r → va_P (dC, dI) vwCl (dw_X19L a ac s0) H → va_D A (dw_X19L a ac s0) → va_S A s.heap H locs → lv_has ls 3 [(0, .ref (a 0)), (1, .int x1)] → W p l e (headSpec ow_dm_X19_assemble ({ frames := 15, cells := 1, slots := oxN r.2.2, locals := 354 })).room s m args below meth c H locs 0 0 Q (F0 m 61 ls [.int y0])
def dj_X19_assemble_18 (p : Program) (l : Launch) (e : Env) (s : State) (m : MethodId) (args : Array Value) (below : List Frame) (meth : Method) (c : Code) (Q : State → Prop) (A : Nat → Prop) (dC : Nat → ClassId) (dI : Nat → Nat → Nat) (a : Nat → Nat) (ac : Nat → ClassId) (g : Int32 → Int32 → ((St × (St) × (St × (St × (St))) × (St) × (St)) × Lb) → Option (Int32 × (((St × (St) × (St × (St × (St))) × (St) × (St)) × Lb) × Ox))) (r : Int32 × (((St × (St) × (St × (St × (St))) × (St) × (St)) × Lb) × Ox)) : Prop := ∀ (x1 : Int32) (y1 : Int32) (s0 : (St × (St) × (St × (St × (St))) × (St) × (St)) × Lb) (H : Heap) (locs : List Loc) (ls : Array Slot), g x1 y1 s0 = some r → va_P (dC, dI) vwCl (dw_X19L a ac s0) H → va_D A (dw_X19L a ac s0) → va_S A s.heap H locs → lv_has ls 3 [(0, .ref (a 0)), (1, .int x1)] → W p l e (headSpec ow_dm_X19_assemble ({ frames := 15, cells := 1, slots := oxN r.2.2, locals := 354 })).room s m args below meth c H locs 0 0 Q (F0 m 18 ls [.int y1, .ref (a 0)])
def dj_X19_assemble_0 (p : Program) (l : Launch) (e : Env) (s : State) (m : MethodId) (args : Array Value) (below : List Frame) (meth : Method) (c : Code) (Q : State → Prop) (A : Nat → Prop) (dC : Nat → ClassId) (dI : Nat → Nat → Nat) (a : Nat → Nat) (ac : Nat → ClassId) (g : Int32 → ((St × (St) × (St × (St × (St))) × (St) × (St)) × Lb) → Option (Int32 × (((St × (St) × (St × (St × (St))) × (St) × (St)) × Lb) × Ox))) (r : Int32 × (((St × (St) × (St × (St × (St))) × (St) × (St)) × Lb) × Ox)) : Prop := ∀ (v0 : Int32) (s0 : (St × (St) × (St × (St × (St))) × (St) × (St)) × Lb) (H : Heap) (locs : List Loc) (ls : Array Slot), g v0 s0 = some r → va_P (dC, dI) vwCl (dw_X19L a ac s0) H → va_D A (dw_X19L a ac s0) → va_S A s.heap H locs → lv_has ls 3 [(0, .ref (a 0)), (1, .int v0)] → W p l e (headSpec ow_dm_X19_assemble ({ frames := 15, cells := 1, slots := oxN r.2.2, locals := 354 })).room s m args below meth c H locs 0 0 Q (F0 m 0 ls [])
set_option maxHeartbeats 40000000 in
set_option maxRecDepth 100000 in
theorem db_X19_assemble_132 {p : Program} {l : Launch} {e : Env} {s : State} {m : MethodId} {args : Array Value} {below : List Frame} {meth : Method} {c : Code} {Q : State → Prop} {A : Nat → Prop} {dC : Nat → ClassId} {dI : Nat → Nat → Nat} {a : Nat → Nat} {ac : Nat → ClassId} {n : Nat} {r : Int32 × (((St × (St) × (St × (St × (St))) × (St) × (St)) × Lb) × Ox)} (C : nd_C p l s m args c A (dC, dI) cX19_assemble 3 RX19 ow_dm_X19_assemble (dk_X19L ac)) (K : nd_Ko p l e (headSpec ow_dm_X19_assemble ({ frames := 15, cells := 1, slots := oxN r.2.2, locals := 354 })).room s m args below meth c Q A (dC, dI) cX19_assemble .int ((St × (St) × (St × (St × (St))) × (St) × (St)) × Lb) (dw_X19L a ac) r) : dj_X19_assemble_132 p l e s m args below meth c Q A dC dI a ac (df_X19_assemble_132 n) r := by
  obtain ⟨hlt, hx, hb, hml, hown, hts, hN, hA, hK⟩ := id C
  intro x1 s0 H locs ls h hP hD hS hl
  unfold df_X19_assemble_132 at h
  refine lv_aload_n hx hb dX19_assemble_132 rfl (lv_at hl 0 rfl) ?_
  obtain ⟨o1, h⟩ := nd_o_e h
  refine va_get (D := (dC, dI)) (ci := 20) (v := .ref (a 96)) (C := RX19) (T := TX19) (N := 36) hx hb hts hi_dm_X19_assemble_X19 hown hK hP 0 rfl rfl 10 (by decide) (hts (.fieldLink RX19 35 "TimeMachineModel" "labels" "[[I") (List.mem_of_getElem? (i := 38) rfl)) (fun _ h9 => h9) (congrArg (fun z => some (va_rf (Option.map a z))) o1) dX19_assemble_133 ?_
  refine lv_iload_n hx hb dX19_assemble_136 rfl (lv_at hl 1 rfl) ?_
  refine lv_aload_n hx hb dX19_assemble_137 rfl (lv_at hl 0 rfl) ?_
  refine va_get (D := (dC, dI)) (ci := 20) (v := .ref (a 15)) (C := RX19) (T := TX19) (N := 36) hx hb hts hi_dm_X19_assemble_X19 hown hK hP 0 rfl rfl 12 (by decide) (hts (.fieldLink RX19 49 "TimeMachineModel" "assembler" "LTimeMachineModel$Assembler;") (List.mem_of_getElem? (i := 11) rfl)) (fun _ h9 => h9) rfl dX19_assemble_138 ?_
  obtain ⟨q1, s2, hq, h⟩ := nd_b2_e h
  obtain ⟨i2, h⟩ := nd_ck_e h
  obtain ⟨s6, hq6, h⟩ := nd_b1_e h
  have er := Option.some.inj h
  have eN : oxN r.2.2 = q1.1 := by rw [← er]; rfl
  have hPc := dp_X19L_15 hP
  have hDc := dd_X19L_15 hD
  have hKc := dy_X19L_15 hK
  have hzA : ∀ q : Nat, H.size ≤ q → A q := fun q h => hA q (Nat.le_trans hS.1 h)
  refine nd_cVr (As := []) (rest := [.int x1, .ref (a 96)]) (w' := fun na => dw_X13r (fun k => a (k + 15)) (fun k => ac (k + 15)) na (ac 18) q1.1 (q1.2, s2)) ⟨hx, hb, hml, hown, hts⟩ (fun sz => dm_X13_addresses l hlt dC dI (fun k => a (k + 15)) (fun k => ac (k + 15)) n s0.1.2.1 hq sz) (cwV 0 hts gi_dm_X19_assemble_9 rfl rfl rfl (by decide +kernel) ⟨Nat.le_of_ble_eq_true rfl, Nat.le_of_ble_eq_true rfl⟩) hPc hDc hKc hS hA hN (va_recv hKc hPc (ci := 14) (q0 := 0) rfl rfl) rfl hl.1 rfl (Nat.le_of_ble_eq_true rfl) dX19_assemble_141 ⟨Nat.le_of_ble_eq_true rfl, (by show 0 + q1.1 ≤ oxN r.2.2; rw [eN, Nat.zero_add]; exact Nat.le_refl _)⟩ (fun na H1 locs hP1 hD1 hk1 hS => ?_)
  obtain ⟨hPn, hDn⟩ := nd_newL hP hD hzA hk1 hP1 hD1
  have e18 : ac 18 = ac 2 := Option.some.inj ((hK.2 16 (ac 18, .int) rfl).2.symm.trans (hK.2 1 (ac 2, .int) rfl).2)
  rw [e18] at hPn hDn
  refine nv_astg (i := x1) hx hb hN.2.2.2.1 hK hPn hDn hS 97 89 0 1 rfl rfl rfl rfl i2 dX19_assemble_144 (fun H locs hP hD hS => ?_)
  obtain ⟨hP, hD⟩ := nd_setL (p := Int32.toNatClampNeg x1) (Nat.not_le.mp fun q9 => i2 (Or.inr q9)) hP hD
  obtain ⟨s5, es5⟩ : ∃ s5 : (St × (St) × (St × (St × (St))) × (St) × (St)) × Lb, s5 = ((s0.1.1, (s2, s0.1.2.2)), lbU s0.2 na (some (Int32.toNatClampNeg x1, q1))) := ⟨_, rfl⟩
  have hP : va_P (dC, dI) vwCl (dw_X19L a ac s5) H := by rw [es5]; exact hP
  have hD : va_D A (dw_X19L a ac s5) := by rw [es5]; exact hD
  refine lv_aload_n hx hb dX19_assemble_145 rfl (lv_at hl 0 rfl) ?_
  refine va_get (D := (dC, dI)) (ci := 20) (v := .ref (a 15)) (C := RX19) (T := TX19) (N := 36) hx hb hts hi_dm_X19_assemble_X19 hown hK hP 0 rfl rfl 12 (by decide) (hts (.fieldLink RX19 49 "TimeMachineModel" "assembler" "LTimeMachineModel$Assembler;") (List.mem_of_getElem? (i := 11) rfl)) (fun _ h9 => h9) rfl dX19_assemble_146 ?_
  refine lv_aload_n hx hb dX19_assemble_149 rfl (lv_at hl 0 rfl) ?_
  refine va_get (D := (dC, dI)) (ci := 20) (v := .ref (a 26)) (C := RX19) (T := TX19) (N := 36) hx hb hts hi_dm_X19_assemble_X19 hown hK hP 0 rfl rfl 9 (by decide) (hts (.fieldLink RX19 31 "TimeMachineModel" "images" "[I") (List.mem_of_getElem? (i := 42) rfl)) (fun _ h9 => h9) rfl dX19_assemble_150 ?_
  refine lv_ldc hx hb hown (hts (.constant RX19 9 (32768)) (List.mem_of_getElem? (i := 43) rfl)) dX19_assemble_153 ?_
  refine lv_iload_n hx hb dX19_assemble_155 rfl (lv_at hl 1 rfl) ?_
  refine lv_imul hx hb dX19_assemble_156 ?_
  have hPc := dp_X19L_15 hP
  have hDc := dd_X19L_15 hD
  have hzA : ∀ q : Nat, H.size ≤ q → A q := fun q h => hA q (Nat.le_trans hS.1 h)
  rw [show s2 = s5.1.2.1 by rw [es5]] at hq6
  refine nd_cVNv (As := [.ref (a 26), .int (32768 * x1)]) (rest := []) (w' := dw_X13 (fun k => a (k + 15)) (fun k => ac (k + 15)) s6) ⟨hx, hb, hml, hown, hts⟩ (fun sz => dm_X13_put_ l hlt dC dI (fun k => a (k + 15)) (fun k => ac (k + 15)) n (32768 * x1) s5.1.2.1 hq6 sz) (cwV 2 hts gi_dm_X19_assemble_10 rfl rfl rfl (by decide +kernel) ⟨Nat.le_of_ble_eq_true rfl, Nat.le_of_ble_eq_true rfl⟩) hPc hDc hKc hS hA hN (va_recv hKc hPc (ci := 14) (q0 := 0) rfl rfl) rfl hl.1 rfl (Nat.le_of_ble_eq_true rfl) dX19_assemble_157 ⟨Nat.le_of_ble_eq_true rfl, (by show 0 + q1.1 + 0 ≤ oxN r.2.2; rw [eN, Nat.zero_add]; exact Nat.le_refl _)⟩ (fun H locs hP1 hD1 hk1 hS => ?_)
  obtain ⟨hP, hD⟩ := dn_X19L_15 hP hD hzA hk1 hP1 hD1
  refine lv_iconst (v := 0) hx hb dX19_assemble_160 (by decide) ?_
  exact K _ _ na 161 0 ((s0.1.1, (s6, s0.1.2.2)), s0.2) (some (Int32.toNatClampNeg x1, q1)) _ _ _ (Nat.le_refl _) (by rw [eN, Nat.zero_add]; exact Nat.le_refl _) dX19_assemble_161 rfl er.symm (by rw [es5] at hP; exact hP) (by rw [es5] at hD; exact hD) hS
set_option maxHeartbeats 40000000 in
set_option maxRecDepth 100000 in
theorem db_X19_assemble_61 {p : Program} {l : Launch} {e : Env} {s : State} {m : MethodId} {args : Array Value} {below : List Frame} {meth : Method} {c : Code} {Q : State → Prop} {A : Nat → Prop} {dC : Nat → ClassId} {dI : Nat → Nat → Nat} {a : Nat → Nat} {ac : Nat → ClassId} {n : Nat} {r : Int32 × (((St × (St) × (St × (St × (St))) × (St) × (St)) × Lb) × Ox)} (C : nd_C p l s m args c A (dC, dI) cX19_assemble 3 RX19 ow_dm_X19_assemble (dk_X19L ac)) (K : nd_Ko p l e (headSpec ow_dm_X19_assemble ({ frames := 15, cells := 1, slots := oxN r.2.2, locals := 354 })).room s m args below meth c Q A (dC, dI) cX19_assemble .int ((St × (St) × (St × (St × (St))) × (St) × (St)) × Lb) (dw_X19L a ac) r) : dj_X19_assemble_61 p l e s m args below meth c Q A dC dI a ac (df_X19_assemble_61 n) r := by
  obtain ⟨hlt, hx, hb, hml, hown, hts, hN, hA, hK⟩ := id C
  intro x1 y0 s0 H locs ls h hP hD hS hl
  unfold df_X19_assemble_61 at h
  refine lv_istore_n (lv' := [(2, .int y0), (0, .ref (a 0)), (1, .int x1)]) hx hb dX19_assemble_61 rfl hl (by decide) rfl (fun ls hl => ?_)
  refine lv_aload_n hx hb dX19_assemble_62 rfl (lv_at hl 1 rfl) ?_
  obtain ⟨s20, hq, h⟩ := nd_b1_e h
  have hPc := dp_X19L_0 hP
  have hDc := dd_X19L_0 hD
  have hKc := dy_X19L_0 hK
  have hFc := nd_rs hDc hS hA
  have hzA : ∀ q : Nat, H.size ≤ q → A q := fun q h => hA q (Nat.le_trans hS.1 h)
  refine nd_cVv (As := []) (rest := []) (w' := dw_X19 (fun k => a (k + 0)) (fun k => ac (k + 0)) s20) ⟨hx, hb, hml, hown, hts⟩ (fun sz => dm_X19_use l hlt dC dI (fun k => a (k + 0)) (fun k => ac (k + 0)) n  s0.1 hq sz) (cwV 0 hts gi_dm_X19_assemble_4 rfl rfl rfl (by decide +kernel) ⟨Nat.le_of_ble_eq_true rfl, Nat.le_of_ble_eq_true rfl⟩) hPc hDc hKc hS hA hN (va_recv hKc hPc (ci := 20) (q0 := 0) rfl rfl) rfl hl.1 rfl (Nat.le_of_ble_eq_true rfl) dX19_assemble_63 (fun H locs hP1 hD1 hk1 hS => ?_)
  obtain ⟨hP, hD⟩ := dn_X19L_0 hP hD hzA hk1 hP1 hD1
  obtain ⟨s22, es22, h⟩ := nd_let_e h
  have hP : va_P (dC, dI) vwCl (dw_X19L a ac s22) H := by rw [es22]; exact hP
  have hD : va_D A (dw_X19L a ac s22) := by rw [es22]; exact hD
  refine lv_iload_n hx hb dX19_assemble_66 rfl (lv_at hl 0 rfl) ?_
  refine lv_if_le (tgt := 72) hx hb dX19_assemble_67 (by decide) (fun c23 => ?_) (fun c23 => ?_)
  · have h := nd_pos h c23
    refine lv_aload_n hx hb dX19_assemble_72 rfl (lv_at hl 1 rfl) ?_
    refine va_get (D := (dC, dI)) (ci := 20) (v := .ref (a 1)) (C := RX19) (T := TX19) (N := 36) hx hb hts hi_dm_X19_assemble_X19 hown hK hP 0 rfl rfl 4 (by decide) (hts (.fieldLink RX19 14 "TimeMachineModel" "isProgram" "[Z") (List.mem_of_getElem? (i := 21) rfl)) (fun _ h9 => h9) rfl dX19_assemble_73 ?_
    refine lv_iload_n hx hb dX19_assemble_76 rfl (lv_at hl 2 rfl) ?_
    refine lv_iconst (v := 1) hx hb dX19_assemble_77 (by decide) ?_
    obtain ⟨i24, h⟩ := nd_ck_e h
    refine va_zast (i := x1) (x := 1) hx hb hK hP hD hS 1 0 rfl rfl i24 dX19_assemble_78 (fun H locs hP hD hS => ?_)
    obtain ⟨s25, es25, h⟩ := nd_let_e h
    have hP : va_P (dC, dI) vwCl (dw_X19L a ac s25) H := by rw [es25]; exact hP
    have hD : va_D A (dw_X19L a ac s25) := by rw [es25]; exact hD
    refine lv_aload_n hx hb dX19_assemble_79 rfl (lv_at hl 1 rfl) ?_
    refine va_get (D := (dC, dI)) (ci := 20) (v := .ref (a 2)) (C := RX19) (T := TX19) (N := 36) hx hb hts hi_dm_X19_assemble_X19 hown hK hP 0 rfl rfl 5 (by decide) (hts (.fieldLink RX19 18 "TimeMachineModel" "text" "[I") (List.mem_of_getElem? (i := 22) rfl)) (fun _ h9 => h9) rfl dX19_assemble_80 ?_
    refine lv_iload_n hx hb dX19_assemble_83 rfl (lv_at hl 2 rfl) ?_
    refine lv_aload_n hx hb dX19_assemble_84 rfl (lv_at hl 1 rfl) ?_
    refine va_get (D := (dC, dI)) (ci := 20) (v := .ref (a 15)) (C := RX19) (T := TX19) (N := 36) hx hb hts hi_dm_X19_assemble_X19 hown hK hP 0 rfl rfl 12 (by decide) (hts (.fieldLink RX19 49 "TimeMachineModel" "assembler" "LTimeMachineModel$Assembler;") (List.mem_of_getElem? (i := 11) rfl)) (fun _ h9 => h9) rfl dX19_assemble_85 ?_
    obtain ⟨q26, s27, hq, h⟩ := nd_b2_e h
    have hPc := dp_X19L_15 hP
    have hDc := dd_X19L_15 hD
    have hKc := dy_X19L_15 hK
    have hFc := nd_rs hDc hS hA
    have hzA : ∀ q : Nat, H.size ≤ q → A q := fun q h => hA q (Nat.le_trans hS.1 h)
    refine nd_cVi (As := []) (rest := [.int x1, .ref (a 2)]) (q := q26) (w' := dw_X13 (fun k => a (k + 15)) (fun k => ac (k + 15)) s27) ⟨hx, hb, hml, hown, hts⟩ (fun sz => dm_X13_textSize l hlt dC dI (fun k => a (k + 15)) (fun k => ac (k + 15)) n  s25.1.2.1 hq sz) (cwV 0 hts gi_dm_X19_assemble_5 rfl rfl rfl (by decide +kernel) ⟨Nat.le_of_ble_eq_true rfl, Nat.le_of_ble_eq_true rfl⟩) hPc hDc hKc hS hA hN (va_recv hKc hPc (ci := 14) (q0 := 0) rfl rfl) rfl hl.1 rfl (Nat.le_of_ble_eq_true rfl) dX19_assemble_88 (fun H locs hP1 hD1 hk1 hS => ?_)
    obtain ⟨hP, hD⟩ := dn_X19L_15 hP hD hzA hk1 hP1 hD1
    obtain ⟨s29, es29, h⟩ := nd_let_e h
    have hP : va_P (dC, dI) vwCl (dw_X19L a ac s29) H := by rw [es29]; exact hP
    have hD : va_D A (dw_X19L a ac s29) := by rw [es29]; exact hD
    obtain ⟨i30, h⟩ := nd_ck_e h
    refine va_iast (i := x1) (x := q26) hx hb hK hP hD hS 2 1 rfl rfl i30 dX19_assemble_91 (fun H locs hP hD hS => ?_)
    obtain ⟨s31, es31, h⟩ := nd_let_e h
    have hP : va_P (dC, dI) vwCl (dw_X19L a ac s31) H := by rw [es31]; exact hP
    have hD : va_D A (dw_X19L a ac s31) := by rw [es31]; exact hD
    refine lv_aload_n hx hb dX19_assemble_92 rfl (lv_at hl 1 rfl) ?_
    refine va_get (D := (dC, dI)) (ci := 20) (v := .ref (a 3)) (C := RX19) (T := TX19) (N := 36) hx hb hts hi_dm_X19_assemble_X19 hown hK hP 0 rfl rfl 6 (by decide) (hts (.fieldLink RX19 21 "TimeMachineModel" "data" "[I") (List.mem_of_getElem? (i := 26) rfl)) (fun _ h9 => h9) rfl dX19_assemble_93 ?_
    refine lv_iload_n hx hb dX19_assemble_96 rfl (lv_at hl 2 rfl) ?_
    refine lv_aload_n hx hb dX19_assemble_97 rfl (lv_at hl 1 rfl) ?_
    refine va_get (D := (dC, dI)) (ci := 20) (v := .ref (a 15)) (C := RX19) (T := TX19) (N := 36) hx hb hts hi_dm_X19_assemble_X19 hown hK hP 0 rfl rfl 12 (by decide) (hts (.fieldLink RX19 49 "TimeMachineModel" "assembler" "LTimeMachineModel$Assembler;") (List.mem_of_getElem? (i := 11) rfl)) (fun _ h9 => h9) rfl dX19_assemble_98 ?_
    obtain ⟨q32, s33, hq, h⟩ := nd_b2_e h
    have hPc := dp_X19L_15 hP
    have hDc := dd_X19L_15 hD
    have hKc := dy_X19L_15 hK
    have hFc := nd_rs hDc hS hA
    have hzA : ∀ q : Nat, H.size ≤ q → A q := fun q h => hA q (Nat.le_trans hS.1 h)
    refine nd_cVi (As := []) (rest := [.int x1, .ref (a 3)]) (q := q32) (w' := dw_X13 (fun k => a (k + 15)) (fun k => ac (k + 15)) s33) ⟨hx, hb, hml, hown, hts⟩ (fun sz => dm_X13_dataBegin l hlt dC dI (fun k => a (k + 15)) (fun k => ac (k + 15)) n  s31.1.2.1 hq sz) (cwV 0 hts gi_dm_X19_assemble_6 rfl rfl rfl (by decide +kernel) ⟨Nat.le_of_ble_eq_true rfl, Nat.le_of_ble_eq_true rfl⟩) hPc hDc hKc hS hA hN (va_recv hKc hPc (ci := 14) (q0 := 0) rfl rfl) rfl hl.1 rfl (Nat.le_of_ble_eq_true rfl) dX19_assemble_101 (fun H locs hP1 hD1 hk1 hS => ?_)
    obtain ⟨hP, hD⟩ := dn_X19L_15 hP hD hzA hk1 hP1 hD1
    obtain ⟨s35, es35, h⟩ := nd_let_e h
    have hP : va_P (dC, dI) vwCl (dw_X19L a ac s35) H := by rw [es35]; exact hP
    have hD : va_D A (dw_X19L a ac s35) := by rw [es35]; exact hD
    obtain ⟨i36, h⟩ := nd_ck_e h
    refine va_iast (i := x1) (x := q32) hx hb hK hP hD hS 3 2 rfl rfl i36 dX19_assemble_104 (fun H locs hP hD hS => ?_)
    obtain ⟨s37, es37, h⟩ := nd_let_e h
    have hP : va_P (dC, dI) vwCl (dw_X19L a ac s37) H := by rw [es37]; exact hP
    have hD : va_D A (dw_X19L a ac s37) := by rw [es37]; exact hD
    refine lv_aload_n hx hb dX19_assemble_105 rfl (lv_at hl 1 rfl) ?_
    refine va_get (D := (dC, dI)) (ci := 20) (v := .ref (a 4)) (C := RX19) (T := TX19) (N := 36) hx hb hts hi_dm_X19_assemble_X19 hown hK hP 0 rfl rfl 7 (by decide) (hts (.fieldLink RX19 24 "TimeMachineModel" "ends" "[I") (List.mem_of_getElem? (i := 30) rfl)) (fun _ h9 => h9) rfl dX19_assemble_106 ?_
    refine lv_iload_n hx hb dX19_assemble_109 rfl (lv_at hl 2 rfl) ?_
    refine lv_aload_n hx hb dX19_assemble_110 rfl (lv_at hl 1 rfl) ?_
    refine va_get (D := (dC, dI)) (ci := 20) (v := .ref (a 15)) (C := RX19) (T := TX19) (N := 36) hx hb hts hi_dm_X19_assemble_X19 hown hK hP 0 rfl rfl 12 (by decide) (hts (.fieldLink RX19 49 "TimeMachineModel" "assembler" "LTimeMachineModel$Assembler;") (List.mem_of_getElem? (i := 11) rfl)) (fun _ h9 => h9) rfl dX19_assemble_111 ?_
    obtain ⟨q38, s39, hq, h⟩ := nd_b2_e h
    have hPc := dp_X19L_15 hP
    have hDc := dd_X19L_15 hD
    have hKc := dy_X19L_15 hK
    have hFc := nd_rs hDc hS hA
    have hzA : ∀ q : Nat, H.size ≤ q → A q := fun q h => hA q (Nat.le_trans hS.1 h)
    refine nd_cVi (As := []) (rest := [.int x1, .ref (a 4)]) (q := q38) (w' := dw_X13 (fun k => a (k + 15)) (fun k => ac (k + 15)) s39) ⟨hx, hb, hml, hown, hts⟩ (fun sz => dm_X13_end l hlt dC dI (fun k => a (k + 15)) (fun k => ac (k + 15)) n  s37.1.2.1 hq sz) (cwV 0 hts gi_dm_X19_assemble_7 rfl rfl rfl (by decide +kernel) ⟨Nat.le_of_ble_eq_true rfl, Nat.le_of_ble_eq_true rfl⟩) hPc hDc hKc hS hA hN (va_recv hKc hPc (ci := 14) (q0 := 0) rfl rfl) rfl hl.1 rfl (Nat.le_of_ble_eq_true rfl) dX19_assemble_114 (fun H locs hP1 hD1 hk1 hS => ?_)
    obtain ⟨hP, hD⟩ := dn_X19L_15 hP hD hzA hk1 hP1 hD1
    obtain ⟨s41, es41, h⟩ := nd_let_e h
    have hP : va_P (dC, dI) vwCl (dw_X19L a ac s41) H := by rw [es41]; exact hP
    have hD : va_D A (dw_X19L a ac s41) := by rw [es41]; exact hD
    obtain ⟨i42, h⟩ := nd_ck_e h
    refine va_iast (i := x1) (x := q38) hx hb hK hP hD hS 4 3 rfl rfl i42 dX19_assemble_117 (fun H locs hP hD hS => ?_)
    obtain ⟨s43, es43, h⟩ := nd_let_e h
    have hP : va_P (dC, dI) vwCl (dw_X19L a ac s43) H := by rw [es43]; exact hP
    have hD : va_D A (dw_X19L a ac s43) := by rw [es43]; exact hD
    refine lv_aload_n hx hb dX19_assemble_118 rfl (lv_at hl 1 rfl) ?_
    refine va_get (D := (dC, dI)) (ci := 20) (v := .ref (a 5)) (C := RX19) (T := TX19) (N := 36) hx hb hts hi_dm_X19_assemble_X19 hown hK hP 0 rfl rfl 8 (by decide) (hts (.fieldLink RX19 27 "TimeMachineModel" "constants" "[I") (List.mem_of_getElem? (i := 34) rfl)) (fun _ h9 => h9) rfl dX19_assemble_119 ?_
    refine lv_iload_n hx hb dX19_assemble_122 rfl (lv_at hl 2 rfl) ?_
    refine lv_aload_n hx hb dX19_assemble_123 rfl (lv_at hl 1 rfl) ?_
    refine va_get (D := (dC, dI)) (ci := 20) (v := .ref (a 15)) (C := RX19) (T := TX19) (N := 36) hx hb hts hi_dm_X19_assemble_X19 hown hK hP 0 rfl rfl 12 (by decide) (hts (.fieldLink RX19 49 "TimeMachineModel" "assembler" "LTimeMachineModel$Assembler;") (List.mem_of_getElem? (i := 11) rfl)) (fun _ h9 => h9) rfl dX19_assemble_124 ?_
    refine lv_iconst (v := 1) hx hb dX19_assemble_127 (by decide) ?_
    obtain ⟨q44, s45, hq, h⟩ := nd_b2_e h
    have hPc := dp_X19L_15 hP
    have hDc := dd_X19L_15 hD
    have hKc := dy_X19L_15 hK
    have hFc := nd_rs hDc hS hA
    have hzA : ∀ q : Nat, H.size ≤ q → A q := fun q h => hA q (Nat.le_trans hS.1 h)
    refine nd_cVi (As := [.int 1]) (rest := [.int x1, .ref (a 5)]) (q := q44) (w' := dw_X13 (fun k => a (k + 15)) (fun k => ac (k + 15)) s45) ⟨hx, hb, hml, hown, hts⟩ (fun sz => dm_X13_countOf l hlt dC dI (fun k => a (k + 15)) (fun k => ac (k + 15)) n (1) s43.1.2.1 hq sz) (cwV 1 hts gi_dm_X19_assemble_8 rfl rfl rfl (by decide +kernel) ⟨Nat.le_of_ble_eq_true rfl, Nat.le_of_ble_eq_true rfl⟩) hPc hDc hKc hS hA hN (va_recv hKc hPc (ci := 14) (q0 := 0) rfl rfl) rfl hl.1 rfl (Nat.le_of_ble_eq_true rfl) dX19_assemble_128 (fun H locs hP1 hD1 hk1 hS => ?_)
    obtain ⟨hP, hD⟩ := dn_X19L_15 hP hD hzA hk1 hP1 hD1
    obtain ⟨s47, es47, h⟩ := nd_let_e h
    have hP : va_P (dC, dI) vwCl (dw_X19L a ac s47) H := by rw [es47]; exact hP
    have hD : va_D A (dw_X19L a ac s47) := by rw [es47]; exact hD
    obtain ⟨i48, h⟩ := nd_ck_e h
    refine va_iast (i := x1) (x := q44) hx hb hK hP hD hS 5 4 rfl rfl i48 dX19_assemble_131 (fun H locs hP hD hS => ?_)
    obtain ⟨s49, es49, h⟩ := nd_let_e h
    have hP : va_P (dC, dI) vwCl (dw_X19L a ac s49) H := by rw [es49]; exact hP
    have hD : va_D A (dw_X19L a ac s49) := by rw [es49]; exact hD
    exact (db_X19_assemble_132 C K) (x1) s49 _ _ _ h hP hD hS (lv_sub hl [1, 2] rfl)
  · have h := nd_neg h c23
    refine lv_iload_n hx hb dX19_assemble_70 rfl (lv_at hl 0 rfl) ?_
    exact K 0 0 0 _ _ _ none _ _ _ (Nat.zero_le _) (Nat.zero_le _) dX19_assemble_71 rfl (Option.some.inj h).symm hP hD hS
set_option maxHeartbeats 40000000 in
set_option maxRecDepth 100000 in
theorem db_X19_assemble_18 {p : Program} {l : Launch} {e : Env} {s : State} {m : MethodId} {args : Array Value} {below : List Frame} {meth : Method} {c : Code} {Q : State → Prop} {A : Nat → Prop} {dC : Nat → ClassId} {dI : Nat → Nat → Nat} {a : Nat → Nat} {ac : Nat → ClassId} {n : Nat} {r : Int32 × (((St × (St) × (St × (St × (St))) × (St) × (St)) × Lb) × Ox)} (C : nd_C p l s m args c A (dC, dI) cX19_assemble 3 RX19 ow_dm_X19_assemble (dk_X19L ac)) (K : nd_Ko p l e (headSpec ow_dm_X19_assemble ({ frames := 15, cells := 1, slots := oxN r.2.2, locals := 354 })).room s m args below meth c Q A (dC, dI) cX19_assemble .int ((St × (St) × (St × (St × (St))) × (St) × (St)) × Lb) (dw_X19L a ac) r) : dj_X19_assemble_18 p l e s m args below meth c Q A dC dI a ac (df_X19_assemble_18 n) r := by
  obtain ⟨hlt, hx, hb, hml, hown, hts, hN, hA, hK⟩ := id C
  intro x1 y1 s0 H locs ls h hP hD hS hl
  unfold df_X19_assemble_18 at h
  refine lv_iconst (v := 0) hx hb dX19_assemble_18 (by decide) ?_
  obtain ⟨q5, s6, hq, h⟩ := nd_b2_e h
  have hPc := dp_X19L_0 hP
  have hDc := dd_X19L_0 hD
  have hKc := dy_X19L_0 hK
  have hFc := nd_rs hDc hS hA
  have hzA : ∀ q : Nat, H.size ≤ q → A q := fun q h => hA q (Nat.le_trans hS.1 h)
  refine nd_cVi (As := [.int y1, .int 0]) (rest := []) (q := q5) (w' := dw_X19 (fun k => a (k + 0)) (fun k => ac (k + 0)) s6) ⟨hx, hb, hml, hown, hts⟩ (fun sz => dm_X19_fails l hlt dC dI (fun k => a (k + 0)) (fun k => ac (k + 0)) n (y1) (0) s0.1 hq sz) (cwV 2 hts gi_dm_X19_assemble_1 rfl rfl rfl (by decide +kernel) ⟨Nat.le_of_ble_eq_true rfl, Nat.le_of_ble_eq_true rfl⟩) hPc hDc hKc hS hA hN (va_recv hKc hPc (ci := 20) (q0 := 0) rfl rfl) rfl hl.1 rfl (Nat.le_of_ble_eq_true rfl) dX19_assemble_19 (fun H locs hP1 hD1 hk1 hS => ?_)
  obtain ⟨hP, hD⟩ := dn_X19L_0 hP hD hzA hk1 hP1 hD1
  obtain ⟨s8, es8, h⟩ := nd_let_e h
  have hP : va_P (dC, dI) vwCl (dw_X19L a ac s8) H := by rw [es8]; exact hP
  have hD : va_D A (dw_X19L a ac s8) := by rw [es8]; exact hD
  refine lv_if_eq (tgt := 27) hx hb dX19_assemble_22 (by decide) (fun c9 => ?_) (fun c9 => ?_)
  · have h := nd_pos h c9
    refine lv_aload_n hx hb dX19_assemble_27 rfl (lv_at hl 0 rfl) ?_
    obtain ⟨q10, s11, hq, h⟩ := nd_b2_e h
    have hPc := dp_X19L_0 hP
    have hDc := dd_X19L_0 hD
    have hKc := dy_X19L_0 hK
    have hFc := nd_rs hDc hS hA
    have hzA : ∀ q : Nat, H.size ≤ q → A q := fun q h => hA q (Nat.le_trans hS.1 h)
    refine nd_cVi (As := []) (rest := []) (q := q10) (w' := dw_X19 (fun k => a (k + 0)) (fun k => ac (k + 0)) s11) ⟨hx, hb, hml, hown, hts⟩ (fun sz => dm_X19_strange l hlt dC dI (fun k => a (k + 0)) (fun k => ac (k + 0)) n  s8.1 hq sz) (cwV 0 hts gi_dm_X19_assemble_2 rfl rfl rfl (by decide +kernel) ⟨Nat.le_of_ble_eq_true rfl, Nat.le_of_ble_eq_true rfl⟩) hPc hDc hKc hS hA hN (va_recv hKc hPc (ci := 20) (q0 := 0) rfl rfl) rfl hl.1 rfl (Nat.le_of_ble_eq_true rfl) dX19_assemble_28 (fun H locs hP1 hD1 hk1 hS => ?_)
    obtain ⟨hP, hD⟩ := dn_X19L_0 hP hD hzA hk1 hP1 hD1
    obtain ⟨s13, es13, h⟩ := nd_let_e h
    have hP : va_P (dC, dI) vwCl (dw_X19L a ac s13) H := by rw [es13]; exact hP
    have hD : va_D A (dw_X19L a ac s13) := by rw [es13]; exact hD
    refine lv_if_le (tgt := 46) hx hb dX19_assemble_31 (by decide) (fun c14 => ?_) (fun c14 => ?_)
    · have h := nd_pos h c14
      refine lv_aload_n hx hb dX19_assemble_46 rfl (lv_at hl 0 rfl) ?_
      refine va_get (D := (dC, dI)) (ci := 20) (v := .ref (a 15)) (C := RX19) (T := TX19) (N := 36) hx hb hts hi_dm_X19_assemble_X19 hown hK hP 0 rfl rfl 12 (by decide) (hts (.fieldLink RX19 49 "TimeMachineModel" "assembler" "LTimeMachineModel$Assembler;") (List.mem_of_getElem? (i := 11) rfl)) (fun _ h9 => h9) rfl dX19_assemble_47 ?_
      refine lv_aload_n hx hb dX19_assemble_50 rfl (lv_at hl 0 rfl) ?_
      refine va_get (D := (dC, dI)) (ci := 20) (v := .ref (a 92)) (C := RX19) (T := TX19) (N := 36) hx hb hts hi_dm_X19_assemble_X19 hown hK hP 0 rfl rfl 1 (by decide) (hts (.fieldLink RX19 10 "TimeMachineModel" "tape" "[I") (List.mem_of_getElem? (i := 12) rfl)) (fun _ h9 => h9) rfl dX19_assemble_51 ?_
      refine lv_aload_n hx hb dX19_assemble_54 rfl (lv_at hl 0 rfl) ?_
      refine va_get (D := (dC, dI)) (ci := 20) (v := .int (sI s13.1.1 1)) (C := RX19) (T := TX19) (N := 36) hx hb hts hi_dm_X19_assemble_X19 hown hK hP 0 rfl rfl 2 (by decide) (hts (.fieldLink RX19 117 "TimeMachineModel" "taped" "I") (List.mem_of_getElem? (i := 13) rfl)) (fun _ h9 => h9) rfl dX19_assemble_55 ?_
      obtain ⟨q15, s16, hq, h⟩ := nd_b2_e h
      have hPc := dp_vX19L_X13t_0 hP
      have hDc := dd_vX19L_X13t_0 hD
      have hKc := dy_vX19L_X13t_0 hK
      have hFc := nd_rs hDc hS hA
      have hzA : ∀ q : Nat, H.size ≤ q → A q := fun q h => hA q (Nat.le_trans hS.1 h)
      refine nd_cVi (As := [.ref (a 92), .int (sI s13.1.1 1)]) (rest := []) (q := q15) (w' := dw_X13t (nd_cn (a 92) (fun k => a (k + 15))) (nd_cn (ac 92) (fun k => ac (k + 15))) s16) ⟨hx, hb, hml, hown, hts⟩ (fun sz => dm_X13_assemble l hlt dC dI (nd_cn (a 92) (fun k => a (k + 15))) (nd_cn (ac 92) (fun k => ac (k + 15))) n ((sI s13.1.1 1)) ((pR nd_st0 0 (sR s13.1.2.2.2.1 3)), s13.1.2.1) hq sz) (cwV 2 hts gi_dm_X19_assemble_3 rfl rfl rfl (by decide +kernel) ⟨Nat.le_of_ble_eq_true rfl, Nat.le_of_ble_eq_true rfl⟩) hPc hDc hKc hS hA hN (va_recv hKc hPc (ci := 14) (q0 := 1) rfl rfl) rfl hl.1 rfl (Nat.le_of_ble_eq_true rfl) dX19_assemble_58 (fun H locs hP1 hD1 hk1 hS => ?_)
      obtain ⟨hP, hD⟩ := dn_vX19L_X13t_0 hP hD hzA hk1 hP1 hD1
      obtain ⟨s18, es18, h⟩ := nd_let_e h
      have hP : va_P (dC, dI) vwCl (dw_X19L a ac s18) H := by rw [es18]; exact hP
      have hD : va_D A (dw_X19L a ac s18) := by rw [es18]; exact hD
      exact (db_X19_assemble_61 C K) (x1) (q15) s18 _ _ _ h hP hD hS (lv_sub hl [0, 1] rfl)
    · have h := nd_neg h c14
      refine lv_iconst (v := 1) hx hb dX19_assemble_34 (by decide) ?_
      refine lv_bipush (v := 16) hx hb dX19_assemble_35 (by decide) ?_
      refine lv_aload_n hx hb dX19_assemble_37 rfl (lv_at hl 0 rfl) ?_
      obtain ⟨q50, s51, hq, h⟩ := nd_b2_e h
      have hPc := dp_X19L_0 hP
      have hDc := dd_X19L_0 hD
      have hKc := dy_X19L_0 hK
      have hFc := nd_rs hDc hS hA
      have hzA : ∀ q : Nat, H.size ≤ q → A q := fun q h => hA q (Nat.le_trans hS.1 h)
      refine nd_cVi (As := []) (rest := [.int 16, .int 1]) (q := q50) (w' := dw_X19 (fun k => a (k + 0)) (fun k => ac (k + 0)) s51) ⟨hx, hb, hml, hown, hts⟩ (fun sz => dm_X19_strange l hlt dC dI (fun k => a (k + 0)) (fun k => ac (k + 0)) n  s13.1 hq sz) (cwV 0 hts gi_dm_X19_assemble_2 rfl rfl rfl (by decide +kernel) ⟨Nat.le_of_ble_eq_true rfl, Nat.le_of_ble_eq_true rfl⟩) hPc hDc hKc hS hA hN (va_recv hKc hPc (ci := 20) (q0 := 0) rfl rfl) rfl hl.1 rfl (Nat.le_of_ble_eq_true rfl) dX19_assemble_38 (fun H locs hP1 hD1 hk1 hS => ?_)
      obtain ⟨hP, hD⟩ := dn_X19L_0 hP hD hzA hk1 hP1 hD1
      obtain ⟨s53, es53, h⟩ := nd_let_e h
      have hP : va_P (dC, dI) vwCl (dw_X19L a ac s53) H := by rw [es53]; exact hP
      have hD : va_D A (dw_X19L a ac s53) := by rw [es53]; exact hD
      refine lv_imul hx hb dX19_assemble_41 ?_
      refine lv_iadd hx hb dX19_assemble_42 ?_
      refine lv_goto (tgt := 61) hx hb dX19_assemble_43 (by decide) ?_
      exact (db_X19_assemble_61 C K) (x1) ((1 + (16 * q50))) s53 _ _ _ h hP hD hS (lv_sub hl [0, 1] rfl)
  · have h := nd_neg h c9
    refine lv_iconst (v := 0) hx hb dX19_assemble_25 (by decide) ?_
    exact K 0 0 0 _ _ _ none _ _ _ (Nat.zero_le _) (Nat.zero_le _) dX19_assemble_26 rfl (Option.some.inj h).symm hP hD hS
set_option maxHeartbeats 40000000 in
set_option maxRecDepth 100000 in
theorem db_X19_assemble_0 {p : Program} {l : Launch} {e : Env} {s : State} {m : MethodId} {args : Array Value} {below : List Frame} {meth : Method} {c : Code} {Q : State → Prop} {A : Nat → Prop} {dC : Nat → ClassId} {dI : Nat → Nat → Nat} {a : Nat → Nat} {ac : Nat → ClassId} {n : Nat} {r : Int32 × (((St × (St) × (St × (St × (St))) × (St) × (St)) × Lb) × Ox)} (C : nd_C p l s m args c A (dC, dI) cX19_assemble 3 RX19 ow_dm_X19_assemble (dk_X19L ac)) (K : nd_Ko p l e (headSpec ow_dm_X19_assemble ({ frames := 15, cells := 1, slots := oxN r.2.2, locals := 354 })).room s m args below meth c Q A (dC, dI) cX19_assemble .int ((St × (St) × (St × (St × (St))) × (St) × (St)) × Lb) (dw_X19L a ac) r) : dj_X19_assemble_0 p l e s m args below meth c Q A dC dI a ac (df_X19_assemble_0 n) r := by
  obtain ⟨hlt, hx, hb, hml, hown, hts, hN, hA, hK⟩ := id C
  intro v0 s0 H locs ls h hP hD hS hl
  unfold df_X19_assemble_0 at h
  refine lv_aload_n hx hb dX19_assemble_0 rfl (lv_at hl 0 rfl) ?_
  refine lv_iload_n hx hb dX19_assemble_1 rfl (lv_at hl 1 rfl) ?_
  refine lv_i2l hx hb dX19_assemble_2 rfl ?_
  refine lv_lconst (v := 0) hx hb dX19_assemble_3 (by decide) ?_
  refine lv_ldc2 hx hb hown (hts (.constantLong RX19 134 (3)) (List.mem_of_getElem? (i := 1) rfl)) dX19_assemble_4 ?_
  obtain ⟨q1, s2, hq, h⟩ := nd_b2_e h
  have hPc : va_P (dC, dI) vwCl (dw_P a ac ()) H := nd_p0
  have hDc : va_D A (dw_P a ac ()) := nd_d0
  have hKc : va_K (dC, dI) vwCl (dk_P ac) s := nd_y0 hK
  have hFc : ∀ q, va_A (dw_P a ac ()) H.size q → A q := nd_r0 hS hA
  refine nd_cSi (As := [.long (v0.toInt64), .long 0, .long 3]) (rest := [.ref (a 0)]) (q := q1) (w' := dw_P a ac s2) ⟨hx, hb, hml, hown, hts⟩ (fun sz => dm_X19_in l hlt dC dI a ac n ((v0.toInt64)) (0) (3) () hq sz) (cwS 3 hts gi_dm_X19_assemble_0 rfl rfl rfl (by decide +kernel) ⟨Nat.le_of_ble_eq_true rfl, Nat.le_of_ble_eq_true rfl⟩) hPc hDc hKc hS hA hN rfl hl.1 rfl (Nat.le_of_ble_eq_true rfl) dX19_assemble_7 (fun H locs hP1 hD1 hk1 hS => ?_)
  have hP := nd_n0 hP hk1
  refine lv_if_ne (tgt := 17) hx hb dX19_assemble_10 (by decide) (fun c4 => ?_) (fun c4 => ?_)
  · have h := nd_neg h c4
    refine lv_iconst (v := 0) hx hb dX19_assemble_17 (by decide) ?_
    exact (db_X19_assemble_18 C K) (v0) (0) s0 _ _ _ h hP hD hS (lv_sub hl [0, 1] rfl)
  · have h := nd_pos h c4
    refine lv_iconst (v := 1) hx hb dX19_assemble_13 (by decide) ?_
    refine lv_goto (tgt := 18) hx hb dX19_assemble_14 (by decide) ?_
    exact (db_X19_assemble_18 C K) (v0) (1) s0 _ _ _ h hP hD hS (lv_sub hl [0, 1] rfl)
set_option maxHeartbeats 40000000 in
set_option maxRecDepth 100000 in
theorem dm_X19_assemble (l : Launch) (hlt : l.stackTraces = false) (dC : Nat → ClassId) (dI : Nat → Nat → Nat) (a : Nat → Nat) (ac : Nat → ClassId) (n : Nat) (v0 : Int32) (s0 : (St × (St) × (St × (St × (St))) × (St) × (St)) × Lb) {r : Int32 × (((St × (St) × (St × (St × (St))) × (St) × (St)) × Lb) × Ox)} (h : df_X19_assemble n v0 s0 = some r) (sz : Nat) : Met l yX19_assemble ow_dm_X19_assemble ({ frames := 15, cells := 1, slots := oxN r.2.2, locals := 354 }) (va_Pc [.ref (a 0), .int v0] (fun U => U.heap.size = sz ∧ va_P (dC, dI) vwCl (dw_X19L a ac s0) U.heap ∧ va_K (dC, dI) vwCl (dk_X19L ac) U ∧ va_D (fun _ => True) (dw_X19L a ac s0) ∧ nv_E dI (va_A (dw_X19L a ac s0) sz) U)) (va_Qi (fun x _ => x = r.1) (fun (u : Nat) t => va_P (dC, dI) vwCl (dw_X19L a ac (asL u r.2)) t.heap ∧ va_K (dC, dI) vwCl (dk_X19L ac) t ∧ va_D (va_A (dw_X19L a ac s0) sz) (dw_X19L a ac (asL u r.2))) (va_A (dw_X19L a ac s0) sz)) 1 (oxN r.2.2) (va_A (dw_X19L a ac s0) sz) := by
  refine Met.ofW (cc := cX19_assemble) (maxL := 3) (ret := (some .int)) (by decide) rfl ?_
  intro p e s m args below meth c s₁ B hml hv
  obtain ⟨rfl, hsz, hP, hK, hD0, hN⟩ := hv
  have hx := B.exec
  have hb := B.bytes
  have hr := B.returns
  have hts := atoms_spec (ws := ow_dm_X19_assemble) B.pre
  have hown : s.vm.findClass RX19 = some m.cls := findClass_of_methodNamed B.named
  have hlocks := B.notSynchronized
  subst hsz
  have hD := hD0.self (sz := s.heap.size)
  generalize hAe : va_A (dw_X19L a ac s0) s.heap.size = A at hD hN ⊢
  have hA : ∀ q : Nat, s.heap.size ≤ q → A q := fun q h => by rw [← hAe]; exact Or.inr h
  have hl := lv_entry ([.ref (a 0), .int v0]) (n := 3) (Nat.le_of_ble_eq_true rfl)
  rw [lg_entry_eq]
  generalize (lg_sl ([.ref (a 0), .int v0]) ++ List.replicate (3 - (lg_sl ([.ref (a 0), .int v0])).length) Slot.unset).toArray = ls at hl ⊢
  have hl : lv_has ls 3 [(0, .ref (a 0)), (1, .int v0)] := hl
  exact db_X19_assemble_0 (dC := dC) (dI := dI) (a := a) (ac := ac) (n := n) (r := r) ⟨hlt, hx, hb, hml, hown, hts, hN, hA, hK⟩ (fun k1 k2 na pc v τ o H locs ls h1 h2 d z er hP hD hS => by subst er; refine W.widen h1 h2 ?_; exact W.zret (v := v) hx hb hr z (fun t ht hW => ⟨⟨v, na, rfl, rfl, by rw [ht]; exact hP, va_K.moved hW.alike hK, hD⟩, hS.F ht⟩) hS.2.2 d) v0 s0 _ _ _ h hP hD va_S.rf (lv_sub hl [0, 1] rfl)

