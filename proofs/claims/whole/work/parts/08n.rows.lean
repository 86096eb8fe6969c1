theorem nd_mm {w1 w2 : va_W} {D : va_G} {cl : List vw_C} {H : Heap} (h : va_P D cl w1 H) (hs : ∀ x ∈ w2, x ∈ w1) : va_P D cl w2 H := fun k q hk => by
  obtain ⟨i, hi⟩ := List.mem_iff_getElem?.mp (hs q (List.mem_of_getElem? hk))
  exact h i q hi
theorem nd_nn {A : Nat → Prop} {w : va_W} (h1 : (w.map (fun x => x.1)).Nodup) (h2 : ∀ x ∈ w, A x.1) : va_D A w := by
  refine ⟨fun i j p q hi hj e => ?_, fun k q hk => h2 q (List.mem_of_getElem? hk)⟩
  have a1 : (w.map (fun x => x.1))[i]? = some p.1 := by rw [List.getElem?_map, hi]; rfl
  have a2 : (w.map (fun x => x.1))[j]? = some q.1 := by rw [List.getElem?_map, hj]; rfl
  rw [e] at a1
  exact (List.getElem?_inj (List.getElem?_eq_some_iff.mp a1).1 h1).mp (a1.trans a2.symm)
theorem nd_nb {A : Nat → Prop} {w : va_W} (h : va_D A w) : (w.map (fun x => x.1)).Nodup ∧ ∀ x ∈ w, A x.1 := by
  refine ⟨?_, fun x hx => ?_⟩
  · refine List.pairwise_iff_getElem.mpr (fun i j hi hj hij e => ?_)
    have hi' : i < w.length := by rw [List.length_map] at hi; exact hi
    have hj' : j < w.length := by rw [List.length_map] at hj; exact hj
    rw [List.getElem_map, List.getElem_map] at e
    have := h.1 i j _ _ (List.getElem?_eq_getElem hi') (List.getElem?_eq_getElem hj') e
    omega
  · obtain ⟨i, hi⟩ := List.mem_iff_getElem?.mp hx
    exact h.2 i x hi

