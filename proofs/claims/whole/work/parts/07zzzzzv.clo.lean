/-- a bracket is shut, in both -/
theorem cl_22 {r : List Nat} {cc cs t ts j jl σ s oc ro : Nat} {d : Dn} {C : Nat → Int32} {A : Nat → Int64} {F T K P : Nat → Int32} {N : Nat → Int64} {pos : Nat → Nat} {S SA OA : Nat → Int32} (tv : Int64) (hf : frs C A F T K P N pos S SA OA (22 :: r) cc t j σ) (hJ : gJ d s oc ro cc cs t ts j jl C A F T K P N pos) (hj : hOb (22 :: r) = true → jl = j) (ht : ts < 120) : ∃ y c' t' j' σ' : Nat, OA (nOp r) = nI y ∧ y < ts ∧ frs C A F T (upd K ts (nI 31)) (upd (upd P y (nI ts)) ts (nI y)) (vp_updL N ts tv) pos S SA OA r c' t' j' σ' ∧ gJ d s 20 0 c' cs t' (ts + 1) j' jl C A F T (upd K ts (nI 31)) (upd (upd P y (nI ts)) ts (nI y)) (vp_updL N ts tv) pos ∧ σ' = σ ∧ (hOb r = true → jl = j') := by
  obtain ⟨c', t', j', σ', h1, _, _, l1, l2, l3, l4, h2, h3⟩ := frs_le _ cc t j σ hf 22 r rfl
  have k1 := hJ.1.1
  have k2 := hJ.2.1.1
  rcases h3 with ⟨_, a2, _⟩ | ⟨_, a2, _⟩ | ⟨a1, a2, a3, a4⟩
  · omega
  · omega
  rcases a4 with ⟨b1, b2, b3, b4, b5, b6⟩ | ⟨b1, _⟩ | ⟨b1, _⟩
  · subst b2
    subst b3
    subst b4
    obtain ⟨y, hy⟩ : ∃ y : Nat, y = t' := ⟨t', rfl⟩
    have Kl : ∀ i : Nat, i < ts → i ≠ y → upd K ts (nI 31) i = K i ∧ upd (upd P y (nI ts)) ts (nI y) i = P i ∧ vp_updL N ts tv i = N i := fun i x z => ⟨nm_un (by omega), (nm_un (by omega)).trans (nm_un z), updL_n (by omega)⟩
    have Kt : upd K ts (nI 31) ts = nI 31 := nm_us
    have Py : upd (upd P y (nI ts)) ts (nI y) y = nI ts := (nm_un (by omega)).trans nm_us
    have F1 := frs_st (C' := C) (A' := A) (F' := F) (T' := T) (K' := upd K ts (nI 31)) (P' := upd (upd P y (nI ts)) ts (nI y)) (N' := vp_updL N ts tv) (pos' := pos) (S' := S) (SA' := SA) (OA' := OA) r cc t' j σ' h2 (fun i x => ⟨rfl, rfl⟩) (fun i x => ⟨rfl, rfl, rfl⟩) (fun i x => Kl i (by omega) (by omega)) (fun i x => ⟨rfl, rfl⟩) (fun i x => rfl)
    have J1 := gJ_st (C' := C) (A' := A) (F' := F) (T' := T) (K' := upd K ts (nI 31)) (P' := upd (upd P y (nI ts)) ts (nI y)) (N' := vp_updL N ts tv) (pos' := pos) hJ (fun i x z => ⟨rfl, rfl⟩) (fun i x z => ⟨rfl, rfl, rfl⟩) (fun i x z => Kl i z (by omega))
    have Kb : upd K ts (nI 31) t' = nI 30 := (nm_un (by omega)).trans b5
    have Pb : upd (upd P y (nI ts)) ts (nI y) t' = nI ts := by rw [← hy]; exact Py
    refine ⟨y, cc, t', j, σ', by rw [hy]; exact b6, by omega, F1, ⟨J1.1, gR_par J1.2.1 ht Kb Pb, ?_⟩, a3.symm, fun z => hj (by show (decide _ || hOb r) = true; rw [z, Bool.or_true])⟩
    refine gO_w J1.2.2 (Nat.le_refl _) (Nat.le_refl _) (by omega) (by omega) (fun i x z w => ?_)
    by_cases e : i = ts
    · rw [e]; exact nk89 Kt (by omega) (by omega) (by omega)
    · rw [show i = t' by omega]
      exact nk89 Kb (by omega) (by omega) (by omega)
  · omega
  · omega
theorem cl_25 {r : List Nat} {cc cs t ts j jl σ s oc ro : Nat} {d : Dn} {C : Nat → Int32} {A : Nat → Int64} {F T K P : Nat → Int32} {N : Nat → Int64} {pos : Nat → Nat} {S SA OA : Nat → Int32} (tv : Int64) (a : Int64) (hf : frs C A F T K P N pos S SA OA (25 :: r) cc t j σ) (hJ : gJ d s oc ro cc cs t ts j jl C A F T K P N pos) (hj : hOb (25 :: r) = true → jl = j) (ht : ts < 120) : ∃ y c' t' j' σ' : Nat, OA (nOp r) = nI y ∧ y < ts ∧ frs (upd C cs (nI 25)) (vp_updL A cs a) F T (upd K ts (nI 33)) (upd (upd P y (nI ts)) ts (nI y)) (vp_updL N ts tv) pos S SA OA r c' t' j' σ' ∧ gJ (dnM 25 d) s 20 0 c' (cs + 1) t' (ts + 1) j' jl (upd C cs (nI 25)) (vp_updL A cs a) F T (upd K ts (nI 33)) (upd (upd P y (nI ts)) ts (nI y)) (vp_updL N ts tv) pos ∧ σ' = σ ∧ (hOb r = true → jl = j') := by
  obtain ⟨c', t', j', σ', h1, _, _, l1, l2, l3, l4, h2, h3⟩ := frs_le _ cc t j σ hf 25 r rfl
  have k1 := hJ.1.1
  have k2 := hJ.2.1.1
  rcases h3 with ⟨_, a2, _⟩ | ⟨_, a2, _⟩ | ⟨a1, a2, a3, a4⟩
  · omega
  · omega
  rcases a4 with ⟨b1, b2, b3, b4, b5, b6⟩ | ⟨b1, b2, b3, b4, b5, b6, b7⟩ | ⟨b1, _⟩
  · subst b2
    subst b3
    subst b4
    obtain ⟨y, hy⟩ : ∃ y : Nat, y = t' := ⟨t', rfl⟩
    have Kl : ∀ i : Nat, i < ts → i ≠ y → upd K ts (nI 33) i = K i ∧ upd (upd P y (nI ts)) ts (nI y) i = P i ∧ vp_updL N ts tv i = N i := fun i x z => ⟨nm_un (by omega), (nm_un (by omega)).trans (nm_un z), updL_n (by omega)⟩
    have Kt : upd K ts (nI 33) ts = nI 33 := nm_us
    have Py : upd (upd P y (nI ts)) ts (nI y) y = nI ts := (nm_un (by omega)).trans nm_us
    have F1 := frs_st (C' := (upd C cs (nI 25))) (A' := (vp_updL A cs a)) (F' := F) (T' := T) (K' := upd K ts (nI 33)) (P' := upd (upd P y (nI ts)) ts (nI y)) (N' := vp_updL N ts tv) (pos' := pos) (S' := S) (SA' := SA) (OA' := OA) r cc t' j σ' h2 (fun i x => ⟨nm_un (by omega), updL_n (by omega)⟩) (fun i x => ⟨rfl, rfl, rfl⟩) (fun i x => Kl i (by omega) (by omega)) (fun i x => ⟨rfl, rfl⟩) (fun i x => rfl)
    have J1 := gJ_st (C' := (upd C cs (nI 25))) (A' := (vp_updL A cs a)) (F' := F) (T' := T) (K' := upd K ts (nI 33)) (P' := upd (upd P y (nI ts)) ts (nI y)) (N' := vp_updL N ts tv) (pos' := pos) hJ (fun i x z => ⟨nm_un (by omega), updL_n (by omega)⟩) (fun i x z => ⟨rfl, rfl, rfl⟩) (fun i x z => Kl i z (by omega))
    have Kb : upd K ts (nI 33) t' = nI 32 := (nm_un (by omega)).trans b5
    have Pb : upd (upd P y (nI ts)) ts (nI y) t' = nI ts := by rw [← hy]; exact Py
    refine ⟨y, cc, t', j, σ', by rw [hy]; exact b6, by omega, F1, ⟨gC_mem (by omega) (by omega) J1.1 nm_us, gR_m1 J1.2.1 ht Kb Pb, ?_⟩, a3.symm, fun z => hj (by show (decide _ || hOb r) = true; rw [z, Bool.or_true])⟩
    refine gO_w J1.2.2 (Nat.le_refl _) (by omega) (by omega) (by omega) (fun i x z w => ?_)
    by_cases e : i = ts
    · rw [e]; exact nk89 Kt (by omega) (by omega) (by omega)
    · rw [show i = t' by omega]
      exact nk89 Kb (by omega) (by omega) (by omega)
  · omega
  · omega
theorem cl_26 {r : List Nat} {cc cs t ts j jl σ s oc ro : Nat} {d : Dn} {C : Nat → Int32} {A : Nat → Int64} {F T K P : Nat → Int32} {N : Nat → Int64} {pos : Nat → Nat} {S SA OA : Nat → Int32} (tv : Int64) (a : Int64) (hf : frs C A F T K P N pos S SA OA (26 :: r) cc t j σ) (hJ : gJ d s oc ro cc cs t ts j jl C A F T K P N pos) (hj : hOb (26 :: r) = true → jl = j) (ht : ts < 120) : ∃ y c' t' j' σ' : Nat, OA (nOp r) = nI y ∧ y < ts ∧ frs (upd C cs (nI 26)) (vp_updL A cs a) F T (upd K ts (nI 33)) (upd (upd P y (nI ts)) ts (nI y)) (vp_updL N ts tv) pos S SA OA r c' t' j' σ' ∧ gJ (dnM 26 d) s 20 0 c' (cs + 1) t' (ts + 1) j' jl (upd C cs (nI 26)) (vp_updL A cs a) F T (upd K ts (nI 33)) (upd (upd P y (nI ts)) ts (nI y)) (vp_updL N ts tv) pos ∧ σ' = σ ∧ (hOb r = true → jl = j') := by
  obtain ⟨c', t', j', σ', h1, _, _, l1, l2, l3, l4, h2, h3⟩ := frs_le _ cc t j σ hf 26 r rfl
  have k1 := hJ.1.1
  have k2 := hJ.2.1.1
  rcases h3 with ⟨_, a2, _⟩ | ⟨_, a2, _⟩ | ⟨a1, a2, a3, a4⟩
  · omega
  · omega
  rcases a4 with ⟨b1, b2, b3, b4, b5, b6⟩ | ⟨b1, b2, b3, b4, b5, b6, b7⟩ | ⟨b1, _⟩
  · omega
  · subst b2
    subst b3
    subst b4
    obtain ⟨y, hy⟩ : ∃ y : Nat, y = t' + 1 := ⟨t' + 1, rfl⟩
    have Kl : ∀ i : Nat, i < ts → i ≠ y → upd K ts (nI 33) i = K i ∧ upd (upd P y (nI ts)) ts (nI y) i = P i ∧ vp_updL N ts tv i = N i := fun i x z => ⟨nm_un (by omega), (nm_un (by omega)).trans (nm_un z), updL_n (by omega)⟩
    have Kt : upd K ts (nI 33) ts = nI 33 := nm_us
    have Py : upd (upd P y (nI ts)) ts (nI y) y = nI ts := (nm_un (by omega)).trans nm_us
    have F1 := frs_st (C' := (upd C cs (nI 26))) (A' := (vp_updL A cs a)) (F' := F) (T' := T) (K' := upd K ts (nI 33)) (P' := upd (upd P y (nI ts)) ts (nI y)) (N' := vp_updL N ts tv) (pos' := pos) (S' := S) (SA' := SA) (OA' := OA) r cc t' j σ' h2 (fun i x => ⟨nm_un (by omega), updL_n (by omega)⟩) (fun i x => ⟨rfl, rfl, rfl⟩) (fun i x => Kl i (by omega) (by omega)) (fun i x => ⟨rfl, rfl⟩) (fun i x => rfl)
    have J1 := gJ_st (C' := (upd C cs (nI 26))) (A' := (vp_updL A cs a)) (F' := F) (T' := T) (K' := upd K ts (nI 33)) (P' := upd (upd P y (nI ts)) ts (nI y)) (N' := vp_updL N ts tv) (pos' := pos) hJ (fun i x z => ⟨nm_un (by omega), updL_n (by omega)⟩) (fun i x z => ⟨rfl, rfl, rfl⟩) (fun i x z => Kl i z (by omega))
    have Ka : upd K ts (nI 33) t' = nI 7 := (nm_un (by omega)).trans b5
    have Kb : upd K ts (nI 33) (t' + 1) = nI 32 := (nm_un (by omega)).trans b6
    have Pb : upd (upd P y (nI ts)) ts (nI y) (t' + 1) = nI ts := by rw [← hy]; exact Py
    refine ⟨y, cc, t', j, σ', by rw [hy]; exact b7, by omega, F1, ⟨gC_mem (by omega) (by omega) J1.1 nm_us, gR_m2 (k := 7) (by omega) J1.2.1 ht Ka Kb Pb, ?_⟩, a3.symm, fun z => hj (by show (decide _ || hOb r) = true; rw [z, Bool.or_true])⟩
    refine gO_w J1.2.2 (Nat.le_refl _) (by omega) (by omega) (by omega) (fun i x z w => ?_)
    by_cases e : i = ts
    · rw [e]; exact nk89 Kt (by omega) (by omega) (by omega)
    · by_cases e2 : i = t'
      · rw [e2]; exact nk89 Ka (by omega) (by omega) (by omega)
      · rw [show i = t' + 1 by omega]
        exact nk89 Kb (by omega) (by omega) (by omega)
  · omega
theorem cl_27 {r : List Nat} {cc cs t ts j jl σ s oc ro : Nat} {d : Dn} {C : Nat → Int32} {A : Nat → Int64} {F T K P : Nat → Int32} {N : Nat → Int64} {pos : Nat → Nat} {S SA OA : Nat → Int32} (tv : Int64) (a : Int64) (hf : frs C A F T K P N pos S SA OA (27 :: r) cc t j σ) (hJ : gJ d s oc ro cc cs t ts j jl C A F T K P N pos) (hj : hOb (27 :: r) = true → jl = j) (ht : ts < 120) : ∃ y c' t' j' σ' : Nat, OA (nOp r) = nI y ∧ y < ts ∧ frs (upd C cs (nI 27)) (vp_updL A cs a) F T (upd K ts (nI 33)) (upd (upd P y (nI ts)) ts (nI y)) (vp_updL N ts tv) pos S SA OA r c' t' j' σ' ∧ gJ (dnM 27 d) s 20 0 c' (cs + 1) t' (ts + 1) j' jl (upd C cs (nI 27)) (vp_updL A cs a) F T (upd K ts (nI 33)) (upd (upd P y (nI ts)) ts (nI y)) (vp_updL N ts tv) pos ∧ σ' = σ ∧ (hOb r = true → jl = j') := by
  obtain ⟨c', t', j', σ', h1, _, _, l1, l2, l3, l4, h2, h3⟩ := frs_le _ cc t j σ hf 27 r rfl
  have k1 := hJ.1.1
  have k2 := hJ.2.1.1
  rcases h3 with ⟨_, a2, _⟩ | ⟨_, a2, _⟩ | ⟨a1, a2, a3, a4⟩
  · omega
  · omega
  rcases a4 with ⟨b1, b2, b3, b4, b5, b6⟩ | ⟨b1, b2, b3, b4, b5, b6, b7⟩ | ⟨b1, _⟩
  · omega
  · subst b2
    subst b3
    subst b4
    obtain ⟨y, hy⟩ : ∃ y : Nat, y = t' + 1 := ⟨t' + 1, rfl⟩
    have Kl : ∀ i : Nat, i < ts → i ≠ y → upd K ts (nI 33) i = K i ∧ upd (upd P y (nI ts)) ts (nI y) i = P i ∧ vp_updL N ts tv i = N i := fun i x z => ⟨nm_un (by omega), (nm_un (by omega)).trans (nm_un z), updL_n (by omega)⟩
    have Kt : upd K ts (nI 33) ts = nI 33 := nm_us
    have Py : upd (upd P y (nI ts)) ts (nI y) y = nI ts := (nm_un (by omega)).trans nm_us
    have F1 := frs_st (C' := (upd C cs (nI 27))) (A' := (vp_updL A cs a)) (F' := F) (T' := T) (K' := upd K ts (nI 33)) (P' := upd (upd P y (nI ts)) ts (nI y)) (N' := vp_updL N ts tv) (pos' := pos) (S' := S) (SA' := SA) (OA' := OA) r cc t' j σ' h2 (fun i x => ⟨nm_un (by omega), updL_n (by omega)⟩) (fun i x => ⟨rfl, rfl, rfl⟩) (fun i x => Kl i (by omega) (by omega)) (fun i x => ⟨rfl, rfl⟩) (fun i x => rfl)
    have J1 := gJ_st (C' := (upd C cs (nI 27))) (A' := (vp_updL A cs a)) (F' := F) (T' := T) (K' := upd K ts (nI 33)) (P' := upd (upd P y (nI ts)) ts (nI y)) (N' := vp_updL N ts tv) (pos' := pos) hJ (fun i x z => ⟨nm_un (by omega), updL_n (by omega)⟩) (fun i x z => ⟨rfl, rfl, rfl⟩) (fun i x z => Kl i z (by omega))
    have Ka : upd K ts (nI 33) t' = nI 6 := (nm_un (by omega)).trans b5
    have Kb : upd K ts (nI 33) (t' + 1) = nI 32 := (nm_un (by omega)).trans b6
    have Pb : upd (upd P y (nI ts)) ts (nI y) (t' + 1) = nI ts := by rw [← hy]; exact Py
    refine ⟨y, cc, t', j, σ', by rw [hy]; exact b7, by omega, F1, ⟨gC_mem (by omega) (by omega) J1.1 nm_us, gR_m2 (k := 6) (by omega) J1.2.1 ht Ka Kb Pb, ?_⟩, a3.symm, fun z => hj (by show (decide _ || hOb r) = true; rw [z, Bool.or_true])⟩
    refine gO_w J1.2.2 (Nat.le_refl _) (by omega) (by omega) (by omega) (fun i x z w => ?_)
    by_cases e : i = ts
    · rw [e]; exact nk89 Kt (by omega) (by omega) (by omega)
    · by_cases e2 : i = t'
      · rw [e2]; exact nk89 Ka (by omega) (by omega) (by omega)
      · rw [show i = t' + 1 by omega]
        exact nk89 Kb (by omega) (by omega) (by omega)
  · omega
theorem cl_23 {r : List Nat} {cc cs t ts j jl σ s oc ro : Nat} {d : Dn} {C : Nat → Int32} {A : Nat → Int64} {F T K P : Nat → Int32} {N : Nat → Int64} {pos : Nat → Nat} {S SA OA : Nat → Int32} (tv : Int64) (hs : s ≤ 41) (hf : frs C A F T K P N pos S SA OA (23 :: r) cc t j σ) (hJ : gJ d s oc ro cc cs t ts j jl C A F T K P N pos) (hj : hOb (23 :: r) = true → jl = j) (ht : ts < 120) : ∃ i0 : Nat, i0 < 40 ∧ SA r.length = nI i0 ∧ ∃ y c' t' j' σ' : Nat, OA (nOp r) = nI y ∧ y < ts ∧ frs C A F (upd T i0 (nI cs)) (upd K ts (nI 31)) (upd (upd P y (nI ts)) ts (nI y)) (vp_updL N ts tv) pos S SA OA r c' t' j' σ' ∧ gJ (fun _ w => some (w i0)) s 20 0 c' cs t' (ts + 1) j' jl C A F (upd T i0 (nI cs)) (upd K ts (nI 31)) (upd (upd P y (nI ts)) ts (nI y)) (vp_updL N ts tv) pos ∧ σ' = σ ∧ (hOb r = true → jl = j') := by
  obtain ⟨c', t', j', σ', h1, _, _, l1, l2, l3, l4, h2, h3⟩ := frs_le _ cc t j σ hf 23 r rfl
  have k1 := hJ.1.1
  have k2 := hJ.2.1.1
  have jlj : jl = j := hj rfl
  subst jlj
  rcases h3 with ⟨_, a2, _⟩ | ⟨_, a2, _⟩ | ⟨a1, a2, a3, a4⟩
  · omega
  · omega
  rcases a4 with ⟨b1, _⟩ | ⟨b1, _⟩ | ⟨b1, b2, b3, b4, b5, b6, b7, b8, b9, b10, b11, b12⟩
  · omega
  · omega
  · subst b2
    subst b6
    obtain ⟨y, hy⟩ : ∃ y : Nat, y = t' + 1 := ⟨t' + 1, rfl⟩
    refine ⟨j', b7, b9, ?_⟩
    have b13 : cc = c' + 1 ∧ C c' = nI 23 ∧ A c' = (nI j').toInt64 := by
      rcases b12 with z | z
      · exact z.2
      · omega
    obtain ⟨b14, b15, b16⟩ := b13
    subst b14
    have Kl : ∀ i : Nat, i < ts → i ≠ y → upd K ts (nI 31) i = K i ∧ upd (upd P y (nI ts)) ts (nI y) i = P i ∧ vp_updL N ts tv i = N i := fun i x z => ⟨nm_un (by omega), (nm_un (by omega)).trans (nm_un z), updL_n (by omega)⟩
    have Kt : upd K ts (nI 31) ts = nI 31 := nm_us
    have Py : upd (upd P y (nI ts)) ts (nI y) y = nI ts := (nm_un (by omega)).trans nm_us
    have F1 := frs_st (C' := C) (A' := A) (F' := F) (T' := (upd T j' (nI cs))) (K' := upd K ts (nI 31)) (P' := upd (upd P y (nI ts)) ts (nI y)) (N' := vp_updL N ts tv) (pos' := pos) (S' := S) (SA' := SA) (OA' := OA) r c' t' j' σ' h2 (fun i x => ⟨rfl, rfl⟩) (fun i x => ⟨rfl, nm_un (by omega), rfl⟩) (fun i x => Kl i (by omega) (by omega)) (fun i x => ⟨rfl, rfl⟩) (fun i x => rfl)
    have J1 := gJ_st (C' := C) (A' := A) (F' := F) (T' := (upd T j' (nI cs))) (K' := upd K ts (nI 31)) (P' := upd (upd P y (nI ts)) ts (nI y)) (N' := vp_updL N ts tv) (pos' := pos) hJ (fun i x z => ⟨rfl, rfl⟩) (fun i x z => ⟨rfl, nm_un (by omega), rfl⟩) (fun i x z => Kl i z (by omega))
    have Ka : upd K ts (nI 31) t' = nI 8 := (nm_un (by omega)).trans b3
    have Kb : upd K ts (nI 31) (t' + 1) = nI 30 := (nm_un (by omega)).trans b4
    have Pb : upd (upd P y (nI ts)) ts (nI y) (t' + 1) = nI ts := by rw [← hy]; exact Py
    refine ⟨y, c', t', j', σ', by rw [hy]; exact b5, by omega, F1, ⟨gC_old J1.1.2.1 (by omega) b15 b16 b7 nm_us, gR_old J1.2.1 ht Ka Kb Pb b8, ?_⟩, a3.symm, fun z => by rw [b11] at z; exact absurd z (by decide)⟩
    refine ⟨fun i x z => ?_, fun i x z w => ?_⟩
    · have e : i = j' := by omega
      subst e
      refine ⟨d, s, oc, ro, ts, (c' + 1), cs, by omega, by omega, hs, b10, nm_us, J1.1, by omega, by omega, ?_⟩
      rw [b8]
      exact ⟨Pb, J1.2.1, Or.inl Ka⟩
    · by_cases e : i = ts
      · rw [e] at w
        exact absurd w (nk89 Kt (by omega) (by omega) (by omega))
      · by_cases e1 : i = t'
        · exact ⟨j', Nat.le_refl _, by omega, by rw [b8, e1]⟩
        · by_cases e2 : i = t' + 1
          · rw [e2] at w
            exact absurd w (nk89 Kb (by omega) (by omega) (by omega))
          · obtain ⟨q, q1, q2, _⟩ := J1.2.2.2 i (by omega) (by omega) w
            omega
theorem cl_24 {r : List Nat} {cc cs t ts j jl σ s oc ro : Nat} {d : Dn} {C : Nat → Int32} {A : Nat → Int64} {F T K P : Nat → Int32} {N : Nat → Int64} {pos : Nat → Nat} {S SA OA : Nat → Int32} (tv : Int64) (hs : s ≤ 41) (hf : frs C A F T K P N pos S SA OA (24 :: r) cc t j σ) (hJ : gJ d s oc ro cc cs t ts j jl C A F T K P N pos) (hj : hOb (24 :: r) = true → jl = j) (ht : ts < 120) : ∃ i0 : Nat, i0 < 40 ∧ SA r.length = nI i0 ∧ ∃ y c' t' j' σ' : Nat, OA (nOp r) = nI y ∧ y < ts ∧ frs (upd C cs (nI 24)) (vp_updL A cs (nI i0).toInt64) F (upd T i0 (nI cs)) (upd K ts (nI 31)) (upd (upd P y (nI ts)) ts (nI y)) (vp_updL N ts tv) pos S SA OA r c' t' j' σ' ∧ gJ (dnC i0 d) s 20 0 c' (cs + 1) t' (ts + 1) j' jl (upd C cs (nI 24)) (vp_updL A cs (nI i0).toInt64) F (upd T i0 (nI cs)) (upd K ts (nI 31)) (upd (upd P y (nI ts)) ts (nI y)) (vp_updL N ts tv) pos ∧ σ' = σ ∧ (hOb r = true → jl = j') := by
  obtain ⟨c', t', j', σ', h1, _, _, l1, l2, l3, l4, h2, h3⟩ := frs_le _ cc t j σ hf 24 r rfl
  have k1 := hJ.1.1
  have k2 := hJ.2.1.1
  have jlj : jl = j := hj rfl
  subst jlj
  rcases h3 with ⟨_, a2, _⟩ | ⟨_, a2, _⟩ | ⟨a1, a2, a3, a4⟩
  · omega
  · omega
  rcases a4 with ⟨b1, _⟩ | ⟨b1, _⟩ | ⟨b1, b2, b3, b4, b5, b6, b7, b8, b9, b10, b11, b12⟩
  · omega
  · omega
  · subst b2
    subst b6
    obtain ⟨y, hy⟩ : ∃ y : Nat, y = t' + 1 := ⟨t' + 1, rfl⟩
    refine ⟨j', b7, b9, ?_⟩
    have b14 : cc = c' := by
      rcases b12 with z | z
      · omega
      · exact z.2
    subst b14
    have Kl : ∀ i : Nat, i < ts → i ≠ y → upd K ts (nI 31) i = K i ∧ upd (upd P y (nI ts)) ts (nI y) i = P i ∧ vp_updL N ts tv i = N i := fun i x z => ⟨nm_un (by omega), (nm_un (by omega)).trans (nm_un z), updL_n (by omega)⟩
    have Kt : upd K ts (nI 31) ts = nI 31 := nm_us
    have Py : upd (upd P y (nI ts)) ts (nI y) y = nI ts := (nm_un (by omega)).trans nm_us
    have F1 := frs_st (C' := (upd C cs (nI 24))) (A' := (vp_updL A cs (nI j').toInt64)) (F' := F) (T' := (upd T j' (nI cs))) (K' := upd K ts (nI 31)) (P' := upd (upd P y (nI ts)) ts (nI y)) (N' := vp_updL N ts tv) (pos' := pos) (S' := S) (SA' := SA) (OA' := OA) r cc t' j' σ' h2 (fun i x => ⟨nm_un (by omega), updL_n (by omega)⟩) (fun i x => ⟨rfl, nm_un (by omega), rfl⟩) (fun i x => Kl i (by omega) (by omega)) (fun i x => ⟨rfl, rfl⟩) (fun i x => rfl)
    have J1 := gJ_st (C' := (upd C cs (nI 24))) (A' := (vp_updL A cs (nI j').toInt64)) (F' := F) (T' := (upd T j' (nI cs))) (K' := upd K ts (nI 31)) (P' := upd (upd P y (nI ts)) ts (nI y)) (N' := vp_updL N ts tv) (pos' := pos) hJ (fun i x z => ⟨nm_un (by omega), updL_n (by omega)⟩) (fun i x z => ⟨rfl, nm_un (by omega), rfl⟩) (fun i x z => Kl i z (by omega))
    have Ka : upd K ts (nI 31) t' = nI 9 := (nm_un (by omega)).trans b3
    have Kb : upd K ts (nI 31) (t' + 1) = nI 30 := (nm_un (by omega)).trans b4
    have Pb : upd (upd P y (nI ts)) ts (nI y) (t' + 1) = nI ts := by rw [← hy]; exact Py
    refine ⟨y, cc, t', j', σ', by rw [hy]; exact b5, by omega, F1, ⟨gC_chg J1.1 nm_us updL_s b7, gR_chg J1.2.1 ht Ka Kb Pb b8, ?_⟩, a3.symm, fun z => by rw [b11] at z; exact absurd z (by decide)⟩
    refine ⟨fun i x z => ?_, fun i x z w => ?_⟩
    · have e : i = j' := by omega
      subst e
      refine ⟨d, s, oc, ro, ts, cc, cs, by omega, by omega, hs, b10, nm_us, J1.1, by omega, by omega, ?_⟩
      rw [b8]
      exact ⟨Pb, J1.2.1, Or.inr Ka⟩
    · by_cases e : i = ts
      · rw [e] at w
        exact absurd w (nk89 Kt (by omega) (by omega) (by omega))
      · by_cases e1 : i = t'
        · exact ⟨j', Nat.le_refl _, by omega, by rw [b8, e1]⟩
        · by_cases e2 : i = t' + 1
          · rw [e2] at w
            exact absurd w (nk89 Kb (by omega) (by omega) (by omega))
          · obtain ⟨q, q1, q2, _⟩ := J1.2.2.2 i (by omega) (by omega) w
            omega
