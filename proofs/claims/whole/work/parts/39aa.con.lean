set_option maxHeartbeats 40000000 in
set_option maxRecDepth 100000 in
theorem de_wX11_X6_0 {a : Nat → Nat} {ac : Nat → ClassId} {τ : St × (St)} : ([dwo_X6 (fun k => a (k + 7)) (fun k => ac (k + 7)) (τ.1), dw_X10 (fun k => a (k + 17)) (fun k => ac (k + 17)) (τ.2)] : List va_W).flatten = dw_X6 (fun k => a (k + 7)) (fun k => ac (k + 7)) τ := by
  first
  | (simp only [List.flatten_cons, List.flatten_nil, List.append_nil]; done)
  | (simp only [List.flatten_cons, List.flatten_nil, List.append_nil]; rfl)
set_option maxHeartbeats 40000000 in
set_option maxRecDepth 100000 in
theorem dp_wX11_X6_0 {D : va_G} {H : Heap} {a : Nat → Nat} {ac : Nat → ClassId} {σ : St × Rw × (St × (St × (St × (St)))) × (St) × (St) × (Nat → St) × (Nat → St) × (Nat → St × (St))} (h : va_P D vwCl (dw_X11 a ac σ) H) : va_P D vwCl (dw_X6 (fun k => a (k + 7)) (fun k => ac (k + 7)) σ.2.2.1.2.2) H := by
  have h2 := nd_vp (segs := dg_X11 a ac σ) (ix := [3, 4]) (old := [dwo_X6 (fun k => a (k + 7)) (fun k => ac (k + 7)) (σ.2.2.1.2.2.1), dw_X10 (fun k => a (k + 17)) (fun k => ac (k + 17)) (σ.2.2.1.2.2.2)]) h (nd_co rfl (nd_co rfl rfl))
  have e := de_wX11_X6_0 (a := a) (ac := ac) (τ := σ.2.2.1.2.2)
  exact e ▸ h2
set_option maxHeartbeats 40000000 in
set_option maxRecDepth 100000 in
theorem dd_wX11_X6_0 {A : Nat → Prop} {a : Nat → Nat} {ac : Nat → ClassId} {σ : St × Rw × (St × (St × (St × (St)))) × (St) × (St) × (Nat → St) × (Nat → St) × (Nat → St × (St))} (h : va_D A (dw_X11 a ac σ)) : va_D A (dw_X6 (fun k => a (k + 7)) (fun k => ac (k + 7)) σ.2.2.1.2.2) := by
  have h2 := nd_vd (segs := dg_X11 a ac σ) (ix := [3, 4]) (old := [dwo_X6 (fun k => a (k + 7)) (fun k => ac (k + 7)) (σ.2.2.1.2.2.1), dw_X10 (fun k => a (k + 17)) (fun k => ac (k + 17)) (σ.2.2.1.2.2.2)]) h (nd_co rfl (nd_co rfl rfl)) (by decide)
  have e := de_wX11_X6_0 (a := a) (ac := ac) (τ := σ.2.2.1.2.2)
  exact e ▸ h2
set_option maxHeartbeats 40000000 in
set_option maxRecDepth 100000 in
theorem dy_wX11_X6_0 {D : va_G} {U : State} {ac : Nat → ClassId} (h : va_K D vwCl (dk_X11 ac) U) : va_K D vwCl (dk_X6 (fun k => ac (k + 7))) U := (h.sub [4, 5, 6, 7, 8, 9, 10, 11, 12, 13, 14, 15, 16, 17, 18, 19, 20, 21] rfl)
set_option maxHeartbeats 40000000 in
set_option maxRecDepth 100000 in
theorem dn_wX11_X6_0 {A0 : Nat → Prop} {D : va_G} {H H1 : Heap} {a : Nat → Nat} {ac : Nat → ClassId} {σ : St × Rw × (St × (St × (St × (St)))) × (St) × (St) × (Nat → St) × (Nat → St) × (Nat → St × (St))} {τ : St × (St)} (hP : va_P D vwCl (dw_X11 a ac σ) H) (hD : va_D A0 (dw_X11 a ac σ)) (hA : ∀ q : Nat, H.size ≤ q → A0 q) (hk : ∀ q : Nat, q < H.size → ¬ va_A (dw_X6 (fun k => a (k + 7)) (fun k => ac (k + 7)) σ.2.2.1.2.2) H.size q → H1[q]? = H[q]?) (h1 : va_P D vwCl (dw_X6 (fun k => a (k + 7)) (fun k => ac (k + 7)) τ) H1) (h2 : va_D (va_A (dw_X6 (fun k => a (k + 7)) (fun k => ac (k + 7)) σ.2.2.1.2.2) H.size) (dw_X6 (fun k => a (k + 7)) (fun k => ac (k + 7)) τ)) : va_P D vwCl (dw_X11 a ac (σ.1, (σ.2.1, ((σ.2.2.1.1, (σ.2.2.1.2.1, τ)), σ.2.2.2)))) H1 ∧ va_D A0 (dw_X11 a ac (σ.1, (σ.2.1, ((σ.2.2.1.1, (σ.2.2.1.2.1, τ)), σ.2.2.2)))) := by
  have eo := de_wX11_X6_0 (a := a) (ac := ac) (τ := σ.2.2.1.2.2)
  have en := de_wX11_X6_0 (a := a) (ac := ac) (τ := τ)
  have h := nd_vn (segs := dg_X11 a ac σ) (ix := [3, 4]) (old := [dwo_X6 (fun k => a (k + 7)) (fun k => ac (k + 7)) (σ.2.2.1.2.2.1), dw_X10 (fun k => a (k + 17)) (fun k => ac (k + 17)) (σ.2.2.1.2.2.2)]) (new := [dwo_X6 (fun k => a (k + 7)) (fun k => ac (k + 7)) (τ.1), dw_X10 (fun k => a (k + 17)) (fun k => ac (k + 17)) (τ.2)]) hP hD (nd_co rfl (nd_co rfl rfl)) rfl (fun q z y => hk q z (fun w => y (eo ▸ w))) (en ▸ h1)
  have ee : nd_sets (dg_X11 a ac σ) [3, 4] [dwo_X6 (fun k => a (k + 7)) (fun k => ac (k + 7)) (τ.1), dw_X10 (fun k => a (k + 17)) (fun k => ac (k + 17)) (τ.2)] = dg_X11 a ac (σ.1, (σ.2.1, ((σ.2.2.1.1, (σ.2.2.1.2.1, τ)), σ.2.2.2))) := rfl
  have hz : va_P D vwCl (dg_X11 a ac (σ.1, (σ.2.1, ((σ.2.2.1.1, (σ.2.2.1.2.1, τ)), σ.2.2.2)))).flatten H1 := by rw [← ee]; exact h
  exact ⟨hz, nd_Da hD dA_X11⟩
set_option maxHeartbeats 40000000 in
set_option maxRecDepth 100000 in
theorem de_wX11_X8_3 {a : Nat → Nat} {ac : Nat → ClassId} {j1 : Nat} {τ : St} : ([dw_X8 (fun k => a (k + j1 * 5 + 41)) (fun k => ac (k + j1 * 5 + 41)) (τ)] : List va_W).flatten = dw_X8 (fun k => a (k + j1 * 5 + 41)) (fun k => ac (k + j1 * 5 + 41)) τ := by
  first
  | (simp only [List.flatten_cons, List.flatten_nil, List.append_nil]; done)
  | (simp only [List.flatten_cons, List.flatten_nil, List.append_nil]; rfl)
set_option maxHeartbeats 40000000 in
set_option maxRecDepth 100000 in
theorem dp_wX11_X8_3 {D : va_G} {H : Heap} {a : Nat → Nat} {ac : Nat → ClassId} {σ : St × Rw × (St × (St × (St × (St)))) × (St) × (St) × (Nat → St) × (Nat → St) × (Nat → St × (St))} {j1 : Nat} (hj1 : j1 < 9) (h : va_P D vwCl (dw_X11 a ac σ) H) : va_P D vwCl (dw_X8 (fun k => a (k + j1 * 5 + 41)) (fun k => ac (k + j1 * 5 + 41)) (σ.2.2.2.2.2.1 j1)) H := by
  have h2 := nd_vp (segs := dg_X11 a ac σ) (ix := [11 + j1]) (old := [dw_X8 (fun k => a (k + j1 * 5 + 41)) (fun k => ac (k + j1 * 5 + 41)) (σ.2.2.2.2.2.1 j1)]) h (nd_co (dx_X11_P8 hj1) rfl)
  have e := de_wX11_X8_3 (a := a) (ac := ac) (j1 := j1) (τ := (σ.2.2.2.2.2.1 j1))
  exact e ▸ h2
set_option maxHeartbeats 40000000 in
set_option maxRecDepth 100000 in
theorem dd_wX11_X8_3 {A : Nat → Prop} {a : Nat → Nat} {ac : Nat → ClassId} {σ : St × Rw × (St × (St × (St × (St)))) × (St) × (St) × (Nat → St) × (Nat → St) × (Nat → St × (St))} {j1 : Nat} (hj1 : j1 < 9) (h : va_D A (dw_X11 a ac σ)) : va_D A (dw_X8 (fun k => a (k + j1 * 5 + 41)) (fun k => ac (k + j1 * 5 + 41)) (σ.2.2.2.2.2.1 j1)) := by
  have h2 := nd_vd (segs := dg_X11 a ac σ) (ix := [11 + j1]) (old := [dw_X8 (fun k => a (k + j1 * 5 + 41)) (fun k => ac (k + j1 * 5 + 41)) (σ.2.2.2.2.2.1 j1)]) h (nd_co (dx_X11_P8 hj1) rfl) (by simp only [List.nodup_cons, List.mem_cons, List.not_mem_nil, List.nodup_nil, or_false, not_false_eq_true, and_true, true_and] <;> omega)
  have e := de_wX11_X8_3 (a := a) (ac := ac) (j1 := j1) (τ := (σ.2.2.2.2.2.1 j1))
  exact e ▸ h2
set_option maxHeartbeats 40000000 in
set_option maxRecDepth 100000 in
theorem dy_wX11_X8_3 {D : va_G} {U : State} {ac : Nat → ClassId} {j1 : Nat} (hj1 : j1 < 9) (h : va_K D vwCl (dk_X11 ac) U) : va_K D vwCl (dk_X8 (fun k => ac (k + j1 * 5 + 41))) U := (dq_X11_P8 hj1 h)
set_option maxHeartbeats 40000000 in
set_option maxRecDepth 100000 in
theorem dn_wX11_X8_3 {A0 : Nat → Prop} {D : va_G} {H H1 : Heap} {a : Nat → Nat} {ac : Nat → ClassId} {σ : St × Rw × (St × (St × (St × (St)))) × (St) × (St) × (Nat → St) × (Nat → St) × (Nat → St × (St))} {τ : St} {j1 : Nat} (hj1 : j1 < 9) (hP : va_P D vwCl (dw_X11 a ac σ) H) (hD : va_D A0 (dw_X11 a ac σ)) (hA : ∀ q : Nat, H.size ≤ q → A0 q) (hk : ∀ q : Nat, q < H.size → ¬ va_A (dw_X8 (fun k => a (k + j1 * 5 + 41)) (fun k => ac (k + j1 * 5 + 41)) (σ.2.2.2.2.2.1 j1)) H.size q → H1[q]? = H[q]?) (h1 : va_P D vwCl (dw_X8 (fun k => a (k + j1 * 5 + 41)) (fun k => ac (k + j1 * 5 + 41)) τ) H1) (h2 : va_D (va_A (dw_X8 (fun k => a (k + j1 * 5 + 41)) (fun k => ac (k + j1 * 5 + 41)) (σ.2.2.2.2.2.1 j1)) H.size) (dw_X8 (fun k => a (k + j1 * 5 + 41)) (fun k => ac (k + j1 * 5 + 41)) τ)) : va_P D vwCl (dw_X11 a ac (σ.1, (σ.2.1, (σ.2.2.1, (σ.2.2.2.1, (σ.2.2.2.2.1, ((fun i => if i = j1 then τ else σ.2.2.2.2.2.1 i), σ.2.2.2.2.2.2))))))) H1 ∧ va_D A0 (dw_X11 a ac (σ.1, (σ.2.1, (σ.2.2.1, (σ.2.2.2.1, (σ.2.2.2.2.1, ((fun i => if i = j1 then τ else σ.2.2.2.2.2.1 i), σ.2.2.2.2.2.2))))))) := by
  have eo := de_wX11_X8_3 (a := a) (ac := ac) (j1 := j1) (τ := (σ.2.2.2.2.2.1 j1))
  have en := de_wX11_X8_3 (a := a) (ac := ac) (j1 := j1) (τ := τ)
  have h := nd_vn (segs := dg_X11 a ac σ) (ix := [11 + j1]) (old := [dw_X8 (fun k => a (k + j1 * 5 + 41)) (fun k => ac (k + j1 * 5 + 41)) (σ.2.2.2.2.2.1 j1)]) (new := [dw_X8 (fun k => a (k + j1 * 5 + 41)) (fun k => ac (k + j1 * 5 + 41)) (τ)]) hP hD (nd_co (dx_X11_P8 hj1) rfl) rfl (fun q z y => hk q z (fun w => y (eo ▸ w))) (en ▸ h1)
  have e0 : (dg_X11 a ac σ).set (11 + j1) (dw_X8 (fun k => a (k + j1 * 5 + 41)) (fun k => ac (k + j1 * 5 + 41)) (τ)) = dg_X11 a ac (σ.1, (σ.2.1, (σ.2.2.1, (σ.2.2.2.1, (σ.2.2.2.2.1, ((fun i => if i = j1 then (τ) else σ.2.2.2.2.2.1 i), σ.2.2.2.2.2.2)))))) := dz_X11_P8 hj1
  have ee : nd_sets (dg_X11 a ac σ) [11 + j1] [dw_X8 (fun k => a (k + j1 * 5 + 41)) (fun k => ac (k + j1 * 5 + 41)) (τ)] = dg_X11 a ac (σ.1, (σ.2.1, (σ.2.2.1, (σ.2.2.2.1, (σ.2.2.2.2.1, ((fun i => if i = j1 then (τ) else σ.2.2.2.2.2.1 i), σ.2.2.2.2.2.2)))))) := by
    show (dg_X11 a ac σ).set (11 + j1) (dw_X8 (fun k => a (k + j1 * 5 + 41)) (fun k => ac (k + j1 * 5 + 41)) (τ)) = _
    rw [e0]
  have hz : va_P D vwCl (dg_X11 a ac (σ.1, (σ.2.1, (σ.2.2.1, (σ.2.2.2.1, (σ.2.2.2.2.1, ((fun i => if i = j1 then (τ) else σ.2.2.2.2.2.1 i), σ.2.2.2.2.2.2))))))).flatten H1 := by rw [← ee]; exact h
  exact ⟨hz, nd_Da hD dA_X11⟩
set_option maxHeartbeats 40000000 in
set_option maxRecDepth 100000 in
theorem de_wX11_X6p_4 {a : Nat → Nat} {ac : Nat → ClassId} {j1 : Nat} {τ : St × (St × (St)) × (St)} : ([dwo_X6 (fun k => a (k + 7)) (fun k => ac (k + 7)) (τ.2.1.1), dw_X10 (fun k => a (k + 17)) (fun k => ac (k + 17)) (τ.2.1.2), dw_X8 (fun k => a (k + j1 * 5 + 41)) (fun k => ac (k + j1 * 5 + 41)) (τ.2.2)] : List va_W).flatten = dw_X6p (fun k => a (if k < 20 then k - 0 + 7 else k - 20 + j1 * 5 + 41)) (fun k => ac (if k < 20 then k - 0 + 7 else k - 20 + j1 * 5 + 41)) τ := by
  first
  | (simp only [List.flatten_cons, List.flatten_nil, List.append_nil]; done)
  | (simp only [List.flatten_cons, List.flatten_nil, List.append_nil]; rfl)
set_option maxHeartbeats 40000000 in
set_option maxRecDepth 100000 in
theorem dp_wX11_X6p_4 {D : va_G} {H : Heap} {a : Nat → Nat} {ac : Nat → ClassId} {σ : St × Rw × (St × (St × (St × (St)))) × (St) × (St) × (Nat → St) × (Nat → St) × (Nat → St × (St))} {j1 : Nat} (hj1 : j1 < 9) (h : va_P D vwCl (dw_X11 a ac σ) H) : va_P D vwCl (dw_X6p (fun k => a (if k < 20 then k - 0 + 7 else k - 20 + j1 * 5 + 41)) (fun k => ac (if k < 20 then k - 0 + 7 else k - 20 + j1 * 5 + 41)) (nd_st0, σ.2.2.1.2.2, (σ.2.2.2.2.2.1 j1))) H := by
  have h2 := nd_vp (segs := dg_X11 a ac σ) (ix := [3, 4, 11 + j1]) (old := [dwo_X6 (fun k => a (k + 7)) (fun k => ac (k + 7)) (σ.2.2.1.2.2.1), dw_X10 (fun k => a (k + 17)) (fun k => ac (k + 17)) (σ.2.2.1.2.2.2), dw_X8 (fun k => a (k + j1 * 5 + 41)) (fun k => ac (k + j1 * 5 + 41)) (σ.2.2.2.2.2.1 j1)]) h (nd_co rfl (nd_co rfl (nd_co (dx_X11_P8 hj1) rfl)))
  have e := de_wX11_X6p_4 (a := a) (ac := ac) (j1 := j1) (τ := (nd_st0, σ.2.2.1.2.2, (σ.2.2.2.2.2.1 j1)))
  exact e ▸ h2
set_option maxHeartbeats 40000000 in
set_option maxRecDepth 100000 in
theorem dd_wX11_X6p_4 {A : Nat → Prop} {a : Nat → Nat} {ac : Nat → ClassId} {σ : St × Rw × (St × (St × (St × (St)))) × (St) × (St) × (Nat → St) × (Nat → St) × (Nat → St × (St))} {j1 : Nat} (hj1 : j1 < 9) (h : va_D A (dw_X11 a ac σ)) : va_D A (dw_X6p (fun k => a (if k < 20 then k - 0 + 7 else k - 20 + j1 * 5 + 41)) (fun k => ac (if k < 20 then k - 0 + 7 else k - 20 + j1 * 5 + 41)) (nd_st0, σ.2.2.1.2.2, (σ.2.2.2.2.2.1 j1))) := by
  have h2 := nd_vd (segs := dg_X11 a ac σ) (ix := [3, 4, 11 + j1]) (old := [dwo_X6 (fun k => a (k + 7)) (fun k => ac (k + 7)) (σ.2.2.1.2.2.1), dw_X10 (fun k => a (k + 17)) (fun k => ac (k + 17)) (σ.2.2.1.2.2.2), dw_X8 (fun k => a (k + j1 * 5 + 41)) (fun k => ac (k + j1 * 5 + 41)) (σ.2.2.2.2.2.1 j1)]) h (nd_co rfl (nd_co rfl (nd_co (dx_X11_P8 hj1) rfl))) (by simp only [List.nodup_cons, List.mem_cons, List.not_mem_nil, List.nodup_nil, or_false, not_false_eq_true, and_true, true_and] <;> omega)
  have e := de_wX11_X6p_4 (a := a) (ac := ac) (j1 := j1) (τ := (nd_st0, σ.2.2.1.2.2, (σ.2.2.2.2.2.1 j1)))
  exact e ▸ h2
set_option maxHeartbeats 40000000 in
set_option maxRecDepth 100000 in
theorem dy_wX11_X6p_4 {D : va_G} {U : State} {ac : Nat → ClassId} {j1 : Nat} (hj1 : j1 < 9) (h : va_K D vwCl (dk_X11 ac) U) : va_K D vwCl (dk_X6p (fun k => ac (if k < 20 then k - 0 + 7 else k - 20 + j1 * 5 + 41))) U := (va_K.app (nd_ks h (fun q hq => absurd hq List.not_mem_nil)) (va_K.app (h.sub [4, 5, 6, 7, 8, 9, 10, 11, 12, 13, 14, 15, 16, 17, 18, 19, 20, 21] rfl) (dq_X11_P8 hj1 h)))
set_option maxHeartbeats 40000000 in
set_option maxRecDepth 100000 in
theorem dn_wX11_X6p_4 {A0 : Nat → Prop} {D : va_G} {H H1 : Heap} {a : Nat → Nat} {ac : Nat → ClassId} {σ : St × Rw × (St × (St × (St × (St)))) × (St) × (St) × (Nat → St) × (Nat → St) × (Nat → St × (St))} {τ : St × (St × (St)) × (St)} {j1 : Nat} (hj1 : j1 < 9) (hP : va_P D vwCl (dw_X11 a ac σ) H) (hD : va_D A0 (dw_X11 a ac σ)) (hA : ∀ q : Nat, H.size ≤ q → A0 q) (hk : ∀ q : Nat, q < H.size → ¬ va_A (dw_X6p (fun k => a (if k < 20 then k - 0 + 7 else k - 20 + j1 * 5 + 41)) (fun k => ac (if k < 20 then k - 0 + 7 else k - 20 + j1 * 5 + 41)) (nd_st0, σ.2.2.1.2.2, (σ.2.2.2.2.2.1 j1))) H.size q → H1[q]? = H[q]?) (h1 : va_P D vwCl (dw_X6p (fun k => a (if k < 20 then k - 0 + 7 else k - 20 + j1 * 5 + 41)) (fun k => ac (if k < 20 then k - 0 + 7 else k - 20 + j1 * 5 + 41)) τ) H1) (h2 : va_D (va_A (dw_X6p (fun k => a (if k < 20 then k - 0 + 7 else k - 20 + j1 * 5 + 41)) (fun k => ac (if k < 20 then k - 0 + 7 else k - 20 + j1 * 5 + 41)) (nd_st0, σ.2.2.1.2.2, (σ.2.2.2.2.2.1 j1))) H.size) (dw_X6p (fun k => a (if k < 20 then k - 0 + 7 else k - 20 + j1 * 5 + 41)) (fun k => ac (if k < 20 then k - 0 + 7 else k - 20 + j1 * 5 + 41)) τ)) : va_P D vwCl (dw_X11 a ac ((σ.1, (σ.2.1, ((σ.2.2.1.1, (σ.2.2.1.2.1, τ.2.1)), σ.2.2.2))).1, ((σ.1, (σ.2.1, ((σ.2.2.1.1, (σ.2.2.1.2.1, τ.2.1)), σ.2.2.2))).2.1, ((σ.1, (σ.2.1, ((σ.2.2.1.1, (σ.2.2.1.2.1, τ.2.1)), σ.2.2.2))).2.2.1, ((σ.1, (σ.2.1, ((σ.2.2.1.1, (σ.2.2.1.2.1, τ.2.1)), σ.2.2.2))).2.2.2.1, ((σ.1, (σ.2.1, ((σ.2.2.1.1, (σ.2.2.1.2.1, τ.2.1)), σ.2.2.2))).2.2.2.2.1, ((fun i => if i = j1 then τ.2.2 else (σ.1, (σ.2.1, ((σ.2.2.1.1, (σ.2.2.1.2.1, τ.2.1)), σ.2.2.2))).2.2.2.2.2.1 i), (σ.1, (σ.2.1, ((σ.2.2.1.1, (σ.2.2.1.2.1, τ.2.1)), σ.2.2.2))).2.2.2.2.2.2))))))) H1 ∧ va_D A0 (dw_X11 a ac ((σ.1, (σ.2.1, ((σ.2.2.1.1, (σ.2.2.1.2.1, τ.2.1)), σ.2.2.2))).1, ((σ.1, (σ.2.1, ((σ.2.2.1.1, (σ.2.2.1.2.1, τ.2.1)), σ.2.2.2))).2.1, ((σ.1, (σ.2.1, ((σ.2.2.1.1, (σ.2.2.1.2.1, τ.2.1)), σ.2.2.2))).2.2.1, ((σ.1, (σ.2.1, ((σ.2.2.1.1, (σ.2.2.1.2.1, τ.2.1)), σ.2.2.2))).2.2.2.1, ((σ.1, (σ.2.1, ((σ.2.2.1.1, (σ.2.2.1.2.1, τ.2.1)), σ.2.2.2))).2.2.2.2.1, ((fun i => if i = j1 then τ.2.2 else (σ.1, (σ.2.1, ((σ.2.2.1.1, (σ.2.2.1.2.1, τ.2.1)), σ.2.2.2))).2.2.2.2.2.1 i), (σ.1, (σ.2.1, ((σ.2.2.1.1, (σ.2.2.1.2.1, τ.2.1)), σ.2.2.2))).2.2.2.2.2.2))))))) := by
  have eo := de_wX11_X6p_4 (a := a) (ac := ac) (j1 := j1) (τ := (nd_st0, σ.2.2.1.2.2, (σ.2.2.2.2.2.1 j1)))
  have en := de_wX11_X6p_4 (a := a) (ac := ac) (j1 := j1) (τ := τ)
  have h := nd_vn (segs := dg_X11 a ac σ) (ix := [3, 4, 11 + j1]) (old := [dwo_X6 (fun k => a (k + 7)) (fun k => ac (k + 7)) (σ.2.2.1.2.2.1), dw_X10 (fun k => a (k + 17)) (fun k => ac (k + 17)) (σ.2.2.1.2.2.2), dw_X8 (fun k => a (k + j1 * 5 + 41)) (fun k => ac (k + j1 * 5 + 41)) (σ.2.2.2.2.2.1 j1)]) (new := [dwo_X6 (fun k => a (k + 7)) (fun k => ac (k + 7)) (τ.2.1.1), dw_X10 (fun k => a (k + 17)) (fun k => ac (k + 17)) (τ.2.1.2), dw_X8 (fun k => a (k + j1 * 5 + 41)) (fun k => ac (k + j1 * 5 + 41)) (τ.2.2)]) hP hD (nd_co rfl (nd_co rfl (nd_co (dx_X11_P8 hj1) rfl))) rfl (fun q z y => hk q z (fun w => y (eo ▸ w))) (en ▸ h1)
  have e1 : ((dg_X11 a ac σ).set 3 (dwo_X6 (fun k => a (k + 7)) (fun k => ac (k + 7)) (τ.2.1.1))).set 4 (dw_X10 (fun k => a (k + 17)) (fun k => ac (k + 17)) (τ.2.1.2)) = dg_X11 a ac ((σ.1, (σ.2.1, ((σ.2.2.1.1, (σ.2.2.1.2.1, ((τ.2.1.1), σ.2.2.1.2.2.2))), σ.2.2.2))).1, ((σ.1, (σ.2.1, ((σ.2.2.1.1, (σ.2.2.1.2.1, ((τ.2.1.1), σ.2.2.1.2.2.2))), σ.2.2.2))).2.1, (((σ.1, (σ.2.1, ((σ.2.2.1.1, (σ.2.2.1.2.1, ((τ.2.1.1), σ.2.2.1.2.2.2))), σ.2.2.2))).2.2.1.1, ((σ.1, (σ.2.1, ((σ.2.2.1.1, (σ.2.2.1.2.1, ((τ.2.1.1), σ.2.2.1.2.2.2))), σ.2.2.2))).2.2.1.2.1, ((σ.1, (σ.2.1, ((σ.2.2.1.1, (σ.2.2.1.2.1, ((τ.2.1.1), σ.2.2.1.2.2.2))), σ.2.2.2))).2.2.1.2.2.1, (τ.2.1.2)))), (σ.1, (σ.2.1, ((σ.2.2.1.1, (σ.2.2.1.2.1, ((τ.2.1.1), σ.2.2.1.2.2.2))), σ.2.2.2))).2.2.2))) := rfl
  have e2 : (dg_X11 a ac ((σ.1, (σ.2.1, ((σ.2.2.1.1, (σ.2.2.1.2.1, ((τ.2.1.1), σ.2.2.1.2.2.2))), σ.2.2.2))).1, ((σ.1, (σ.2.1, ((σ.2.2.1.1, (σ.2.2.1.2.1, ((τ.2.1.1), σ.2.2.1.2.2.2))), σ.2.2.2))).2.1, (((σ.1, (σ.2.1, ((σ.2.2.1.1, (σ.2.2.1.2.1, ((τ.2.1.1), σ.2.2.1.2.2.2))), σ.2.2.2))).2.2.1.1, ((σ.1, (σ.2.1, ((σ.2.2.1.1, (σ.2.2.1.2.1, ((τ.2.1.1), σ.2.2.1.2.2.2))), σ.2.2.2))).2.2.1.2.1, ((σ.1, (σ.2.1, ((σ.2.2.1.1, (σ.2.2.1.2.1, ((τ.2.1.1), σ.2.2.1.2.2.2))), σ.2.2.2))).2.2.1.2.2.1, (τ.2.1.2)))), (σ.1, (σ.2.1, ((σ.2.2.1.1, (σ.2.2.1.2.1, ((τ.2.1.1), σ.2.2.1.2.2.2))), σ.2.2.2))).2.2.2)))).set (11 + j1) (dw_X8 (fun k => a (k + j1 * 5 + 41)) (fun k => ac (k + j1 * 5 + 41)) (τ.2.2)) = dg_X11 a ac (((σ.1, (σ.2.1, ((σ.2.2.1.1, (σ.2.2.1.2.1, ((τ.2.1.1), σ.2.2.1.2.2.2))), σ.2.2.2))).1, ((σ.1, (σ.2.1, ((σ.2.2.1.1, (σ.2.2.1.2.1, ((τ.2.1.1), σ.2.2.1.2.2.2))), σ.2.2.2))).2.1, (((σ.1, (σ.2.1, ((σ.2.2.1.1, (σ.2.2.1.2.1, ((τ.2.1.1), σ.2.2.1.2.2.2))), σ.2.2.2))).2.2.1.1, ((σ.1, (σ.2.1, ((σ.2.2.1.1, (σ.2.2.1.2.1, ((τ.2.1.1), σ.2.2.1.2.2.2))), σ.2.2.2))).2.2.1.2.1, ((σ.1, (σ.2.1, ((σ.2.2.1.1, (σ.2.2.1.2.1, ((τ.2.1.1), σ.2.2.1.2.2.2))), σ.2.2.2))).2.2.1.2.2.1, (τ.2.1.2)))), (σ.1, (σ.2.1, ((σ.2.2.1.1, (σ.2.2.1.2.1, ((τ.2.1.1), σ.2.2.1.2.2.2))), σ.2.2.2))).2.2.2))).1, (((σ.1, (σ.2.1, ((σ.2.2.1.1, (σ.2.2.1.2.1, ((τ.2.1.1), σ.2.2.1.2.2.2))), σ.2.2.2))).1, ((σ.1, (σ.2.1, ((σ.2.2.1.1, (σ.2.2.1.2.1, ((τ.2.1.1), σ.2.2.1.2.2.2))), σ.2.2.2))).2.1, (((σ.1, (σ.2.1, ((σ.2.2.1.1, (σ.2.2.1.2.1, ((τ.2.1.1), σ.2.2.1.2.2.2))), σ.2.2.2))).2.2.1.1, ((σ.1, (σ.2.1, ((σ.2.2.1.1, (σ.2.2.1.2.1, ((τ.2.1.1), σ.2.2.1.2.2.2))), σ.2.2.2))).2.2.1.2.1, ((σ.1, (σ.2.1, ((σ.2.2.1.1, (σ.2.2.1.2.1, ((τ.2.1.1), σ.2.2.1.2.2.2))), σ.2.2.2))).2.2.1.2.2.1, (τ.2.1.2)))), (σ.1, (σ.2.1, ((σ.2.2.1.1, (σ.2.2.1.2.1, ((τ.2.1.1), σ.2.2.1.2.2.2))), σ.2.2.2))).2.2.2))).2.1, (((σ.1, (σ.2.1, ((σ.2.2.1.1, (σ.2.2.1.2.1, ((τ.2.1.1), σ.2.2.1.2.2.2))), σ.2.2.2))).1, ((σ.1, (σ.2.1, ((σ.2.2.1.1, (σ.2.2.1.2.1, ((τ.2.1.1), σ.2.2.1.2.2.2))), σ.2.2.2))).2.1, (((σ.1, (σ.2.1, ((σ.2.2.1.1, (σ.2.2.1.2.1, ((τ.2.1.1), σ.2.2.1.2.2.2))), σ.2.2.2))).2.2.1.1, ((σ.1, (σ.2.1, ((σ.2.2.1.1, (σ.2.2.1.2.1, ((τ.2.1.1), σ.2.2.1.2.2.2))), σ.2.2.2))).2.2.1.2.1, ((σ.1, (σ.2.1, ((σ.2.2.1.1, (σ.2.2.1.2.1, ((τ.2.1.1), σ.2.2.1.2.2.2))), σ.2.2.2))).2.2.1.2.2.1, (τ.2.1.2)))), (σ.1, (σ.2.1, ((σ.2.2.1.1, (σ.2.2.1.2.1, ((τ.2.1.1), σ.2.2.1.2.2.2))), σ.2.2.2))).2.2.2))).2.2.1, (((σ.1, (σ.2.1, ((σ.2.2.1.1, (σ.2.2.1.2.1, ((τ.2.1.1), σ.2.2.1.2.2.2))), σ.2.2.2))).1, ((σ.1, (σ.2.1, ((σ.2.2.1.1, (σ.2.2.1.2.1, ((τ.2.1.1), σ.2.2.1.2.2.2))), σ.2.2.2))).2.1, (((σ.1, (σ.2.1, ((σ.2.2.1.1, (σ.2.2.1.2.1, ((τ.2.1.1), σ.2.2.1.2.2.2))), σ.2.2.2))).2.2.1.1, ((σ.1, (σ.2.1, ((σ.2.2.1.1, (σ.2.2.1.2.1, ((τ.2.1.1), σ.2.2.1.2.2.2))), σ.2.2.2))).2.2.1.2.1, ((σ.1, (σ.2.1, ((σ.2.2.1.1, (σ.2.2.1.2.1, ((τ.2.1.1), σ.2.2.1.2.2.2))), σ.2.2.2))).2.2.1.2.2.1, (τ.2.1.2)))), (σ.1, (σ.2.1, ((σ.2.2.1.1, (σ.2.2.1.2.1, ((τ.2.1.1), σ.2.2.1.2.2.2))), σ.2.2.2))).2.2.2))).2.2.2.1, (((σ.1, (σ.2.1, ((σ.2.2.1.1, (σ.2.2.1.2.1, ((τ.2.1.1), σ.2.2.1.2.2.2))), σ.2.2.2))).1, ((σ.1, (σ.2.1, ((σ.2.2.1.1, (σ.2.2.1.2.1, ((τ.2.1.1), σ.2.2.1.2.2.2))), σ.2.2.2))).2.1, (((σ.1, (σ.2.1, ((σ.2.2.1.1, (σ.2.2.1.2.1, ((τ.2.1.1), σ.2.2.1.2.2.2))), σ.2.2.2))).2.2.1.1, ((σ.1, (σ.2.1, ((σ.2.2.1.1, (σ.2.2.1.2.1, ((τ.2.1.1), σ.2.2.1.2.2.2))), σ.2.2.2))).2.2.1.2.1, ((σ.1, (σ.2.1, ((σ.2.2.1.1, (σ.2.2.1.2.1, ((τ.2.1.1), σ.2.2.1.2.2.2))), σ.2.2.2))).2.2.1.2.2.1, (τ.2.1.2)))), (σ.1, (σ.2.1, ((σ.2.2.1.1, (σ.2.2.1.2.1, ((τ.2.1.1), σ.2.2.1.2.2.2))), σ.2.2.2))).2.2.2))).2.2.2.2.1, ((fun i => if i = j1 then (τ.2.2) else ((σ.1, (σ.2.1, ((σ.2.2.1.1, (σ.2.2.1.2.1, ((τ.2.1.1), σ.2.2.1.2.2.2))), σ.2.2.2))).1, ((σ.1, (σ.2.1, ((σ.2.2.1.1, (σ.2.2.1.2.1, ((τ.2.1.1), σ.2.2.1.2.2.2))), σ.2.2.2))).2.1, (((σ.1, (σ.2.1, ((σ.2.2.1.1, (σ.2.2.1.2.1, ((τ.2.1.1), σ.2.2.1.2.2.2))), σ.2.2.2))).2.2.1.1, ((σ.1, (σ.2.1, ((σ.2.2.1.1, (σ.2.2.1.2.1, ((τ.2.1.1), σ.2.2.1.2.2.2))), σ.2.2.2))).2.2.1.2.1, ((σ.1, (σ.2.1, ((σ.2.2.1.1, (σ.2.2.1.2.1, ((τ.2.1.1), σ.2.2.1.2.2.2))), σ.2.2.2))).2.2.1.2.2.1, (τ.2.1.2)))), (σ.1, (σ.2.1, ((σ.2.2.1.1, (σ.2.2.1.2.1, ((τ.2.1.1), σ.2.2.1.2.2.2))), σ.2.2.2))).2.2.2))).2.2.2.2.2.1 i), ((σ.1, (σ.2.1, ((σ.2.2.1.1, (σ.2.2.1.2.1, ((τ.2.1.1), σ.2.2.1.2.2.2))), σ.2.2.2))).1, ((σ.1, (σ.2.1, ((σ.2.2.1.1, (σ.2.2.1.2.1, ((τ.2.1.1), σ.2.2.1.2.2.2))), σ.2.2.2))).2.1, (((σ.1, (σ.2.1, ((σ.2.2.1.1, (σ.2.2.1.2.1, ((τ.2.1.1), σ.2.2.1.2.2.2))), σ.2.2.2))).2.2.1.1, ((σ.1, (σ.2.1, ((σ.2.2.1.1, (σ.2.2.1.2.1, ((τ.2.1.1), σ.2.2.1.2.2.2))), σ.2.2.2))).2.2.1.2.1, ((σ.1, (σ.2.1, ((σ.2.2.1.1, (σ.2.2.1.2.1, ((τ.2.1.1), σ.2.2.1.2.2.2))), σ.2.2.2))).2.2.1.2.2.1, (τ.2.1.2)))), (σ.1, (σ.2.1, ((σ.2.2.1.1, (σ.2.2.1.2.1, ((τ.2.1.1), σ.2.2.1.2.2.2))), σ.2.2.2))).2.2.2))).2.2.2.2.2.2)))))) := dz_X11_P8 hj1
  have ee : nd_sets (dg_X11 a ac σ) [3, 4, 11 + j1] [dwo_X6 (fun k => a (k + 7)) (fun k => ac (k + 7)) (τ.2.1.1), dw_X10 (fun k => a (k + 17)) (fun k => ac (k + 17)) (τ.2.1.2), dw_X8 (fun k => a (k + j1 * 5 + 41)) (fun k => ac (k + j1 * 5 + 41)) (τ.2.2)] = dg_X11 a ac (((σ.1, (σ.2.1, ((σ.2.2.1.1, (σ.2.2.1.2.1, ((τ.2.1.1), σ.2.2.1.2.2.2))), σ.2.2.2))).1, ((σ.1, (σ.2.1, ((σ.2.2.1.1, (σ.2.2.1.2.1, ((τ.2.1.1), σ.2.2.1.2.2.2))), σ.2.2.2))).2.1, (((σ.1, (σ.2.1, ((σ.2.2.1.1, (σ.2.2.1.2.1, ((τ.2.1.1), σ.2.2.1.2.2.2))), σ.2.2.2))).2.2.1.1, ((σ.1, (σ.2.1, ((σ.2.2.1.1, (σ.2.2.1.2.1, ((τ.2.1.1), σ.2.2.1.2.2.2))), σ.2.2.2))).2.2.1.2.1, ((σ.1, (σ.2.1, ((σ.2.2.1.1, (σ.2.2.1.2.1, ((τ.2.1.1), σ.2.2.1.2.2.2))), σ.2.2.2))).2.2.1.2.2.1, (τ.2.1.2)))), (σ.1, (σ.2.1, ((σ.2.2.1.1, (σ.2.2.1.2.1, ((τ.2.1.1), σ.2.2.1.2.2.2))), σ.2.2.2))).2.2.2))).1, (((σ.1, (σ.2.1, ((σ.2.2.1.1, (σ.2.2.1.2.1, ((τ.2.1.1), σ.2.2.1.2.2.2))), σ.2.2.2))).1, ((σ.1, (σ.2.1, ((σ.2.2.1.1, (σ.2.2.1.2.1, ((τ.2.1.1), σ.2.2.1.2.2.2))), σ.2.2.2))).2.1, (((σ.1, (σ.2.1, ((σ.2.2.1.1, (σ.2.2.1.2.1, ((τ.2.1.1), σ.2.2.1.2.2.2))), σ.2.2.2))).2.2.1.1, ((σ.1, (σ.2.1, ((σ.2.2.1.1, (σ.2.2.1.2.1, ((τ.2.1.1), σ.2.2.1.2.2.2))), σ.2.2.2))).2.2.1.2.1, ((σ.1, (σ.2.1, ((σ.2.2.1.1, (σ.2.2.1.2.1, ((τ.2.1.1), σ.2.2.1.2.2.2))), σ.2.2.2))).2.2.1.2.2.1, (τ.2.1.2)))), (σ.1, (σ.2.1, ((σ.2.2.1.1, (σ.2.2.1.2.1, ((τ.2.1.1), σ.2.2.1.2.2.2))), σ.2.2.2))).2.2.2))).2.1, (((σ.1, (σ.2.1, ((σ.2.2.1.1, (σ.2.2.1.2.1, ((τ.2.1.1), σ.2.2.1.2.2.2))), σ.2.2.2))).1, ((σ.1, (σ.2.1, ((σ.2.2.1.1, (σ.2.2.1.2.1, ((τ.2.1.1), σ.2.2.1.2.2.2))), σ.2.2.2))).2.1, (((σ.1, (σ.2.1, ((σ.2.2.1.1, (σ.2.2.1.2.1, ((τ.2.1.1), σ.2.2.1.2.2.2))), σ.2.2.2))).2.2.1.1, ((σ.1, (σ.2.1, ((σ.2.2.1.1, (σ.2.2.1.2.1, ((τ.2.1.1), σ.2.2.1.2.2.2))), σ.2.2.2))).2.2.1.2.1, ((σ.1, (σ.2.1, ((σ.2.2.1.1, (σ.2.2.1.2.1, ((τ.2.1.1), σ.2.2.1.2.2.2))), σ.2.2.2))).2.2.1.2.2.1, (τ.2.1.2)))), (σ.1, (σ.2.1, ((σ.2.2.1.1, (σ.2.2.1.2.1, ((τ.2.1.1), σ.2.2.1.2.2.2))), σ.2.2.2))).2.2.2))).2.2.1, (((σ.1, (σ.2.1, ((σ.2.2.1.1, (σ.2.2.1.2.1, ((τ.2.1.1), σ.2.2.1.2.2.2))), σ.2.2.2))).1, ((σ.1, (σ.2.1, ((σ.2.2.1.1, (σ.2.2.1.2.1, ((τ.2.1.1), σ.2.2.1.2.2.2))), σ.2.2.2))).2.1, (((σ.1, (σ.2.1, ((σ.2.2.1.1, (σ.2.2.1.2.1, ((τ.2.1.1), σ.2.2.1.2.2.2))), σ.2.2.2))).2.2.1.1, ((σ.1, (σ.2.1, ((σ.2.2.1.1, (σ.2.2.1.2.1, ((τ.2.1.1), σ.2.2.1.2.2.2))), σ.2.2.2))).2.2.1.2.1, ((σ.1, (σ.2.1, ((σ.2.2.1.1, (σ.2.2.1.2.1, ((τ.2.1.1), σ.2.2.1.2.2.2))), σ.2.2.2))).2.2.1.2.2.1, (τ.2.1.2)))), (σ.1, (σ.2.1, ((σ.2.2.1.1, (σ.2.2.1.2.1, ((τ.2.1.1), σ.2.2.1.2.2.2))), σ.2.2.2))).2.2.2))).2.2.2.1, (((σ.1, (σ.2.1, ((σ.2.2.1.1, (σ.2.2.1.2.1, ((τ.2.1.1), σ.2.2.1.2.2.2))), σ.2.2.2))).1, ((σ.1, (σ.2.1, ((σ.2.2.1.1, (σ.2.2.1.2.1, ((τ.2.1.1), σ.2.2.1.2.2.2))), σ.2.2.2))).2.1, (((σ.1, (σ.2.1, ((σ.2.2.1.1, (σ.2.2.1.2.1, ((τ.2.1.1), σ.2.2.1.2.2.2))), σ.2.2.2))).2.2.1.1, ((σ.1, (σ.2.1, ((σ.2.2.1.1, (σ.2.2.1.2.1, ((τ.2.1.1), σ.2.2.1.2.2.2))), σ.2.2.2))).2.2.1.2.1, ((σ.1, (σ.2.1, ((σ.2.2.1.1, (σ.2.2.1.2.1, ((τ.2.1.1), σ.2.2.1.2.2.2))), σ.2.2.2))).2.2.1.2.2.1, (τ.2.1.2)))), (σ.1, (σ.2.1, ((σ.2.2.1.1, (σ.2.2.1.2.1, ((τ.2.1.1), σ.2.2.1.2.2.2))), σ.2.2.2))).2.2.2))).2.2.2.2.1, ((fun i => if i = j1 then (τ.2.2) else ((σ.1, (σ.2.1, ((σ.2.2.1.1, (σ.2.2.1.2.1, ((τ.2.1.1), σ.2.2.1.2.2.2))), σ.2.2.2))).1, ((σ.1, (σ.2.1, ((σ.2.2.1.1, (σ.2.2.1.2.1, ((τ.2.1.1), σ.2.2.1.2.2.2))), σ.2.2.2))).2.1, (((σ.1, (σ.2.1, ((σ.2.2.1.1, (σ.2.2.1.2.1, ((τ.2.1.1), σ.2.2.1.2.2.2))), σ.2.2.2))).2.2.1.1, ((σ.1, (σ.2.1, ((σ.2.2.1.1, (σ.2.2.1.2.1, ((τ.2.1.1), σ.2.2.1.2.2.2))), σ.2.2.2))).2.2.1.2.1, ((σ.1, (σ.2.1, ((σ.2.2.1.1, (σ.2.2.1.2.1, ((τ.2.1.1), σ.2.2.1.2.2.2))), σ.2.2.2))).2.2.1.2.2.1, (τ.2.1.2)))), (σ.1, (σ.2.1, ((σ.2.2.1.1, (σ.2.2.1.2.1, ((τ.2.1.1), σ.2.2.1.2.2.2))), σ.2.2.2))).2.2.2))).2.2.2.2.2.1 i), ((σ.1, (σ.2.1, ((σ.2.2.1.1, (σ.2.2.1.2.1, ((τ.2.1.1), σ.2.2.1.2.2.2))), σ.2.2.2))).1, ((σ.1, (σ.2.1, ((σ.2.2.1.1, (σ.2.2.1.2.1, ((τ.2.1.1), σ.2.2.1.2.2.2))), σ.2.2.2))).2.1, (((σ.1, (σ.2.1, ((σ.2.2.1.1, (σ.2.2.1.2.1, ((τ.2.1.1), σ.2.2.1.2.2.2))), σ.2.2.2))).2.2.1.1, ((σ.1, (σ.2.1, ((σ.2.2.1.1, (σ.2.2.1.2.1, ((τ.2.1.1), σ.2.2.1.2.2.2))), σ.2.2.2))).2.2.1.2.1, ((σ.1, (σ.2.1, ((σ.2.2.1.1, (σ.2.2.1.2.1, ((τ.2.1.1), σ.2.2.1.2.2.2))), σ.2.2.2))).2.2.1.2.2.1, (τ.2.1.2)))), (σ.1, (σ.2.1, ((σ.2.2.1.1, (σ.2.2.1.2.1, ((τ.2.1.1), σ.2.2.1.2.2.2))), σ.2.2.2))).2.2.2))).2.2.2.2.2.2)))))) := by
    show (((dg_X11 a ac σ).set 3 (dwo_X6 (fun k => a (k + 7)) (fun k => ac (k + 7)) (τ.2.1.1))).set 4 (dw_X10 (fun k => a (k + 17)) (fun k => ac (k + 17)) (τ.2.1.2))).set (11 + j1) (dw_X8 (fun k => a (k + j1 * 5 + 41)) (fun k => ac (k + j1 * 5 + 41)) (τ.2.2)) = _
    rw [e1, e2]
  have hz : va_P D vwCl (dg_X11 a ac (((σ.1, (σ.2.1, ((σ.2.2.1.1, (σ.2.2.1.2.1, ((τ.2.1.1), σ.2.2.1.2.2.2))), σ.2.2.2))).1, ((σ.1, (σ.2.1, ((σ.2.2.1.1, (σ.2.2.1.2.1, ((τ.2.1.1), σ.2.2.1.2.2.2))), σ.2.2.2))).2.1, (((σ.1, (σ.2.1, ((σ.2.2.1.1, (σ.2.2.1.2.1, ((τ.2.1.1), σ.2.2.1.2.2.2))), σ.2.2.2))).2.2.1.1, ((σ.1, (σ.2.1, ((σ.2.2.1.1, (σ.2.2.1.2.1, ((τ.2.1.1), σ.2.2.1.2.2.2))), σ.2.2.2))).2.2.1.2.1, ((σ.1, (σ.2.1, ((σ.2.2.1.1, (σ.2.2.1.2.1, ((τ.2.1.1), σ.2.2.1.2.2.2))), σ.2.2.2))).2.2.1.2.2.1, (τ.2.1.2)))), (σ.1, (σ.2.1, ((σ.2.2.1.1, (σ.2.2.1.2.1, ((τ.2.1.1), σ.2.2.1.2.2.2))), σ.2.2.2))).2.2.2))).1, (((σ.1, (σ.2.1, ((σ.2.2.1.1, (σ.2.2.1.2.1, ((τ.2.1.1), σ.2.2.1.2.2.2))), σ.2.2.2))).1, ((σ.1, (σ.2.1, ((σ.2.2.1.1, (σ.2.2.1.2.1, ((τ.2.1.1), σ.2.2.1.2.2.2))), σ.2.2.2))).2.1, (((σ.1, (σ.2.1, ((σ.2.2.1.1, (σ.2.2.1.2.1, ((τ.2.1.1), σ.2.2.1.2.2.2))), σ.2.2.2))).2.2.1.1, ((σ.1, (σ.2.1, ((σ.2.2.1.1, (σ.2.2.1.2.1, ((τ.2.1.1), σ.2.2.1.2.2.2))), σ.2.2.2))).2.2.1.2.1, ((σ.1, (σ.2.1, ((σ.2.2.1.1, (σ.2.2.1.2.1, ((τ.2.1.1), σ.2.2.1.2.2.2))), σ.2.2.2))).2.2.1.2.2.1, (τ.2.1.2)))), (σ.1, (σ.2.1, ((σ.2.2.1.1, (σ.2.2.1.2.1, ((τ.2.1.1), σ.2.2.1.2.2.2))), σ.2.2.2))).2.2.2))).2.1, (((σ.1, (σ.2.1, ((σ.2.2.1.1, (σ.2.2.1.2.1, ((τ.2.1.1), σ.2.2.1.2.2.2))), σ.2.2.2))).1, ((σ.1, (σ.2.1, ((σ.2.2.1.1, (σ.2.2.1.2.1, ((τ.2.1.1), σ.2.2.1.2.2.2))), σ.2.2.2))).2.1, (((σ.1, (σ.2.1, ((σ.2.2.1.1, (σ.2.2.1.2.1, ((τ.2.1.1), σ.2.2.1.2.2.2))), σ.2.2.2))).2.2.1.1, ((σ.1, (σ.2.1, ((σ.2.2.1.1, (σ.2.2.1.2.1, ((τ.2.1.1), σ.2.2.1.2.2.2))), σ.2.2.2))).2.2.1.2.1, ((σ.1, (σ.2.1, ((σ.2.2.1.1, (σ.2.2.1.2.1, ((τ.2.1.1), σ.2.2.1.2.2.2))), σ.2.2.2))).2.2.1.2.2.1, (τ.2.1.2)))), (σ.1, (σ.2.1, ((σ.2.2.1.1, (σ.2.2.1.2.1, ((τ.2.1.1), σ.2.2.1.2.2.2))), σ.2.2.2))).2.2.2))).2.2.1, (((σ.1, (σ.2.1, ((σ.2.2.1.1, (σ.2.2.1.2.1, ((τ.2.1.1), σ.2.2.1.2.2.2))), σ.2.2.2))).1, ((σ.1, (σ.2.1, ((σ.2.2.1.1, (σ.2.2.1.2.1, ((τ.2.1.1), σ.2.2.1.2.2.2))), σ.2.2.2))).2.1, (((σ.1, (σ.2.1, ((σ.2.2.1.1, (σ.2.2.1.2.1, ((τ.2.1.1), σ.2.2.1.2.2.2))), σ.2.2.2))).2.2.1.1, ((σ.1, (σ.2.1, ((σ.2.2.1.1, (σ.2.2.1.2.1, ((τ.2.1.1), σ.2.2.1.2.2.2))), σ.2.2.2))).2.2.1.2.1, ((σ.1, (σ.2.1, ((σ.2.2.1.1, (σ.2.2.1.2.1, ((τ.2.1.1), σ.2.2.1.2.2.2))), σ.2.2.2))).2.2.1.2.2.1, (τ.2.1.2)))), (σ.1, (σ.2.1, ((σ.2.2.1.1, (σ.2.2.1.2.1, ((τ.2.1.1), σ.2.2.1.2.2.2))), σ.2.2.2))).2.2.2))).2.2.2.1, (((σ.1, (σ.2.1, ((σ.2.2.1.1, (σ.2.2.1.2.1, ((τ.2.1.1), σ.2.2.1.2.2.2))), σ.2.2.2))).1, ((σ.1, (σ.2.1, ((σ.2.2.1.1, (σ.2.2.1.2.1, ((τ.2.1.1), σ.2.2.1.2.2.2))), σ.2.2.2))).2.1, (((σ.1, (σ.2.1, ((σ.2.2.1.1, (σ.2.2.1.2.1, ((τ.2.1.1), σ.2.2.1.2.2.2))), σ.2.2.2))).2.2.1.1, ((σ.1, (σ.2.1, ((σ.2.2.1.1, (σ.2.2.1.2.1, ((τ.2.1.1), σ.2.2.1.2.2.2))), σ.2.2.2))).2.2.1.2.1, ((σ.1, (σ.2.1, ((σ.2.2.1.1, (σ.2.2.1.2.1, ((τ.2.1.1), σ.2.2.1.2.2.2))), σ.2.2.2))).2.2.1.2.2.1, (τ.2.1.2)))), (σ.1, (σ.2.1, ((σ.2.2.1.1, (σ.2.2.1.2.1, ((τ.2.1.1), σ.2.2.1.2.2.2))), σ.2.2.2))).2.2.2))).2.2.2.2.1, ((fun i => if i = j1 then (τ.2.2) else ((σ.1, (σ.2.1, ((σ.2.2.1.1, (σ.2.2.1.2.1, ((τ.2.1.1), σ.2.2.1.2.2.2))), σ.2.2.2))).1, ((σ.1, (σ.2.1, ((σ.2.2.1.1, (σ.2.2.1.2.1, ((τ.2.1.1), σ.2.2.1.2.2.2))), σ.2.2.2))).2.1, (((σ.1, (σ.2.1, ((σ.2.2.1.1, (σ.2.2.1.2.1, ((τ.2.1.1), σ.2.2.1.2.2.2))), σ.2.2.2))).2.2.1.1, ((σ.1, (σ.2.1, ((σ.2.2.1.1, (σ.2.2.1.2.1, ((τ.2.1.1), σ.2.2.1.2.2.2))), σ.2.2.2))).2.2.1.2.1, ((σ.1, (σ.2.1, ((σ.2.2.1.1, (σ.2.2.1.2.1, ((τ.2.1.1), σ.2.2.1.2.2.2))), σ.2.2.2))).2.2.1.2.2.1, (τ.2.1.2)))), (σ.1, (σ.2.1, ((σ.2.2.1.1, (σ.2.2.1.2.1, ((τ.2.1.1), σ.2.2.1.2.2.2))), σ.2.2.2))).2.2.2))).2.2.2.2.2.1 i), ((σ.1, (σ.2.1, ((σ.2.2.1.1, (σ.2.2.1.2.1, ((τ.2.1.1), σ.2.2.1.2.2.2))), σ.2.2.2))).1, ((σ.1, (σ.2.1, ((σ.2.2.1.1, (σ.2.2.1.2.1, ((τ.2.1.1), σ.2.2.1.2.2.2))), σ.2.2.2))).2.1, (((σ.1, (σ.2.1, ((σ.2.2.1.1, (σ.2.2.1.2.1, ((τ.2.1.1), σ.2.2.1.2.2.2))), σ.2.2.2))).2.2.1.1, ((σ.1, (σ.2.1, ((σ.2.2.1.1, (σ.2.2.1.2.1, ((τ.2.1.1), σ.2.2.1.2.2.2))), σ.2.2.2))).2.2.1.2.1, ((σ.1, (σ.2.1, ((σ.2.2.1.1, (σ.2.2.1.2.1, ((τ.2.1.1), σ.2.2.1.2.2.2))), σ.2.2.2))).2.2.1.2.2.1, (τ.2.1.2)))), (σ.1, (σ.2.1, ((σ.2.2.1.1, (σ.2.2.1.2.1, ((τ.2.1.1), σ.2.2.1.2.2.2))), σ.2.2.2))).2.2.2))).2.2.2.2.2.2))))))).flatten H1 := by rw [← ee]; exact h
  exact ⟨hz, nd_Da hD dA_X11⟩
def ow_dm_X5_exec : List Cond := Cond.code yX5_exec cX5_exec 4 (some .long) :: ([Cond.constantLong RX5 230 (-2), Cond.fieldLink RX5 18 "TimeMachine$Kernel" "machine" "LTimeMachine$Machine;", Cond.methodLink RX5 232 yX6_framesFree, Cond.instanceMethod yX6_framesFree, Cond.selects RX6 yX6_framesFree yX6_framesFree, Cond.initialized RX6, Cond.methodLink RX5 235 yX6_pagesFor, Cond.static yX6_pagesFor, Cond.methodLink RX5 239 yX6_dropPages, Cond.instanceMethod yX6_dropPages, Cond.selects RX6 yX6_dropPages yX6_dropPages, Cond.methodLink RX5 242 yX6_load, Cond.instanceMethod yX6_load, Cond.selects RX6 yX6_load yX6_load, Cond.constantLong RX5 159 (2199023255552), Cond.constantLong RX5 228 (-4), Cond.fieldLink RX5 47 "TimeMachine$Kernel" "programs" "[LTimeMachine$Program;"] ++ (u_ws RX5 TX5 8 ++ (ow_dm_X6_framesFree ++ (ow_dm_X6_pagesFor ++ (ow_dm_X6_dropPages ++ (ow_dm_X6_load ++ []))))))
theorem gd_dm_X5_exec : ∀ w ∈ ow_dm_X5_exec, (w.onTables && w.keeps) = true ∨ ∃ ty, w = Cond.arrayClass ty := List.forall_mem_cons.mpr ⟨good_of_word rfl, List.forall_mem_append.mpr ⟨fun w h => good_of_word (List.all_eq_true.mp (by decide +kernel) w h), List.forall_mem_append.mpr ⟨gu_X5, List.forall_mem_append.mpr ⟨gd_dm_X6_framesFree, List.forall_mem_append.mpr ⟨gd_dm_X6_pagesFor, List.forall_mem_append.mpr ⟨gd_dm_X6_dropPages, List.forall_mem_append.mpr ⟨gd_dm_X6_load, fun _ h => nomatch h⟩⟩⟩⟩⟩⟩⟩
theorem hi_dm_X5_exec_X5 : ∀ w ∈ u_ws RX5 TX5 8, w ∈ ow_dm_X5_exec := fun w h => List.mem_cons_of_mem _ (List.mem_append_right _ (List.mem_append_left _ h))
theorem gi_dm_X5_exec_0 : GoodIn ow_dm_X5_exec (wsV RX5 232 RX6 yX6_framesFree ow_dm_X6_framesFree) := goodIn_app (goodIn_of _ (by decide +kernel)) (fun w h => ⟨List.mem_cons_of_mem _ (List.mem_append_right _ (List.mem_append_right _ (List.mem_append_left _ h))), gd_dm_X6_framesFree w h⟩)
theorem gi_dm_X5_exec_1 : GoodIn ow_dm_X5_exec (va_wsS RX5 235 yX6_pagesFor ow_dm_X6_pagesFor) := goodIn_app (goodIn_of _ (by decide +kernel)) (fun w h => ⟨List.mem_cons_of_mem _ (List.mem_append_right _ (List.mem_append_right _ (List.mem_append_right _ (List.mem_append_left _ h)))), gd_dm_X6_pagesFor w h⟩)
theorem gi_dm_X5_exec_2 : GoodIn ow_dm_X5_exec (wsV RX5 239 RX6 yX6_dropPages ow_dm_X6_dropPages) := goodIn_app (goodIn_of _ (by decide +kernel)) (fun w h => ⟨List.mem_cons_of_mem _ (List.mem_append_right _ (List.mem_append_right _ (List.mem_append_right _ (List.mem_append_right _ (List.mem_append_left _ h))))), gd_dm_X6_dropPages w h⟩)
theorem gi_dm_X5_exec_3 : GoodIn ow_dm_X5_exec (wsV RX5 242 RX6 yX6_load ow_dm_X6_load) := goodIn_app (goodIn_of _ (by decide +kernel)) (fun w h => ⟨List.mem_cons_of_mem _ (List.mem_append_right _ (List.mem_append_right _ (List.mem_append_right _ (List.mem_append_right _ (List.mem_append_right _ (List.mem_append_left _ h)))))), gd_dm_X6_load w h⟩)
def dj_X5_exec_23 (p : Program) (l : Launch) (e : Env) (s : State) (m : MethodId) (args : Array Value) (below : List Frame) (meth : Method) (c : Code) (Q : State → Prop) (A : Nat → Prop) (dC : Nat → ClassId) (dI : Nat → Nat → Nat) (a : Nat → Nat) (ac : Nat → ClassId) (g : Int32 → Option Nat → (St × Rw × (St × (St × (St × (St)))) × (St) × (St) × (Nat → St) × (Nat → St) × (Nat → St × (St))) → Option (Int64 × (St × Rw × (St × (St × (St × (St)))) × (St) × (St) × (Nat → St) × (Nat → St) × (Nat → St × (St))))) (r : Int64 × (St × Rw × (St × (St × (St × (St)))) × (St) × (St) × (Nat → St) × (Nat → St) × (Nat → St × (St)))) : Prop := ∀ (x1 : Int32) (y0 : Option Nat) (s0 : St × Rw × (St × (St × (St × (St)))) × (St) × (St) × (Nat → St) × (Nat → St) × (Nat → St × (St))) (H : Heap) (locs : List Loc) (ls : Array Slot), g x1 y0 s0 = some r → va_P (dC, dI) vwCl (dw_X11 a ac s0) H → va_D A (dw_X11 a ac s0) → va_S A s.heap H locs → lv_has ls 4 [(0, .ref (a 3)), (1, .int x1)] → W p l e (headSpec ow_dm_X5_exec ({ frames := 2, cells := 0, slots := 0, locals := 50 })).room s m args below meth c H locs 0 0 Q (F0 m 23 ls [va_rf (Option.map (fun j => a (0 + j * 5 + 41)) y0)])
def dj_X5_exec_13 (p : Program) (l : Launch) (e : Env) (s : State) (m : MethodId) (args : Array Value) (below : List Frame) (meth : Method) (c : Code) (Q : State → Prop) (A : Nat → Prop) (dC : Nat → ClassId) (dI : Nat → Nat → Nat) (a : Nat → Nat) (ac : Nat → ClassId) (g : Int32 → (St × Rw × (St × (St × (St × (St)))) × (St) × (St) × (Nat → St) × (Nat → St) × (Nat → St × (St))) → Option (Int64 × (St × Rw × (St × (St × (St × (St)))) × (St) × (St) × (Nat → St) × (Nat → St) × (Nat → St × (St))))) (r : Int64 × (St × Rw × (St × (St × (St × (St)))) × (St) × (St) × (Nat → St) × (Nat → St) × (Nat → St × (St)))) : Prop := ∀ (x1 : Int32) (s0 : St × Rw × (St × (St × (St × (St)))) × (St) × (St) × (Nat → St) × (Nat → St) × (Nat → St × (St))) (H : Heap) (locs : List Loc) (ls : Array Slot), g x1 s0 = some r → va_P (dC, dI) vwCl (dw_X11 a ac s0) H → va_D A (dw_X11 a ac s0) → va_S A s.heap H locs → lv_has ls 4 [(0, .ref (a 3)), (1, .int x1)] → W p l e (headSpec ow_dm_X5_exec ({ frames := 2, cells := 0, slots := 0, locals := 50 })).room s m args below meth c H locs 0 0 Q (F0 m 13 ls [])
def dj_X5_exec_0 (p : Program) (l : Launch) (e : Env) (s : State) (m : MethodId) (args : Array Value) (below : List Frame) (meth : Method) (c : Code) (Q : State → Prop) (A : Nat → Prop) (dC : Nat → ClassId) (dI : Nat → Nat → Nat) (a : Nat → Nat) (ac : Nat → ClassId) (g : Int32 → Int32 → (St × Rw × (St × (St × (St × (St)))) × (St) × (St) × (Nat → St) × (Nat → St) × (Nat → St × (St))) → Option (Int64 × (St × Rw × (St × (St × (St × (St)))) × (St) × (St) × (Nat → St) × (Nat → St) × (Nat → St × (St))))) (r : Int64 × (St × Rw × (St × (St × (St × (St)))) × (St) × (St) × (Nat → St) × (Nat → St) × (Nat → St × (St)))) : Prop := ∀ (v0 : Int32) (v1 : Int32) (s0 : St × Rw × (St × (St × (St × (St)))) × (St) × (St) × (Nat → St) × (Nat → St) × (Nat → St × (St))) (H : Heap) (locs : List Loc) (ls : Array Slot), g v0 v1 s0 = some r → va_P (dC, dI) vwCl (dw_X11 a ac s0) H → va_D A (dw_X11 a ac s0) → va_S A s.heap H locs → lv_has ls 4 [(0, .ref (a 3)), (1, .int v0), (2, .int v1)] → W p l e (headSpec ow_dm_X5_exec ({ frames := 2, cells := 0, slots := 0, locals := 50 })).room s m args below meth c H locs 0 0 Q (F0 m 0 ls [])
set_option maxHeartbeats 40000000 in
set_option maxRecDepth 100000 in
theorem db_X5_exec_23 {p : Program} {l : Launch} {e : Env} {s : State} {m : MethodId} {args : Array Value} {below : List Frame} {meth : Method} {c : Code} {Q : State → Prop} {A : Nat → Prop} {dC : Nat → ClassId} {dI : Nat → Nat → Nat} {a : Nat → Nat} {ac : Nat → ClassId} {n : Nat} {r : Int64 × (St × Rw × (St × (St × (St × (St)))) × (St) × (St) × (Nat → St) × (Nat → St) × (Nat → St × (St)))} (C : nd_C p l s m args c A (dC, dI) cX5_exec 4 RX5 ow_dm_X5_exec (dk_X11 ac)) (K : nd_Kl p l e (headSpec ow_dm_X5_exec ({ frames := 2, cells := 0, slots := 0, locals := 50 })).room s m args below meth c Q A (dC, dI) cX5_exec (St × Rw × (St × (St × (St × (St)))) × (St) × (St) × (Nat → St) × (Nat → St) × (Nat → St × (St))) (dw_X11 a ac) r) : dj_X5_exec_23 p l e s m args below meth c Q A dC dI a ac (df_X5_exec_23 n) r := by
  obtain ⟨hlt, hx, hb, hml, hown, hts, hN, hA, hK⟩ := id C
  intro x1 y0 s0 H locs ls h hP hD hS hl
  unfold df_X5_exec_23 at h
  cases hrj2 : y0 with
  | none =>
    subst hrj2
    have h := nd_mN h rfl
    have hl : lv_has ls 4 [(0, .ref (a 3)), (1, .int x1)] := hl
    refine W.eq (g2 := F0 m 23 ls [.null]) rfl ?_
    refine lv_astore_nN (lv' := [(3, .null), (0, .ref (a 3)), (1, .int x1)]) hx hb dX5_exec_23 rfl hl (by decide) rfl (fun ls hl => ?_)
    refine lv_aload_nN hx hb dX5_exec_24 rfl (lv_at hl 0 rfl) ?_
    refine lv_ifnonnullN hx hb dX5_exec_25 ?_
    refine lv_ldc2 hx hb hown (hts (.constantLong RX5 230 (-2)) (List.mem_of_getElem? (i := 1) rfl)) dX5_exec_28 ?_
    exact K _ _ _ _ _ _ dX5_exec_31 (Option.some.inj h).symm hP hD hS
  | some j2 =>
    subst hrj2
    have h := nd_mS h rfl
    have hl : lv_has ls 4 [(0, .ref (a 3)), (1, .int x1)] := hl
    refine W.eq (g2 := F0 m 23 ls [.ref (a (0 + j2 * 5 + 41))]) rfl ?_
    refine lv_astore_n (lv' := [(3, .ref (a (0 + j2 * 5 + 41))), (0, .ref (a 3)), (1, .int x1)]) hx hb dX5_exec_23 rfl hl (by decide) rfl (fun ls hl => ?_)
    refine lv_aload_n hx hb dX5_exec_24 rfl (lv_at hl 0 rfl) ?_
    refine lv_ifnonnull (tgt := 32) hx hb dX5_exec_25 (by decide) ?_
    refine lv_aload_n hx hb dX5_exec_32 rfl (lv_at hl 1 rfl) ?_
    refine va_get (D := (dC, dI)) (ci := 6) (v := .ref (a 7)) (C := RX5) (T := TX5) (N := 8) hx hb hts hi_dm_X5_exec_X5 hown hK hP 3 rfl rfl 0 (by decide) (hts (.fieldLink RX5 18 "TimeMachine$Kernel" "machine" "LTimeMachine$Machine;") (List.mem_of_getElem? (i := 2) rfl)) (fun _ h9 => h9) rfl dX5_exec_33 ?_
    obtain ⟨q3, s4, hq, h⟩ := nd_b2_e h
    have hPc := dp_wX11_X6_0 hP
    have hDc := dd_wX11_X6_0 hD
    have hKc := dy_wX11_X6_0 hK
    have hFc := nd_rs hDc hS hA
    have hzA : ∀ q : Nat, H.size ≤ q → A q := fun q h => hA q (Nat.le_trans hS.1 h)
    refine nd_cVi (As := []) (rest := []) (q := q3) (w' := dw_X6 (fun k => a (k + 7)) (fun k => ac (k + 7)) s4) ⟨hx, hb, hml, hown, hts⟩ (fun sz => dm_X6_framesFree l hlt dC dI (fun k => a (k + 7)) (fun k => ac (k + 7)) n  s0.2.2.1.2.2 hq sz) (cwV 0 hts gi_dm_X5_exec_0 rfl rfl rfl (by decide +kernel) ⟨Nat.le_of_ble_eq_true rfl, Nat.le_of_ble_eq_true rfl⟩) hPc hDc hKc hS hA hN (va_recv hKc hPc (ci := 7) (q0 := 0) rfl rfl) rfl hl.1 rfl (Nat.le_of_ble_eq_true rfl) dX5_exec_36 (fun H locs hP1 hD1 hk1 hS => ?_)
    obtain ⟨hP, hD⟩ := dn_wX11_X6_0 hP hD hzA hk1 hP1 hD1
    obtain ⟨s6, es6, h⟩ := nd_let_e h
    have hP : va_P (dC, dI) vwCl (dw_X11 a ac s6) H := by rw [es6]; exact hP
    have hD : va_D A (dw_X11 a ac s6) := by rw [es6]; exact hD
    refine lv_aload_n hx hb dX5_exec_39 rfl (lv_at hl 0 rfl) ?_
    obtain ⟨l7, h⟩ := nd_lt_e h
    obtain ⟨q8, s9, hq, h⟩ := nd_b2_e h
    have hPc := dp_wX11_X8_3 l7 hP
    have hDc := dd_wX11_X8_3 l7 hD
    have hKc := dy_wX11_X8_3 l7 hK
    have hFc := nd_rs hDc hS hA
    have hzA : ∀ q : Nat, H.size ≤ q → A q := fun q h => hA q (Nat.le_trans hS.1 h)
    refine nd_cSi (As := [.ref (a (0 + j2 * 5 + 41))]) (rest := [.int q3]) (q := q8) (w' := dw_X8 (fun k => a (k + j2 * 5 + 41)) (fun k => ac (k + j2 * 5 + 41)) s9) ⟨hx, hb, hml, hown, hts⟩ (fun sz => dm_X6_pagesFor l hlt dC dI (fun k => a (k + j2 * 5 + 41)) (fun k => ac (k + j2 * 5 + 41)) n  (s6.2.2.2.2.2.1 j2) hq sz) (va_cwS 1 hts gi_dm_X5_exec_1 rfl rfl rfl (by decide +kernel) ⟨Nat.le_of_ble_eq_true rfl, Nat.le_of_ble_eq_true rfl⟩) hPc hDc hKc hS hA hN rfl hl.1 rfl (Nat.le_of_ble_eq_true rfl) dX5_exec_40 (fun H locs hP1 hD1 hk1 hS => ?_)
    obtain ⟨hP, hD⟩ := dn_wX11_X8_3 l7 hP hD hzA hk1 hP1 hD1
    obtain ⟨s11, es11, h⟩ := nd_let_e h
    have hP : va_P (dC, dI) vwCl (dw_X11 a ac s11) H := by rw [es11]; exact hP
    have hD : va_D A (dw_X11 a ac s11) := by rw [es11]; exact hD
    refine lv_icmp_ge (tgt := 50) hx hb dX5_exec_43 (by decide) (fun c12 => ?_) (fun c12 => ?_)
    · have h := nd_pos h c12
      refine lv_aload_n hx hb dX5_exec_50 rfl (lv_at hl 1 rfl) ?_
      refine va_get (D := (dC, dI)) (ci := 6) (v := .ref (a 7)) (C := RX5) (T := TX5) (N := 8) hx hb hts hi_dm_X5_exec_X5 hown hK hP 3 rfl rfl 0 (by decide) (hts (.fieldLink RX5 18 "TimeMachine$Kernel" "machine" "LTimeMachine$Machine;") (List.mem_of_getElem? (i := 2) rfl)) (fun _ h9 => h9) rfl dX5_exec_51 ?_
      refine lv_iload_n hx hb dX5_exec_54 rfl (lv_at hl 2 rfl) ?_
      obtain ⟨s14, hq, h⟩ := nd_b1_e h
      have hPc := dp_wX11_X6_0 hP
      have hDc := dd_wX11_X6_0 hD
      have hKc := dy_wX11_X6_0 hK
      have hFc := nd_rs hDc hS hA
      have hzA : ∀ q : Nat, H.size ≤ q → A q := fun q h => hA q (Nat.le_trans hS.1 h)
      refine nd_cVv (As := [.int x1]) (rest := []) (w' := dw_X6 (fun k => a (k + 7)) (fun k => ac (k + 7)) s14) ⟨hx, hb, hml, hown, hts⟩ (fun sz => dm_X6_dropPages l hlt dC dI (fun k => a (k + 7)) (fun k => ac (k + 7)) n (x1) s11.2.2.1.2.2 hq sz) (cwV 1 hts gi_dm_X5_exec_2 rfl rfl rfl (by decide +kernel) ⟨Nat.le_of_ble_eq_true rfl, Nat.le_of_ble_eq_true rfl⟩) hPc hDc hKc hS hA hN (va_recv hKc hPc (ci := 7) (q0 := 0) rfl rfl) rfl hl.1 rfl (Nat.le_of_ble_eq_true rfl) dX5_exec_55 (fun H locs hP1 hD1 hk1 hS => ?_)
      obtain ⟨hP, hD⟩ := dn_wX11_X6_0 hP hD hzA hk1 hP1 hD1
      obtain ⟨s16, es16, h⟩ := nd_let_e h
      have hP : va_P (dC, dI) vwCl (dw_X11 a ac s16) H := by rw [es16]; exact hP
      have hD : va_D A (dw_X11 a ac s16) := by rw [es16]; exact hD
      refine lv_aload_n hx hb dX5_exec_58 rfl (lv_at hl 1 rfl) ?_
      refine va_get (D := (dC, dI)) (ci := 6) (v := .ref (a 7)) (C := RX5) (T := TX5) (N := 8) hx hb hts hi_dm_X5_exec_X5 hown hK hP 3 rfl rfl 0 (by decide) (hts (.fieldLink RX5 18 "TimeMachine$Kernel" "machine" "LTimeMachine$Machine;") (List.mem_of_getElem? (i := 2) rfl)) (fun _ h9 => h9) rfl dX5_exec_59 ?_
      refine lv_iload_n hx hb dX5_exec_62 rfl (lv_at hl 2 rfl) ?_
      refine lv_aload_n hx hb dX5_exec_63 rfl (lv_at hl 0 rfl) ?_
      obtain ⟨s18, hq, h⟩ := nd_b1_e h
      have hPc := dp_wX11_X6p_4 l7 hP
      have hDc := dd_wX11_X6p_4 l7 hD
      have hKc := dy_wX11_X6p_4 l7 hK
      have hFc := nd_rs hDc hS hA
      have hzA : ∀ q : Nat, H.size ≤ q → A q := fun q h => hA q (Nat.le_trans hS.1 h)
      refine nd_cVv (As := [.int x1, .ref (a (0 + j2 * 5 + 41))]) (rest := []) (w' := dw_X6p (fun k => a (if k < 20 then k - 0 + 7 else k - 20 + j2 * 5 + 41)) (fun k => ac (if k < 20 then k - 0 + 7 else k - 20 + j2 * 5 + 41)) s18) ⟨hx, hb, hml, hown, hts⟩ (fun sz => dm_X6_load l hlt dC dI (fun k => a (if k < 20 then k - 0 + 7 else k - 20 + j2 * 5 + 41)) (fun k => ac (if k < 20 then k - 0 + 7 else k - 20 + j2 * 5 + 41)) n (x1) (nd_st0, s16.2.2.1.2.2, (s16.2.2.2.2.2.1 j2)) hq sz) (cwV 2 hts gi_dm_X5_exec_3 rfl rfl rfl (by decide +kernel) ⟨Nat.le_of_ble_eq_true rfl, Nat.le_of_ble_eq_true rfl⟩) hPc hDc hKc hS hA hN (va_recv hKc hPc (ci := 7) (q0 := 0) rfl rfl) rfl hl.1 rfl (Nat.le_of_ble_eq_true rfl) dX5_exec_64 (fun H locs hP1 hD1 hk1 hS => ?_)
      obtain ⟨hP, hD⟩ := dn_wX11_X6p_4 l7 hP hD hzA hk1 hP1 hD1
      obtain ⟨s20, es20, h⟩ := nd_let_e h
      have hP : va_P (dC, dI) vwCl (dw_X11 a ac s20) H := by rw [es20]; exact hP
      have hD : va_D A (dw_X11 a ac s20) := by rw [es20]; exact hD
      refine lv_ldc2 hx hb hown (hts (.constantLong RX5 159 (2199023255552)) (List.mem_of_getElem? (i := 15) rfl)) dX5_exec_67 ?_
      exact K _ _ _ _ _ _ dX5_exec_70 (Option.some.inj h).symm hP hD hS
    · have h := nd_neg h c12
      refine lv_ldc2 hx hb hown (hts (.constantLong RX5 228 (-4)) (List.mem_of_getElem? (i := 16) rfl)) dX5_exec_46 ?_
      exact K _ _ _ _ _ _ dX5_exec_49 (Option.some.inj h).symm hP hD hS
set_option maxHeartbeats 40000000 in
set_option maxRecDepth 100000 in
theorem db_X5_exec_13 {p : Program} {l : Launch} {e : Env} {s : State} {m : MethodId} {args : Array Value} {below : List Frame} {meth : Method} {c : Code} {Q : State → Prop} {A : Nat → Prop} {dC : Nat → ClassId} {dI : Nat → Nat → Nat} {a : Nat → Nat} {ac : Nat → ClassId} {n : Nat} {r : Int64 × (St × Rw × (St × (St × (St × (St)))) × (St) × (St) × (Nat → St) × (Nat → St) × (Nat → St × (St)))} (C : nd_C p l s m args c A (dC, dI) cX5_exec 4 RX5 ow_dm_X5_exec (dk_X11 ac)) (K : nd_Kl p l e (headSpec ow_dm_X5_exec ({ frames := 2, cells := 0, slots := 0, locals := 50 })).room s m args below meth c Q A (dC, dI) cX5_exec (St × Rw × (St × (St × (St × (St)))) × (St) × (St) × (Nat → St) × (Nat → St) × (Nat → St × (St))) (dw_X11 a ac) r) : dj_X5_exec_13 p l e s m args below meth c Q A dC dI a ac (df_X5_exec_13 n) r := by
  obtain ⟨hlt, hx, hb, hml, hown, hts, hN, hA, hK⟩ := id C
  intro x1 s0 H locs ls h hP hD hS hl
  unfold df_X5_exec_13 at h
  refine lv_null hx hb dX5_exec_13 ?_
  refine lv_goto (tgt := 23) hx hb dX5_exec_14 (by decide) ?_
  exact (db_X5_exec_23 C K) (x1) (none) s0 _ _ _ h hP hD hS (lv_sub hl [0, 1] rfl)
set_option maxHeartbeats 40000000 in
set_option maxRecDepth 100000 in
theorem db_X5_exec_0 {p : Program} {l : Launch} {e : Env} {s : State} {m : MethodId} {args : Array Value} {below : List Frame} {meth : Method} {c : Code} {Q : State → Prop} {A : Nat → Prop} {dC : Nat → ClassId} {dI : Nat → Nat → Nat} {a : Nat → Nat} {ac : Nat → ClassId} {n : Nat} {r : Int64 × (St × Rw × (St × (St × (St × (St)))) × (St) × (St) × (Nat → St) × (Nat → St) × (Nat → St × (St)))} (C : nd_C p l s m args c A (dC, dI) cX5_exec 4 RX5 ow_dm_X5_exec (dk_X11 ac)) (K : nd_Kl p l e (headSpec ow_dm_X5_exec ({ frames := 2, cells := 0, slots := 0, locals := 50 })).room s m args below meth c Q A (dC, dI) cX5_exec (St × Rw × (St × (St × (St × (St)))) × (St) × (St) × (Nat → St) × (Nat → St) × (Nat → St × (St))) (dw_X11 a ac) r) : dj_X5_exec_0 p l e s m args below meth c Q A dC dI a ac (df_X5_exec_0 n) r := by
  obtain ⟨hlt, hx, hb, hml, hown, hts, hN, hA, hK⟩ := id C
  intro v0 v1 s0 H locs ls h hP hD hS hl
  unfold df_X5_exec_0 at h
  refine lv_iload_n hx hb dX5_exec_0 rfl (lv_at hl 2 rfl) ?_
  refine lv_if_lt (tgt := 13) hx hb dX5_exec_1 (by decide) (fun c1 => ?_) (fun c1 => ?_)
  · have h := nd_pos h c1
    exact (db_X5_exec_13 C K) (v0) s0 _ _ _ h hP hD hS (lv_sub hl [0, 1] rfl)
  · have h := nd_neg h c1
    refine lv_iload_n hx hb dX5_exec_4 rfl (lv_at hl 2 rfl) ?_
    refine lv_aload_n hx hb dX5_exec_5 rfl (lv_at hl 0 rfl) ?_
    by_cases o21 : sO s0.2.2.1.1 0 = some 34
    · have h := nd_pos h o21
      refine va_get (D := (dC, dI)) (ci := 6) (v := .ref (a 37)) (C := RX5) (T := TX5) (N := 8) hx hb hts hi_dm_X5_exec_X5 hown hK hP 3 rfl rfl 5 (by decide) (hts (.fieldLink RX5 47 "TimeMachine$Kernel" "programs" "[LTimeMachine$Program;") (List.mem_of_getElem? (i := 17) rfl)) (fun _ h9 => h9) (congrArg (fun z => some (va_rf (Option.map (fun k => a (k + 3)) z))) o21) dX5_exec_6 ?_
      refine va_alen (v := 4) hx hb hK hP 37 30 rfl rfl (show Int32.ofNat 4 = 4 by decide) dX5_exec_9 ?_
      refine lv_icmp_lt (tgt := 17) hx hb dX5_exec_10 (by decide) (fun c22 => ?_) (fun c22 => ?_)
      · have h := nd_pos h c22
        refine lv_aload_n hx hb dX5_exec_17 rfl (lv_at hl 0 rfl) ?_
        refine va_get (D := (dC, dI)) (ci := 6) (v := .ref (a 37)) (C := RX5) (T := TX5) (N := 8) hx hb hts hi_dm_X5_exec_X5 hown hK hP 3 rfl rfl 5 (by decide) (hts (.fieldLink RX5 47 "TimeMachine$Kernel" "programs" "[LTimeMachine$Program;") (List.mem_of_getElem? (i := 17) rfl)) (fun _ h9 => h9) (congrArg (fun z => some (va_rf (Option.map (fun k => a (k + 3)) z))) o21) dX5_exec_18 ?_
        refine lv_iload_n hx hb dX5_exec_21 rfl (lv_at hl 2 rfl) ?_
        obtain ⟨i23, h⟩ := nd_ck_e h
        refine va_aldq (i := v1) hx hb hK hP 37 30 rfl rfl i23 dX5_exec_22 ?_
        cases hrj24 : s0.2.1 0 (Int32.toNatClampNeg v1) with
        | none =>
          have h := nd_mN h hrj24
          refine W.eq (g2 := F0 m 23 ls [.null]) (by first | rfl | (show F0 m _ ls (va_rf (Option.map (fun j => a (0 + j * 5 + 41)) (s0.2.1 0 (Int32.toNatClampNeg v1))) :: _) = _; rw [hrj24]; rfl)) ?_
          exact (db_X5_exec_23 C K) (v0) (none) s0 _ _ _ h hP hD hS (lv_sub hl [0, 1] rfl)
        | some j24 =>
          have h := nd_mS h hrj24
          refine W.eq (g2 := F0 m 23 ls [.ref (a (0 + j24 * 5 + 41))]) (by first | rfl | (show F0 m _ ls (va_rf (Option.map (fun j => a (0 + j * 5 + 41)) (s0.2.1 0 (Int32.toNatClampNeg v1))) :: _) = _; rw [hrj24]; rfl)) ?_
          exact (db_X5_exec_23 C K) (v0) (some j24) s0 _ _ _ h hP hD hS (lv_sub hl [0, 1] rfl)
      · have h := nd_neg h c22
        exact (db_X5_exec_13 C K) (v0) s0 _ _ _ h hP hD hS (lv_sub hl [0, 1] rfl)
    have h := nd_neg h o21
    exact nomatch h
set_option maxHeartbeats 40000000 in
set_option maxRecDepth 100000 in
theorem dm_X5_exec (l : Launch) (hlt : l.stackTraces = false) (dC : Nat → ClassId) (dI : Nat → Nat → Nat) (a : Nat → Nat) (ac : Nat → ClassId) (n : Nat) (v0 : Int32) (v1 : Int32) (s0 : St × Rw × (St × (St × (St × (St)))) × (St) × (St) × (Nat → St) × (Nat → St) × (Nat → St × (St))) {r : Int64 × (St × Rw × (St × (St × (St × (St)))) × (St) × (St) × (Nat → St) × (Nat → St) × (Nat → St × (St)))} (h : df_X5_exec n v0 v1 s0 = some r) (sz : Nat) : Met l yX5_exec ow_dm_X5_exec ({ frames := 2, cells := 0, slots := 0, locals := 50 }) (va_Pc [.ref (a 3), .int v0, .int v1] (fun U => U.heap.size = sz ∧ va_P (dC, dI) vwCl (dw_X11 a ac s0) U.heap ∧ va_K (dC, dI) vwCl (dk_X11 ac) U ∧ va_D (fun _ => True) (dw_X11 a ac s0) ∧ nv_E dI (va_A (dw_X11 a ac s0) sz) U)) (va_Ql (fun x _ => x = r.1) (fun (_ : Unit) t => va_P (dC, dI) vwCl (dw_X11 a ac r.2) t.heap ∧ va_K (dC, dI) vwCl (dk_X11 ac) t ∧ va_D (va_A (dw_X11 a ac s0) sz) (dw_X11 a ac r.2)) (va_A (dw_X11 a ac s0) sz)) 0 0 (va_A (dw_X11 a ac s0) sz) := by
  refine Met.ofW (cc := cX5_exec) (maxL := 4) (ret := (some .long)) (by decide) rfl ?_
  intro p e s m args below meth c s₁ B hml hv
  obtain ⟨rfl, hsz, hP, hK, hD0, hN⟩ := hv
  have hx := B.exec
  have hb := B.bytes
  have hr := B.returns
  have hts := atoms_spec (ws := ow_dm_X5_exec) B.pre
  have hown : s.vm.findClass RX5 = some m.cls := findClass_of_methodNamed B.named
  have hlocks := B.notSynchronized
  subst hsz
  have hD := hD0.self (sz := s.heap.size)
  generalize hAe : va_A (dw_X11 a ac s0) s.heap.size = A at hD hN ⊢
  have hA : ∀ q : Nat, s.heap.size ≤ q → A q := fun q h => by rw [← hAe]; exact Or.inr h
  have hl := lv_entry ([.ref (a 3), .int v0, .int v1]) (n := 4) (Nat.le_of_ble_eq_true rfl)
  rw [lg_entry_eq]
  generalize (lg_sl ([.ref (a 3), .int v0, .int v1]) ++ List.replicate (4 - (lg_sl ([.ref (a 3), .int v0, .int v1])).length) Slot.unset).toArray = ls at hl ⊢
  have hl : lv_has ls 4 [(0, .ref (a 3)), (1, .int v0), (2, .int v1)] := hl
  exact db_X5_exec_0 (dC := dC) (dI := dI) (a := a) (ac := ac) (n := n) (r := r) ⟨hlt, hx, hb, hml, hown, hts, hN, hA, hK⟩ (fun pc v τ H locs ls d er hP hD hS => by subst er; exact W.lret (v := v) hx hb hr (fun t ht hW => ⟨⟨v, (), rfl, rfl, by rw [ht]; exact hP, va_K.moved hW.alike hK, hD⟩, hS.F ht⟩) hS.2.2 d) v0 v1 s0 _ _ _ h hP hD va_S.rf (lv_sub hl [0, 1, 2] rfl)
set_option maxHeartbeats 40000000 in
set_option maxRecDepth 100000 in
theorem de_wX11_X5_2 {a : Nat → Nat} {ac : Nat → ClassId} {τ : St × (St × (St × (St)))} : ([dwo_X5 (fun k => a (k + 3)) (fun k => ac (k + 3)) (τ.1), dwo_X4 (fun k => a (k + 6)) (fun k => ac (k + 6)) (τ.2.1), dwo_X6 (fun k => a (k + 7)) (fun k => ac (k + 7)) (τ.2.2.1), dw_X10 (fun k => a (k + 17)) (fun k => ac (k + 17)) (τ.2.2.2)] : List va_W).flatten = dw_X5 (fun k => a (k + 3)) (fun k => ac (k + 3)) τ := by
  first
  | (simp only [List.flatten_cons, List.flatten_nil, List.append_nil]; done)
  | (simp only [List.flatten_cons, List.flatten_nil, List.append_nil]; rfl)
set_option maxHeartbeats 40000000 in
set_option maxRecDepth 100000 in
theorem dp_wX11_X5_2 {D : va_G} {H : Heap} {a : Nat → Nat} {ac : Nat → ClassId} {σ : St × Rw × (St × (St × (St × (St)))) × (St) × (St) × (Nat → St) × (Nat → St) × (Nat → St × (St))} (h : va_P D vwCl (dw_X11 a ac σ) H) : va_P D vwCl (dw_X5 (fun k => a (k + 3)) (fun k => ac (k + 3)) σ.2.2.1) H := by
  have h2 := nd_vp (segs := dg_X11 a ac σ) (ix := [1, 2, 3, 4]) (old := [dwo_X5 (fun k => a (k + 3)) (fun k => ac (k + 3)) (σ.2.2.1.1), dwo_X4 (fun k => a (k + 6)) (fun k => ac (k + 6)) (σ.2.2.1.2.1), dwo_X6 (fun k => a (k + 7)) (fun k => ac (k + 7)) (σ.2.2.1.2.2.1), dw_X10 (fun k => a (k + 17)) (fun k => ac (k + 17)) (σ.2.2.1.2.2.2)]) h (nd_co rfl (nd_co rfl (nd_co rfl (nd_co rfl rfl))))
  have e := de_wX11_X5_2 (a := a) (ac := ac) (τ := σ.2.2.1)
  exact e ▸ h2
set_option maxHeartbeats 40000000 in
set_option maxRecDepth 100000 in
theorem dd_wX11_X5_2 {A : Nat → Prop} {a : Nat → Nat} {ac : Nat → ClassId} {σ : St × Rw × (St × (St × (St × (St)))) × (St) × (St) × (Nat → St) × (Nat → St) × (Nat → St × (St))} (h : va_D A (dw_X11 a ac σ)) : va_D A (dw_X5 (fun k => a (k + 3)) (fun k => ac (k + 3)) σ.2.2.1) := by
  have h2 := nd_vd (segs := dg_X11 a ac σ) (ix := [1, 2, 3, 4]) (old := [dwo_X5 (fun k => a (k + 3)) (fun k => ac (k + 3)) (σ.2.2.1.1), dwo_X4 (fun k => a (k + 6)) (fun k => ac (k + 6)) (σ.2.2.1.2.1), dwo_X6 (fun k => a (k + 7)) (fun k => ac (k + 7)) (σ.2.2.1.2.2.1), dw_X10 (fun k => a (k + 17)) (fun k => ac (k + 17)) (σ.2.2.1.2.2.2)]) h (nd_co rfl (nd_co rfl (nd_co rfl (nd_co rfl rfl)))) (by decide)
  have e := de_wX11_X5_2 (a := a) (ac := ac) (τ := σ.2.2.1)
  exact e ▸ h2
set_option maxHeartbeats 40000000 in
set_option maxRecDepth 100000 in
theorem dy_wX11_X5_2 {D : va_G} {U : State} {ac : Nat → ClassId} (h : va_K D vwCl (dk_X11 ac) U) : va_K D vwCl (dk_X5 (fun k => ac (k + 3))) U := (h.sub [2, 3, 4, 5, 6, 7, 8, 9, 10, 11, 12, 13, 14, 15, 16, 17, 18, 19, 20, 21] rfl)
set_option maxHeartbeats 40000000 in
set_option maxRecDepth 100000 in
theorem dn_wX11_X5_2 {A0 : Nat → Prop} {D : va_G} {H H1 : Heap} {a : Nat → Nat} {ac : Nat → ClassId} {σ : St × Rw × (St × (St × (St × (St)))) × (St) × (St) × (Nat → St) × (Nat → St) × (Nat → St × (St))} {τ : St × (St × (St × (St)))} (hP : va_P D vwCl (dw_X11 a ac σ) H) (hD : va_D A0 (dw_X11 a ac σ)) (hA : ∀ q : Nat, H.size ≤ q → A0 q) (hk : ∀ q : Nat, q < H.size → ¬ va_A (dw_X5 (fun k => a (k + 3)) (fun k => ac (k + 3)) σ.2.2.1) H.size q → H1[q]? = H[q]?) (h1 : va_P D vwCl (dw_X5 (fun k => a (k + 3)) (fun k => ac (k + 3)) τ) H1) (h2 : va_D (va_A (dw_X5 (fun k => a (k + 3)) (fun k => ac (k + 3)) σ.2.2.1) H.size) (dw_X5 (fun k => a (k + 3)) (fun k => ac (k + 3)) τ)) : va_P D vwCl (dw_X11 a ac (σ.1, (σ.2.1, (τ, σ.2.2.2)))) H1 ∧ va_D A0 (dw_X11 a ac (σ.1, (σ.2.1, (τ, σ.2.2.2)))) := by
  have eo := de_wX11_X5_2 (a := a) (ac := ac) (τ := σ.2.2.1)
  have en := de_wX11_X5_2 (a := a) (ac := ac) (τ := τ)
  have h := nd_vn (segs := dg_X11 a ac σ) (ix := [1, 2, 3, 4]) (old := [dwo_X5 (fun k => a (k + 3)) (fun k => ac (k + 3)) (σ.2.2.1.1), dwo_X4 (fun k => a (k + 6)) (fun k => ac (k + 6)) (σ.2.2.1.2.1), dwo_X6 (fun k => a (k + 7)) (fun k => ac (k + 7)) (σ.2.2.1.2.2.1), dw_X10 (fun k => a (k + 17)) (fun k => ac (k + 17)) (σ.2.2.1.2.2.2)]) (new := [dwo_X5 (fun k => a (k + 3)) (fun k => ac (k + 3)) (τ.1), dwo_X4 (fun k => a (k + 6)) (fun k => ac (k + 6)) (τ.2.1), dwo_X6 (fun k => a (k + 7)) (fun k => ac (k + 7)) (τ.2.2.1), dw_X10 (fun k => a (k + 17)) (fun k => ac (k + 17)) (τ.2.2.2)]) hP hD (nd_co rfl (nd_co rfl (nd_co rfl (nd_co rfl rfl)))) rfl (fun q z y => hk q z (fun w => y (eo ▸ w))) (en ▸ h1)
  have ee : nd_sets (dg_X11 a ac σ) [1, 2, 3, 4] [dwo_X5 (fun k => a (k + 3)) (fun k => ac (k + 3)) (τ.1), dwo_X4 (fun k => a (k + 6)) (fun k => ac (k + 6)) (τ.2.1), dwo_X6 (fun k => a (k + 7)) (fun k => ac (k + 7)) (τ.2.2.1), dw_X10 (fun k => a (k + 17)) (fun k => ac (k + 17)) (τ.2.2.2)] = dg_X11 a ac (σ.1, (σ.2.1, (τ, σ.2.2.2))) := rfl
  have hz : va_P D vwCl (dg_X11 a ac (σ.1, (σ.2.1, (τ, σ.2.2.2)))).flatten H1 := by rw [← ee]; exact h
  exact ⟨hz, nd_Da hD dA_X11⟩
def ow_dm_X5_answerOf : List Cond := Cond.code yX5_answerOf cX5_answerOf 5 (some .long) :: ([Cond.methodLink RX5 115 yX5_argument, Cond.instanceMethod yX5_argument, Cond.selects RX5 yX5_argument yX5_argument, Cond.initialized RX5, Cond.fieldLink RX5 18 "TimeMachine$Kernel" "machine" "LTimeMachine$Machine;", Cond.methodLink RX5 89 yX6_finish, Cond.instanceMethod yX6_finish, Cond.selects RX6 yX6_finish yX6_finish, Cond.initialized RX6, Cond.constantLong RX5 159 (2199023255552), Cond.methodLink RX5 161 yX5_fork, Cond.instanceMethod yX5_fork, Cond.selects RX5 yX5_fork yX5_fork, Cond.methodLink RX5 164 yX5_exec, Cond.instanceMethod yX5_exec, Cond.selects RX5 yX5_exec yX5_exec, Cond.methodLink RX5 168 yX5_waitForChild, Cond.instanceMethod yX5_waitForChild, Cond.selects RX5 yX5_waitForChild yX5_waitForChild, Cond.methodLink RX5 171 yX5_pipe, Cond.instanceMethod yX5_pipe, Cond.selects RX5 yX5_pipe yX5_pipe, Cond.methodLink RX5 174 yX5_read, Cond.instanceMethod yX5_read, Cond.selects RX5 yX5_read yX5_read, Cond.methodLink RX5 178 yX5_write, Cond.instanceMethod yX5_write, Cond.selects RX5 yX5_write yX5_write, Cond.methodLink RX5 181 yX5_close, Cond.instanceMethod yX5_close, Cond.selects RX5 yX5_close yX5_close, Cond.methodLink RX5 184 yX5_duplicate, Cond.instanceMethod yX5_duplicate, Cond.selects RX5 yX5_duplicate yX5_duplicate, Cond.methodLink RX5 188 yX5_open, Cond.instanceMethod yX5_open, Cond.selects RX5 yX5_open yX5_open, Cond.methodLink RX5 191 yX5_unlink, Cond.instanceMethod yX5_unlink, Cond.selects RX5 yX5_unlink yX5_unlink, Cond.methodLink RX5 194 yX5_seek, Cond.instanceMethod yX5_seek, Cond.selects RX5 yX5_seek yX5_seek, Cond.methodLink RX5 197 yX5_rename, Cond.instanceMethod yX5_rename, Cond.selects RX5 yX5_rename yX5_rename, Cond.methodLink RX5 200 yX5_grow, Cond.instanceMethod yX5_grow, Cond.selects RX5 yX5_grow yX5_grow, Cond.methodLink RX5 203 yX6_nextReady, Cond.instanceMethod yX6_nextReady, Cond.selects RX6 yX6_nextReady yX6_nextReady, Cond.methodLink RX5 144 yX6_makeCurrent, Cond.instanceMethod yX6_makeCurrent, Cond.selects RX6 yX6_makeCurrent yX6_makeCurrent, Cond.methodLink RX5 206 yX5_signal, Cond.instanceMethod yX5_signal, Cond.selects RX5 yX5_signal yX5_signal, Cond.methodLink RX5 209 yX5_handle, Cond.instanceMethod yX5_handle, Cond.selects RX5 yX5_handle yX5_handle, Cond.methodLink RX5 212 yX5_back, Cond.instanceMethod yX5_back, Cond.selects RX5 yX5_back yX5_back, Cond.methodLink RX5 215 yX5_sleep, Cond.instanceMethod yX5_sleep, Cond.selects RX5 yX5_sleep yX5_sleep, Cond.fieldLink RX5 33 "TimeMachine$Kernel" "reg" "[I", Cond.fieldLink RX5 133 "TimeMachine$Machine" "clock" "J", Cond.methodLink RX5 108 yX5_mustWait, Cond.instanceMethod yX5_mustWait, Cond.selects RX5 yX5_mustWait yX5_mustWait, Cond.methodLink RX5 217 yX6_takeRandom, Cond.instanceMethod yX6_takeRandom, Cond.selects RX6 yX6_takeRandom yX6_takeRandom, Cond.constantLong RX5 157 (1099511627776), Cond.constantLong RX5 221 (-38)] ++ (u_ws RX5 TX5 8 ++ (u_ws RX6 TX6 20 ++ (ow_dm_X5_argument ++ (ow_dm_X6_finish ++ (ow_dm_X5_fork ++ (ow_dm_X5_exec ++ (ow_dm_X5_waitForChild ++ (ow_dm_X5_pipe ++ (ow_dm_X5_read ++ (ow_dm_X5_write ++ (ow_dm_X5_close ++ (ow_dm_X5_duplicate ++ (ow_dm_X5_open ++ (ow_dm_X5_unlink ++ (ow_dm_X5_seek ++ (ow_dm_X5_rename ++ (ow_dm_X5_grow ++ (ow_dm_X6_nextReady ++ (ow_dm_X6_makeCurrent ++ (ow_dm_X5_signal ++ (ow_dm_X5_handle ++ (ow_dm_X5_back ++ (ow_dm_X5_sleep ++ (ow_dm_X5_mustWait ++ (ow_dm_X6_takeRandom ++ []))))))))))))))))))))))))))
theorem gd_dm_X5_answerOf : ∀ w ∈ ow_dm_X5_answerOf, (w.onTables && w.keeps) = true ∨ ∃ ty, w = Cond.arrayClass ty := List.forall_mem_cons.mpr ⟨good_of_word rfl, List.forall_mem_append.mpr ⟨fun w h => good_of_word (List.all_eq_true.mp (by decide +kernel) w h), List.forall_mem_append.mpr ⟨gu_X5, List.forall_mem_append.mpr ⟨gu_X6, List.forall_mem_append.mpr ⟨gd_dm_X5_argument, List.forall_mem_append.mpr ⟨gd_dm_X6_finish, List.forall_mem_append.mpr ⟨gd_dm_X5_fork, List.forall_mem_append.mpr ⟨gd_dm_X5_exec, List.forall_mem_append.mpr ⟨gd_dm_X5_waitForChild, List.forall_mem_append.mpr ⟨gd_dm_X5_pipe, List.forall_mem_append.mpr ⟨gd_dm_X5_read, List.forall_mem_append.mpr ⟨gd_dm_X5_write, List.forall_mem_append.mpr ⟨gd_dm_X5_close, List.forall_mem_append.mpr ⟨gd_dm_X5_duplicate, List.forall_mem_append.mpr ⟨gd_dm_X5_open, List.forall_mem_append.mpr ⟨gd_dm_X5_unlink, List.forall_mem_append.mpr ⟨gd_dm_X5_seek, List.forall_mem_append.mpr ⟨gd_dm_X5_rename, List.forall_mem_append.mpr ⟨gd_dm_X5_grow, List.forall_mem_append.mpr ⟨gd_dm_X6_nextReady, List.forall_mem_append.mpr ⟨gd_dm_X6_makeCurrent, List.forall_mem_append.mpr ⟨gd_dm_X5_signal, List.forall_mem_append.mpr ⟨gd_dm_X5_handle, List.forall_mem_append.mpr ⟨gd_dm_X5_back, List.forall_mem_append.mpr ⟨gd_dm_X5_sleep, List.forall_mem_append.mpr ⟨gd_dm_X5_mustWait, List.forall_mem_append.mpr ⟨gd_dm_X6_takeRandom, fun _ h => nomatch h⟩⟩⟩⟩⟩⟩⟩⟩⟩⟩⟩⟩⟩⟩⟩⟩⟩⟩⟩⟩⟩⟩⟩⟩⟩⟩⟩
theorem hi_dm_X5_answerOf_X5 : ∀ w ∈ u_ws RX5 TX5 8, w ∈ ow_dm_X5_answerOf := fun w h => List.mem_cons_of_mem _ (List.mem_append_right _ (List.mem_append_left _ h))
theorem hi_dm_X5_answerOf_X6 : ∀ w ∈ u_ws RX6 TX6 20, w ∈ ow_dm_X5_answerOf := fun w h => List.mem_cons_of_mem _ (List.mem_append_right _ (List.mem_append_right _ (List.mem_append_left _ h)))
theorem gi_dm_X5_answerOf_0 : GoodIn ow_dm_X5_answerOf (wsV RX5 115 RX5 yX5_argument ow_dm_X5_argument) := goodIn_app (goodIn_of _ (by decide +kernel)) (fun w h => ⟨List.mem_cons_of_mem _ (List.mem_append_right _ (List.mem_append_right _ (List.mem_append_right _ (List.mem_append_left _ h)))), gd_dm_X5_argument w h⟩)
theorem gi_dm_X5_answerOf_1 : GoodIn ow_dm_X5_answerOf (wsV RX5 89 RX6 yX6_finish ow_dm_X6_finish) := goodIn_app (goodIn_of _ (by decide +kernel)) (fun w h => ⟨List.mem_cons_of_mem _ (List.mem_append_right _ (List.mem_append_right _ (List.mem_append_right _ (List.mem_append_right _ (List.mem_append_left _ h))))), gd_dm_X6_finish w h⟩)
theorem gi_dm_X5_answerOf_2 : GoodIn ow_dm_X5_answerOf (wsV RX5 161 RX5 yX5_fork ow_dm_X5_fork) := goodIn_app (goodIn_of _ (by decide +kernel)) (fun w h => ⟨List.mem_cons_of_mem _ (List.mem_append_right _ (List.mem_append_right _ (List.mem_append_right _ (List.mem_append_right _ (List.mem_append_right _ (List.mem_append_left _ h)))))), gd_dm_X5_fork w h⟩)
theorem gi_dm_X5_answerOf_3 : GoodIn ow_dm_X5_answerOf (wsV RX5 164 RX5 yX5_exec ow_dm_X5_exec) := goodIn_app (goodIn_of _ (by decide +kernel)) (fun w h => ⟨List.mem_cons_of_mem _ (List.mem_append_right _ (List.mem_append_right _ (List.mem_append_right _ (List.mem_append_right _ (List.mem_append_right _ (List.mem_append_right _ (List.mem_append_left _ h))))))), gd_dm_X5_exec w h⟩)
theorem gi_dm_X5_answerOf_4 : GoodIn ow_dm_X5_answerOf (wsV RX5 168 RX5 yX5_waitForChild ow_dm_X5_waitForChild) := goodIn_app (goodIn_of _ (by decide +kernel)) (fun w h => ⟨List.mem_cons_of_mem _ (List.mem_append_right _ (List.mem_append_right _ (List.mem_append_right _ (List.mem_append_right _ (List.mem_append_right _ (List.mem_append_right _ (List.mem_append_right _ (List.mem_append_left _ h)))))))), gd_dm_X5_waitForChild w h⟩)
theorem gi_dm_X5_answerOf_5 : GoodIn ow_dm_X5_answerOf (wsV RX5 171 RX5 yX5_pipe ow_dm_X5_pipe) := goodIn_app (goodIn_of _ (by decide +kernel)) (fun w h => ⟨List.mem_cons_of_mem _ (List.mem_append_right _ (List.mem_append_right _ (List.mem_append_right _ (List.mem_append_right _ (List.mem_append_right _ (List.mem_append_right _ (List.mem_append_right _ (List.mem_append_right _ (List.mem_append_left _ h))))))))), gd_dm_X5_pipe w h⟩)
theorem gi_dm_X5_answerOf_6 : GoodIn ow_dm_X5_answerOf (wsV RX5 174 RX5 yX5_read ow_dm_X5_read) := goodIn_app (goodIn_of _ (by decide +kernel)) (fun w h => ⟨List.mem_cons_of_mem _ (List.mem_append_right _ (List.mem_append_right _ (List.mem_append_right _ (List.mem_append_right _ (List.mem_append_right _ (List.mem_append_right _ (List.mem_append_right _ (List.mem_append_right _ (List.mem_append_right _ (List.mem_append_left _ h)))))))))), gd_dm_X5_read w h⟩)
theorem gi_dm_X5_answerOf_7 : GoodIn ow_dm_X5_answerOf (wsV RX5 178 RX5 yX5_write ow_dm_X5_write) := goodIn_app (goodIn_of _ (by decide +kernel)) (fun w h => ⟨List.mem_cons_of_mem _ (List.mem_append_right _ (List.mem_append_right _ (List.mem_append_right _ (List.mem_append_right _ (List.mem_append_right _ (List.mem_append_right _ (List.mem_append_right _ (List.mem_append_right _ (List.mem_append_right _ (List.mem_append_right _ (List.mem_append_left _ h))))))))))), gd_dm_X5_write w h⟩)
theorem gi_dm_X5_answerOf_8 : GoodIn ow_dm_X5_answerOf (wsV RX5 181 RX5 yX5_close ow_dm_X5_close) := goodIn_app (goodIn_of _ (by decide +kernel)) (fun w h => ⟨List.mem_cons_of_mem _ (List.mem_append_right _ (List.mem_append_right _ (List.mem_append_right _ (List.mem_append_right _ (List.mem_append_right _ (List.mem_append_right _ (List.mem_append_right _ (List.mem_append_right _ (List.mem_append_right _ (List.mem_append_right _ (List.mem_append_right _ (List.mem_append_left _ h)))))))))))), gd_dm_X5_close w h⟩)
theorem gi_dm_X5_answerOf_9 : GoodIn ow_dm_X5_answerOf (wsV RX5 184 RX5 yX5_duplicate ow_dm_X5_duplicate) := goodIn_app (goodIn_of _ (by decide +kernel)) (fun w h => ⟨List.mem_cons_of_mem _ (List.mem_append_right _ (List.mem_append_right _ (List.mem_append_right _ (List.mem_append_right _ (List.mem_append_right _ (List.mem_append_right _ (List.mem_append_right _ (List.mem_append_right _ (List.mem_append_right _ (List.mem_append_right _ (List.mem_append_right _ (List.mem_append_right _ (List.mem_append_left _ h))))))))))))), gd_dm_X5_duplicate w h⟩)
theorem gi_dm_X5_answerOf_10 : GoodIn ow_dm_X5_answerOf (wsV RX5 188 RX5 yX5_open ow_dm_X5_open) := goodIn_app (goodIn_of _ (by decide +kernel)) (fun w h => ⟨List.mem_cons_of_mem _ (List.mem_append_right _ (List.mem_append_right _ (List.mem_append_right _ (List.mem_append_right _ (List.mem_append_right _ (List.mem_append_right _ (List.mem_append_right _ (List.mem_append_right _ (List.mem_append_right _ (List.mem_append_right _ (List.mem_append_right _ (List.mem_append_right _ (List.mem_append_right _ (List.mem_append_left _ h)))))))))))))), gd_dm_X5_open w h⟩)
theorem gi_dm_X5_answerOf_11 : GoodIn ow_dm_X5_answerOf (wsV RX5 191 RX5 yX5_unlink ow_dm_X5_unlink) := goodIn_app (goodIn_of _ (by decide +kernel)) (fun w h => ⟨List.mem_cons_of_mem _ (List.mem_append_right _ (List.mem_append_right _ (List.mem_append_right _ (List.mem_append_right _ (List.mem_append_right _ (List.mem_append_right _ (List.mem_append_right _ (List.mem_append_right _ (List.mem_append_right _ (List.mem_append_right _ (List.mem_append_right _ (List.mem_append_right _ (List.mem_append_right _ (List.mem_append_right _ (List.mem_append_left _ h))))))))))))))), gd_dm_X5_unlink w h⟩)
theorem gi_dm_X5_answerOf_12 : GoodIn ow_dm_X5_answerOf (wsV RX5 194 RX5 yX5_seek ow_dm_X5_seek) := goodIn_app (goodIn_of _ (by decide +kernel)) (fun w h => ⟨List.mem_cons_of_mem _ (List.mem_append_right _ (List.mem_append_right _ (List.mem_append_right _ (List.mem_append_right _ (List.mem_append_right _ (List.mem_append_right _ (List.mem_append_right _ (List.mem_append_right _ (List.mem_append_right _ (List.mem_append_right _ (List.mem_append_right _ (List.mem_append_right _ (List.mem_append_right _ (List.mem_append_right _ (List.mem_append_right _ (List.mem_append_left _ h)))))))))))))))), gd_dm_X5_seek w h⟩)
theorem gi_dm_X5_answerOf_13 : GoodIn ow_dm_X5_answerOf (wsV RX5 197 RX5 yX5_rename ow_dm_X5_rename) := goodIn_app (goodIn_of _ (by decide +kernel)) (fun w h => ⟨List.mem_cons_of_mem _ (List.mem_append_right _ (List.mem_append_right _ (List.mem_append_right _ (List.mem_append_right _ (List.mem_append_right _ (List.mem_append_right _ (List.mem_append_right _ (List.mem_append_right _ (List.mem_append_right _ (List.mem_append_right _ (List.mem_append_right _ (List.mem_append_right _ (List.mem_append_right _ (List.mem_append_right _ (List.mem_append_right _ (List.mem_append_right _ (List.mem_append_left _ h))))))))))))))))), gd_dm_X5_rename w h⟩)
theorem gi_dm_X5_answerOf_14 : GoodIn ow_dm_X5_answerOf (wsV RX5 200 RX5 yX5_grow ow_dm_X5_grow) := goodIn_app (goodIn_of _ (by decide +kernel)) (fun w h => ⟨List.mem_cons_of_mem _ (List.mem_append_right _ (List.mem_append_right _ (List.mem_append_right _ (List.mem_append_right _ (List.mem_append_right _ (List.mem_append_right _ (List.mem_append_right _ (List.mem_append_right _ (List.mem_append_right _ (List.mem_append_right _ (List.mem_append_right _ (List.mem_append_right _ (List.mem_append_right _ (List.mem_append_right _ (List.mem_append_right _ (List.mem_append_right _ (List.mem_append_right _ (List.mem_append_left _ h)))))))))))))))))), gd_dm_X5_grow w h⟩)
theorem gi_dm_X5_answerOf_15 : GoodIn ow_dm_X5_answerOf (wsV RX5 203 RX6 yX6_nextReady ow_dm_X6_nextReady) := goodIn_app (goodIn_of _ (by decide +kernel)) (fun w h => ⟨List.mem_cons_of_mem _ (List.mem_append_right _ (List.mem_append_right _ (List.mem_append_right _ (List.mem_append_right _ (List.mem_append_right _ (List.mem_append_right _ (List.mem_append_right _ (List.mem_append_right _ (List.mem_append_right _ (List.mem_append_right _ (List.mem_append_right _ (List.mem_append_right _ (List.mem_append_right _ (List.mem_append_right _ (List.mem_append_right _ (List.mem_append_right _ (List.mem_append_right _ (List.mem_append_right _ (List.mem_append_left _ h))))))))))))))))))), gd_dm_X6_nextReady w h⟩)
theorem gi_dm_X5_answerOf_16 : GoodIn ow_dm_X5_answerOf (wsV RX5 144 RX6 yX6_makeCurrent ow_dm_X6_makeCurrent) := goodIn_app (goodIn_of _ (by decide +kernel)) (fun w h => ⟨List.mem_cons_of_mem _ (List.mem_append_right _ (List.mem_append_right _ (List.mem_append_right _ (List.mem_append_right _ (List.mem_append_right _ (List.mem_append_right _ (List.mem_append_right _ (List.mem_append_right _ (List.mem_append_right _ (List.mem_append_right _ (List.mem_append_right _ (List.mem_append_right _ (List.mem_append_right _ (List.mem_append_right _ (List.mem_append_right _ (List.mem_append_right _ (List.mem_append_right _ (List.mem_append_right _ (List.mem_append_right _ (List.mem_append_left _ h)))))))))))))))))))), gd_dm_X6_makeCurrent w h⟩)
theorem gi_dm_X5_answerOf_17 : GoodIn ow_dm_X5_answerOf (wsV RX5 206 RX5 yX5_signal ow_dm_X5_signal) := goodIn_app (goodIn_of _ (by decide +kernel)) (fun w h => ⟨List.mem_cons_of_mem _ (List.mem_append_right _ (List.mem_append_right _ (List.mem_append_right _ (List.mem_append_right _ (List.mem_append_right _ (List.mem_append_right _ (List.mem_append_right _ (List.mem_append_right _ (List.mem_append_right _ (List.mem_append_right _ (List.mem_append_right _ (List.mem_append_right _ (List.mem_append_right _ (List.mem_append_right _ (List.mem_append_right _ (List.mem_append_right _ (List.mem_append_right _ (List.mem_append_right _ (List.mem_append_right _ (List.mem_append_right _ (List.mem_append_left _ h))))))))))))))))))))), gd_dm_X5_signal w h⟩)
theorem gi_dm_X5_answerOf_18 : GoodIn ow_dm_X5_answerOf (wsV RX5 209 RX5 yX5_handle ow_dm_X5_handle) := goodIn_app (goodIn_of _ (by decide +kernel)) (fun w h => ⟨List.mem_cons_of_mem _ (List.mem_append_right _ (List.mem_append_right _ (List.mem_append_right _ (List.mem_append_right _ (List.mem_append_right _ (List.mem_append_right _ (List.mem_append_right _ (List.mem_append_right _ (List.mem_append_right _ (List.mem_append_right _ (List.mem_append_right _ (List.mem_append_right _ (List.mem_append_right _ (List.mem_append_right _ (List.mem_append_right _ (List.mem_append_right _ (List.mem_append_right _ (List.mem_append_right _ (List.mem_append_right _ (List.mem_append_right _ (List.mem_append_right _ (List.mem_append_left _ h)))))))))))))))))))))), gd_dm_X5_handle w h⟩)
theorem gi_dm_X5_answerOf_19 : GoodIn ow_dm_X5_answerOf (wsV RX5 212 RX5 yX5_back ow_dm_X5_back) := goodIn_app (goodIn_of _ (by decide +kernel)) (fun w h => ⟨List.mem_cons_of_mem _ (List.mem_append_right _ (List.mem_append_right _ (List.mem_append_right _ (List.mem_append_right _ (List.mem_append_right _ (List.mem_append_right _ (List.mem_append_right _ (List.mem_append_right _ (List.mem_append_right _ (List.mem_append_right _ (List.mem_append_right _ (List.mem_append_right _ (List.mem_append_right _ (List.mem_append_right _ (List.mem_append_right _ (List.mem_append_right _ (List.mem_append_right _ (List.mem_append_right _ (List.mem_append_right _ (List.mem_append_right _ (List.mem_append_right _ (List.mem_append_right _ (List.mem_append_left _ h))))))))))))))))))))))), gd_dm_X5_back w h⟩)
theorem gi_dm_X5_answerOf_20 : GoodIn ow_dm_X5_answerOf (wsV RX5 215 RX5 yX5_sleep ow_dm_X5_sleep) := goodIn_app (goodIn_of _ (by decide +kernel)) (fun w h => ⟨List.mem_cons_of_mem _ (List.mem_append_right _ (List.mem_append_right _ (List.mem_append_right _ (List.mem_append_right _ (List.mem_append_right _ (List.mem_append_right _ (List.mem_append_right _ (List.mem_append_right _ (List.mem_append_right _ (List.mem_append_right _ (List.mem_append_right _ (List.mem_append_right _ (List.mem_append_right _ (List.mem_append_right _ (List.mem_append_right _ (List.mem_append_right _ (List.mem_append_right _ (List.mem_append_right _ (List.mem_append_right _ (List.mem_append_right _ (List.mem_append_right _ (List.mem_append_right _ (List.mem_append_right _ (List.mem_append_left _ h)))))))))))))))))))))))), gd_dm_X5_sleep w h⟩)
theorem gi_dm_X5_answerOf_21 : GoodIn ow_dm_X5_answerOf (wsV RX5 108 RX5 yX5_mustWait ow_dm_X5_mustWait) := goodIn_app (goodIn_of _ (by decide +kernel)) (fun w h => ⟨List.mem_cons_of_mem _ (List.mem_append_right _ (List.mem_append_right _ (List.mem_append_right _ (List.mem_append_right _ (List.mem_append_right _ (List.mem_append_right _ (List.mem_append_right _ (List.mem_append_right _ (List.mem_append_right _ (List.mem_append_right _ (List.mem_append_right _ (List.mem_append_right _ (List.mem_append_right _ (List.mem_append_right _ (List.mem_append_right _ (List.mem_append_right _ (List.mem_append_right _ (List.mem_append_right _ (List.mem_append_right _ (List.mem_append_right _ (List.mem_append_right _ (List.mem_append_right _ (List.mem_append_right _ (List.mem_append_right _ (List.mem_append_left _ h))))))))))))))))))))))))), gd_dm_X5_mustWait w h⟩)
theorem gi_dm_X5_answerOf_22 : GoodIn ow_dm_X5_answerOf (wsV RX5 217 RX6 yX6_takeRandom ow_dm_X6_takeRandom) := goodIn_app (goodIn_of _ (by decide +kernel)) (fun w h => ⟨List.mem_cons_of_mem _ (List.mem_append_right _ (List.mem_append_right _ (List.mem_append_right _ (List.mem_append_right _ (List.mem_append_right _ (List.mem_append_right _ (List.mem_append_right _ (List.mem_append_right _ (List.mem_append_right _ (List.mem_append_right _ (List.mem_append_right _ (List.mem_append_right _ (List.mem_append_right _ (List.mem_append_right _ (List.mem_append_right _ (List.mem_append_right _ (List.mem_append_right _ (List.mem_append_right _ (List.mem_append_right _ (List.mem_append_right _ (List.mem_append_right _ (List.mem_append_right _ (List.mem_append_right _ (List.mem_append_right _ (List.mem_append_right _ (List.mem_append_left _ h)))))))))))))))))))))))))), gd_dm_X6_takeRandom w h⟩)
def dj_X5_answerOf_357 (p : Program) (l : Launch) (e : Env) (s : State) (m : MethodId) (args : Array Value) (below : List Frame) (meth : Method) (c : Code) (Q : State → Prop) (A : Nat → Prop) (dC : Nat → ClassId) (dI : Nat → Nat → Nat) (a : Nat → Nat) (ac : Nat → ClassId) (g : Int64 → (St × Rw × (St × (St × (St × (St)))) × (St) × (St) × (Nat → St) × (Nat → St) × (Nat → St × (St))) → Option (Int64 × (St × Rw × (St × (St × (St × (St)))) × (St) × (St) × (Nat → St) × (Nat → St) × (Nat → St × (St))))) (r : Int64 × (St × Rw × (St × (St × (St × (St)))) × (St) × (St) × (Nat → St) × (Nat → St) × (Nat → St × (St)))) : Prop := ∀ (y0 : Int64) (s0 : St × Rw × (St × (St × (St × (St)))) × (St) × (St) × (Nat → St) × (Nat → St) × (Nat → St × (St))) (H : Heap) (locs : List Loc) (ls : Array Slot), g y0 s0 = some r → va_P (dC, dI) vwCl (dw_X11 a ac s0) H → va_D A (dw_X11 a ac s0) → va_S A s.heap H locs → lv_has ls 5 [] → W p l e (headSpec ow_dm_X5_answerOf ({ frames := 3, cells := 0, slots := 0, locals := 92 })).room s m args below meth c H locs 0 0 Q (F0 m 357 ls [.long y0])
def dj_X5_answerOf_0 (p : Program) (l : Launch) (e : Env) (s : State) (m : MethodId) (args : Array Value) (below : List Frame) (meth : Method) (c : Code) (Q : State → Prop) (A : Nat → Prop) (dC : Nat → ClassId) (dI : Nat → Nat → Nat) (a : Nat → Nat) (ac : Nat → ClassId) (g : Int32 → (St × Rw × (St × (St × (St × (St)))) × (St) × (St) × (Nat → St) × (Nat → St) × (Nat → St × (St))) → Option (Int64 × (St × Rw × (St × (St × (St × (St)))) × (St) × (St) × (Nat → St) × (Nat → St) × (Nat → St × (St))))) (r : Int64 × (St × Rw × (St × (St × (St × (St)))) × (St) × (St) × (Nat → St) × (Nat → St) × (Nat → St × (St)))) : Prop := ∀ (v0 : Int32) (s0 : St × Rw × (St × (St × (St × (St)))) × (St) × (St) × (Nat → St) × (Nat → St) × (Nat → St × (St))) (H : Heap) (locs : List Loc) (ls : Array Slot), g v0 s0 = some r → va_P (dC, dI) vwCl (dw_X11 a ac s0) H → va_D A (dw_X11 a ac s0) → va_S A s.heap H locs → lv_has ls 5 [(0, .ref (a 3)), (1, .int v0)] → W p l e (headSpec ow_dm_X5_answerOf ({ frames := 3, cells := 0, slots := 0, locals := 92 })).room s m args below meth c H locs 0 0 Q (F0 m 0 ls [])
set_option maxHeartbeats 40000000 in
set_option maxRecDepth 100000 in
theorem db_X5_answerOf_357 {p : Program} {l : Launch} {e : Env} {s : State} {m : MethodId} {args : Array Value} {below : List Frame} {meth : Method} {c : Code} {Q : State → Prop} {A : Nat → Prop} {dC : Nat → ClassId} {dI : Nat → Nat → Nat} {a : Nat → Nat} {ac : Nat → ClassId} {n : Nat} {r : Int64 × (St × Rw × (St × (St × (St × (St)))) × (St) × (St) × (Nat → St) × (Nat → St) × (Nat → St × (St)))} (C : nd_C p l s m args c A (dC, dI) cX5_answerOf 5 RX5 ow_dm_X5_answerOf (dk_X11 ac)) (K : nd_Kl p l e (headSpec ow_dm_X5_answerOf ({ frames := 3, cells := 0, slots := 0, locals := 92 })).room s m args below meth c Q A (dC, dI) cX5_answerOf (St × Rw × (St × (St × (St × (St)))) × (St) × (St) × (Nat → St) × (Nat → St) × (Nat → St × (St))) (dw_X11 a ac) r) : dj_X5_answerOf_357 p l e s m args below meth c Q A dC dI a ac (df_X5_answerOf_357 n) r := by
  obtain ⟨hlt, hx, hb, hml, hown, hts, hN, hA, hK⟩ := id C
  intro y0 s0 H locs ls h hP hD hS hl
  unfold df_X5_answerOf_357 at h
  exact K _ _ _ _ _ _ dX5_answerOf_357 (Option.some.inj h).symm hP hD hS
set_option maxHeartbeats 40000000 in
set_option maxRecDepth 100000 in
theorem db_X5_answerOf_0 {p : Program} {l : Launch} {e : Env} {s : State} {m : MethodId} {args : Array Value} {below : List Frame} {meth : Method} {c : Code} {Q : State → Prop} {A : Nat → Prop} {dC : Nat → ClassId} {dI : Nat → Nat → Nat} {a : Nat → Nat} {ac : Nat → ClassId} {n : Nat} {r : Int64 × (St × Rw × (St × (St × (St × (St)))) × (St) × (St) × (Nat → St) × (Nat → St) × (Nat → St × (St)))} (C : nd_C p l s m args c A (dC, dI) cX5_answerOf 5 RX5 ow_dm_X5_answerOf (dk_X11 ac)) (K : nd_Kl p l e (headSpec ow_dm_X5_answerOf ({ frames := 3, cells := 0, slots := 0, locals := 92 })).room s m args below meth c Q A (dC, dI) cX5_answerOf (St × Rw × (St × (St × (St × (St)))) × (St) × (St) × (Nat → St) × (Nat → St) × (Nat → St × (St))) (dw_X11 a ac) r) : dj_X5_answerOf_0 p l e s m args below meth c Q A dC dI a ac (df_X5_answerOf_0 n) r := by
  obtain ⟨hlt, hx, hb, hml, hown, hts, hN, hA, hK⟩ := id C
  intro v0 s0 H locs ls h hP hD hS hl
  unfold df_X5_answerOf_0 at h
  refine lv_aload_n hx hb dX5_answerOf_0 rfl (lv_at hl 0 rfl) ?_
  refine lv_iload_n hx hb dX5_answerOf_1 rfl (lv_at hl 1 rfl) ?_
  refine lv_bipush (v := 10) hx hb dX5_answerOf_2 (by decide) ?_
  obtain ⟨q1, s2, hq, h⟩ := nd_b2_e h
  have hPc := dp_wX11_X5_2 hP
  have hDc := dd_wX11_X5_2 hD
  have hKc := dy_wX11_X5_2 hK
  have hFc := nd_rs hDc hS hA
  have hzA : ∀ q : Nat, H.size ≤ q → A q := fun q h => hA q (Nat.le_trans hS.1 h)
  refine nd_cVi (As := [.int v0, .int 10]) (rest := []) (q := q1) (w' := dw_X5 (fun k => a (k + 3)) (fun k => ac (k + 3)) s2) ⟨hx, hb, hml, hown, hts⟩ (fun sz => dm_X5_argument l hlt dC dI (fun k => a (k + 3)) (fun k => ac (k + 3)) n (v0) (10) s0.2.2.1 hq sz) (cwV 2 hts gi_dm_X5_answerOf_0 rfl rfl rfl (by decide +kernel) ⟨Nat.le_of_ble_eq_true rfl, Nat.le_of_ble_eq_true rfl⟩) hPc hDc hKc hS hA hN (va_recv hKc hPc (ci := 6) (q0 := 0) rfl rfl) rfl hl.1 rfl (Nat.le_of_ble_eq_true rfl) dX5_answerOf_4 (fun H locs hP1 hD1 hk1 hS => ?_)
  obtain ⟨hP, hD⟩ := dn_wX11_X5_2 hP hD hzA hk1 hP1 hD1
  obtain ⟨s4, es4, h⟩ := nd_let_e h
  have hP : va_P (dC, dI) vwCl (dw_X11 a ac s4) H := by rw [es4]; exact hP
  have hD : va_D A (dw_X11 a ac s4) := by rw [es4]; exact hD
  refine lv_istore_n (lv' := [(2, .int q1), (0, .ref (a 3)), (1, .int v0)]) hx hb dX5_answerOf_7 rfl hl (by decide) rfl (fun ls hl => ?_)
  refine lv_aload_n hx hb dX5_answerOf_8 rfl (lv_at hl 1 rfl) ?_
  refine lv_iload_n hx hb dX5_answerOf_9 rfl (lv_at hl 2 rfl) ?_
  refine lv_bipush (v := 11) hx hb dX5_answerOf_10 (by decide) ?_
  obtain ⟨q5, s6, hq, h⟩ := nd_b2_e h
  have hPc := dp_wX11_X5_2 hP
  have hDc := dd_wX11_X5_2 hD
  have hKc := dy_wX11_X5_2 hK
  have hFc := nd_rs hDc hS hA
  have hzA : ∀ q : Nat, H.size ≤ q → A q := fun q h => hA q (Nat.le_trans hS.1 h)
  refine nd_cVi (As := [.int v0, .int 11]) (rest := []) (q := q5) (w' := dw_X5 (fun k => a (k + 3)) (fun k => ac (k + 3)) s6) ⟨hx, hb, hml, hown, hts⟩ (fun sz => dm_X5_argument l hlt dC dI (fun k => a (k + 3)) (fun k => ac (k + 3)) n (v0) (11) s4.2.2.1 hq sz) (cwV 2 hts gi_dm_X5_answerOf_0 rfl rfl rfl (by decide +kernel) ⟨Nat.le_of_ble_eq_true rfl, Nat.le_of_ble_eq_true rfl⟩) hPc hDc hKc hS hA hN (va_recv hKc hPc (ci := 6) (q0 := 0) rfl rfl) rfl hl.1 rfl (Nat.le_of_ble_eq_true rfl) dX5_answerOf_12 (fun H locs hP1 hD1 hk1 hS => ?_)
  obtain ⟨hP, hD⟩ := dn_wX11_X5_2 hP hD hzA hk1 hP1 hD1
  obtain ⟨s8, es8, h⟩ := nd_let_e h
  have hP : va_P (dC, dI) vwCl (dw_X11 a ac s8) H := by rw [es8]; exact hP
  have hD : va_D A (dw_X11 a ac s8) := by rw [es8]; exact hD
  refine lv_istore_n (lv' := [(3, .int q5), (2, .int q1), (0, .ref (a 3)), (1, .int v0)]) hx hb dX5_answerOf_15 rfl hl (by decide) rfl (fun ls hl => ?_)
  refine lv_aload_n hx hb dX5_answerOf_16 rfl (lv_at hl 2 rfl) ?_
  refine lv_iload_n hx hb dX5_answerOf_17 rfl (lv_at hl 3 rfl) ?_
  refine lv_bipush (v := 12) hx hb dX5_answerOf_18 (by decide) ?_
  obtain ⟨q9, s10, hq, h⟩ := nd_b2_e h
  have hPc := dp_wX11_X5_2 hP
  have hDc := dd_wX11_X5_2 hD
  have hKc := dy_wX11_X5_2 hK
  have hFc := nd_rs hDc hS hA
  have hzA : ∀ q : Nat, H.size ≤ q → A q := fun q h => hA q (Nat.le_trans hS.1 h)
  refine nd_cVi (As := [.int v0, .int 12]) (rest := []) (q := q9) (w' := dw_X5 (fun k => a (k + 3)) (fun k => ac (k + 3)) s10) ⟨hx, hb, hml, hown, hts⟩ (fun sz => dm_X5_argument l hlt dC dI (fun k => a (k + 3)) (fun k => ac (k + 3)) n (v0) (12) s8.2.2.1 hq sz) (cwV 2 hts gi_dm_X5_answerOf_0 rfl rfl rfl (by decide +kernel) ⟨Nat.le_of_ble_eq_true rfl, Nat.le_of_ble_eq_true rfl⟩) hPc hDc hKc hS hA hN (va_recv hKc hPc (ci := 6) (q0 := 0) rfl rfl) rfl hl.1 rfl (Nat.le_of_ble_eq_true rfl) dX5_answerOf_20 (fun H locs hP1 hD1 hk1 hS => ?_)
  obtain ⟨hP, hD⟩ := dn_wX11_X5_2 hP hD hzA hk1 hP1 hD1
  obtain ⟨s12, es12, h⟩ := nd_let_e h
  have hP : va_P (dC, dI) vwCl (dw_X11 a ac s12) H := by rw [es12]; exact hP
  have hD : va_D A (dw_X11 a ac s12) := by rw [es12]; exact hD
  refine lv_istore (lv' := [(4, .int q9), (3, .int q5), (2, .int q1), (0, .ref (a 3)), (1, .int v0)]) hx hb dX5_answerOf_23 hl (by decide) rfl (fun ls hl => ?_)
  refine lv_aload_n hx hb dX5_answerOf_25 rfl (lv_at hl 3 rfl) ?_
  refine lv_iload_n hx hb dX5_answerOf_26 rfl (lv_at hl 4 rfl) ?_
  refine lv_bipush (v := 17) hx hb dX5_answerOf_27 (by decide) ?_
  obtain ⟨q13, s14, hq, h⟩ := nd_b2_e h
  have hPc := dp_wX11_X5_2 hP
  have hDc := dd_wX11_X5_2 hD
  have hKc := dy_wX11_X5_2 hK
  have hFc := nd_rs hDc hS hA
  have hzA : ∀ q : Nat, H.size ≤ q → A q := fun q h => hA q (Nat.le_trans hS.1 h)
  refine nd_cVi (As := [.int v0, .int 17]) (rest := []) (q := q13) (w' := dw_X5 (fun k => a (k + 3)) (fun k => ac (k + 3)) s14) ⟨hx, hb, hml, hown, hts⟩ (fun sz => dm_X5_argument l hlt dC dI (fun k => a (k + 3)) (fun k => ac (k + 3)) n (v0) (17) s12.2.2.1 hq sz) (cwV 2 hts gi_dm_X5_answerOf_0 rfl rfl rfl (by decide +kernel) ⟨Nat.le_of_ble_eq_true rfl, Nat.le_of_ble_eq_true rfl⟩) hPc hDc hKc hS hA hN (va_recv hKc hPc (ci := 6) (q0 := 0) rfl rfl) rfl hl.1 rfl (Nat.le_of_ble_eq_true rfl) dX5_answerOf_29 (fun H locs hP1 hD1 hk1 hS => ?_)
  obtain ⟨hP, hD⟩ := dn_wX11_X5_2 hP hD hzA hk1 hP1 hD1
  obtain ⟨s16, es16, h⟩ := nd_let_e h
  have hP : va_P (dC, dI) vwCl (dw_X11 a ac s16) H := by rw [es16]; exact hP
  have hD : va_D A (dw_X11 a ac s16) := by rw [es16]; exact hD
  by_cases c17 : q13 = 0
  · have h := nd_pos h c17
    refine lv_tableIn (off := 104) (tgt := 136) hx hb dX5_answerOf_32 (by rw [c17]; decide) (by rw [c17]; decide) (by rw [c17]; decide) (by decide) ?_
    refine lv_aload_n hx hb dX5_answerOf_136 rfl (lv_at hl 3 rfl) ?_
    refine va_get (D := (dC, dI)) (ci := 6) (v := .ref (a 7)) (C := RX5) (T := TX5) (N := 8) hx hb hts hi_dm_X5_answerOf_X5 hown hK hP 3 rfl rfl 0 (by decide) (hts (.fieldLink RX5 18 "TimeMachine$Kernel" "machine" "LTimeMachine$Machine;") (List.mem_of_getElem? (i := 5) rfl)) (fun _ h9 => h9) rfl dX5_answerOf_137 ?_
    refine lv_iload_n hx hb dX5_answerOf_140 rfl (lv_at hl 4 rfl) ?_
    refine lv_iload_n hx hb dX5_answerOf_141 rfl (lv_at hl 2 rfl) ?_
    refine lv_sipush (v := 255) hx hb dX5_answerOf_142 (by decide) ?_
    refine lv_iand hx hb dX5_answerOf_145 ?_
    obtain ⟨s19, hq, h⟩ := nd_b1_e h
    have hPc := dp_wX11_X6_0 hP
    have hDc := dd_wX11_X6_0 hD
    have hKc := dy_wX11_X6_0 hK
    have hFc := nd_rs hDc hS hA
    have hzA : ∀ q : Nat, H.size ≤ q → A q := fun q h => hA q (Nat.le_trans hS.1 h)
    refine nd_cVv (As := [.int v0, .int (q1 &&& 255)]) (rest := []) (w' := dw_X6 (fun k => a (k + 7)) (fun k => ac (k + 7)) s19) ⟨hx, hb, hml, hown, hts⟩ (fun sz => dm_X6_finish l hlt dC dI (fun k => a (k + 7)) (fun k => ac (k + 7)) n (v0) ((q1 &&& 255)) s16.2.2.1.2.2 hq sz) (cwV 2 hts gi_dm_X5_answerOf_1 rfl rfl rfl (by decide +kernel) ⟨Nat.le_of_ble_eq_true rfl, Nat.le_of_ble_eq_true rfl⟩) hPc hDc hKc hS hA hN (va_recv hKc hPc (ci := 7) (q0 := 0) rfl rfl) rfl hl.1 rfl (Nat.le_of_ble_eq_true rfl) dX5_answerOf_146 (fun H locs hP1 hD1 hk1 hS => ?_)
    obtain ⟨hP, hD⟩ := dn_wX11_X6_0 hP hD hzA hk1 hP1 hD1
    obtain ⟨s21, es21, h⟩ := nd_let_e h
    have hP : va_P (dC, dI) vwCl (dw_X11 a ac s21) H := by rw [es21]; exact hP
    have hD : va_D A (dw_X11 a ac s21) := by rw [es21]; exact hD
    refine lv_ldc2 hx hb hown (hts (.constantLong RX5 159 (2199023255552)) (List.mem_of_getElem? (i := 10) rfl)) dX5_answerOf_149 ?_
    exact K _ _ _ _ _ _ dX5_answerOf_152 (Option.some.inj h).symm hP hD hS
  have h := nd_neg h c17
  by_cases c22 : q13 = 1
  · have h := nd_pos h c22
    refine lv_tableIn (off := 121) (tgt := 153) hx hb dX5_answerOf_32 (by rw [c22]; decide) (by rw [c22]; decide) (by rw [c22]; decide) (by decide) ?_
    refine lv_aload_n hx hb dX5_answerOf_153 rfl (lv_at hl 3 rfl) ?_
    refine lv_iload_n hx hb dX5_answerOf_154 rfl (lv_at hl 4 rfl) ?_
    obtain ⟨q23, s24, hq, h⟩ := nd_b2_e h
    have hPc := dp_wX11_X5_2 hP
    have hDc := dd_wX11_X5_2 hD
    have hKc := dy_wX11_X5_2 hK
    have hFc := nd_rs hDc hS hA
    have hzA : ∀ q : Nat, H.size ≤ q → A q := fun q h => hA q (Nat.le_trans hS.1 h)
    refine nd_cVl (As := [.int v0]) (rest := []) (q := q23) (w' := dw_X5 (fun k => a (k + 3)) (fun k => ac (k + 3)) s24) ⟨hx, hb, hml, hown, hts⟩ (fun sz => dm_X5_fork l hlt dC dI (fun k => a (k + 3)) (fun k => ac (k + 3)) n (v0) s16.2.2.1 hq sz) (cwV 1 hts gi_dm_X5_answerOf_2 rfl rfl rfl (by decide +kernel) ⟨Nat.le_of_ble_eq_true rfl, Nat.le_of_ble_eq_true rfl⟩) hPc hDc hKc hS hA hN (va_recv hKc hPc (ci := 6) (q0 := 0) rfl rfl) rfl hl.1 rfl (Nat.le_of_ble_eq_true rfl) dX5_answerOf_155 (fun H locs hP1 hD1 hk1 hS => ?_)
    obtain ⟨hP, hD⟩ := dn_wX11_X5_2 hP hD hzA hk1 hP1 hD1
    obtain ⟨s26, es26, h⟩ := nd_let_e h
    have hP : va_P (dC, dI) vwCl (dw_X11 a ac s26) H := by rw [es26]; exact hP
    have hD : va_D A (dw_X11 a ac s26) := by rw [es26]; exact hD
    exact K _ _ _ _ _ _ dX5_answerOf_158 (Option.some.inj h).symm hP hD hS
  have h := nd_neg h c22
  by_cases c27 : q13 = 2
  · have h := nd_pos h c27
    refine lv_tableIn (off := 127) (tgt := 159) hx hb dX5_answerOf_32 (by rw [c27]; decide) (by rw [c27]; decide) (by rw [c27]; decide) (by decide) ?_
    refine lv_aload_n hx hb dX5_answerOf_159 rfl (lv_at hl 3 rfl) ?_
    refine lv_iload_n hx hb dX5_answerOf_160 rfl (lv_at hl 4 rfl) ?_
    refine lv_iload_n hx hb dX5_answerOf_161 rfl (lv_at hl 2 rfl) ?_
    obtain ⟨q28, s29, hq, h⟩ := nd_b2_e h
    have hPc := hP
    have hDc := hD
    have hKc := hK
    have hFc := nd_rs hD hS hA
    refine nd_cVl (As := [.int v0, .int q1]) (rest := []) (q := q28) (w' := dw_X11 a ac s29) ⟨hx, hb, hml, hown, hts⟩ (fun sz => dm_X5_exec l hlt dC dI a ac n (v0) (q1) s16 hq sz) (cwV 2 hts gi_dm_X5_answerOf_3 rfl rfl rfl (by decide +kernel) ⟨Nat.le_of_ble_eq_true rfl, Nat.le_of_ble_eq_true rfl⟩) hPc hDc hKc hS hA hN (va_recv hKc hPc (ci := 6) (q0 := 3) rfl rfl) rfl hl.1 rfl (Nat.le_of_ble_eq_true rfl) dX5_answerOf_162 (fun H locs hP1 hD1 hk1 hS => ?_)
    have hP := hP1
    have hD := hD1.weaken (fun k q _ h => hFc q.1 h)
    exact K _ _ _ _ _ _ dX5_answerOf_165 (Option.some.inj h).symm hP hD hS
  have h := nd_neg h c27
  by_cases c31 : q13 = 3
  · have h := nd_pos h c31
    refine lv_tableIn (off := 134) (tgt := 166) hx hb dX5_answerOf_32 (by rw [c31]; decide) (by rw [c31]; decide) (by rw [c31]; decide) (by decide) ?_
    refine lv_aload_n hx hb dX5_answerOf_166 rfl (lv_at hl 3 rfl) ?_
    refine lv_iload_n hx hb dX5_answerOf_167 rfl (lv_at hl 4 rfl) ?_
    obtain ⟨q32, s33, hq, h⟩ := nd_b2_e h
    have hPc := dp_wX11_X5_2 hP
    have hDc := dd_wX11_X5_2 hD
    have hKc := dy_wX11_X5_2 hK
    have hFc := nd_rs hDc hS hA
    have hzA : ∀ q : Nat, H.size ≤ q → A q := fun q h => hA q (Nat.le_trans hS.1 h)
    refine nd_cVl (As := [.int v0]) (rest := []) (q := q32) (w' := dw_X5 (fun k => a (k + 3)) (fun k => ac (k + 3)) s33) ⟨hx, hb, hml, hown, hts⟩ (fun sz => dm_X5_waitForChild l hlt dC dI (fun k => a (k + 3)) (fun k => ac (k + 3)) n (v0) s16.2.2.1 hq sz) (cwV 1 hts gi_dm_X5_answerOf_4 rfl rfl rfl (by decide +kernel) ⟨Nat.le_of_ble_eq_true rfl, Nat.le_of_ble_eq_true rfl⟩) hPc hDc hKc hS hA hN (va_recv hKc hPc (ci := 6) (q0 := 0) rfl rfl) rfl hl.1 rfl (Nat.le_of_ble_eq_true rfl) dX5_answerOf_168 (fun H locs hP1 hD1 hk1 hS => ?_)
    obtain ⟨hP, hD⟩ := dn_wX11_X5_2 hP hD hzA hk1 hP1 hD1
    obtain ⟨s35, es35, h⟩ := nd_let_e h
    have hP : va_P (dC, dI) vwCl (dw_X11 a ac s35) H := by rw [es35]; exact hP
    have hD : va_D A (dw_X11 a ac s35) := by rw [es35]; exact hD
    exact K _ _ _ _ _ _ dX5_answerOf_171 (Option.some.inj h).symm hP hD hS
  have h := nd_neg h c31
  by_cases c36 : q13 = 4
  · have h := nd_pos h c36
    refine lv_tableIn (off := 140) (tgt := 172) hx hb dX5_answerOf_32 (by rw [c36]; decide) (by rw [c36]; decide) (by rw [c36]; decide) (by decide) ?_
    refine lv_iload_n hx hb dX5_answerOf_172 rfl (lv_at hl 4 rfl) ?_
    refine lv_i2l hx hb dX5_answerOf_173 rfl ?_
    exact K _ _ _ _ _ _ dX5_answerOf_174 (Option.some.inj h).symm hP hD hS
  have h := nd_neg h c36
  by_cases c37 : q13 = 5
  · have h := nd_pos h c37
    refine lv_tableIn (off := 143) (tgt := 175) hx hb dX5_answerOf_32 (by rw [c37]; decide) (by rw [c37]; decide) (by rw [c37]; decide) (by decide) ?_
    refine lv_aload_n hx hb dX5_answerOf_175 rfl (lv_at hl 3 rfl) ?_
    refine lv_iload_n hx hb dX5_answerOf_176 rfl (lv_at hl 4 rfl) ?_
    refine lv_iload_n hx hb dX5_answerOf_177 rfl (lv_at hl 2 rfl) ?_
    obtain ⟨q38, s39, hq, h⟩ := nd_b2_e h
    have hPc := dp_wX11_X5_2 hP
    have hDc := dd_wX11_X5_2 hD
    have hKc := dy_wX11_X5_2 hK
    have hFc := nd_rs hDc hS hA
    have hzA : ∀ q : Nat, H.size ≤ q → A q := fun q h => hA q (Nat.le_trans hS.1 h)
    refine nd_cVl (As := [.int v0, .int q1]) (rest := []) (q := q38) (w' := dw_X5 (fun k => a (k + 3)) (fun k => ac (k + 3)) s39) ⟨hx, hb, hml, hown, hts⟩ (fun sz => dm_X5_pipe l hlt dC dI (fun k => a (k + 3)) (fun k => ac (k + 3)) n (v0) (q1) s16.2.2.1 hq sz) (cwV 2 hts gi_dm_X5_answerOf_5 rfl rfl rfl (by decide +kernel) ⟨Nat.le_of_ble_eq_true rfl, Nat.le_of_ble_eq_true rfl⟩) hPc hDc hKc hS hA hN (va_recv hKc hPc (ci := 6) (q0 := 0) rfl rfl) rfl hl.1 rfl (Nat.le_of_ble_eq_true rfl) dX5_answerOf_178 (fun H locs hP1 hD1 hk1 hS => ?_)
    obtain ⟨hP, hD⟩ := dn_wX11_X5_2 hP hD hzA hk1 hP1 hD1
    obtain ⟨s41, es41, h⟩ := nd_let_e h
    have hP : va_P (dC, dI) vwCl (dw_X11 a ac s41) H := by rw [es41]; exact hP
    have hD : va_D A (dw_X11 a ac s41) := by rw [es41]; exact hD
    exact K _ _ _ _ _ _ dX5_answerOf_181 (Option.some.inj h).symm hP hD hS
  have h := nd_neg h c37
  by_cases c42 : q13 = 6
  · have h := nd_pos h c42
    refine lv_tableIn (off := 150) (tgt := 182) hx hb dX5_answerOf_32 (by rw [c42]; decide) (by rw [c42]; decide) (by rw [c42]; decide) (by decide) ?_
    refine lv_aload_n hx hb dX5_answerOf_182 rfl (lv_at hl 3 rfl) ?_
    refine lv_iload_n hx hb dX5_answerOf_183 rfl (lv_at hl 4 rfl) ?_
    refine lv_iload_n hx hb dX5_answerOf_184 rfl (lv_at hl 2 rfl) ?_
    refine lv_iload_n hx hb dX5_answerOf_185 rfl (lv_at hl 1 rfl) ?_
    refine lv_iload hx hb dX5_answerOf_186 (lv_at hl 0 rfl) ?_
    obtain ⟨q43, s44, hq, h⟩ := nd_b2_e h
    have hPc := dp_wX11_X5_2 hP
    have hDc := dd_wX11_X5_2 hD
    have hKc := dy_wX11_X5_2 hK
    have hFc := nd_rs hDc hS hA
    have hzA : ∀ q : Nat, H.size ≤ q → A q := fun q h => hA q (Nat.le_trans hS.1 h)
    refine nd_cVl (As := [.int v0, .int q1, .int q5, .int q9]) (rest := []) (q := q43) (w' := dw_X5 (fun k => a (k + 3)) (fun k => ac (k + 3)) s44) ⟨hx, hb, hml, hown, hts⟩ (fun sz => dm_X5_read l hlt dC dI (fun k => a (k + 3)) (fun k => ac (k + 3)) n (v0) (q1) (q5) (q9) s16.2.2.1 hq sz) (cwV 4 hts gi_dm_X5_answerOf_6 rfl rfl rfl (by decide +kernel) ⟨Nat.le_of_ble_eq_true rfl, Nat.le_of_ble_eq_true rfl⟩) hPc hDc hKc hS hA hN (va_recv hKc hPc (ci := 6) (q0 := 0) rfl rfl) rfl hl.1 rfl (Nat.le_of_ble_eq_true rfl) dX5_answerOf_188 (fun H locs hP1 hD1 hk1 hS => ?_)
    obtain ⟨hP, hD⟩ := dn_wX11_X5_2 hP hD hzA hk1 hP1 hD1
    obtain ⟨s46, es46, h⟩ := nd_let_e h
    have hP : va_P (dC, dI) vwCl (dw_X11 a ac s46) H := by rw [es46]; exact hP
    have hD : va_D A (dw_X11 a ac s46) := by rw [es46]; exact hD
    exact K _ _ _ _ _ _ dX5_answerOf_191 (Option.some.inj h).symm hP hD hS
  have h := nd_neg h c42
  by_cases c47 : q13 = 7
  · have h := nd_pos h c47
    refine lv_tableIn (off := 160) (tgt := 192) hx hb dX5_answerOf_32 (by rw [c47]; decide) (by rw [c47]; decide) (by rw [c47]; decide) (by decide) ?_
    refine lv_aload_n hx hb dX5_answerOf_192 rfl (lv_at hl 3 rfl) ?_
    refine lv_iload_n hx hb dX5_answerOf_193 rfl (lv_at hl 4 rfl) ?_
    refine lv_iload_n hx hb dX5_answerOf_194 rfl (lv_at hl 2 rfl) ?_
    refine lv_iload_n hx hb dX5_answerOf_195 rfl (lv_at hl 1 rfl) ?_
    refine lv_iload hx hb dX5_answerOf_196 (lv_at hl 0 rfl) ?_
    obtain ⟨q48, s49, hq, h⟩ := nd_b2_e h
    have hPc := dp_wX11_X5_2 hP
    have hDc := dd_wX11_X5_2 hD
    have hKc := dy_wX11_X5_2 hK
    have hFc := nd_rs hDc hS hA
    have hzA : ∀ q : Nat, H.size ≤ q → A q := fun q h => hA q (Nat.le_trans hS.1 h)
    refine nd_cVl (As := [.int v0, .int q1, .int q5, .int q9]) (rest := []) (q := q48) (w' := dw_X5 (fun k => a (k + 3)) (fun k => ac (k + 3)) s49) ⟨hx, hb, hml, hown, hts⟩ (fun sz => dm_X5_write l hlt dC dI (fun k => a (k + 3)) (fun k => ac (k + 3)) n (v0) (q1) (q5) (q9) s16.2.2.1 hq sz) (cwV 4 hts gi_dm_X5_answerOf_7 rfl rfl rfl (by decide +kernel) ⟨Nat.le_of_ble_eq_true rfl, Nat.le_of_ble_eq_true rfl⟩) hPc hDc hKc hS hA hN (va_recv hKc hPc (ci := 6) (q0 := 0) rfl rfl) rfl hl.1 rfl (Nat.le_of_ble_eq_true rfl) dX5_answerOf_198 (fun H locs hP1 hD1 hk1 hS => ?_)
    obtain ⟨hP, hD⟩ := dn_wX11_X5_2 hP hD hzA hk1 hP1 hD1
    obtain ⟨s51, es51, h⟩ := nd_let_e h
    have hP : va_P (dC, dI) vwCl (dw_X11 a ac s51) H := by rw [es51]; exact hP
    have hD : va_D A (dw_X11 a ac s51) := by rw [es51]; exact hD
    exact K _ _ _ _ _ _ dX5_answerOf_201 (Option.some.inj h).symm hP hD hS
  have h := nd_neg h c47
  by_cases c52 : q13 = 8
  · have h := nd_pos h c52
    refine lv_tableIn (off := 170) (tgt := 202) hx hb dX5_answerOf_32 (by rw [c52]; decide) (by rw [c52]; decide) (by rw [c52]; decide) (by decide) ?_
    refine lv_aload_n hx hb dX5_answerOf_202 rfl (lv_at hl 3 rfl) ?_
    refine lv_iload_n hx hb dX5_answerOf_203 rfl (lv_at hl 4 rfl) ?_
    refine lv_iload_n hx hb dX5_answerOf_204 rfl (lv_at hl 2 rfl) ?_
    obtain ⟨q53, s54, hq, h⟩ := nd_b2_e h
    have hPc := dp_wX11_X5_2 hP
    have hDc := dd_wX11_X5_2 hD
    have hKc := dy_wX11_X5_2 hK
    have hFc := nd_rs hDc hS hA
    have hzA : ∀ q : Nat, H.size ≤ q → A q := fun q h => hA q (Nat.le_trans hS.1 h)
    refine nd_cVl (As := [.int v0, .int q1]) (rest := []) (q := q53) (w' := dw_X5 (fun k => a (k + 3)) (fun k => ac (k + 3)) s54) ⟨hx, hb, hml, hown, hts⟩ (fun sz => dm_X5_close l hlt dC dI (fun k => a (k + 3)) (fun k => ac (k + 3)) n (v0) (q1) s16.2.2.1 hq sz) (cwV 2 hts gi_dm_X5_answerOf_8 rfl rfl rfl (by decide +kernel) ⟨Nat.le_of_ble_eq_true rfl, Nat.le_of_ble_eq_true rfl⟩) hPc hDc hKc hS hA hN (va_recv hKc hPc (ci := 6) (q0 := 0) rfl rfl) rfl hl.1 rfl (Nat.le_of_ble_eq_true rfl) dX5_answerOf_205 (fun H locs hP1 hD1 hk1 hS => ?_)
    obtain ⟨hP, hD⟩ := dn_wX11_X5_2 hP hD hzA hk1 hP1 hD1
    obtain ⟨s56, es56, h⟩ := nd_let_e h
    have hP : va_P (dC, dI) vwCl (dw_X11 a ac s56) H := by rw [es56]; exact hP
    have hD : va_D A (dw_X11 a ac s56) := by rw [es56]; exact hD
    exact K _ _ _ _ _ _ dX5_answerOf_208 (Option.some.inj h).symm hP hD hS
  have h := nd_neg h c52
  by_cases c57 : q13 = 9
  · have h := nd_pos h c57
    refine lv_tableIn (off := 177) (tgt := 209) hx hb dX5_answerOf_32 (by rw [c57]; decide) (by rw [c57]; decide) (by rw [c57]; decide) (by decide) ?_
    refine lv_aload_n hx hb dX5_answerOf_209 rfl (lv_at hl 3 rfl) ?_
    refine lv_iload_n hx hb dX5_answerOf_210 rfl (lv_at hl 4 rfl) ?_
    refine lv_iload_n hx hb dX5_answerOf_211 rfl (lv_at hl 2 rfl) ?_
    refine lv_iload_n hx hb dX5_answerOf_212 rfl (lv_at hl 1 rfl) ?_
    obtain ⟨q58, s59, hq, h⟩ := nd_b2_e h
    have hPc := dp_wX11_X5_2 hP
    have hDc := dd_wX11_X5_2 hD
    have hKc := dy_wX11_X5_2 hK
    have hFc := nd_rs hDc hS hA
    have hzA : ∀ q : Nat, H.size ≤ q → A q := fun q h => hA q (Nat.le_trans hS.1 h)
    refine nd_cVl (As := [.int v0, .int q1, .int q5]) (rest := []) (q := q58) (w' := dw_X5 (fun k => a (k + 3)) (fun k => ac (k + 3)) s59) ⟨hx, hb, hml, hown, hts⟩ (fun sz => dm_X5_duplicate l hlt dC dI (fun k => a (k + 3)) (fun k => ac (k + 3)) n (v0) (q1) (q5) s16.2.2.1 hq sz) (cwV 3 hts gi_dm_X5_answerOf_9 rfl rfl rfl (by decide +kernel) ⟨Nat.le_of_ble_eq_true rfl, Nat.le_of_ble_eq_true rfl⟩) hPc hDc hKc hS hA hN (va_recv hKc hPc (ci := 6) (q0 := 0) rfl rfl) rfl hl.1 rfl (Nat.le_of_ble_eq_true rfl) dX5_answerOf_213 (fun H locs hP1 hD1 hk1 hS => ?_)
    obtain ⟨hP, hD⟩ := dn_wX11_X5_2 hP hD hzA hk1 hP1 hD1
    obtain ⟨s61, es61, h⟩ := nd_let_e h
    have hP : va_P (dC, dI) vwCl (dw_X11 a ac s61) H := by rw [es61]; exact hP
    have hD : va_D A (dw_X11 a ac s61) := by rw [es61]; exact hD
    exact K _ _ _ _ _ _ dX5_answerOf_216 (Option.some.inj h).symm hP hD hS
  have h := nd_neg h c57
  by_cases c62 : q13 = 10
  · have h := nd_pos h c62
    refine lv_tableIn (off := 185) (tgt := 217) hx hb dX5_answerOf_32 (by rw [c62]; decide) (by rw [c62]; decide) (by rw [c62]; decide) (by decide) ?_
    refine lv_aload_n hx hb dX5_answerOf_217 rfl (lv_at hl 3 rfl) ?_
    refine lv_iload_n hx hb dX5_answerOf_218 rfl (lv_at hl 4 rfl) ?_
    refine lv_iload_n hx hb dX5_answerOf_219 rfl (lv_at hl 2 rfl) ?_
    refine lv_iload_n hx hb dX5_answerOf_220 rfl (lv_at hl 1 rfl) ?_
    obtain ⟨q63, s64, hq, h⟩ := nd_b2_e h
    have hPc := dp_wX11_X5_2 hP
    have hDc := dd_wX11_X5_2 hD
    have hKc := dy_wX11_X5_2 hK
    have hFc := nd_rs hDc hS hA
    have hzA : ∀ q : Nat, H.size ≤ q → A q := fun q h => hA q (Nat.le_trans hS.1 h)
    refine nd_cVl (As := [.int v0, .int q1, .int q5]) (rest := []) (q := q63) (w' := dw_X5 (fun k => a (k + 3)) (fun k => ac (k + 3)) s64) ⟨hx, hb, hml, hown, hts⟩ (fun sz => dm_X5_open l hlt dC dI (fun k => a (k + 3)) (fun k => ac (k + 3)) n (v0) (q1) (q5) s16.2.2.1 hq sz) (cwV 3 hts gi_dm_X5_answerOf_10 rfl rfl rfl (by decide +kernel) ⟨Nat.le_of_ble_eq_true rfl, Nat.le_of_ble_eq_true rfl⟩) hPc hDc hKc hS hA hN (va_recv hKc hPc (ci := 6) (q0 := 0) rfl rfl) rfl hl.1 rfl (Nat.le_of_ble_eq_true rfl) dX5_answerOf_221 (fun H locs hP1 hD1 hk1 hS => ?_)
    obtain ⟨hP, hD⟩ := dn_wX11_X5_2 hP hD hzA hk1 hP1 hD1
    obtain ⟨s66, es66, h⟩ := nd_let_e h
    have hP : va_P (dC, dI) vwCl (dw_X11 a ac s66) H := by rw [es66]; exact hP
    have hD : va_D A (dw_X11 a ac s66) := by rw [es66]; exact hD
    exact K _ _ _ _ _ _ dX5_answerOf_224 (Option.some.inj h).symm hP hD hS
  have h := nd_neg h c62
  by_cases c67 : q13 = 11
  · have h := nd_pos h c67
    refine lv_tableIn (off := 193) (tgt := 225) hx hb dX5_answerOf_32 (by rw [c67]; decide) (by rw [c67]; decide) (by rw [c67]; decide) (by decide) ?_
    refine lv_aload_n hx hb dX5_answerOf_225 rfl (lv_at hl 3 rfl) ?_
    refine lv_iload_n hx hb dX5_answerOf_226 rfl (lv_at hl 4 rfl) ?_
    refine lv_iload_n hx hb dX5_answerOf_227 rfl (lv_at hl 2 rfl) ?_
    obtain ⟨q68, s69, hq, h⟩ := nd_b2_e h
    have hPc := dp_wX11_X5_2 hP
    have hDc := dd_wX11_X5_2 hD
    have hKc := dy_wX11_X5_2 hK
    have hFc := nd_rs hDc hS hA
    have hzA : ∀ q : Nat, H.size ≤ q → A q := fun q h => hA q (Nat.le_trans hS.1 h)
    refine nd_cVl (As := [.int v0, .int q1]) (rest := []) (q := q68) (w' := dw_X5 (fun k => a (k + 3)) (fun k => ac (k + 3)) s69) ⟨hx, hb, hml, hown, hts⟩ (fun sz => dm_X5_unlink l hlt dC dI (fun k => a (k + 3)) (fun k => ac (k + 3)) n (v0) (q1) s16.2.2.1 hq sz) (cwV 2 hts gi_dm_X5_answerOf_11 rfl rfl rfl (by decide +kernel) ⟨Nat.le_of_ble_eq_true rfl, Nat.le_of_ble_eq_true rfl⟩) hPc hDc hKc hS hA hN (va_recv hKc hPc (ci := 6) (q0 := 0) rfl rfl) rfl hl.1 rfl (Nat.le_of_ble_eq_true rfl) dX5_answerOf_228 (fun H locs hP1 hD1 hk1 hS => ?_)
    obtain ⟨hP, hD⟩ := dn_wX11_X5_2 hP hD hzA hk1 hP1 hD1
    obtain ⟨s71, es71, h⟩ := nd_let_e h
    have hP : va_P (dC, dI) vwCl (dw_X11 a ac s71) H := by rw [es71]; exact hP
    have hD : va_D A (dw_X11 a ac s71) := by rw [es71]; exact hD
    exact K _ _ _ _ _ _ dX5_answerOf_231 (Option.some.inj h).symm hP hD hS
  have h := nd_neg h c67
  by_cases c72 : q13 = 12
  · have h := nd_pos h c72
    refine lv_tableIn (off := 200) (tgt := 232) hx hb dX5_answerOf_32 (by rw [c72]; decide) (by rw [c72]; decide) (by rw [c72]; decide) (by decide) ?_
    refine lv_aload_n hx hb dX5_answerOf_232 rfl (lv_at hl 3 rfl) ?_
    refine lv_iload_n hx hb dX5_answerOf_233 rfl (lv_at hl 4 rfl) ?_
    refine lv_iload_n hx hb dX5_answerOf_234 rfl (lv_at hl 2 rfl) ?_
    refine lv_iload_n hx hb dX5_answerOf_235 rfl (lv_at hl 1 rfl) ?_
    refine lv_iload hx hb dX5_answerOf_236 (lv_at hl 0 rfl) ?_
    obtain ⟨q73, s74, hq, h⟩ := nd_b2_e h
    have hPc := dp_wX11_X5_2 hP
    have hDc := dd_wX11_X5_2 hD
    have hKc := dy_wX11_X5_2 hK
    have hFc := nd_rs hDc hS hA
    have hzA : ∀ q : Nat, H.size ≤ q → A q := fun q h => hA q (Nat.le_trans hS.1 h)
    refine nd_cVl (As := [.int v0, .int q1, .int q5, .int q9]) (rest := []) (q := q73) (w' := dw_X5 (fun k => a (k + 3)) (fun k => ac (k + 3)) s74) ⟨hx, hb, hml, hown, hts⟩ (fun sz => dm_X5_seek l hlt dC dI (fun k => a (k + 3)) (fun k => ac (k + 3)) n (v0) (q1) (q5) (q9) s16.2.2.1 hq sz) (cwV 4 hts gi_dm_X5_answerOf_12 rfl rfl rfl (by decide +kernel) ⟨Nat.le_of_ble_eq_true rfl, Nat.le_of_ble_eq_true rfl⟩) hPc hDc hKc hS hA hN (va_recv hKc hPc (ci := 6) (q0 := 0) rfl rfl) rfl hl.1 rfl (Nat.le_of_ble_eq_true rfl) dX5_answerOf_238 (fun H locs hP1 hD1 hk1 hS => ?_)
    obtain ⟨hP, hD⟩ := dn_wX11_X5_2 hP hD hzA hk1 hP1 hD1
    obtain ⟨s76, es76, h⟩ := nd_let_e h
    have hP : va_P (dC, dI) vwCl (dw_X11 a ac s76) H := by rw [es76]; exact hP
    have hD : va_D A (dw_X11 a ac s76) := by rw [es76]; exact hD
    exact K _ _ _ _ _ _ dX5_answerOf_241 (Option.some.inj h).symm hP hD hS
  have h := nd_neg h c72
  by_cases c77 : q13 = 13
  · have h := nd_pos h c77
    refine lv_tableIn (off := 210) (tgt := 242) hx hb dX5_answerOf_32 (by rw [c77]; decide) (by rw [c77]; decide) (by rw [c77]; decide) (by decide) ?_
    refine lv_aload_n hx hb dX5_answerOf_242 rfl (lv_at hl 3 rfl) ?_
    refine lv_iload_n hx hb dX5_answerOf_243 rfl (lv_at hl 4 rfl) ?_
    refine lv_iload_n hx hb dX5_answerOf_244 rfl (lv_at hl 2 rfl) ?_
    refine lv_iload_n hx hb dX5_answerOf_245 rfl (lv_at hl 1 rfl) ?_
    obtain ⟨q78, s79, hq, h⟩ := nd_b2_e h
    have hPc := dp_wX11_X5_2 hP
    have hDc := dd_wX11_X5_2 hD
    have hKc := dy_wX11_X5_2 hK
    have hFc := nd_rs hDc hS hA
    have hzA : ∀ q : Nat, H.size ≤ q → A q := fun q h => hA q (Nat.le_trans hS.1 h)
    refine nd_cVl (As := [.int v0, .int q1, .int q5]) (rest := []) (q := q78) (w' := dw_X5 (fun k => a (k + 3)) (fun k => ac (k + 3)) s79) ⟨hx, hb, hml, hown, hts⟩ (fun sz => dm_X5_rename l hlt dC dI (fun k => a (k + 3)) (fun k => ac (k + 3)) n (v0) (q1) (q5) s16.2.2.1 hq sz) (cwV 3 hts gi_dm_X5_answerOf_13 rfl rfl rfl (by decide +kernel) ⟨Nat.le_of_ble_eq_true rfl, Nat.le_of_ble_eq_true rfl⟩) hPc hDc hKc hS hA hN (va_recv hKc hPc (ci := 6) (q0 := 0) rfl rfl) rfl hl.1 rfl (Nat.le_of_ble_eq_true rfl) dX5_answerOf_246 (fun H locs hP1 hD1 hk1 hS => ?_)
    obtain ⟨hP, hD⟩ := dn_wX11_X5_2 hP hD hzA hk1 hP1 hD1
    obtain ⟨s81, es81, h⟩ := nd_let_e h
    have hP : va_P (dC, dI) vwCl (dw_X11 a ac s81) H := by rw [es81]; exact hP
    have hD : va_D A (dw_X11 a ac s81) := by rw [es81]; exact hD
    exact K _ _ _ _ _ _ dX5_answerOf_249 (Option.some.inj h).symm hP hD hS
  have h := nd_neg h c77
  by_cases c82 : q13 = 14
  · have h := nd_pos h c82
    refine lv_tableIn (off := 218) (tgt := 250) hx hb dX5_answerOf_32 (by rw [c82]; decide) (by rw [c82]; decide) (by rw [c82]; decide) (by decide) ?_
    refine lv_aload_n hx hb dX5_answerOf_250 rfl (lv_at hl 3 rfl) ?_
    refine lv_iload_n hx hb dX5_answerOf_251 rfl (lv_at hl 4 rfl) ?_
    refine lv_iload_n hx hb dX5_answerOf_252 rfl (lv_at hl 2 rfl) ?_
    obtain ⟨q83, s84, hq, h⟩ := nd_b2_e h
    have hPc := dp_wX11_X5_2 hP
    have hDc := dd_wX11_X5_2 hD
    have hKc := dy_wX11_X5_2 hK
    have hFc := nd_rs hDc hS hA
    have hzA : ∀ q : Nat, H.size ≤ q → A q := fun q h => hA q (Nat.le_trans hS.1 h)
    refine nd_cVl (As := [.int v0, .int q1]) (rest := []) (q := q83) (w' := dw_X5 (fun k => a (k + 3)) (fun k => ac (k + 3)) s84) ⟨hx, hb, hml, hown, hts⟩ (fun sz => dm_X5_grow l hlt dC dI (fun k => a (k + 3)) (fun k => ac (k + 3)) n (v0) (q1) s16.2.2.1 hq sz) (cwV 2 hts gi_dm_X5_answerOf_14 rfl rfl rfl (by decide +kernel) ⟨Nat.le_of_ble_eq_true rfl, Nat.le_of_ble_eq_true rfl⟩) hPc hDc hKc hS hA hN (va_recv hKc hPc (ci := 6) (q0 := 0) rfl rfl) rfl hl.1 rfl (Nat.le_of_ble_eq_true rfl) dX5_answerOf_253 (fun H locs hP1 hD1 hk1 hS => ?_)
    obtain ⟨hP, hD⟩ := dn_wX11_X5_2 hP hD hzA hk1 hP1 hD1
    obtain ⟨s86, es86, h⟩ := nd_let_e h
    have hP : va_P (dC, dI) vwCl (dw_X11 a ac s86) H := by rw [es86]; exact hP
    have hD : va_D A (dw_X11 a ac s86) := by rw [es86]; exact hD
    exact K _ _ _ _ _ _ dX5_answerOf_256 (Option.some.inj h).symm hP hD hS
  have h := nd_neg h c82
  by_cases c87 : q13 = 15
  · have h := nd_pos h c87
    refine lv_tableIn (off := 225) (tgt := 257) hx hb dX5_answerOf_32 (by rw [c87]; decide) (by rw [c87]; decide) (by rw [c87]; decide) (by decide) ?_
    refine lv_aload_n hx hb dX5_answerOf_257 rfl (lv_at hl 3 rfl) ?_
    refine va_get (D := (dC, dI)) (ci := 6) (v := .ref (a 7)) (C := RX5) (T := TX5) (N := 8) hx hb hts hi_dm_X5_answerOf_X5 hown hK hP 3 rfl rfl 0 (by decide) (hts (.fieldLink RX5 18 "TimeMachine$Kernel" "machine" "LTimeMachine$Machine;") (List.mem_of_getElem? (i := 5) rfl)) (fun _ h9 => h9) rfl dX5_answerOf_258 ?_
    refine lv_aload_n hx hb dX5_answerOf_261 rfl (lv_at hl 3 rfl) ?_
    refine va_get (D := (dC, dI)) (ci := 6) (v := .ref (a 7)) (C := RX5) (T := TX5) (N := 8) hx hb hts hi_dm_X5_answerOf_X5 hown hK hP 3 rfl rfl 0 (by decide) (hts (.fieldLink RX5 18 "TimeMachine$Kernel" "machine" "LTimeMachine$Machine;") (List.mem_of_getElem? (i := 5) rfl)) (fun _ h9 => h9) rfl dX5_answerOf_262 ?_
    refine lv_iload_n hx hb dX5_answerOf_265 rfl (lv_at hl 4 rfl) ?_
    obtain ⟨q88, s89, hq, h⟩ := nd_b2_e h
    have hPc := dp_wX11_X6_0 hP
    have hDc := dd_wX11_X6_0 hD
    have hKc := dy_wX11_X6_0 hK
    have hFc := nd_rs hDc hS hA
    have hzA : ∀ q : Nat, H.size ≤ q → A q := fun q h => hA q (Nat.le_trans hS.1 h)
    refine nd_cVi (As := [.int v0]) (rest := [.ref (a 7)]) (q := q88) (w' := dw_X6 (fun k => a (k + 7)) (fun k => ac (k + 7)) s89) ⟨hx, hb, hml, hown, hts⟩ (fun sz => dm_X6_nextReady l hlt dC dI (fun k => a (k + 7)) (fun k => ac (k + 7)) n (v0) s16.2.2.1.2.2 hq sz) (cwV 1 hts gi_dm_X5_answerOf_15 rfl rfl rfl (by decide +kernel) ⟨Nat.le_of_ble_eq_true rfl, Nat.le_of_ble_eq_true rfl⟩) hPc hDc hKc hS hA hN (va_recv hKc hPc (ci := 7) (q0 := 0) rfl rfl) rfl hl.1 rfl (Nat.le_of_ble_eq_true rfl) dX5_answerOf_266 (fun H locs hP1 hD1 hk1 hS => ?_)
    obtain ⟨hP, hD⟩ := dn_wX11_X6_0 hP hD hzA hk1 hP1 hD1
    obtain ⟨s91, es91, h⟩ := nd_let_e h
    have hP : va_P (dC, dI) vwCl (dw_X11 a ac s91) H := by rw [es91]; exact hP
    have hD : va_D A (dw_X11 a ac s91) := by rw [es91]; exact hD
    obtain ⟨s93, hq, h⟩ := nd_b1_e h
    have hPc := dp_wX11_X6_0 hP
    have hDc := dd_wX11_X6_0 hD
    have hKc := dy_wX11_X6_0 hK
    have hFc := nd_rs hDc hS hA
    have hzA : ∀ q : Nat, H.size ≤ q → A q := fun q h => hA q (Nat.le_trans hS.1 h)
    refine nd_cVv (As := [.int q88]) (rest := []) (w' := dw_X6 (fun k => a (k + 7)) (fun k => ac (k + 7)) s93) ⟨hx, hb, hml, hown, hts⟩ (fun sz => dm_X6_makeCurrent l hlt dC dI (fun k => a (k + 7)) (fun k => ac (k + 7)) n (q88) s91.2.2.1.2.2 hq sz) (cwV 1 hts gi_dm_X5_answerOf_16 rfl rfl rfl (by decide +kernel) ⟨Nat.le_of_ble_eq_true rfl, Nat.le_of_ble_eq_true rfl⟩) hPc hDc hKc hS hA hN (va_recv hKc hPc (ci := 7) (q0 := 0) rfl rfl) rfl hl.1 rfl (Nat.le_of_ble_eq_true rfl) dX5_answerOf_269 (fun H locs hP1 hD1 hk1 hS => ?_)
    obtain ⟨hP, hD⟩ := dn_wX11_X6_0 hP hD hzA hk1 hP1 hD1
    obtain ⟨s95, es95, h⟩ := nd_let_e h
    have hP : va_P (dC, dI) vwCl (dw_X11 a ac s95) H := by rw [es95]; exact hP
    have hD : va_D A (dw_X11 a ac s95) := by rw [es95]; exact hD
    refine lv_lconst (v := 0) hx hb dX5_answerOf_272 (by decide) ?_
    exact K _ _ _ _ _ _ dX5_answerOf_273 (Option.some.inj h).symm hP hD hS
  have h := nd_neg h c87
  by_cases c96 : q13 = 16
  · have h := nd_pos h c96
    refine lv_tableIn (off := 242) (tgt := 274) hx hb dX5_answerOf_32 (by rw [c96]; decide) (by rw [c96]; decide) (by rw [c96]; decide) (by decide) ?_
    refine lv_aload_n hx hb dX5_answerOf_274 rfl (lv_at hl 3 rfl) ?_
    refine lv_iload_n hx hb dX5_answerOf_275 rfl (lv_at hl 2 rfl) ?_
    refine lv_iload_n hx hb dX5_answerOf_276 rfl (lv_at hl 1 rfl) ?_
    obtain ⟨q97, s98, hq, h⟩ := nd_b2_e h
    have hPc := dp_wX11_X5_2 hP
    have hDc := dd_wX11_X5_2 hD
    have hKc := dy_wX11_X5_2 hK
    have hFc := nd_rs hDc hS hA
    have hzA : ∀ q : Nat, H.size ≤ q → A q := fun q h => hA q (Nat.le_trans hS.1 h)
    refine nd_cVl (As := [.int q1, .int q5]) (rest := []) (q := q97) (w' := dw_X5 (fun k => a (k + 3)) (fun k => ac (k + 3)) s98) ⟨hx, hb, hml, hown, hts⟩ (fun sz => dm_X5_signal l hlt dC dI (fun k => a (k + 3)) (fun k => ac (k + 3)) n (q1) (q5) s16.2.2.1 hq sz) (cwV 2 hts gi_dm_X5_answerOf_17 rfl rfl rfl (by decide +kernel) ⟨Nat.le_of_ble_eq_true rfl, Nat.le_of_ble_eq_true rfl⟩) hPc hDc hKc hS hA hN (va_recv hKc hPc (ci := 6) (q0 := 0) rfl rfl) rfl hl.1 rfl (Nat.le_of_ble_eq_true rfl) dX5_answerOf_277 (fun H locs hP1 hD1 hk1 hS => ?_)
    obtain ⟨hP, hD⟩ := dn_wX11_X5_2 hP hD hzA hk1 hP1 hD1
    obtain ⟨s100, es100, h⟩ := nd_let_e h
    have hP : va_P (dC, dI) vwCl (dw_X11 a ac s100) H := by rw [es100]; exact hP
    have hD : va_D A (dw_X11 a ac s100) := by rw [es100]; exact hD
    exact K _ _ _ _ _ _ dX5_answerOf_280 (Option.some.inj h).symm hP hD hS
  have h := nd_neg h c96
  by_cases c101 : q13 = 17
  · have h := nd_pos h c101
    refine lv_tableIn (off := 249) (tgt := 281) hx hb dX5_answerOf_32 (by rw [c101]; decide) (by rw [c101]; decide) (by rw [c101]; decide) (by decide) ?_
    refine lv_aload_n hx hb dX5_answerOf_281 rfl (lv_at hl 3 rfl) ?_
    refine lv_iload_n hx hb dX5_answerOf_282 rfl (lv_at hl 4 rfl) ?_
    refine lv_iload_n hx hb dX5_answerOf_283 rfl (lv_at hl 2 rfl) ?_
    refine lv_iload_n hx hb dX5_answerOf_284 rfl (lv_at hl 1 rfl) ?_
    obtain ⟨q102, s103, hq, h⟩ := nd_b2_e h
    have hPc := dp_wX11_X5_2 hP
    have hDc := dd_wX11_X5_2 hD
    have hKc := dy_wX11_X5_2 hK
    have hFc := nd_rs hDc hS hA
    have hzA : ∀ q : Nat, H.size ≤ q → A q := fun q h => hA q (Nat.le_trans hS.1 h)
    refine nd_cVl (As := [.int v0, .int q1, .int q5]) (rest := []) (q := q102) (w' := dw_X5 (fun k => a (k + 3)) (fun k => ac (k + 3)) s103) ⟨hx, hb, hml, hown, hts⟩ (fun sz => dm_X5_handle l hlt dC dI (fun k => a (k + 3)) (fun k => ac (k + 3)) n (v0) (q1) (q5) s16.2.2.1 hq sz) (cwV 3 hts gi_dm_X5_answerOf_18 rfl rfl rfl (by decide +kernel) ⟨Nat.le_of_ble_eq_true rfl, Nat.le_of_ble_eq_true rfl⟩) hPc hDc hKc hS hA hN (va_recv hKc hPc (ci := 6) (q0 := 0) rfl rfl) rfl hl.1 rfl (Nat.le_of_ble_eq_true rfl) dX5_answerOf_285 (fun H locs hP1 hD1 hk1 hS => ?_)
    obtain ⟨hP, hD⟩ := dn_wX11_X5_2 hP hD hzA hk1 hP1 hD1
    obtain ⟨s105, es105, h⟩ := nd_let_e h
    have hP : va_P (dC, dI) vwCl (dw_X11 a ac s105) H := by rw [es105]; exact hP
    have hD : va_D A (dw_X11 a ac s105) := by rw [es105]; exact hD
    exact K _ _ _ _ _ _ dX5_answerOf_288 (Option.some.inj h).symm hP hD hS
  have h := nd_neg h c101
  by_cases c106 : q13 = 18
  · have h := nd_pos h c106
    refine lv_tableIn (off := 257) (tgt := 289) hx hb dX5_answerOf_32 (by rw [c106]; decide) (by rw [c106]; decide) (by rw [c106]; decide) (by decide) ?_
    refine lv_aload_n hx hb dX5_answerOf_289 rfl (lv_at hl 3 rfl) ?_
    refine lv_iload_n hx hb dX5_answerOf_290 rfl (lv_at hl 4 rfl) ?_
    obtain ⟨q107, s108, hq, h⟩ := nd_b2_e h
    have hPc := dp_wX11_X5_2 hP
    have hDc := dd_wX11_X5_2 hD
    have hKc := dy_wX11_X5_2 hK
    have hFc := nd_rs hDc hS hA
    have hzA : ∀ q : Nat, H.size ≤ q → A q := fun q h => hA q (Nat.le_trans hS.1 h)
    refine nd_cVl (As := [.int v0]) (rest := []) (q := q107) (w' := dw_X5 (fun k => a (k + 3)) (fun k => ac (k + 3)) s108) ⟨hx, hb, hml, hown, hts⟩ (fun sz => dm_X5_back l hlt dC dI (fun k => a (k + 3)) (fun k => ac (k + 3)) n (v0) s16.2.2.1 hq sz) (cwV 1 hts gi_dm_X5_answerOf_19 rfl rfl rfl (by decide +kernel) ⟨Nat.le_of_ble_eq_true rfl, Nat.le_of_ble_eq_true rfl⟩) hPc hDc hKc hS hA hN (va_recv hKc hPc (ci := 6) (q0 := 0) rfl rfl) rfl hl.1 rfl (Nat.le_of_ble_eq_true rfl) dX5_answerOf_291 (fun H locs hP1 hD1 hk1 hS => ?_)
    obtain ⟨hP, hD⟩ := dn_wX11_X5_2 hP hD hzA hk1 hP1 hD1
    obtain ⟨s110, es110, h⟩ := nd_let_e h
    have hP : va_P (dC, dI) vwCl (dw_X11 a ac s110) H := by rw [es110]; exact hP
    have hD : va_D A (dw_X11 a ac s110) := by rw [es110]; exact hD
    exact K _ _ _ _ _ _ dX5_answerOf_294 (Option.some.inj h).symm hP hD hS
  have h := nd_neg h c106
  by_cases c111 : q13 = 19
  · have h := nd_pos h c111
    refine lv_tableIn (off := 263) (tgt := 295) hx hb dX5_answerOf_32 (by rw [c111]; decide) (by rw [c111]; decide) (by rw [c111]; decide) (by decide) ?_
    refine lv_aload_n hx hb dX5_answerOf_295 rfl (lv_at hl 3 rfl) ?_
    refine lv_iload_n hx hb dX5_answerOf_296 rfl (lv_at hl 4 rfl) ?_
    refine lv_iload_n hx hb dX5_answerOf_297 rfl (lv_at hl 2 rfl) ?_
    obtain ⟨q112, s113, hq, h⟩ := nd_b2_e h
    have hPc := dp_wX11_X5_2 hP
    have hDc := dd_wX11_X5_2 hD
    have hKc := dy_wX11_X5_2 hK
    have hFc := nd_rs hDc hS hA
    have hzA : ∀ q : Nat, H.size ≤ q → A q := fun q h => hA q (Nat.le_trans hS.1 h)
    refine nd_cVl (As := [.int v0, .int q1]) (rest := []) (q := q112) (w' := dw_X5 (fun k => a (k + 3)) (fun k => ac (k + 3)) s113) ⟨hx, hb, hml, hown, hts⟩ (fun sz => dm_X5_sleep l hlt dC dI (fun k => a (k + 3)) (fun k => ac (k + 3)) n (v0) (q1) s16.2.2.1 hq sz) (cwV 2 hts gi_dm_X5_answerOf_20 rfl rfl rfl (by decide +kernel) ⟨Nat.le_of_ble_eq_true rfl, Nat.le_of_ble_eq_true rfl⟩) hPc hDc hKc hS hA hN (va_recv hKc hPc (ci := 6) (q0 := 0) rfl rfl) rfl hl.1 rfl (Nat.le_of_ble_eq_true rfl) dX5_answerOf_298 (fun H locs hP1 hD1 hk1 hS => ?_)
    obtain ⟨hP, hD⟩ := dn_wX11_X5_2 hP hD hzA hk1 hP1 hD1
    obtain ⟨s115, es115, h⟩ := nd_let_e h
    have hP : va_P (dC, dI) vwCl (dw_X11 a ac s115) H := by rw [es115]; exact hP
    have hD : va_D A (dw_X11 a ac s115) := by rw [es115]; exact hD
    exact K _ _ _ _ _ _ dX5_answerOf_301 (Option.some.inj h).symm hP hD hS
  have h := nd_neg h c111
  by_cases c116 : q13 = 20
  · have h := nd_pos h c116
    refine lv_tableIn (off := 270) (tgt := 302) hx hb dX5_answerOf_32 (by rw [c116]; decide) (by rw [c116]; decide) (by rw [c116]; decide) (by decide) ?_
    refine lv_aload_n hx hb dX5_answerOf_302 rfl (lv_at hl 3 rfl) ?_
    refine va_get (D := (dC, dI)) (ci := 6) (v := .ref (a 11)) (C := RX5) (T := TX5) (N := 8) hx hb hts hi_dm_X5_answerOf_X5 hown hK hP 3 rfl rfl 2 (by decide) (hts (.fieldLink RX5 33 "TimeMachine$Kernel" "reg" "[I") (List.mem_of_getElem? (i := 68) rfl)) (fun _ h9 => h9) rfl dX5_answerOf_303 ?_
    refine lv_iload_n hx hb dX5_answerOf_306 rfl (lv_at hl 4 rfl) ?_
    refine lv_bipush (v := 33) hx hb dX5_answerOf_307 (by decide) ?_
    refine lv_imul hx hb dX5_answerOf_309 ?_
    refine lv_bipush (v := 11) hx hb dX5_answerOf_310 (by decide) ?_
    refine lv_iadd hx hb dX5_answerOf_312 ?_
    refine lv_aload_n hx hb dX5_answerOf_313 rfl (lv_at hl 3 rfl) ?_
    refine va_get (D := (dC, dI)) (ci := 6) (v := .ref (a 7)) (C := RX5) (T := TX5) (N := 8) hx hb hts hi_dm_X5_answerOf_X5 hown hK hP 3 rfl rfl 0 (by decide) (hts (.fieldLink RX5 18 "TimeMachine$Kernel" "machine" "LTimeMachine$Machine;") (List.mem_of_getElem? (i := 5) rfl)) (fun _ h9 => h9) rfl dX5_answerOf_314 ?_
    refine va_get (D := (dC, dI)) (ci := 7) (v := .long (sL s16.2.2.1.2.2.1 0)) (C := RX6) (T := TX6) (N := 20) hx hb hts hi_dm_X5_answerOf_X6 hown hK hP 7 rfl rfl 17 (by decide) (hts (.fieldLink RX5 133 "TimeMachine$Machine" "clock" "J") (List.mem_of_getElem? (i := 69) rfl)) (fun _ h9 => h9) rfl dX5_answerOf_317 ?_
    refine lv_bipush (v := 32) hx hb dX5_answerOf_320 (by decide) ?_
    refine lv_lshr hx hb dX5_answerOf_322 rfl ?_
    refine lv_l2i hx hb dX5_answerOf_323 rfl ?_
    obtain ⟨i117, h⟩ := nd_ck_e h
    refine va_iast (i := ((v0 * 33) + 11)) (x := ((((sL s16.2.2.1.2.2.1 0) : Int64) >>> ((32 : Int32).toInt64 &&& 63)).toInt32)) hx hb hK hP hD hS 11 7 rfl rfl i117 dX5_answerOf_324 (fun H locs hP hD hS => ?_)
    obtain ⟨s118, es118, h⟩ := nd_let_e h
    have hP : va_P (dC, dI) vwCl (dw_X11 a ac s118) H := by rw [es118]; exact hP
    have hD : va_D A (dw_X11 a ac s118) := by rw [es118]; exact hD
    refine lv_aload_n hx hb dX5_answerOf_325 rfl (lv_at hl 3 rfl) ?_
    refine va_get (D := (dC, dI)) (ci := 6) (v := .ref (a 7)) (C := RX5) (T := TX5) (N := 8) hx hb hts hi_dm_X5_answerOf_X5 hown hK hP 3 rfl rfl 0 (by decide) (hts (.fieldLink RX5 18 "TimeMachine$Kernel" "machine" "LTimeMachine$Machine;") (List.mem_of_getElem? (i := 5) rfl)) (fun _ h9 => h9) rfl dX5_answerOf_326 ?_
    refine va_get (D := (dC, dI)) (ci := 7) (v := .long (sL s118.2.2.1.2.2.1 0)) (C := RX6) (T := TX6) (N := 20) hx hb hts hi_dm_X5_answerOf_X6 hown hK hP 7 rfl rfl 17 (by decide) (hts (.fieldLink RX5 133 "TimeMachine$Machine" "clock" "J") (List.mem_of_getElem? (i := 69) rfl)) (fun _ h9 => h9) rfl dX5_answerOf_329 ?_
    refine lv_l2i hx hb dX5_answerOf_332 rfl ?_
    refine lv_i2l hx hb dX5_answerOf_333 rfl ?_
    exact K _ _ _ _ _ _ dX5_answerOf_334 (Option.some.inj h).symm hP hD hS
  have h := nd_neg h c116
  by_cases c119 : q13 = 21
  · have h := nd_pos h c119
    refine lv_tableIn (off := 303) (tgt := 335) hx hb dX5_answerOf_32 (by rw [c119]; decide) (by rw [c119]; decide) (by rw [c119]; decide) (by decide) ?_
    refine lv_aload_n hx hb dX5_answerOf_335 rfl (lv_at hl 3 rfl) ?_
    refine lv_iload_n hx hb dX5_answerOf_336 rfl (lv_at hl 4 rfl) ?_
    obtain ⟨q120, s121, hq, h⟩ := nd_b2_e h
    have hPc := dp_wX11_X5_2 hP
    have hDc := dd_wX11_X5_2 hD
    have hKc := dy_wX11_X5_2 hK
    have hFc := nd_rs hDc hS hA
    have hzA : ∀ q : Nat, H.size ≤ q → A q := fun q h => hA q (Nat.le_trans hS.1 h)
    refine nd_cVi (As := [.int v0]) (rest := []) (q := q120) (w' := dw_X5 (fun k => a (k + 3)) (fun k => ac (k + 3)) s121) ⟨hx, hb, hml, hown, hts⟩ (fun sz => dm_X5_mustWait l hlt dC dI (fun k => a (k + 3)) (fun k => ac (k + 3)) n (v0) s16.2.2.1 hq sz) (cwV 1 hts gi_dm_X5_answerOf_21 rfl rfl rfl (by decide +kernel) ⟨Nat.le_of_ble_eq_true rfl, Nat.le_of_ble_eq_true rfl⟩) hPc hDc hKc hS hA hN (va_recv hKc hPc (ci := 6) (q0 := 0) rfl rfl) rfl hl.1 rfl (Nat.le_of_ble_eq_true rfl) dX5_answerOf_337 (fun H locs hP1 hD1 hk1 hS => ?_)
    obtain ⟨hP, hD⟩ := dn_wX11_X5_2 hP hD hzA hk1 hP1 hD1
    obtain ⟨s123, es123, h⟩ := nd_let_e h
    have hP : va_P (dC, dI) vwCl (dw_X11 a ac s123) H := by rw [es123]; exact hP
    have hD : va_D A (dw_X11 a ac s123) := by rw [es123]; exact hD
    refine lv_if_eq (tgt := 349) hx hb dX5_answerOf_340 (by decide) (fun c124 => ?_) (fun c124 => ?_)
    · have h := nd_pos h c124
      refine lv_aload_n hx hb dX5_answerOf_349 rfl (lv_at hl 3 rfl) ?_
      refine va_get (D := (dC, dI)) (ci := 6) (v := .ref (a 7)) (C := RX5) (T := TX5) (N := 8) hx hb hts hi_dm_X5_answerOf_X5 hown hK hP 3 rfl rfl 0 (by decide) (hts (.fieldLink RX5 18 "TimeMachine$Kernel" "machine" "LTimeMachine$Machine;") (List.mem_of_getElem? (i := 5) rfl)) (fun _ h9 => h9) rfl dX5_answerOf_350 ?_
      obtain ⟨q125, s126, hq, h⟩ := nd_b2_e h
      have hPc := dp_wX11_X6_0 hP
      have hDc := dd_wX11_X6_0 hD
      have hKc := dy_wX11_X6_0 hK
      have hFc := nd_rs hDc hS hA
      have hzA : ∀ q : Nat, H.size ≤ q → A q := fun q h => hA q (Nat.le_trans hS.1 h)
      refine nd_cVi (As := []) (rest := []) (q := q125) (w' := dw_X6 (fun k => a (k + 7)) (fun k => ac (k + 7)) s126) ⟨hx, hb, hml, hown, hts⟩ (fun sz => dm_X6_takeRandom l hlt dC dI (fun k => a (k + 7)) (fun k => ac (k + 7)) n  s123.2.2.1.2.2 hq sz) (cwV 0 hts gi_dm_X5_answerOf_22 rfl rfl rfl (by decide +kernel) ⟨Nat.le_of_ble_eq_true rfl, Nat.le_of_ble_eq_true rfl⟩) hPc hDc hKc hS hA hN (va_recv hKc hPc (ci := 7) (q0 := 0) rfl rfl) rfl hl.1 rfl (Nat.le_of_ble_eq_true rfl) dX5_answerOf_353 (fun H locs hP1 hD1 hk1 hS => ?_)
      obtain ⟨hP, hD⟩ := dn_wX11_X6_0 hP hD hzA hk1 hP1 hD1
      obtain ⟨s128, es128, h⟩ := nd_let_e h
      have hP : va_P (dC, dI) vwCl (dw_X11 a ac s128) H := by rw [es128]; exact hP
      have hD : va_D A (dw_X11 a ac s128) := by rw [es128]; exact hD
      refine lv_i2l hx hb dX5_answerOf_356 rfl ?_
      exact (db_X5_answerOf_357 C K) ((q125.toInt64)) s128 _ _ _ h hP hD hS (lv_sub hl [] rfl)
    · have h := nd_neg h c124
      refine lv_ldc2 hx hb hown (hts (.constantLong RX5 157 (1099511627776)) (List.mem_of_getElem? (i := 76) rfl)) dX5_answerOf_343 ?_
      refine lv_goto (tgt := 357) hx hb dX5_answerOf_346 (by decide) ?_
      exact (db_X5_answerOf_357 C K) (1099511627776) s123 _ _ _ h hP hD hS (lv_sub hl [] rfl)
  have h := nd_neg h c119
  refine lv_tableOut (tgt := 358) hx hb dX5_answerOf_32 (by have g0 := nv_nei c17 (k := 0) (by decide); have g1 := nv_nei c22 (k := 1) (by decide); have g2 := nv_nei c27 (k := 2) (by decide); have g3 := nv_nei c31 (k := 3) (by decide); have g4 := nv_nei c36 (k := 4) (by decide); have g5 := nv_nei c37 (k := 5) (by decide); have g6 := nv_nei c42 (k := 6) (by decide); have g7 := nv_nei c47 (k := 7) (by decide); have g8 := nv_nei c52 (k := 8) (by decide); have g9 := nv_nei c57 (k := 9) (by decide); have g10 := nv_nei c62 (k := 10) (by decide); have g11 := nv_nei c67 (k := 11) (by decide); have g12 := nv_nei c72 (k := 12) (by decide); have g13 := nv_nei c77 (k := 13) (by decide); have g14 := nv_nei c82 (k := 14) (by decide); have g15 := nv_nei c87 (k := 15) (by decide); have g16 := nv_nei c96 (k := 16) (by decide); have g17 := nv_nei c101 (k := 17) (by decide); have g18 := nv_nei c106 (k := 18) (by decide); have g19 := nv_nei c111 (k := 19) (by decide); have g20 := nv_nei c116 (k := 20) (by decide); have g21 := nv_nei c119 (k := 21) (by decide); omega) (by decide) ?_
  refine lv_ldc2 hx hb hown (hts (.constantLong RX5 221 (-38)) (List.mem_of_getElem? (i := 77) rfl)) dX5_answerOf_358 ?_
  exact K _ _ _ _ _ _ dX5_answerOf_361 (Option.some.inj h).symm hP hD hS
set_option maxHeartbeats 40000000 in
set_option maxRecDepth 100000 in
theorem dm_X5_answerOf (l : Launch) (hlt : l.stackTraces = false) (dC : Nat → ClassId) (dI : Nat → Nat → Nat) (a : Nat → Nat) (ac : Nat → ClassId) (n : Nat) (v0 : Int32) (s0 : St × Rw × (St × (St × (St × (St)))) × (St) × (St) × (Nat → St) × (Nat → St) × (Nat → St × (St))) {r : Int64 × (St × Rw × (St × (St × (St × (St)))) × (St) × (St) × (Nat → St) × (Nat → St) × (Nat → St × (St)))} (h : df_X5_answerOf n v0 s0 = some r) (sz : Nat) : Met l yX5_answerOf ow_dm_X5_answerOf ({ frames := 3, cells := 0, slots := 0, locals := 92 }) (va_Pc [.ref (a 3), .int v0] (fun U => U.heap.size = sz ∧ va_P (dC, dI) vwCl (dw_X11 a ac s0) U.heap ∧ va_K (dC, dI) vwCl (dk_X11 ac) U ∧ va_D (fun _ => True) (dw_X11 a ac s0) ∧ nv_E dI (va_A (dw_X11 a ac s0) sz) U)) (va_Ql (fun x _ => x = r.1) (fun (_ : Unit) t => va_P (dC, dI) vwCl (dw_X11 a ac r.2) t.heap ∧ va_K (dC, dI) vwCl (dk_X11 ac) t ∧ va_D (va_A (dw_X11 a ac s0) sz) (dw_X11 a ac r.2)) (va_A (dw_X11 a ac s0) sz)) 0 0 (va_A (dw_X11 a ac s0) sz) := by
  refine Met.ofW (cc := cX5_answerOf) (maxL := 5) (ret := (some .long)) (by decide) rfl ?_
  intro p e s m args below meth c s₁ B hml hv
  obtain ⟨rfl, hsz, hP, hK, hD0, hN⟩ := hv
  have hx := B.exec
  have hb := B.bytes
  have hr := B.returns
  have hts := atoms_spec (ws := ow_dm_X5_answerOf) B.pre
  have hown : s.vm.findClass RX5 = some m.cls := findClass_of_methodNamed B.named
  have hlocks := B.notSynchronized
  subst hsz
  have hD := hD0.self (sz := s.heap.size)
  generalize hAe : va_A (dw_X11 a ac s0) s.heap.size = A at hD hN ⊢
  have hA : ∀ q : Nat, s.heap.size ≤ q → A q := fun q h => by rw [← hAe]; exact Or.inr h
  have hl := lv_entry ([.ref (a 3), .int v0]) (n := 5) (Nat.le_of_ble_eq_true rfl)
  rw [lg_entry_eq]
  generalize (lg_sl ([.ref (a 3), .int v0]) ++ List.replicate (5 - (lg_sl ([.ref (a 3), .int v0])).length) Slot.unset).toArray = ls at hl ⊢
  have hl : lv_has ls 5 [(0, .ref (a 3)), (1, .int v0)] := hl
  exact db_X5_answerOf_0 (dC := dC) (dI := dI) (a := a) (ac := ac) (n := n) (r := r) ⟨hlt, hx, hb, hml, hown, hts, hN, hA, hK⟩ (fun pc v τ H locs ls d er hP hD hS => by subst er; exact W.lret (v := v) hx hb hr (fun t ht hW => ⟨⟨v, (), rfl, rfl, by rw [ht]; exact hP, va_K.moved hW.alike hK, hD⟩, hS.F ht⟩) hS.2.2 d) v0 s0 _ _ _ h hP hD va_S.rf (lv_sub hl [0, 1] rfl)
set_option maxHeartbeats 40000000 in
set_option maxRecDepth 100000 in
theorem de_wX11_X4_1 {a : Nat → Nat} {ac : Nat → ClassId} {τ : St × (St × (St))} : ([dwo_X4 (fun k => a (k + 6)) (fun k => ac (k + 6)) (τ.1), dwo_X6 (fun k => a (k + 7)) (fun k => ac (k + 7)) (τ.2.1), dw_X10 (fun k => a (k + 17)) (fun k => ac (k + 17)) (τ.2.2)] : List va_W).flatten = dw_X4 (fun k => a (k + 6)) (fun k => ac (k + 6)) τ := by
  first
  | (simp only [List.flatten_cons, List.flatten_nil, List.append_nil]; done)
  | (simp only [List.flatten_cons, List.flatten_nil, List.append_nil]; rfl)
set_option maxHeartbeats 40000000 in
set_option maxRecDepth 100000 in
theorem dp_wX11_X4_1 {D : va_G} {H : Heap} {a : Nat → Nat} {ac : Nat → ClassId} {σ : St × Rw × (St × (St × (St × (St)))) × (St) × (St) × (Nat → St) × (Nat → St) × (Nat → St × (St))} (h : va_P D vwCl (dw_X11 a ac σ) H) : va_P D vwCl (dw_X4 (fun k => a (k + 6)) (fun k => ac (k + 6)) σ.2.2.1.2) H := by
  have h2 := nd_vp (segs := dg_X11 a ac σ) (ix := [2, 3, 4]) (old := [dwo_X4 (fun k => a (k + 6)) (fun k => ac (k + 6)) (σ.2.2.1.2.1), dwo_X6 (fun k => a (k + 7)) (fun k => ac (k + 7)) (σ.2.2.1.2.2.1), dw_X10 (fun k => a (k + 17)) (fun k => ac (k + 17)) (σ.2.2.1.2.2.2)]) h (nd_co rfl (nd_co rfl (nd_co rfl rfl)))
  have e := de_wX11_X4_1 (a := a) (ac := ac) (τ := σ.2.2.1.2)
  exact e ▸ h2
set_option maxHeartbeats 40000000 in
set_option maxRecDepth 100000 in
theorem dd_wX11_X4_1 {A : Nat → Prop} {a : Nat → Nat} {ac : Nat → ClassId} {σ : St × Rw × (St × (St × (St × (St)))) × (St) × (St) × (Nat → St) × (Nat → St) × (Nat → St × (St))} (h : va_D A (dw_X11 a ac σ)) : va_D A (dw_X4 (fun k => a (k + 6)) (fun k => ac (k + 6)) σ.2.2.1.2) := by
  have h2 := nd_vd (segs := dg_X11 a ac σ) (ix := [2, 3, 4]) (old := [dwo_X4 (fun k => a (k + 6)) (fun k => ac (k + 6)) (σ.2.2.1.2.1), dwo_X6 (fun k => a (k + 7)) (fun k => ac (k + 7)) (σ.2.2.1.2.2.1), dw_X10 (fun k => a (k + 17)) (fun k => ac (k + 17)) (σ.2.2.1.2.2.2)]) h (nd_co rfl (nd_co rfl (nd_co rfl rfl))) (by decide)
  have e := de_wX11_X4_1 (a := a) (ac := ac) (τ := σ.2.2.1.2)
  exact e ▸ h2
set_option maxHeartbeats 40000000 in
set_option maxRecDepth 100000 in
theorem dy_wX11_X4_1 {D : va_G} {U : State} {ac : Nat → ClassId} (h : va_K D vwCl (dk_X11 ac) U) : va_K D vwCl (dk_X4 (fun k => ac (k + 6))) U := (h.sub [4, 5, 6, 7, 8, 9, 10, 11, 12, 13, 14, 15, 16, 17, 18, 19, 20, 21] rfl)
set_option maxHeartbeats 40000000 in
set_option maxRecDepth 100000 in
theorem dn_wX11_X4_1 {A0 : Nat → Prop} {D : va_G} {H H1 : Heap} {a : Nat → Nat} {ac : Nat → ClassId} {σ : St × Rw × (St × (St × (St × (St)))) × (St) × (St) × (Nat → St) × (Nat → St) × (Nat → St × (St))} {τ : St × (St × (St))} (hP : va_P D vwCl (dw_X11 a ac σ) H) (hD : va_D A0 (dw_X11 a ac σ)) (hA : ∀ q : Nat, H.size ≤ q → A0 q) (hk : ∀ q : Nat, q < H.size → ¬ va_A (dw_X4 (fun k => a (k + 6)) (fun k => ac (k + 6)) σ.2.2.1.2) H.size q → H1[q]? = H[q]?) (h1 : va_P D vwCl (dw_X4 (fun k => a (k + 6)) (fun k => ac (k + 6)) τ) H1) (h2 : va_D (va_A (dw_X4 (fun k => a (k + 6)) (fun k => ac (k + 6)) σ.2.2.1.2) H.size) (dw_X4 (fun k => a (k + 6)) (fun k => ac (k + 6)) τ)) : va_P D vwCl (dw_X11 a ac (σ.1, (σ.2.1, ((σ.2.2.1.1, τ), σ.2.2.2)))) H1 ∧ va_D A0 (dw_X11 a ac (σ.1, (σ.2.1, ((σ.2.2.1.1, τ), σ.2.2.2)))) := by
  have eo := de_wX11_X4_1 (a := a) (ac := ac) (τ := σ.2.2.1.2)
  have en := de_wX11_X4_1 (a := a) (ac := ac) (τ := τ)
  have h := nd_vn (segs := dg_X11 a ac σ) (ix := [2, 3, 4]) (old := [dwo_X4 (fun k => a (k + 6)) (fun k => ac (k + 6)) (σ.2.2.1.2.1), dwo_X6 (fun k => a (k + 7)) (fun k => ac (k + 7)) (σ.2.2.1.2.2.1), dw_X10 (fun k => a (k + 17)) (fun k => ac (k + 17)) (σ.2.2.1.2.2.2)]) (new := [dwo_X4 (fun k => a (k + 6)) (fun k => ac (k + 6)) (τ.1), dwo_X6 (fun k => a (k + 7)) (fun k => ac (k + 7)) (τ.2.1), dw_X10 (fun k => a (k + 17)) (fun k => ac (k + 17)) (τ.2.2)]) hP hD (nd_co rfl (nd_co rfl (nd_co rfl rfl))) rfl (fun q z y => hk q z (fun w => y (eo ▸ w))) (en ▸ h1)
  have ee : nd_sets (dg_X11 a ac σ) [2, 3, 4] [dwo_X4 (fun k => a (k + 6)) (fun k => ac (k + 6)) (τ.1), dwo_X6 (fun k => a (k + 7)) (fun k => ac (k + 7)) (τ.2.1), dw_X10 (fun k => a (k + 17)) (fun k => ac (k + 17)) (τ.2.2)] = dg_X11 a ac (σ.1, (σ.2.1, ((σ.2.2.1.1, τ), σ.2.2.2))) := rfl
  have hz : va_P D vwCl (dg_X11 a ac (σ.1, (σ.2.1, ((σ.2.2.1.1, τ), σ.2.2.2)))).flatten H1 := by rw [← ee]; exact h
  exact ⟨hz, nd_Da hD dA_X11⟩
def ow_dm_X5_tick : List Cond := Cond.code yX5_tick cX5_tick 4 none :: ([Cond.fieldLink RX5 18 "TimeMachine$Kernel" "machine" "LTimeMachine$Machine;", Cond.fieldLink RX5 51 "TimeMachine$Machine" "current" "I", Cond.fieldLink RX5 55 "TimeMachine$Machine" "written" "I", Cond.fieldLink RX5 58 "TimeMachine$Machine" "ticked" "I", Cond.methodLink RX5 64 yX6_takeable, Cond.instanceMethod yX6_takeable, Cond.selects RX6 yX6_takeable yX6_takeable, Cond.initialized RX6, Cond.fieldLink RX5 43 "TimeMachine$Kernel" "hart" "LTimeMachine$Hart;", Cond.methodLink RX5 72 yX4_step, Cond.instanceMethod yX4_step, Cond.selects RX4 yX4_step yX4_step, Cond.initialized RX4, Cond.methodLink RX5 83 yX5_settle, Cond.instanceMethod yX5_settle, Cond.selects RX5 yX5_settle yX5_settle, Cond.initialized RX5, Cond.fieldLink RX5 37 "TimeMachine$Kernel" "self" "[I", Cond.methodLink RX5 68 yX5_take, Cond.instanceMethod yX5_take, Cond.selects RX5 yX5_take yX5_take, Cond.methodLink RX5 75 yX5_answerOf, Cond.instanceMethod yX5_answerOf, Cond.selects RX5 yX5_answerOf yX5_answerOf, Cond.methodLink RX5 79 yX5_answer, Cond.instanceMethod yX5_answer, Cond.selects RX5 yX5_answer yX5_answer, Cond.fieldLink RX5 61 "TimeMachine$Machine" "reserved" "I"] ++ (u_ws RX5 TX5 8 ++ (u_ws RX6 TX6 20 ++ (ow_dm_X6_takeable ++ (ow_dm_X4_step ++ (ow_dm_X5_settle ++ (ow_dm_X5_take ++ (ow_dm_X5_answerOf ++ (ow_dm_X5_answer ++ [])))))))))
theorem gd_dm_X5_tick : ∀ w ∈ ow_dm_X5_tick, (w.onTables && w.keeps) = true ∨ ∃ ty, w = Cond.arrayClass ty := List.forall_mem_cons.mpr ⟨good_of_word rfl, List.forall_mem_append.mpr ⟨fun w h => good_of_word (List.all_eq_true.mp (by decide +kernel) w h), List.forall_mem_append.mpr ⟨gu_X5, List.forall_mem_append.mpr ⟨gu_X6, List.forall_mem_append.mpr ⟨gd_dm_X6_takeable, List.forall_mem_append.mpr ⟨gd_dm_X4_step, List.forall_mem_append.mpr ⟨gd_dm_X5_settle, List.forall_mem_append.mpr ⟨gd_dm_X5_take, List.forall_mem_append.mpr ⟨gd_dm_X5_answerOf, List.forall_mem_append.mpr ⟨gd_dm_X5_answer, fun _ h => nomatch h⟩⟩⟩⟩⟩⟩⟩⟩⟩⟩
theorem hi_dm_X5_tick_X5 : ∀ w ∈ u_ws RX5 TX5 8, w ∈ ow_dm_X5_tick := fun w h => List.mem_cons_of_mem _ (List.mem_append_right _ (List.mem_append_left _ h))
theorem hi_dm_X5_tick_X6 : ∀ w ∈ u_ws RX6 TX6 20, w ∈ ow_dm_X5_tick := fun w h => List.mem_cons_of_mem _ (List.mem_append_right _ (List.mem_append_right _ (List.mem_append_left _ h)))
theorem gi_dm_X5_tick_0 : GoodIn ow_dm_X5_tick (wsV RX5 64 RX6 yX6_takeable ow_dm_X6_takeable) := goodIn_app (goodIn_of _ (by decide +kernel)) (fun w h => ⟨List.mem_cons_of_mem _ (List.mem_append_right _ (List.mem_append_right _ (List.mem_append_right _ (List.mem_append_left _ h)))), gd_dm_X6_takeable w h⟩)
theorem gi_dm_X5_tick_1 : GoodIn ow_dm_X5_tick (wsV RX5 72 RX4 yX4_step ow_dm_X4_step) := goodIn_app (goodIn_of _ (by decide +kernel)) (fun w h => ⟨List.mem_cons_of_mem _ (List.mem_append_right _ (List.mem_append_right _ (List.mem_append_right _ (List.mem_append_right _ (List.mem_append_left _ h))))), gd_dm_X4_step w h⟩)
theorem gi_dm_X5_tick_2 : GoodIn ow_dm_X5_tick (wsV RX5 83 RX5 yX5_settle ow_dm_X5_settle) := goodIn_app (goodIn_of _ (by decide +kernel)) (fun w h => ⟨List.mem_cons_of_mem _ (List.mem_append_right _ (List.mem_append_right _ (List.mem_append_right _ (List.mem_append_right _ (List.mem_append_right _ (List.mem_append_left _ h)))))), gd_dm_X5_settle w h⟩)
theorem gi_dm_X5_tick_3 : GoodIn ow_dm_X5_tick (wsV RX5 68 RX5 yX5_take ow_dm_X5_take) := goodIn_app (goodIn_of _ (by decide +kernel)) (fun w h => ⟨List.mem_cons_of_mem _ (List.mem_append_right _ (List.mem_append_right _ (List.mem_append_right _ (List.mem_append_right _ (List.mem_append_right _ (List.mem_append_right _ (List.mem_append_left _ h))))))), gd_dm_X5_take w h⟩)
theorem gi_dm_X5_tick_4 : GoodIn ow_dm_X5_tick (wsV RX5 75 RX5 yX5_answerOf ow_dm_X5_answerOf) := goodIn_app (goodIn_of _ (by decide +kernel)) (fun w h => ⟨List.mem_cons_of_mem _ (List.mem_append_right _ (List.mem_append_right _ (List.mem_append_right _ (List.mem_append_right _ (List.mem_append_right _ (List.mem_append_right _ (List.mem_append_right _ (List.mem_append_left _ h)))))))), gd_dm_X5_answerOf w h⟩)
theorem gi_dm_X5_tick_5 : GoodIn ow_dm_X5_tick (wsV RX5 79 RX5 yX5_answer ow_dm_X5_answer) := goodIn_app (goodIn_of _ (by decide +kernel)) (fun w h => ⟨List.mem_cons_of_mem _ (List.mem_append_right _ (List.mem_append_right _ (List.mem_append_right _ (List.mem_append_right _ (List.mem_append_right _ (List.mem_append_right _ (List.mem_append_right _ (List.mem_append_right _ (List.mem_append_left _ h))))))))), gd_dm_X5_answer w h⟩)
def dj_X5_tick_144 (p : Program) (l : Launch) (e : Env) (s : State) (m : MethodId) (args : Array Value) (below : List Frame) (meth : Method) (c : Code) (Q : State → Prop) (A : Nat → Prop) (dC : Nat → ClassId) (dI : Nat → Nat → Nat) (a : Nat → Nat) (ac : Nat → ClassId) (g : (St × Rw × (St × (St × (St × (St)))) × (St) × (St) × (Nat → St) × (Nat → St) × (Nat → St × (St))) → Option (St × Rw × (St × (St × (St × (St)))) × (St) × (St) × (Nat → St) × (Nat → St) × (Nat → St × (St)))) (r : St × Rw × (St × (St × (St × (St)))) × (St) × (St) × (Nat → St) × (Nat → St) × (Nat → St × (St))) : Prop := ∀ (s0 : St × Rw × (St × (St × (St × (St)))) × (St) × (St) × (Nat → St) × (Nat → St) × (Nat → St × (St))) (H : Heap) (locs : List Loc) (ls : Array Slot), g s0 = some r → va_P (dC, dI) vwCl (dw_X11 a ac s0) H → va_D A (dw_X11 a ac s0) → va_S A s.heap H locs → lv_has ls 4 [(0, .ref (a 3))] → W p l e (headSpec ow_dm_X5_tick ({ frames := 6, cells := 0, slots := 0, locals := 139 })).room s m args below meth c H locs 0 0 Q (F0 m 144 ls [])
def dj_X5_tick_141 (p : Program) (l : Launch) (e : Env) (s : State) (m : MethodId) (args : Array Value) (below : List Frame) (meth : Method) (c : Code) (Q : State → Prop) (A : Nat → Prop) (dC : Nat → ClassId) (dI : Nat → Nat → Nat) (a : Nat → Nat) (ac : Nat → ClassId) (g : Int32 → Int32 → Int32 → (St × Rw × (St × (St × (St × (St)))) × (St) × (St) × (Nat → St) × (Nat → St) × (Nat → St × (St))) → Option (St × Rw × (St × (St × (St × (St)))) × (St) × (St) × (Nat → St) × (Nat → St) × (Nat → St × (St)))) (r : St × Rw × (St × (St × (St × (St)))) × (St) × (St) × (Nat → St) × (Nat → St) × (Nat → St × (St))) : Prop := ∀ (y1 : Int32) (y2 : Int32) (y3 : Int32) (s0 : St × Rw × (St × (St × (St × (St)))) × (St) × (St) × (Nat → St) × (Nat → St) × (Nat → St × (St))) (H : Heap) (locs : List Loc) (ls : Array Slot), g y1 y2 y3 s0 = some r → va_P (dC, dI) vwCl (dw_X11 a ac s0) H → va_D A (dw_X11 a ac s0) → va_S A s.heap H locs → lv_has ls 4 [(0, .ref (a 3))] → W p l e (headSpec ow_dm_X5_tick ({ frames := 6, cells := 0, slots := 0, locals := 139 })).room s m args below meth c H locs 0 0 Q (F0 m 141 ls [.int y3, .int y2, .int y1, .ref (a 3)])
def dj_X5_tick_115 (p : Program) (l : Launch) (e : Env) (s : State) (m : MethodId) (args : Array Value) (below : List Frame) (meth : Method) (c : Code) (Q : State → Prop) (A : Nat → Prop) (dC : Nat → ClassId) (dI : Nat → Nat → Nat) (a : Nat → Nat) (ac : Nat → ClassId) (g : Int32 → Int32 → (St × Rw × (St × (St × (St × (St)))) × (St) × (St) × (Nat → St) × (Nat → St) × (Nat → St × (St))) → Option (St × Rw × (St × (St × (St × (St)))) × (St) × (St) × (Nat → St) × (Nat → St) × (Nat → St × (St)))) (r : St × Rw × (St × (St × (St × (St)))) × (St) × (St) × (Nat → St) × (Nat → St) × (Nat → St × (St))) : Prop := ∀ (x1 : Int32) (x3 : Int32) (s0 : St × Rw × (St × (St × (St × (St)))) × (St) × (St) × (Nat → St) × (Nat → St) × (Nat → St × (St))) (H : Heap) (locs : List Loc) (ls : Array Slot), g x1 x3 s0 = some r → va_P (dC, dI) vwCl (dw_X11 a ac s0) H → va_D A (dw_X11 a ac s0) → va_S A s.heap H locs → lv_has ls 4 [(0, .ref (a 3)), (1, .int x1), (3, .int x3)] → W p l e (headSpec ow_dm_X5_tick ({ frames := 6, cells := 0, slots := 0, locals := 139 })).room s m args below meth c H locs 0 0 Q (F0 m 115 ls [])
def dj_X5_tick_48 (p : Program) (l : Launch) (e : Env) (s : State) (m : MethodId) (args : Array Value) (below : List Frame) (meth : Method) (c : Code) (Q : State → Prop) (A : Nat → Prop) (dC : Nat → ClassId) (dI : Nat → Nat → Nat) (a : Nat → Nat) (ac : Nat → ClassId) (g : Int32 → (St × Rw × (St × (St × (St × (St)))) × (St) × (St) × (Nat → St) × (Nat → St) × (Nat → St × (St))) → Option (St × Rw × (St × (St × (St × (St)))) × (St) × (St) × (Nat → St) × (Nat → St) × (Nat → St × (St)))) (r : St × Rw × (St × (St × (St × (St)))) × (St) × (St) × (Nat → St) × (Nat → St) × (Nat → St × (St))) : Prop := ∀ (x1 : Int32) (s0 : St × Rw × (St × (St × (St × (St)))) × (St) × (St) × (Nat → St) × (Nat → St) × (Nat → St × (St))) (H : Heap) (locs : List Loc) (ls : Array Slot), g x1 s0 = some r → va_P (dC, dI) vwCl (dw_X11 a ac s0) H → va_D A (dw_X11 a ac s0) → va_S A s.heap H locs → lv_has ls 4 [(0, .ref (a 3)), (1, .int x1)] → W p l e (headSpec ow_dm_X5_tick ({ frames := 6, cells := 0, slots := 0, locals := 139 })).room s m args below meth c H locs 0 0 Q (F0 m 48 ls [])
def dj_X5_tick_0 (p : Program) (l : Launch) (e : Env) (s : State) (m : MethodId) (args : Array Value) (below : List Frame) (meth : Method) (c : Code) (Q : State → Prop) (A : Nat → Prop) (dC : Nat → ClassId) (dI : Nat → Nat → Nat) (a : Nat → Nat) (ac : Nat → ClassId) (g : (St × Rw × (St × (St × (St × (St)))) × (St) × (St) × (Nat → St) × (Nat → St) × (Nat → St × (St))) → Option (St × Rw × (St × (St × (St × (St)))) × (St) × (St) × (Nat → St) × (Nat → St) × (Nat → St × (St)))) (r : St × Rw × (St × (St × (St × (St)))) × (St) × (St) × (Nat → St) × (Nat → St) × (Nat → St × (St))) : Prop := ∀ (s0 : St × Rw × (St × (St × (St × (St)))) × (St) × (St) × (Nat → St) × (Nat → St) × (Nat → St × (St))) (H : Heap) (locs : List Loc) (ls : Array Slot), g s0 = some r → va_P (dC, dI) vwCl (dw_X11 a ac s0) H → va_D A (dw_X11 a ac s0) → va_S A s.heap H locs → lv_has ls 4 [(0, .ref (a 3))] → W p l e (headSpec ow_dm_X5_tick ({ frames := 6, cells := 0, slots := 0, locals := 139 })).room s m args below meth c H locs 0 0 Q (F0 m 0 ls [])
set_option maxHeartbeats 40000000 in
set_option maxRecDepth 100000 in
theorem db_X5_tick_144 {p : Program} {l : Launch} {e : Env} {s : State} {m : MethodId} {args : Array Value} {below : List Frame} {meth : Method} {c : Code} {Q : State → Prop} {A : Nat → Prop} {dC : Nat → ClassId} {dI : Nat → Nat → Nat} {a : Nat → Nat} {ac : Nat → ClassId} {n : Nat} {r : St × Rw × (St × (St × (St × (St)))) × (St) × (St) × (Nat → St) × (Nat → St) × (Nat → St × (St))} (C : nd_C p l s m args c A (dC, dI) cX5_tick 4 RX5 ow_dm_X5_tick (dk_X11 ac)) (K : nd_Kv p l e (headSpec ow_dm_X5_tick ({ frames := 6, cells := 0, slots := 0, locals := 139 })).room s m args below meth c Q A (dC, dI) cX5_tick (St × Rw × (St × (St × (St × (St)))) × (St) × (St) × (Nat → St) × (Nat → St) × (Nat → St × (St))) (dw_X11 a ac) r) : dj_X5_tick_144 p l e s m args below meth c Q A dC dI a ac (df_X5_tick_144 n) r := by
  obtain ⟨hlt, hx, hb, hml, hown, hts, hN, hA, hK⟩ := id C
  intro s0 H locs ls h hP hD hS hl
  unfold df_X5_tick_144 at h
  refine lv_aload_n hx hb dX5_tick_144 rfl (lv_at hl 0 rfl) ?_
  obtain ⟨s17, hq, h⟩ := nd_b1_e h
  have hPc := dp_wX11_X5_2 hP
  have hDc := dd_wX11_X5_2 hD
  have hKc := dy_wX11_X5_2 hK
  have hFc := nd_rs hDc hS hA
  have hzA : ∀ q : Nat, H.size ≤ q → A q := fun q h => hA q (Nat.le_trans hS.1 h)
  refine nd_cVv (As := []) (rest := []) (w' := dw_X5 (fun k => a (k + 3)) (fun k => ac (k + 3)) s17) ⟨hx, hb, hml, hown, hts⟩ (fun sz => dm_X5_settle l hlt dC dI (fun k => a (k + 3)) (fun k => ac (k + 3)) n  s0.2.2.1 hq sz) (cwV 0 hts gi_dm_X5_tick_2 rfl rfl rfl (by decide +kernel) ⟨Nat.le_of_ble_eq_true rfl, Nat.le_of_ble_eq_true rfl⟩) hPc hDc hKc hS hA hN (va_recv hKc hPc (ci := 6) (q0 := 0) rfl rfl) rfl hl.1 rfl (Nat.le_of_ble_eq_true rfl) dX5_tick_145 (fun H locs hP1 hD1 hk1 hS => ?_)
  obtain ⟨hP, hD⟩ := dn_wX11_X5_2 hP hD hzA hk1 hP1 hD1
  obtain ⟨s19, es19, h⟩ := nd_let_e h
  have hP : va_P (dC, dI) vwCl (dw_X11 a ac s19) H := by rw [es19]; exact hP
  have hD : va_D A (dw_X11 a ac s19) := by rw [es19]; exact hD
  exact K _ _ _ _ _ dX5_tick_148 (Option.some.inj h).symm hP hD hS
set_option maxHeartbeats 40000000 in
set_option maxRecDepth 100000 in
theorem db_X5_tick_141 {p : Program} {l : Launch} {e : Env} {s : State} {m : MethodId} {args : Array Value} {below : List Frame} {meth : Method} {c : Code} {Q : State → Prop} {A : Nat → Prop} {dC : Nat → ClassId} {dI : Nat → Nat → Nat} {a : Nat → Nat} {ac : Nat → ClassId} {n : Nat} {r : St × Rw × (St × (St × (St × (St)))) × (St) × (St) × (Nat → St) × (Nat → St) × (Nat → St × (St))} (C : nd_C p l s m args c A (dC, dI) cX5_tick 4 RX5 ow_dm_X5_tick (dk_X11 ac)) (K : nd_Kv p l e (headSpec ow_dm_X5_tick ({ frames := 6, cells := 0, slots := 0, locals := 139 })).room s m args below meth c Q A (dC, dI) cX5_tick (St × Rw × (St × (St × (St × (St)))) × (St) × (St) × (Nat → St) × (Nat → St) × (Nat → St × (St))) (dw_X11 a ac) r) : dj_X5_tick_141 p l e s m args below meth c Q A dC dI a ac (df_X5_tick_141 n) r := by
  obtain ⟨hlt, hx, hb, hml, hown, hts, hN, hA, hK⟩ := id C
  intro y1 y2 y3 s0 H locs ls h hP hD hS hl
  unfold df_X5_tick_141 at h
  obtain ⟨s23, hq, h⟩ := nd_b1_e h
  have hPc := dp_wX11_X5_2 hP
  have hDc := dd_wX11_X5_2 hD
  have hKc := dy_wX11_X5_2 hK
  have hFc := nd_rs hDc hS hA
  have hzA : ∀ q : Nat, H.size ≤ q → A q := fun q h => hA q (Nat.le_trans hS.1 h)
  refine nd_cVv (As := [.int y1, .int y2, .int y3]) (rest := []) (w' := dw_X5 (fun k => a (k + 3)) (fun k => ac (k + 3)) s23) ⟨hx, hb, hml, hown, hts⟩ (fun sz => dm_X5_take l hlt dC dI (fun k => a (k + 3)) (fun k => ac (k + 3)) n (y1) (y2) (y3) s0.2.2.1 hq sz) (cwV 3 hts gi_dm_X5_tick_3 rfl rfl rfl (by decide +kernel) ⟨Nat.le_of_ble_eq_true rfl, Nat.le_of_ble_eq_true rfl⟩) hPc hDc hKc hS hA hN (va_recv hKc hPc (ci := 6) (q0 := 0) rfl rfl) rfl hl.1 rfl (Nat.le_of_ble_eq_true rfl) dX5_tick_141 (fun H locs hP1 hD1 hk1 hS => ?_)
  obtain ⟨hP, hD⟩ := dn_wX11_X5_2 hP hD hzA hk1 hP1 hD1
  obtain ⟨s25, es25, h⟩ := nd_let_e h
  have hP : va_P (dC, dI) vwCl (dw_X11 a ac s25) H := by rw [es25]; exact hP
  have hD : va_D A (dw_X11 a ac s25) := by rw [es25]; exact hD
  exact (db_X5_tick_144 C K)  s25 _ _ _ h hP hD hS (lv_sub hl [0] rfl)
set_option maxHeartbeats 40000000 in
set_option maxRecDepth 100000 in
theorem db_X5_tick_115 {p : Program} {l : Launch} {e : Env} {s : State} {m : MethodId} {args : Array Value} {below : List Frame} {meth : Method} {c : Code} {Q : State → Prop} {A : Nat → Prop} {dC : Nat → ClassId} {dI : Nat → Nat → Nat} {a : Nat → Nat} {ac : Nat → ClassId} {n : Nat} {r : St × Rw × (St × (St × (St × (St)))) × (St) × (St) × (Nat → St) × (Nat → St) × (Nat → St × (St))} (C : nd_C p l s m args c A (dC, dI) cX5_tick 4 RX5 ow_dm_X5_tick (dk_X11 ac)) (K : nd_Kv p l e (headSpec ow_dm_X5_tick ({ frames := 6, cells := 0, slots := 0, locals := 139 })).room s m args below meth c Q A (dC, dI) cX5_tick (St × Rw × (St × (St × (St × (St)))) × (St) × (St) × (Nat → St) × (Nat → St) × (Nat → St × (St))) (dw_X11 a ac) r) : dj_X5_tick_115 p l e s m args below meth c Q A dC dI a ac (df_X5_tick_115 n) r := by
  obtain ⟨hlt, hx, hb, hml, hown, hts, hN, hA, hK⟩ := id C
  intro x1 x3 s0 H locs ls h hP hD hS hl
  unfold df_X5_tick_115 at h
  refine lv_iload_n hx hb dX5_tick_115 rfl (lv_at hl 2 rfl) ?_
  refine lv_if_eq (tgt := 144) hx hb dX5_tick_116 (by decide) (fun c15 => ?_) (fun c15 => ?_)
  · have h := nd_pos h c15
    exact (db_X5_tick_144 C K)  s0 _ _ _ h hP hD hS (lv_sub hl [0] rfl)
  · have h := nd_neg h c15
    refine lv_aload_n hx hb dX5_tick_119 rfl (lv_at hl 0 rfl) ?_
    refine lv_iload_n hx hb dX5_tick_120 rfl (lv_at hl 1 rfl) ?_
    refine lv_iload_n hx hb dX5_tick_121 rfl (lv_at hl 2 rfl) ?_
    refine lv_aload_n hx hb dX5_tick_122 rfl (lv_at hl 0 rfl) ?_
    refine va_get (D := (dC, dI)) (ci := 6) (v := .ref (a 14)) (C := RX5) (T := TX5) (N := 8) hx hb hts hi_dm_X5_tick_X5 hown hK hP 3 rfl rfl 3 (by decide) (hts (.fieldLink RX5 37 "TimeMachine$Kernel" "self" "[I") (List.mem_of_getElem? (i := 18) rfl)) (fun _ h9 => h9) rfl dX5_tick_123 ?_
    refine lv_iload_n hx hb dX5_tick_126 rfl (lv_at hl 1 rfl) ?_
    refine lv_bipush (v := 7) hx hb dX5_tick_127 (by decide) ?_
    refine lv_imul hx hb dX5_tick_129 ?_
    refine lv_iconst (v := 4) hx hb dX5_tick_130 (by decide) ?_
    refine lv_iadd hx hb dX5_tick_131 ?_
    obtain ⟨i20, h⟩ := nd_ck_e h
    refine va_iald (i := ((x1 * 7) + 4)) hx hb hK hP 14 10 rfl rfl i20 dX5_tick_132 ?_
    refine lv_if_eq (tgt := 140) hx hb dX5_tick_133 (by decide) (fun c21 => ?_) (fun c21 => ?_)
    · have h := nd_pos h c21
      refine lv_iconst (v := 0) hx hb dX5_tick_140 (by decide) ?_
      exact (db_X5_tick_141 C K) (x1) (x3) (0) s0 _ _ _ h hP hD hS (lv_sub hl [0] rfl)
    · have h := nd_neg h c21
      refine lv_iconst (v := 1) hx hb dX5_tick_136 (by decide) ?_
      refine lv_goto (tgt := 141) hx hb dX5_tick_137 (by decide) ?_
      exact (db_X5_tick_141 C K) (x1) (x3) (1) s0 _ _ _ h hP hD hS (lv_sub hl [0] rfl)
set_option maxHeartbeats 40000000 in
set_option maxRecDepth 100000 in
theorem db_X5_tick_48 {p : Program} {l : Launch} {e : Env} {s : State} {m : MethodId} {args : Array Value} {below : List Frame} {meth : Method} {c : Code} {Q : State → Prop} {A : Nat → Prop} {dC : Nat → ClassId} {dI : Nat → Nat → Nat} {a : Nat → Nat} {ac : Nat → ClassId} {n : Nat} {r : St × Rw × (St × (St × (St × (St)))) × (St) × (St) × (Nat → St) × (Nat → St) × (Nat → St × (St))} (C : nd_C p l s m args c A (dC, dI) cX5_tick 4 RX5 ow_dm_X5_tick (dk_X11 ac)) (K : nd_Kv p l e (headSpec ow_dm_X5_tick ({ frames := 6, cells := 0, slots := 0, locals := 139 })).room s m args below meth c Q A (dC, dI) cX5_tick (St × Rw × (St × (St × (St × (St)))) × (St) × (St) × (Nat → St) × (Nat → St) × (Nat → St × (St))) (dw_X11 a ac) r) : dj_X5_tick_48 p l e s m args below meth c Q A dC dI a ac (df_X5_tick_48 n) r := by
  obtain ⟨hlt, hx, hb, hml, hown, hts, hN, hA, hK⟩ := id C
  intro x1 s0 H locs ls h hP hD hS hl
  unfold df_X5_tick_48 at h
  refine lv_aload_n hx hb dX5_tick_48 rfl (lv_at hl 0 rfl) ?_
  refine va_get (D := (dC, dI)) (ci := 6) (v := .ref (a 7)) (C := RX5) (T := TX5) (N := 8) hx hb hts hi_dm_X5_tick_X5 hown hK hP 3 rfl rfl 0 (by decide) (hts (.fieldLink RX5 18 "TimeMachine$Kernel" "machine" "LTimeMachine$Machine;") (List.mem_of_getElem? (i := 1) rfl)) (fun _ h9 => h9) rfl dX5_tick_49 ?_
  refine lv_iload_n hx hb dX5_tick_52 rfl (lv_at hl 1 rfl) ?_
  obtain ⟨q5, s6, hq, h⟩ := nd_b2_e h
  have hPc := dp_wX11_X6_0 hP
  have hDc := dd_wX11_X6_0 hD
  have hKc := dy_wX11_X6_0 hK
  have hFc := nd_rs hDc hS hA
  have hzA : ∀ q : Nat, H.size ≤ q → A q := fun q h => hA q (Nat.le_trans hS.1 h)
  refine nd_cVi (As := [.int x1]) (rest := []) (q := q5) (w' := dw_X6 (fun k => a (k + 7)) (fun k => ac (k + 7)) s6) ⟨hx, hb, hml, hown, hts⟩ (fun sz => dm_X6_takeable l hlt dC dI (fun k => a (k + 7)) (fun k => ac (k + 7)) n (x1) s0.2.2.1.2.2 hq sz) (cwV 1 hts gi_dm_X5_tick_0 rfl rfl rfl (by decide +kernel) ⟨Nat.le_of_ble_eq_true rfl, Nat.le_of_ble_eq_true rfl⟩) hPc hDc hKc hS hA hN (va_recv hKc hPc (ci := 7) (q0 := 0) rfl rfl) rfl hl.1 rfl (Nat.le_of_ble_eq_true rfl) dX5_tick_53 (fun H locs hP1 hD1 hk1 hS => ?_)
  obtain ⟨hP, hD⟩ := dn_wX11_X6_0 hP hD hzA hk1 hP1 hD1
  obtain ⟨s8, es8, h⟩ := nd_let_e h
  have hP : va_P (dC, dI) vwCl (dw_X11 a ac s8) H := by rw [es8]; exact hP
  have hD : va_D A (dw_X11 a ac s8) := by rw [es8]; exact hD
  refine lv_istore_n (lv' := [(2, .int q5), (0, .ref (a 3)), (1, .int x1)]) hx hb dX5_tick_56 rfl hl (by decide) rfl (fun ls hl => ?_)
  refine lv_iload_n hx hb dX5_tick_57 rfl (lv_at hl 0 rfl) ?_
  refine lv_if_eq (tgt := 90) hx hb dX5_tick_58 (by decide) (fun c9 => ?_) (fun c9 => ?_)
  · have h := nd_pos h c9
    refine lv_aload_n hx hb dX5_tick_90 rfl (lv_at hl 1 rfl) ?_
    refine va_get (D := (dC, dI)) (ci := 6) (v := .ref (a 6)) (C := RX5) (T := TX5) (N := 8) hx hb hts hi_dm_X5_tick_X5 hown hK hP 3 rfl rfl 4 (by decide) (hts (.fieldLink RX5 43 "TimeMachine$Kernel" "hart" "LTimeMachine$Hart;") (List.mem_of_getElem? (i := 9) rfl)) (fun _ h9 => h9) rfl dX5_tick_91 ?_
    refine lv_iload_n hx hb dX5_tick_94 rfl (lv_at hl 2 rfl) ?_
    obtain ⟨q10, s11, hq, h⟩ := nd_b2_e h
    have hPc := dp_wX11_X4_1 hP
    have hDc := dd_wX11_X4_1 hD
    have hKc := dy_wX11_X4_1 hK
    have hFc := nd_rs hDc hS hA
    have hzA : ∀ q : Nat, H.size ≤ q → A q := fun q h => hA q (Nat.le_trans hS.1 h)
    refine nd_cVi (As := [.int x1]) (rest := []) (q := q10) (w' := dw_X4 (fun k => a (k + 6)) (fun k => ac (k + 6)) s11) ⟨hx, hb, hml, hown, hts⟩ (fun sz => dm_X4_step l hlt dC dI (fun k => a (k + 6)) (fun k => ac (k + 6)) n (x1) s8.2.2.1.2 hq sz) (cwV 1 hts gi_dm_X5_tick_1 rfl rfl rfl (by decide +kernel) ⟨Nat.le_of_ble_eq_true rfl, Nat.le_of_ble_eq_true rfl⟩) hPc hDc hKc hS hA hN (va_recv hKc hPc (ci := 5) (q0 := 0) rfl rfl) rfl hl.1 rfl (Nat.le_of_ble_eq_true rfl) dX5_tick_95 (fun H locs hP1 hD1 hk1 hS => ?_)
    obtain ⟨hP, hD⟩ := dn_wX11_X4_1 hP hD hzA hk1 hP1 hD1
    obtain ⟨s13, es13, h⟩ := nd_let_e h
    have hP : va_P (dC, dI) vwCl (dw_X11 a ac s13) H := by rw [es13]; exact hP
    have hD : va_D A (dw_X11 a ac s13) := by rw [es13]; exact hD
    refine lv_istore_n (lv' := [(3, .int q10), (2, .int q5), (0, .ref (a 3)), (1, .int x1)]) hx hb dX5_tick_98 rfl hl (by decide) rfl (fun ls hl => ?_)
    refine lv_iload_n hx hb dX5_tick_99 rfl (lv_at hl 0 rfl) ?_
    refine lv_iconst (v := (-1)) hx hb dX5_tick_100 (by decide) ?_
    refine lv_icmp_ne (tgt := 115) hx hb dX5_tick_101 (by decide) (fun c14 => ?_) (fun c14 => ?_)
    · have h := nd_neg h c14
      exact (db_X5_tick_115 C K) (x1) (q10) s13 _ _ _ h hP hD hS (lv_sub hl [2, 3, 0] rfl)
    · have h := nd_pos h c14
      refine lv_aload_n hx hb dX5_tick_104 rfl (lv_at hl 2 rfl) ?_
      refine lv_iload_n hx hb dX5_tick_105 rfl (lv_at hl 3 rfl) ?_
      refine lv_aload_n hx hb dX5_tick_106 rfl (lv_at hl 2 rfl) ?_
      refine lv_iload_n hx hb dX5_tick_107 rfl (lv_at hl 3 rfl) ?_
      obtain ⟨q26, s27, hq, h⟩ := nd_b2_e h
      have hPc := hP
      have hDc := hD
      have hKc := hK
      have hFc := nd_rs hD hS hA
      refine nd_cVl (As := [.int x1]) (rest := [.int x1, .ref (a 3)]) (q := q26) (w' := dw_X11 a ac s27) ⟨hx, hb, hml, hown, hts⟩ (fun sz => dm_X5_answerOf l hlt dC dI a ac n (x1) s13 hq sz) (cwV 1 hts gi_dm_X5_tick_4 rfl rfl rfl (by decide +kernel) ⟨Nat.le_of_ble_eq_true rfl, Nat.le_of_ble_eq_true rfl⟩) hPc hDc hKc hS hA hN (va_recv hKc hPc (ci := 6) (q0 := 3) rfl rfl) rfl hl.1 rfl (Nat.le_of_ble_eq_true rfl) dX5_tick_108 (fun H locs hP1 hD1 hk1 hS => ?_)
      have hP := hP1
      have hD := hD1.weaken (fun k q _ h => hFc q.1 h)
      obtain ⟨q29, s30, hq, h⟩ := nd_b2_e h
      have hPc := dp_wX11_X5_2 hP
      have hDc := dd_wX11_X5_2 hD
      have hKc := dy_wX11_X5_2 hK
      have hFc := nd_rs hDc hS hA
      have hzA : ∀ q : Nat, H.size ≤ q → A q := fun q h => hA q (Nat.le_trans hS.1 h)
      refine nd_cVi (As := [.int x1, .long q26]) (rest := []) (q := q29) (w' := dw_X5 (fun k => a (k + 3)) (fun k => ac (k + 3)) s30) ⟨hx, hb, hml, hown, hts⟩ (fun sz => dm_X5_answer l hlt dC dI (fun k => a (k + 3)) (fun k => ac (k + 3)) n (x1) (q26) s27.2.2.1 hq sz) (cwV 2 hts gi_dm_X5_tick_5 rfl rfl rfl (by decide +kernel) ⟨Nat.le_of_ble_eq_true rfl, Nat.le_of_ble_eq_true rfl⟩) hPc hDc hKc hS hA hN (va_recv hKc hPc (ci := 6) (q0 := 0) rfl rfl) rfl hl.1 rfl (Nat.le_of_ble_eq_true rfl) dX5_tick_111 (fun H locs hP1 hD1 hk1 hS => ?_)
      obtain ⟨hP, hD⟩ := dn_wX11_X5_2 hP hD hzA hk1 hP1 hD1
      obtain ⟨s32, es32, h⟩ := nd_let_e h
      have hP : va_P (dC, dI) vwCl (dw_X11 a ac s32) H := by rw [es32]; exact hP
      have hD : va_D A (dw_X11 a ac s32) := by rw [es32]; exact hD
      refine lv_istore_n (lv' := [(3, .int q29), (2, .int q5), (0, .ref (a 3)), (1, .int x1)]) hx hb dX5_tick_114 rfl hl (by decide) rfl (fun ls hl => ?_)
      exact (db_X5_tick_115 C K) (x1) (q29) s32 _ _ _ h hP hD hS (lv_sub hl [2, 3, 0] rfl)
  · have h := nd_neg h c9
    refine lv_aload_n hx hb dX5_tick_61 rfl (lv_at hl 1 rfl) ?_
    refine va_get (D := (dC, dI)) (ci := 6) (v := .ref (a 14)) (C := RX5) (T := TX5) (N := 8) hx hb hts hi_dm_X5_tick_X5 hown hK hP 3 rfl rfl 3 (by decide) (hts (.fieldLink RX5 37 "TimeMachine$Kernel" "self" "[I") (List.mem_of_getElem? (i := 18) rfl)) (fun _ h9 => h9) rfl dX5_tick_62 ?_
    refine lv_iload_n hx hb dX5_tick_65 rfl (lv_at hl 2 rfl) ?_
    refine lv_bipush (v := 7) hx hb dX5_tick_66 (by decide) ?_
    refine lv_imul hx hb dX5_tick_68 ?_
    refine lv_iconst (v := 3) hx hb dX5_tick_69 (by decide) ?_
    refine lv_iadd hx hb dX5_tick_70 ?_
    refine lv_dup2_11 hx hb dX5_tick_71 rfl rfl ?_
    obtain ⟨i33, h⟩ := nd_ck_e h
    refine va_iald (i := ((x1 * 7) + 3)) hx hb hK hP 14 10 rfl rfl i33 dX5_tick_72 ?_
    refine lv_iconst (v := 1) hx hb dX5_tick_73 (by decide) ?_
    refine lv_iload_n hx hb dX5_tick_74 rfl (lv_at hl 0 rfl) ?_
    refine lv_ishl hx hb dX5_tick_75 ?_
    refine lv_iconst (v := (-1)) hx hb dX5_tick_76 (by decide) ?_
    refine lv_ixor hx hb dX5_tick_77 ?_
    refine lv_iand hx hb dX5_tick_78 ?_
    obtain ⟨i34, h⟩ := nd_ck_e h
    refine va_iast (i := ((x1 * 7) + 3)) (x := ((sR s8.2.2.1.2.2.1 6 (Int32.toNatClampNeg ((x1 * 7) + 3))) &&& (((1 : Int32) <<< ((q5 : Int32) &&& 31)) ^^^ (-1)))) hx hb hK hP hD hS 14 10 rfl rfl i34 dX5_tick_79 (fun H locs hP hD hS => ?_)
    obtain ⟨s35, es35, h⟩ := nd_let_e h
    have hP : va_P (dC, dI) vwCl (dw_X11 a ac s35) H := by rw [es35]; exact hP
    have hD : va_D A (dw_X11 a ac s35) := by rw [es35]; exact hD
    refine lv_aload_n hx hb dX5_tick_80 rfl (lv_at hl 1 rfl) ?_
    refine lv_iload_n hx hb dX5_tick_81 rfl (lv_at hl 2 rfl) ?_
    refine lv_iload_n hx hb dX5_tick_82 rfl (lv_at hl 0 rfl) ?_
    refine lv_iconst (v := 0) hx hb dX5_tick_83 (by decide) ?_
    obtain ⟨s37, hq, h⟩ := nd_b1_e h
    have hPc := dp_wX11_X5_2 hP
    have hDc := dd_wX11_X5_2 hD
    have hKc := dy_wX11_X5_2 hK
    have hFc := nd_rs hDc hS hA
    have hzA : ∀ q : Nat, H.size ≤ q → A q := fun q h => hA q (Nat.le_trans hS.1 h)
    refine nd_cVv (As := [.int x1, .int q5, .int 0]) (rest := []) (w' := dw_X5 (fun k => a (k + 3)) (fun k => ac (k + 3)) s37) ⟨hx, hb, hml, hown, hts⟩ (fun sz => dm_X5_take l hlt dC dI (fun k => a (k + 3)) (fun k => ac (k + 3)) n (x1) (q5) (0) s35.2.2.1 hq sz) (cwV 3 hts gi_dm_X5_tick_3 rfl rfl rfl (by decide +kernel) ⟨Nat.le_of_ble_eq_true rfl, Nat.le_of_ble_eq_true rfl⟩) hPc hDc hKc hS hA hN (va_recv hKc hPc (ci := 6) (q0 := 0) rfl rfl) rfl hl.1 rfl (Nat.le_of_ble_eq_true rfl) dX5_tick_84 (fun H locs hP1 hD1 hk1 hS => ?_)
    obtain ⟨hP, hD⟩ := dn_wX11_X5_2 hP hD hzA hk1 hP1 hD1
    obtain ⟨s39, es39, h⟩ := nd_let_e h
    have hP : va_P (dC, dI) vwCl (dw_X11 a ac s39) H := by rw [es39]; exact hP
    have hD : va_D A (dw_X11 a ac s39) := by rw [es39]; exact hD
    refine lv_goto (tgt := 144) hx hb dX5_tick_87 (by decide) ?_
    exact (db_X5_tick_144 C K)  s39 _ _ _ h hP hD hS (lv_sub hl [1] rfl)
set_option maxHeartbeats 40000000 in
set_option maxRecDepth 100000 in
theorem db_X5_tick_0 {p : Program} {l : Launch} {e : Env} {s : State} {m : MethodId} {args : Array Value} {below : List Frame} {meth : Method} {c : Code} {Q : State → Prop} {A : Nat → Prop} {dC : Nat → ClassId} {dI : Nat → Nat → Nat} {a : Nat → Nat} {ac : Nat → ClassId} {n : Nat} {r : St × Rw × (St × (St × (St × (St)))) × (St) × (St) × (Nat → St) × (Nat → St) × (Nat → St × (St))} (C : nd_C p l s m args c A (dC, dI) cX5_tick 4 RX5 ow_dm_X5_tick (dk_X11 ac)) (K : nd_Kv p l e (headSpec ow_dm_X5_tick ({ frames := 6, cells := 0, slots := 0, locals := 139 })).room s m args below meth c Q A (dC, dI) cX5_tick (St × Rw × (St × (St × (St × (St)))) × (St) × (St) × (Nat → St) × (Nat → St) × (Nat → St × (St))) (dw_X11 a ac) r) : dj_X5_tick_0 p l e s m args below meth c Q A dC dI a ac (df_X5_tick_0 n) r := by
  obtain ⟨hlt, hx, hb, hml, hown, hts, hN, hA, hK⟩ := id C
  intro s0 H locs ls h hP hD hS hl
  unfold df_X5_tick_0 at h
  refine lv_aload_n hx hb dX5_tick_0 rfl (lv_at hl 0 rfl) ?_
  refine va_get (D := (dC, dI)) (ci := 6) (v := .ref (a 7)) (C := RX5) (T := TX5) (N := 8) hx hb hts hi_dm_X5_tick_X5 hown hK hP 3 rfl rfl 0 (by decide) (hts (.fieldLink RX5 18 "TimeMachine$Kernel" "machine" "LTimeMachine$Machine;") (List.mem_of_getElem? (i := 1) rfl)) (fun _ h9 => h9) rfl dX5_tick_1 ?_
  refine va_get (D := (dC, dI)) (ci := 7) (v := .int (sI s0.2.2.1.2.2.1 3)) (C := RX6) (T := TX6) (N := 20) hx hb hts hi_dm_X5_tick_X6 hown hK hP 7 rfl rfl 13 (by decide) (hts (.fieldLink RX5 51 "TimeMachine$Machine" "current" "I") (List.mem_of_getElem? (i := 2) rfl)) (fun _ h9 => h9) rfl dX5_tick_4 ?_
  refine lv_topi (fun z1 ez1 => ?_)
  have h := nd_at h ez1
  refine lv_istore_n (lv' := [(1, .int z1), (0, .ref (a 3))]) hx hb dX5_tick_7 rfl hl (by decide) rfl (fun ls hl => ?_)
  refine lv_aload_n hx hb dX5_tick_8 rfl (lv_at hl 1 rfl) ?_
  refine va_get (D := (dC, dI)) (ci := 6) (v := .ref (a 7)) (C := RX5) (T := TX5) (N := 8) hx hb hts hi_dm_X5_tick_X5 hown hK hP 3 rfl rfl 0 (by decide) (hts (.fieldLink RX5 18 "TimeMachine$Kernel" "machine" "LTimeMachine$Machine;") (List.mem_of_getElem? (i := 1) rfl)) (fun _ h9 => h9) rfl dX5_tick_9 ?_
  refine lv_iconst (v := 0) hx hb dX5_tick_12 (by decide) ?_
  refine va_put (D := (dC, dI)) (ci := 7) (v := .int 0) (ty := .int) (C := RX6) (T := TX6) (N := 20) hx hb hts hi_dm_X5_tick_X6 tyX6 tyX6_ok nmX6 hown hK hP hD hS 7 rfl rfl 19 (by decide) (hts (.fieldLink RX5 55 "TimeMachine$Machine" "written" "I") (List.mem_of_getElem? (i := 3) rfl)) (fun _ h9 => h9) rfl (by decide +kernel) rfl rfl (Nat.le_of_ble_eq_true rfl) dX5_tick_13 (fun H locs hP hD hS => ?_)
  obtain ⟨s2, es2, h⟩ := nd_let_e h
  have hP : va_P (dC, dI) vwCl (dw_X11 a ac s2) H := by rw [es2]; exact hP
  have hD : va_D A (dw_X11 a ac s2) := by rw [es2]; exact hD
  refine lv_iload_n hx hb dX5_tick_16 rfl (lv_at hl 0 rfl) ?_
  refine lv_if_ge (tgt := 21) hx hb dX5_tick_17 (by decide) (fun c3 => ?_) (fun c3 => ?_)
  · have h := nd_pos h c3
    refine lv_aload_n hx hb dX5_tick_21 rfl (lv_at hl 1 rfl) ?_
    refine va_get (D := (dC, dI)) (ci := 6) (v := .ref (a 7)) (C := RX5) (T := TX5) (N := 8) hx hb hts hi_dm_X5_tick_X5 hown hK hP 3 rfl rfl 0 (by decide) (hts (.fieldLink RX5 18 "TimeMachine$Kernel" "machine" "LTimeMachine$Machine;") (List.mem_of_getElem? (i := 1) rfl)) (fun _ h9 => h9) rfl dX5_tick_22 ?_
    refine va_get (D := (dC, dI)) (ci := 7) (v := .int (sI s2.2.2.1.2.2.1 5)) (C := RX6) (T := TX6) (N := 20) hx hb hts hi_dm_X5_tick_X6 hown hK hP 7 rfl rfl 15 (by decide) (hts (.fieldLink RX5 58 "TimeMachine$Machine" "ticked" "I") (List.mem_of_getElem? (i := 4) rfl)) (fun _ h9 => h9) rfl dX5_tick_25 ?_
    refine lv_iload_n hx hb dX5_tick_28 rfl (lv_at hl 0 rfl) ?_
    refine lv_icmp_eq (tgt := 48) hx hb dX5_tick_29 (by decide) (fun c4 => ?_) (fun c4 => ?_)
    · have h := nd_pos h c4
      exact (db_X5_tick_48 C K) (z1) s2 _ _ _ h hP hD hS (lv_sub hl [1, 0] rfl)
    · have h := nd_neg h c4
      refine lv_aload_n hx hb dX5_tick_32 rfl (lv_at hl 1 rfl) ?_
      refine va_get (D := (dC, dI)) (ci := 6) (v := .ref (a 7)) (C := RX5) (T := TX5) (N := 8) hx hb hts hi_dm_X5_tick_X5 hown hK hP 3 rfl rfl 0 (by decide) (hts (.fieldLink RX5 18 "TimeMachine$Kernel" "machine" "LTimeMachine$Machine;") (List.mem_of_getElem? (i := 1) rfl)) (fun _ h9 => h9) rfl dX5_tick_33 ?_
      refine lv_iconst (v := (-1)) hx hb dX5_tick_36 (by decide) ?_
      refine va_put (D := (dC, dI)) (ci := 7) (v := .int (-1)) (ty := .int) (C := RX6) (T := TX6) (N := 20) hx hb hts hi_dm_X5_tick_X6 tyX6 tyX6_ok nmX6 hown hK hP hD hS 7 rfl rfl 16 (by decide) (hts (.fieldLink RX5 61 "TimeMachine$Machine" "reserved" "I") (List.mem_of_getElem? (i := 28) rfl)) (fun _ h9 => h9) rfl (by decide +kernel) rfl rfl (Nat.le_of_ble_eq_true rfl) dX5_tick_37 (fun H locs hP hD hS => ?_)
      obtain ⟨s40, es40, h⟩ := nd_let_e h
      have hP : va_P (dC, dI) vwCl (dw_X11 a ac s40) H := by rw [es40]; exact hP
      have hD : va_D A (dw_X11 a ac s40) := by rw [es40]; exact hD
      refine lv_aload_n hx hb dX5_tick_40 rfl (lv_at hl 1 rfl) ?_
      refine va_get (D := (dC, dI)) (ci := 6) (v := .ref (a 7)) (C := RX5) (T := TX5) (N := 8) hx hb hts hi_dm_X5_tick_X5 hown hK hP 3 rfl rfl 0 (by decide) (hts (.fieldLink RX5 18 "TimeMachine$Kernel" "machine" "LTimeMachine$Machine;") (List.mem_of_getElem? (i := 1) rfl)) (fun _ h9 => h9) rfl dX5_tick_41 ?_
      refine lv_iload_n hx hb dX5_tick_44 rfl (lv_at hl 0 rfl) ?_
      refine va_put (D := (dC, dI)) (ci := 7) (v := .int z1) (ty := .int) (C := RX6) (T := TX6) (N := 20) hx hb hts hi_dm_X5_tick_X6 tyX6 tyX6_ok nmX6 hown hK hP hD hS 7 rfl rfl 15 (by decide) (hts (.fieldLink RX5 58 "TimeMachine$Machine" "ticked" "I") (List.mem_of_getElem? (i := 4) rfl)) (fun _ h9 => h9) rfl (by decide +kernel) rfl rfl (Nat.le_of_ble_eq_true rfl) dX5_tick_45 (fun H locs hP hD hS => ?_)
      obtain ⟨s41, es41, h⟩ := nd_let_e h
      have hP : va_P (dC, dI) vwCl (dw_X11 a ac s41) H := by rw [es41]; exact hP
      have hD : va_D A (dw_X11 a ac s41) := by rw [es41]; exact hD
      exact (db_X5_tick_48 C K) (z1) s41 _ _ _ h hP hD hS (lv_sub hl [1, 0] rfl)
  · have h := nd_neg h c3
    exact K _ _ _ _ _ dX5_tick_20 (Option.some.inj h).symm hP hD hS
set_option maxHeartbeats 40000000 in
set_option maxRecDepth 100000 in
theorem dm_X5_tick (l : Launch) (hlt : l.stackTraces = false) (dC : Nat → ClassId) (dI : Nat → Nat → Nat) (a : Nat → Nat) (ac : Nat → ClassId) (n : Nat) (s0 : St × Rw × (St × (St × (St × (St)))) × (St) × (St) × (Nat → St) × (Nat → St) × (Nat → St × (St))) {r : St × Rw × (St × (St × (St × (St)))) × (St) × (St) × (Nat → St) × (Nat → St) × (Nat → St × (St))} (h : df_X5_tick n s0 = some r) (sz : Nat) : Met l yX5_tick ow_dm_X5_tick ({ frames := 6, cells := 0, slots := 0, locals := 139 }) (va_Pc [.ref (a 3)] (fun U => U.heap.size = sz ∧ va_P (dC, dI) vwCl (dw_X11 a ac s0) U.heap ∧ va_K (dC, dI) vwCl (dk_X11 ac) U ∧ va_D (fun _ => True) (dw_X11 a ac s0) ∧ nv_E dI (va_A (dw_X11 a ac s0) sz) U)) (va_Qv (fun _ => True) (fun (_ : Unit) t => va_P (dC, dI) vwCl (dw_X11 a ac r) t.heap ∧ va_K (dC, dI) vwCl (dk_X11 ac) t ∧ va_D (va_A (dw_X11 a ac s0) sz) (dw_X11 a ac r)) (va_A (dw_X11 a ac s0) sz)) 0 0 (va_A (dw_X11 a ac s0) sz) := by
  refine Met.ofW (cc := cX5_tick) (maxL := 4) (ret := none) (by decide) rfl ?_
  intro p e s m args below meth c s₁ B hml hv
  obtain ⟨rfl, hsz, hP, hK, hD0, hN⟩ := hv
  have hx := B.exec
  have hb := B.bytes
  have hr := B.returns
  have hts := atoms_spec (ws := ow_dm_X5_tick) B.pre
  have hown : s.vm.findClass RX5 = some m.cls := findClass_of_methodNamed B.named
  have hlocks := B.notSynchronized
  subst hsz
  have hD := hD0.self (sz := s.heap.size)
  generalize hAe : va_A (dw_X11 a ac s0) s.heap.size = A at hD hN ⊢
  have hA : ∀ q : Nat, s.heap.size ≤ q → A q := fun q h => by rw [← hAe]; exact Or.inr h
  have hl := lv_entry ([.ref (a 3)]) (n := 4) (Nat.le_of_ble_eq_true rfl)
  rw [lg_entry_eq]
  generalize (lg_sl ([.ref (a 3)]) ++ List.replicate (4 - (lg_sl ([.ref (a 3)])).length) Slot.unset).toArray = ls at hl ⊢
  have hl : lv_has ls 4 [(0, .ref (a 3))] := hl
  exact db_X5_tick_0 (dC := dC) (dI := dI) (a := a) (ac := ac) (n := n) (r := r) ⟨hlt, hx, hb, hml, hown, hts, hN, hA, hK⟩ (fun pc τ H locs ls d er hP hD hS => by subst er; exact W.vret hx hb hr (fun t ht hW => ⟨⟨(), rfl, trivial, by rw [ht]; exact hP, va_K.moved hW.alike hK, hD⟩, hS.F ht⟩) hS.2.2 d) s0 _ _ _ h hP hD va_S.rf (lv_sub hl [0] rfl)
set_option maxHeartbeats 40000000 in
set_option maxRecDepth 100000 in
theorem de_wX11_X6m_6 {a : Nat → Nat} {ac : Nat → ClassId} {j1 : Nat} {τ : St × (St × (St)) × (St × (St))} : ([dw_X6 (fun k => a (k + j1 * 20 + 167)) (fun k => ac (k + j1 * 20 + 167)) (τ.2.1), dwo_X6 (fun k => a (k + 7)) (fun k => ac (k + 7)) (τ.2.2.1), dw_X10 (fun k => a (k + 17)) (fun k => ac (k + 17)) (τ.2.2.2)] : List va_W).flatten = dw_X6m (fun k => a (if k < 20 then k - 0 + j1 * 20 + 167 else k - 20 + 7)) (fun k => ac (if k < 20 then k - 0 + j1 * 20 + 167 else k - 20 + 7)) τ := by
  first
  | (simp only [List.flatten_cons, List.flatten_nil, List.append_nil]; done)
  | (simp only [List.flatten_cons, List.flatten_nil, List.append_nil]; rfl)
set_option maxHeartbeats 40000000 in
set_option maxRecDepth 100000 in
theorem dp_wX11_X6m_6 {D : va_G} {H : Heap} {a : Nat → Nat} {ac : Nat → ClassId} {σ : St × Rw × (St × (St × (St × (St)))) × (St) × (St) × (Nat → St) × (Nat → St) × (Nat → St × (St))} {j1 : Nat} (hj1 : j1 < 8) (h : va_P D vwCl (dw_X11 a ac σ) H) : va_P D vwCl (dw_X6m (fun k => a (if k < 20 then k - 0 + j1 * 20 + 167 else k - 20 + 7)) (fun k => ac (if k < 20 then k - 0 + j1 * 20 + 167 else k - 20 + 7)) (nd_st0, (σ.2.2.2.2.2.2.2 j1), σ.2.2.1.2.2)) H := by
  have h2 := nd_vp (segs := dg_X11 a ac σ) (ix := [29 + j1, 3, 4]) (old := [dw_X6 (fun k => a (k + j1 * 20 + 167)) (fun k => ac (k + j1 * 20 + 167)) (σ.2.2.2.2.2.2.2 j1), dwo_X6 (fun k => a (k + 7)) (fun k => ac (k + 7)) (σ.2.2.1.2.2.1), dw_X10 (fun k => a (k + 17)) (fun k => ac (k + 17)) (σ.2.2.1.2.2.2)]) h (nd_co (dx_X11_C6 hj1) (nd_co rfl (nd_co rfl rfl)))
  have e := de_wX11_X6m_6 (a := a) (ac := ac) (j1 := j1) (τ := (nd_st0, (σ.2.2.2.2.2.2.2 j1), σ.2.2.1.2.2))
  exact e ▸ h2
set_option maxHeartbeats 40000000 in
set_option maxRecDepth 100000 in
theorem dd_wX11_X6m_6 {A : Nat → Prop} {a : Nat → Nat} {ac : Nat → ClassId} {σ : St × Rw × (St × (St × (St × (St)))) × (St) × (St) × (Nat → St) × (Nat → St) × (Nat → St × (St))} {j1 : Nat} (hj1 : j1 < 8) (h : va_D A (dw_X11 a ac σ)) : va_D A (dw_X6m (fun k => a (if k < 20 then k - 0 + j1 * 20 + 167 else k - 20 + 7)) (fun k => ac (if k < 20 then k - 0 + j1 * 20 + 167 else k - 20 + 7)) (nd_st0, (σ.2.2.2.2.2.2.2 j1), σ.2.2.1.2.2)) := by
  have h2 := nd_vd (segs := dg_X11 a ac σ) (ix := [29 + j1, 3, 4]) (old := [dw_X6 (fun k => a (k + j1 * 20 + 167)) (fun k => ac (k + j1 * 20 + 167)) (σ.2.2.2.2.2.2.2 j1), dwo_X6 (fun k => a (k + 7)) (fun k => ac (k + 7)) (σ.2.2.1.2.2.1), dw_X10 (fun k => a (k + 17)) (fun k => ac (k + 17)) (σ.2.2.1.2.2.2)]) h (nd_co (dx_X11_C6 hj1) (nd_co rfl (nd_co rfl rfl))) (by simp only [List.nodup_cons, List.mem_cons, List.not_mem_nil, List.nodup_nil, or_false, not_false_eq_true, and_true, true_and] <;> omega)
  have e := de_wX11_X6m_6 (a := a) (ac := ac) (j1 := j1) (τ := (nd_st0, (σ.2.2.2.2.2.2.2 j1), σ.2.2.1.2.2))
  exact e ▸ h2
set_option maxHeartbeats 40000000 in
set_option maxRecDepth 100000 in
theorem dy_wX11_X6m_6 {D : va_G} {U : State} {ac : Nat → ClassId} {j1 : Nat} (hj1 : j1 < 8) (h : va_K D vwCl (dk_X11 ac) U) : va_K D vwCl (dk_X6m (fun k => ac (if k < 20 then k - 0 + j1 * 20 + 167 else k - 20 + 7))) U := (va_K.app (nd_ks h (fun q hq => absurd hq List.not_mem_nil)) (va_K.app (dq_X11_C6 hj1 h) (h.sub [4, 5, 6, 7, 8, 9, 10, 11, 12, 13, 14, 15, 16, 17, 18, 19, 20, 21] rfl)))
set_option maxHeartbeats 40000000 in
set_option maxRecDepth 100000 in
theorem dn_wX11_X6m_6 {A0 : Nat → Prop} {D : va_G} {H H1 : Heap} {a : Nat → Nat} {ac : Nat → ClassId} {σ : St × Rw × (St × (St × (St × (St)))) × (St) × (St) × (Nat → St) × (Nat → St) × (Nat → St × (St))} {τ : St × (St × (St)) × (St × (St))} {j1 : Nat} (hj1 : j1 < 8) (hP : va_P D vwCl (dw_X11 a ac σ) H) (hD : va_D A0 (dw_X11 a ac σ)) (hA : ∀ q : Nat, H.size ≤ q → A0 q) (hk : ∀ q : Nat, q < H.size → ¬ va_A (dw_X6m (fun k => a (if k < 20 then k - 0 + j1 * 20 + 167 else k - 20 + 7)) (fun k => ac (if k < 20 then k - 0 + j1 * 20 + 167 else k - 20 + 7)) (nd_st0, (σ.2.2.2.2.2.2.2 j1), σ.2.2.1.2.2)) H.size q → H1[q]? = H[q]?) (h1 : va_P D vwCl (dw_X6m (fun k => a (if k < 20 then k - 0 + j1 * 20 + 167 else k - 20 + 7)) (fun k => ac (if k < 20 then k - 0 + j1 * 20 + 167 else k - 20 + 7)) τ) H1) (h2 : va_D (va_A (dw_X6m (fun k => a (if k < 20 then k - 0 + j1 * 20 + 167 else k - 20 + 7)) (fun k => ac (if k < 20 then k - 0 + j1 * 20 + 167 else k - 20 + 7)) (nd_st0, (σ.2.2.2.2.2.2.2 j1), σ.2.2.1.2.2)) H.size) (dw_X6m (fun k => a (if k < 20 then k - 0 + j1 * 20 + 167 else k - 20 + 7)) (fun k => ac (if k < 20 then k - 0 + j1 * 20 + 167 else k - 20 + 7)) τ)) : va_P D vwCl (dw_X11 a ac ((σ.1, (σ.2.1, (σ.2.2.1, (σ.2.2.2.1, (σ.2.2.2.2.1, (σ.2.2.2.2.2.1, (σ.2.2.2.2.2.2.1, (fun i => if i = j1 then τ.2.1 else σ.2.2.2.2.2.2.2 i)))))))).1, ((σ.1, (σ.2.1, (σ.2.2.1, (σ.2.2.2.1, (σ.2.2.2.2.1, (σ.2.2.2.2.2.1, (σ.2.2.2.2.2.2.1, (fun i => if i = j1 then τ.2.1 else σ.2.2.2.2.2.2.2 i)))))))).2.1, (((σ.1, (σ.2.1, (σ.2.2.1, (σ.2.2.2.1, (σ.2.2.2.2.1, (σ.2.2.2.2.2.1, (σ.2.2.2.2.2.2.1, (fun i => if i = j1 then τ.2.1 else σ.2.2.2.2.2.2.2 i)))))))).2.2.1.1, ((σ.1, (σ.2.1, (σ.2.2.1, (σ.2.2.2.1, (σ.2.2.2.2.1, (σ.2.2.2.2.2.1, (σ.2.2.2.2.2.2.1, (fun i => if i = j1 then τ.2.1 else σ.2.2.2.2.2.2.2 i)))))))).2.2.1.2.1, τ.2.2)), (σ.1, (σ.2.1, (σ.2.2.1, (σ.2.2.2.1, (σ.2.2.2.2.1, (σ.2.2.2.2.2.1, (σ.2.2.2.2.2.2.1, (fun i => if i = j1 then τ.2.1 else σ.2.2.2.2.2.2.2 i)))))))).2.2.2)))) H1 ∧ va_D A0 (dw_X11 a ac ((σ.1, (σ.2.1, (σ.2.2.1, (σ.2.2.2.1, (σ.2.2.2.2.1, (σ.2.2.2.2.2.1, (σ.2.2.2.2.2.2.1, (fun i => if i = j1 then τ.2.1 else σ.2.2.2.2.2.2.2 i)))))))).1, ((σ.1, (σ.2.1, (σ.2.2.1, (σ.2.2.2.1, (σ.2.2.2.2.1, (σ.2.2.2.2.2.1, (σ.2.2.2.2.2.2.1, (fun i => if i = j1 then τ.2.1 else σ.2.2.2.2.2.2.2 i)))))))).2.1, (((σ.1, (σ.2.1, (σ.2.2.1, (σ.2.2.2.1, (σ.2.2.2.2.1, (σ.2.2.2.2.2.1, (σ.2.2.2.2.2.2.1, (fun i => if i = j1 then τ.2.1 else σ.2.2.2.2.2.2.2 i)))))))).2.2.1.1, ((σ.1, (σ.2.1, (σ.2.2.1, (σ.2.2.2.1, (σ.2.2.2.2.1, (σ.2.2.2.2.2.1, (σ.2.2.2.2.2.2.1, (fun i => if i = j1 then τ.2.1 else σ.2.2.2.2.2.2.2 i)))))))).2.2.1.2.1, τ.2.2)), (σ.1, (σ.2.1, (σ.2.2.1, (σ.2.2.2.1, (σ.2.2.2.2.1, (σ.2.2.2.2.2.1, (σ.2.2.2.2.2.2.1, (fun i => if i = j1 then τ.2.1 else σ.2.2.2.2.2.2.2 i)))))))).2.2.2)))) := by
  have eo := de_wX11_X6m_6 (a := a) (ac := ac) (j1 := j1) (τ := (nd_st0, (σ.2.2.2.2.2.2.2 j1), σ.2.2.1.2.2))
  have en := de_wX11_X6m_6 (a := a) (ac := ac) (j1 := j1) (τ := τ)
  have h := nd_vn (segs := dg_X11 a ac σ) (ix := [29 + j1, 3, 4]) (old := [dw_X6 (fun k => a (k + j1 * 20 + 167)) (fun k => ac (k + j1 * 20 + 167)) (σ.2.2.2.2.2.2.2 j1), dwo_X6 (fun k => a (k + 7)) (fun k => ac (k + 7)) (σ.2.2.1.2.2.1), dw_X10 (fun k => a (k + 17)) (fun k => ac (k + 17)) (σ.2.2.1.2.2.2)]) (new := [dw_X6 (fun k => a (k + j1 * 20 + 167)) (fun k => ac (k + j1 * 20 + 167)) (τ.2.1), dwo_X6 (fun k => a (k + 7)) (fun k => ac (k + 7)) (τ.2.2.1), dw_X10 (fun k => a (k + 17)) (fun k => ac (k + 17)) (τ.2.2.2)]) hP hD (nd_co (dx_X11_C6 hj1) (nd_co rfl (nd_co rfl rfl))) rfl (fun q z y => hk q z (fun w => y (eo ▸ w))) (en ▸ h1)
  have e0 : (dg_X11 a ac σ).set (29 + j1) (dw_X6 (fun k => a (k + j1 * 20 + 167)) (fun k => ac (k + j1 * 20 + 167)) (τ.2.1)) = dg_X11 a ac (σ.1, (σ.2.1, (σ.2.2.1, (σ.2.2.2.1, (σ.2.2.2.2.1, (σ.2.2.2.2.2.1, (σ.2.2.2.2.2.2.1, (fun i => if i = j1 then (τ.2.1) else σ.2.2.2.2.2.2.2 i)))))))) := dz_X11_C6 hj1
  have e2 : ((dg_X11 a ac (σ.1, (σ.2.1, (σ.2.2.1, (σ.2.2.2.1, (σ.2.2.2.2.1, (σ.2.2.2.2.2.1, (σ.2.2.2.2.2.2.1, (fun i => if i = j1 then (τ.2.1) else σ.2.2.2.2.2.2.2 i))))))))).set 3 (dwo_X6 (fun k => a (k + 7)) (fun k => ac (k + 7)) (τ.2.2.1))).set 4 (dw_X10 (fun k => a (k + 17)) (fun k => ac (k + 17)) (τ.2.2.2)) = dg_X11 a ac (((σ.1, (σ.2.1, (σ.2.2.1, (σ.2.2.2.1, (σ.2.2.2.2.1, (σ.2.2.2.2.2.1, (σ.2.2.2.2.2.2.1, (fun i => if i = j1 then (τ.2.1) else σ.2.2.2.2.2.2.2 i)))))))).1, ((σ.1, (σ.2.1, (σ.2.2.1, (σ.2.2.2.1, (σ.2.2.2.2.1, (σ.2.2.2.2.2.1, (σ.2.2.2.2.2.2.1, (fun i => if i = j1 then (τ.2.1) else σ.2.2.2.2.2.2.2 i)))))))).2.1, (((σ.1, (σ.2.1, (σ.2.2.1, (σ.2.2.2.1, (σ.2.2.2.2.1, (σ.2.2.2.2.2.1, (σ.2.2.2.2.2.2.1, (fun i => if i = j1 then (τ.2.1) else σ.2.2.2.2.2.2.2 i)))))))).2.2.1.1, ((σ.1, (σ.2.1, (σ.2.2.1, (σ.2.2.2.1, (σ.2.2.2.2.1, (σ.2.2.2.2.2.1, (σ.2.2.2.2.2.2.1, (fun i => if i = j1 then (τ.2.1) else σ.2.2.2.2.2.2.2 i)))))))).2.2.1.2.1, ((τ.2.2.1), (σ.1, (σ.2.1, (σ.2.2.1, (σ.2.2.2.1, (σ.2.2.2.2.1, (σ.2.2.2.2.2.1, (σ.2.2.2.2.2.2.1, (fun i => if i = j1 then (τ.2.1) else σ.2.2.2.2.2.2.2 i)))))))).2.2.1.2.2.2))), (σ.1, (σ.2.1, (σ.2.2.1, (σ.2.2.2.1, (σ.2.2.2.2.1, (σ.2.2.2.2.2.1, (σ.2.2.2.2.2.2.1, (fun i => if i = j1 then (τ.2.1) else σ.2.2.2.2.2.2.2 i)))))))).2.2.2))).1, (((σ.1, (σ.2.1, (σ.2.2.1, (σ.2.2.2.1, (σ.2.2.2.2.1, (σ.2.2.2.2.2.1, (σ.2.2.2.2.2.2.1, (fun i => if i = j1 then (τ.2.1) else σ.2.2.2.2.2.2.2 i)))))))).1, ((σ.1, (σ.2.1, (σ.2.2.1, (σ.2.2.2.1, (σ.2.2.2.2.1, (σ.2.2.2.2.2.1, (σ.2.2.2.2.2.2.1, (fun i => if i = j1 then (τ.2.1) else σ.2.2.2.2.2.2.2 i)))))))).2.1, (((σ.1, (σ.2.1, (σ.2.2.1, (σ.2.2.2.1, (σ.2.2.2.2.1, (σ.2.2.2.2.2.1, (σ.2.2.2.2.2.2.1, (fun i => if i = j1 then (τ.2.1) else σ.2.2.2.2.2.2.2 i)))))))).2.2.1.1, ((σ.1, (σ.2.1, (σ.2.2.1, (σ.2.2.2.1, (σ.2.2.2.2.1, (σ.2.2.2.2.2.1, (σ.2.2.2.2.2.2.1, (fun i => if i = j1 then (τ.2.1) else σ.2.2.2.2.2.2.2 i)))))))).2.2.1.2.1, ((τ.2.2.1), (σ.1, (σ.2.1, (σ.2.2.1, (σ.2.2.2.1, (σ.2.2.2.2.1, (σ.2.2.2.2.2.1, (σ.2.2.2.2.2.2.1, (fun i => if i = j1 then (τ.2.1) else σ.2.2.2.2.2.2.2 i)))))))).2.2.1.2.2.2))), (σ.1, (σ.2.1, (σ.2.2.1, (σ.2.2.2.1, (σ.2.2.2.2.1, (σ.2.2.2.2.2.1, (σ.2.2.2.2.2.2.1, (fun i => if i = j1 then (τ.2.1) else σ.2.2.2.2.2.2.2 i)))))))).2.2.2))).2.1, ((((σ.1, (σ.2.1, (σ.2.2.1, (σ.2.2.2.1, (σ.2.2.2.2.1, (σ.2.2.2.2.2.1, (σ.2.2.2.2.2.2.1, (fun i => if i = j1 then (τ.2.1) else σ.2.2.2.2.2.2.2 i)))))))).1, ((σ.1, (σ.2.1, (σ.2.2.1, (σ.2.2.2.1, (σ.2.2.2.2.1, (σ.2.2.2.2.2.1, (σ.2.2.2.2.2.2.1, (fun i => if i = j1 then (τ.2.1) else σ.2.2.2.2.2.2.2 i)))))))).2.1, (((σ.1, (σ.2.1, (σ.2.2.1, (σ.2.2.2.1, (σ.2.2.2.2.1, (σ.2.2.2.2.2.1, (σ.2.2.2.2.2.2.1, (fun i => if i = j1 then (τ.2.1) else σ.2.2.2.2.2.2.2 i)))))))).2.2.1.1, ((σ.1, (σ.2.1, (σ.2.2.1, (σ.2.2.2.1, (σ.2.2.2.2.1, (σ.2.2.2.2.2.1, (σ.2.2.2.2.2.2.1, (fun i => if i = j1 then (τ.2.1) else σ.2.2.2.2.2.2.2 i)))))))).2.2.1.2.1, ((τ.2.2.1), (σ.1, (σ.2.1, (σ.2.2.1, (σ.2.2.2.1, (σ.2.2.2.2.1, (σ.2.2.2.2.2.1, (σ.2.2.2.2.2.2.1, (fun i => if i = j1 then (τ.2.1) else σ.2.2.2.2.2.2.2 i)))))))).2.2.1.2.2.2))), (σ.1, (σ.2.1, (σ.2.2.1, (σ.2.2.2.1, (σ.2.2.2.2.1, (σ.2.2.2.2.2.1, (σ.2.2.2.2.2.2.1, (fun i => if i = j1 then (τ.2.1) else σ.2.2.2.2.2.2.2 i)))))))).2.2.2))).2.2.1.1, (((σ.1, (σ.2.1, (σ.2.2.1, (σ.2.2.2.1, (σ.2.2.2.2.1, (σ.2.2.2.2.2.1, (σ.2.2.2.2.2.2.1, (fun i => if i = j1 then (τ.2.1) else σ.2.2.2.2.2.2.2 i)))))))).1, ((σ.1, (σ.2.1, (σ.2.2.1, (σ.2.2.2.1, (σ.2.2.2.2.1, (σ.2.2.2.2.2.1, (σ.2.2.2.2.2.2.1, (fun i => if i = j1 then (τ.2.1) else σ.2.2.2.2.2.2.2 i)))))))).2.1, (((σ.1, (σ.2.1, (σ.2.2.1, (σ.2.2.2.1, (σ.2.2.2.2.1, (σ.2.2.2.2.2.1, (σ.2.2.2.2.2.2.1, (fun i => if i = j1 then (τ.2.1) else σ.2.2.2.2.2.2.2 i)))))))).2.2.1.1, ((σ.1, (σ.2.1, (σ.2.2.1, (σ.2.2.2.1, (σ.2.2.2.2.1, (σ.2.2.2.2.2.1, (σ.2.2.2.2.2.2.1, (fun i => if i = j1 then (τ.2.1) else σ.2.2.2.2.2.2.2 i)))))))).2.2.1.2.1, ((τ.2.2.1), (σ.1, (σ.2.1, (σ.2.2.1, (σ.2.2.2.1, (σ.2.2.2.2.1, (σ.2.2.2.2.2.1, (σ.2.2.2.2.2.2.1, (fun i => if i = j1 then (τ.2.1) else σ.2.2.2.2.2.2.2 i)))))))).2.2.1.2.2.2))), (σ.1, (σ.2.1, (σ.2.2.1, (σ.2.2.2.1, (σ.2.2.2.2.1, (σ.2.2.2.2.2.1, (σ.2.2.2.2.2.2.1, (fun i => if i = j1 then (τ.2.1) else σ.2.2.2.2.2.2.2 i)))))))).2.2.2))).2.2.1.2.1, (((σ.1, (σ.2.1, (σ.2.2.1, (σ.2.2.2.1, (σ.2.2.2.2.1, (σ.2.2.2.2.2.1, (σ.2.2.2.2.2.2.1, (fun i => if i = j1 then (τ.2.1) else σ.2.2.2.2.2.2.2 i)))))))).1, ((σ.1, (σ.2.1, (σ.2.2.1, (σ.2.2.2.1, (σ.2.2.2.2.1, (σ.2.2.2.2.2.1, (σ.2.2.2.2.2.2.1, (fun i => if i = j1 then (τ.2.1) else σ.2.2.2.2.2.2.2 i)))))))).2.1, (((σ.1, (σ.2.1, (σ.2.2.1, (σ.2.2.2.1, (σ.2.2.2.2.1, (σ.2.2.2.2.2.1, (σ.2.2.2.2.2.2.1, (fun i => if i = j1 then (τ.2.1) else σ.2.2.2.2.2.2.2 i)))))))).2.2.1.1, ((σ.1, (σ.2.1, (σ.2.2.1, (σ.2.2.2.1, (σ.2.2.2.2.1, (σ.2.2.2.2.2.1, (σ.2.2.2.2.2.2.1, (fun i => if i = j1 then (τ.2.1) else σ.2.2.2.2.2.2.2 i)))))))).2.2.1.2.1, ((τ.2.2.1), (σ.1, (σ.2.1, (σ.2.2.1, (σ.2.2.2.1, (σ.2.2.2.2.1, (σ.2.2.2.2.2.1, (σ.2.2.2.2.2.2.1, (fun i => if i = j1 then (τ.2.1) else σ.2.2.2.2.2.2.2 i)))))))).2.2.1.2.2.2))), (σ.1, (σ.2.1, (σ.2.2.1, (σ.2.2.2.1, (σ.2.2.2.2.1, (σ.2.2.2.2.2.1, (σ.2.2.2.2.2.2.1, (fun i => if i = j1 then (τ.2.1) else σ.2.2.2.2.2.2.2 i)))))))).2.2.2))).2.2.1.2.2.1, (τ.2.2.2)))), ((σ.1, (σ.2.1, (σ.2.2.1, (σ.2.2.2.1, (σ.2.2.2.2.1, (σ.2.2.2.2.2.1, (σ.2.2.2.2.2.2.1, (fun i => if i = j1 then (τ.2.1) else σ.2.2.2.2.2.2.2 i)))))))).1, ((σ.1, (σ.2.1, (σ.2.2.1, (σ.2.2.2.1, (σ.2.2.2.2.1, (σ.2.2.2.2.2.1, (σ.2.2.2.2.2.2.1, (fun i => if i = j1 then (τ.2.1) else σ.2.2.2.2.2.2.2 i)))))))).2.1, (((σ.1, (σ.2.1, (σ.2.2.1, (σ.2.2.2.1, (σ.2.2.2.2.1, (σ.2.2.2.2.2.1, (σ.2.2.2.2.2.2.1, (fun i => if i = j1 then (τ.2.1) else σ.2.2.2.2.2.2.2 i)))))))).2.2.1.1, ((σ.1, (σ.2.1, (σ.2.2.1, (σ.2.2.2.1, (σ.2.2.2.2.1, (σ.2.2.2.2.2.1, (σ.2.2.2.2.2.2.1, (fun i => if i = j1 then (τ.2.1) else σ.2.2.2.2.2.2.2 i)))))))).2.2.1.2.1, ((τ.2.2.1), (σ.1, (σ.2.1, (σ.2.2.1, (σ.2.2.2.1, (σ.2.2.2.2.1, (σ.2.2.2.2.2.1, (σ.2.2.2.2.2.2.1, (fun i => if i = j1 then (τ.2.1) else σ.2.2.2.2.2.2.2 i)))))))).2.2.1.2.2.2))), (σ.1, (σ.2.1, (σ.2.2.1, (σ.2.2.2.1, (σ.2.2.2.2.1, (σ.2.2.2.2.2.1, (σ.2.2.2.2.2.2.1, (fun i => if i = j1 then (τ.2.1) else σ.2.2.2.2.2.2.2 i)))))))).2.2.2))).2.2.2))) := rfl
  have ee : nd_sets (dg_X11 a ac σ) [29 + j1, 3, 4] [dw_X6 (fun k => a (k + j1 * 20 + 167)) (fun k => ac (k + j1 * 20 + 167)) (τ.2.1), dwo_X6 (fun k => a (k + 7)) (fun k => ac (k + 7)) (τ.2.2.1), dw_X10 (fun k => a (k + 17)) (fun k => ac (k + 17)) (τ.2.2.2)] = dg_X11 a ac (((σ.1, (σ.2.1, (σ.2.2.1, (σ.2.2.2.1, (σ.2.2.2.2.1, (σ.2.2.2.2.2.1, (σ.2.2.2.2.2.2.1, (fun i => if i = j1 then (τ.2.1) else σ.2.2.2.2.2.2.2 i)))))))).1, ((σ.1, (σ.2.1, (σ.2.2.1, (σ.2.2.2.1, (σ.2.2.2.2.1, (σ.2.2.2.2.2.1, (σ.2.2.2.2.2.2.1, (fun i => if i = j1 then (τ.2.1) else σ.2.2.2.2.2.2.2 i)))))))).2.1, (((σ.1, (σ.2.1, (σ.2.2.1, (σ.2.2.2.1, (σ.2.2.2.2.1, (σ.2.2.2.2.2.1, (σ.2.2.2.2.2.2.1, (fun i => if i = j1 then (τ.2.1) else σ.2.2.2.2.2.2.2 i)))))))).2.2.1.1, ((σ.1, (σ.2.1, (σ.2.2.1, (σ.2.2.2.1, (σ.2.2.2.2.1, (σ.2.2.2.2.2.1, (σ.2.2.2.2.2.2.1, (fun i => if i = j1 then (τ.2.1) else σ.2.2.2.2.2.2.2 i)))))))).2.2.1.2.1, ((τ.2.2.1), (σ.1, (σ.2.1, (σ.2.2.1, (σ.2.2.2.1, (σ.2.2.2.2.1, (σ.2.2.2.2.2.1, (σ.2.2.2.2.2.2.1, (fun i => if i = j1 then (τ.2.1) else σ.2.2.2.2.2.2.2 i)))))))).2.2.1.2.2.2))), (σ.1, (σ.2.1, (σ.2.2.1, (σ.2.2.2.1, (σ.2.2.2.2.1, (σ.2.2.2.2.2.1, (σ.2.2.2.2.2.2.1, (fun i => if i = j1 then (τ.2.1) else σ.2.2.2.2.2.2.2 i)))))))).2.2.2))).1, (((σ.1, (σ.2.1, (σ.2.2.1, (σ.2.2.2.1, (σ.2.2.2.2.1, (σ.2.2.2.2.2.1, (σ.2.2.2.2.2.2.1, (fun i => if i = j1 then (τ.2.1) else σ.2.2.2.2.2.2.2 i)))))))).1, ((σ.1, (σ.2.1, (σ.2.2.1, (σ.2.2.2.1, (σ.2.2.2.2.1, (σ.2.2.2.2.2.1, (σ.2.2.2.2.2.2.1, (fun i => if i = j1 then (τ.2.1) else σ.2.2.2.2.2.2.2 i)))))))).2.1, (((σ.1, (σ.2.1, (σ.2.2.1, (σ.2.2.2.1, (σ.2.2.2.2.1, (σ.2.2.2.2.2.1, (σ.2.2.2.2.2.2.1, (fun i => if i = j1 then (τ.2.1) else σ.2.2.2.2.2.2.2 i)))))))).2.2.1.1, ((σ.1, (σ.2.1, (σ.2.2.1, (σ.2.2.2.1, (σ.2.2.2.2.1, (σ.2.2.2.2.2.1, (σ.2.2.2.2.2.2.1, (fun i => if i = j1 then (τ.2.1) else σ.2.2.2.2.2.2.2 i)))))))).2.2.1.2.1, ((τ.2.2.1), (σ.1, (σ.2.1, (σ.2.2.1, (σ.2.2.2.1, (σ.2.2.2.2.1, (σ.2.2.2.2.2.1, (σ.2.2.2.2.2.2.1, (fun i => if i = j1 then (τ.2.1) else σ.2.2.2.2.2.2.2 i)))))))).2.2.1.2.2.2))), (σ.1, (σ.2.1, (σ.2.2.1, (σ.2.2.2.1, (σ.2.2.2.2.1, (σ.2.2.2.2.2.1, (σ.2.2.2.2.2.2.1, (fun i => if i = j1 then (τ.2.1) else σ.2.2.2.2.2.2.2 i)))))))).2.2.2))).2.1, ((((σ.1, (σ.2.1, (σ.2.2.1, (σ.2.2.2.1, (σ.2.2.2.2.1, (σ.2.2.2.2.2.1, (σ.2.2.2.2.2.2.1, (fun i => if i = j1 then (τ.2.1) else σ.2.2.2.2.2.2.2 i)))))))).1, ((σ.1, (σ.2.1, (σ.2.2.1, (σ.2.2.2.1, (σ.2.2.2.2.1, (σ.2.2.2.2.2.1, (σ.2.2.2.2.2.2.1, (fun i => if i = j1 then (τ.2.1) else σ.2.2.2.2.2.2.2 i)))))))).2.1, (((σ.1, (σ.2.1, (σ.2.2.1, (σ.2.2.2.1, (σ.2.2.2.2.1, (σ.2.2.2.2.2.1, (σ.2.2.2.2.2.2.1, (fun i => if i = j1 then (τ.2.1) else σ.2.2.2.2.2.2.2 i)))))))).2.2.1.1, ((σ.1, (σ.2.1, (σ.2.2.1, (σ.2.2.2.1, (σ.2.2.2.2.1, (σ.2.2.2.2.2.1, (σ.2.2.2.2.2.2.1, (fun i => if i = j1 then (τ.2.1) else σ.2.2.2.2.2.2.2 i)))))))).2.2.1.2.1, ((τ.2.2.1), (σ.1, (σ.2.1, (σ.2.2.1, (σ.2.2.2.1, (σ.2.2.2.2.1, (σ.2.2.2.2.2.1, (σ.2.2.2.2.2.2.1, (fun i => if i = j1 then (τ.2.1) else σ.2.2.2.2.2.2.2 i)))))))).2.2.1.2.2.2))), (σ.1, (σ.2.1, (σ.2.2.1, (σ.2.2.2.1, (σ.2.2.2.2.1, (σ.2.2.2.2.2.1, (σ.2.2.2.2.2.2.1, (fun i => if i = j1 then (τ.2.1) else σ.2.2.2.2.2.2.2 i)))))))).2.2.2))).2.2.1.1, (((σ.1, (σ.2.1, (σ.2.2.1, (σ.2.2.2.1, (σ.2.2.2.2.1, (σ.2.2.2.2.2.1, (σ.2.2.2.2.2.2.1, (fun i => if i = j1 then (τ.2.1) else σ.2.2.2.2.2.2.2 i)))))))).1, ((σ.1, (σ.2.1, (σ.2.2.1, (σ.2.2.2.1, (σ.2.2.2.2.1, (σ.2.2.2.2.2.1, (σ.2.2.2.2.2.2.1, (fun i => if i = j1 then (τ.2.1) else σ.2.2.2.2.2.2.2 i)))))))).2.1, (((σ.1, (σ.2.1, (σ.2.2.1, (σ.2.2.2.1, (σ.2.2.2.2.1, (σ.2.2.2.2.2.1, (σ.2.2.2.2.2.2.1, (fun i => if i = j1 then (τ.2.1) else σ.2.2.2.2.2.2.2 i)))))))).2.2.1.1, ((σ.1, (σ.2.1, (σ.2.2.1, (σ.2.2.2.1, (σ.2.2.2.2.1, (σ.2.2.2.2.2.1, (σ.2.2.2.2.2.2.1, (fun i => if i = j1 then (τ.2.1) else σ.2.2.2.2.2.2.2 i)))))))).2.2.1.2.1, ((τ.2.2.1), (σ.1, (σ.2.1, (σ.2.2.1, (σ.2.2.2.1, (σ.2.2.2.2.1, (σ.2.2.2.2.2.1, (σ.2.2.2.2.2.2.1, (fun i => if i = j1 then (τ.2.1) else σ.2.2.2.2.2.2.2 i)))))))).2.2.1.2.2.2))), (σ.1, (σ.2.1, (σ.2.2.1, (σ.2.2.2.1, (σ.2.2.2.2.1, (σ.2.2.2.2.2.1, (σ.2.2.2.2.2.2.1, (fun i => if i = j1 then (τ.2.1) else σ.2.2.2.2.2.2.2 i)))))))).2.2.2))).2.2.1.2.1, (((σ.1, (σ.2.1, (σ.2.2.1, (σ.2.2.2.1, (σ.2.2.2.2.1, (σ.2.2.2.2.2.1, (σ.2.2.2.2.2.2.1, (fun i => if i = j1 then (τ.2.1) else σ.2.2.2.2.2.2.2 i)))))))).1, ((σ.1, (σ.2.1, (σ.2.2.1, (σ.2.2.2.1, (σ.2.2.2.2.1, (σ.2.2.2.2.2.1, (σ.2.2.2.2.2.2.1, (fun i => if i = j1 then (τ.2.1) else σ.2.2.2.2.2.2.2 i)))))))).2.1, (((σ.1, (σ.2.1, (σ.2.2.1, (σ.2.2.2.1, (σ.2.2.2.2.1, (σ.2.2.2.2.2.1, (σ.2.2.2.2.2.2.1, (fun i => if i = j1 then (τ.2.1) else σ.2.2.2.2.2.2.2 i)))))))).2.2.1.1, ((σ.1, (σ.2.1, (σ.2.2.1, (σ.2.2.2.1, (σ.2.2.2.2.1, (σ.2.2.2.2.2.1, (σ.2.2.2.2.2.2.1, (fun i => if i = j1 then (τ.2.1) else σ.2.2.2.2.2.2.2 i)))))))).2.2.1.2.1, ((τ.2.2.1), (σ.1, (σ.2.1, (σ.2.2.1, (σ.2.2.2.1, (σ.2.2.2.2.1, (σ.2.2.2.2.2.1, (σ.2.2.2.2.2.2.1, (fun i => if i = j1 then (τ.2.1) else σ.2.2.2.2.2.2.2 i)))))))).2.2.1.2.2.2))), (σ.1, (σ.2.1, (σ.2.2.1, (σ.2.2.2.1, (σ.2.2.2.2.1, (σ.2.2.2.2.2.1, (σ.2.2.2.2.2.2.1, (fun i => if i = j1 then (τ.2.1) else σ.2.2.2.2.2.2.2 i)))))))).2.2.2))).2.2.1.2.2.1, (τ.2.2.2)))), ((σ.1, (σ.2.1, (σ.2.2.1, (σ.2.2.2.1, (σ.2.2.2.2.1, (σ.2.2.2.2.2.1, (σ.2.2.2.2.2.2.1, (fun i => if i = j1 then (τ.2.1) else σ.2.2.2.2.2.2.2 i)))))))).1, ((σ.1, (σ.2.1, (σ.2.2.1, (σ.2.2.2.1, (σ.2.2.2.2.1, (σ.2.2.2.2.2.1, (σ.2.2.2.2.2.2.1, (fun i => if i = j1 then (τ.2.1) else σ.2.2.2.2.2.2.2 i)))))))).2.1, (((σ.1, (σ.2.1, (σ.2.2.1, (σ.2.2.2.1, (σ.2.2.2.2.1, (σ.2.2.2.2.2.1, (σ.2.2.2.2.2.2.1, (fun i => if i = j1 then (τ.2.1) else σ.2.2.2.2.2.2.2 i)))))))).2.2.1.1, ((σ.1, (σ.2.1, (σ.2.2.1, (σ.2.2.2.1, (σ.2.2.2.2.1, (σ.2.2.2.2.2.1, (σ.2.2.2.2.2.2.1, (fun i => if i = j1 then (τ.2.1) else σ.2.2.2.2.2.2.2 i)))))))).2.2.1.2.1, ((τ.2.2.1), (σ.1, (σ.2.1, (σ.2.2.1, (σ.2.2.2.1, (σ.2.2.2.2.1, (σ.2.2.2.2.2.1, (σ.2.2.2.2.2.2.1, (fun i => if i = j1 then (τ.2.1) else σ.2.2.2.2.2.2.2 i)))))))).2.2.1.2.2.2))), (σ.1, (σ.2.1, (σ.2.2.1, (σ.2.2.2.1, (σ.2.2.2.2.1, (σ.2.2.2.2.2.1, (σ.2.2.2.2.2.2.1, (fun i => if i = j1 then (τ.2.1) else σ.2.2.2.2.2.2.2 i)))))))).2.2.2))).2.2.2))) := by
    show (((dg_X11 a ac σ).set (29 + j1) (dw_X6 (fun k => a (k + j1 * 20 + 167)) (fun k => ac (k + j1 * 20 + 167)) (τ.2.1))).set 3 (dwo_X6 (fun k => a (k + 7)) (fun k => ac (k + 7)) (τ.2.2.1))).set 4 (dw_X10 (fun k => a (k + 17)) (fun k => ac (k + 17)) (τ.2.2.2)) = _
    rw [e0, e2]
  have hz : va_P D vwCl (dg_X11 a ac (((σ.1, (σ.2.1, (σ.2.2.1, (σ.2.2.2.1, (σ.2.2.2.2.1, (σ.2.2.2.2.2.1, (σ.2.2.2.2.2.2.1, (fun i => if i = j1 then (τ.2.1) else σ.2.2.2.2.2.2.2 i)))))))).1, ((σ.1, (σ.2.1, (σ.2.2.1, (σ.2.2.2.1, (σ.2.2.2.2.1, (σ.2.2.2.2.2.1, (σ.2.2.2.2.2.2.1, (fun i => if i = j1 then (τ.2.1) else σ.2.2.2.2.2.2.2 i)))))))).2.1, (((σ.1, (σ.2.1, (σ.2.2.1, (σ.2.2.2.1, (σ.2.2.2.2.1, (σ.2.2.2.2.2.1, (σ.2.2.2.2.2.2.1, (fun i => if i = j1 then (τ.2.1) else σ.2.2.2.2.2.2.2 i)))))))).2.2.1.1, ((σ.1, (σ.2.1, (σ.2.2.1, (σ.2.2.2.1, (σ.2.2.2.2.1, (σ.2.2.2.2.2.1, (σ.2.2.2.2.2.2.1, (fun i => if i = j1 then (τ.2.1) else σ.2.2.2.2.2.2.2 i)))))))).2.2.1.2.1, ((τ.2.2.1), (σ.1, (σ.2.1, (σ.2.2.1, (σ.2.2.2.1, (σ.2.2.2.2.1, (σ.2.2.2.2.2.1, (σ.2.2.2.2.2.2.1, (fun i => if i = j1 then (τ.2.1) else σ.2.2.2.2.2.2.2 i)))))))).2.2.1.2.2.2))), (σ.1, (σ.2.1, (σ.2.2.1, (σ.2.2.2.1, (σ.2.2.2.2.1, (σ.2.2.2.2.2.1, (σ.2.2.2.2.2.2.1, (fun i => if i = j1 then (τ.2.1) else σ.2.2.2.2.2.2.2 i)))))))).2.2.2))).1, (((σ.1, (σ.2.1, (σ.2.2.1, (σ.2.2.2.1, (σ.2.2.2.2.1, (σ.2.2.2.2.2.1, (σ.2.2.2.2.2.2.1, (fun i => if i = j1 then (τ.2.1) else σ.2.2.2.2.2.2.2 i)))))))).1, ((σ.1, (σ.2.1, (σ.2.2.1, (σ.2.2.2.1, (σ.2.2.2.2.1, (σ.2.2.2.2.2.1, (σ.2.2.2.2.2.2.1, (fun i => if i = j1 then (τ.2.1) else σ.2.2.2.2.2.2.2 i)))))))).2.1, (((σ.1, (σ.2.1, (σ.2.2.1, (σ.2.2.2.1, (σ.2.2.2.2.1, (σ.2.2.2.2.2.1, (σ.2.2.2.2.2.2.1, (fun i => if i = j1 then (τ.2.1) else σ.2.2.2.2.2.2.2 i)))))))).2.2.1.1, ((σ.1, (σ.2.1, (σ.2.2.1, (σ.2.2.2.1, (σ.2.2.2.2.1, (σ.2.2.2.2.2.1, (σ.2.2.2.2.2.2.1, (fun i => if i = j1 then (τ.2.1) else σ.2.2.2.2.2.2.2 i)))))))).2.2.1.2.1, ((τ.2.2.1), (σ.1, (σ.2.1, (σ.2.2.1, (σ.2.2.2.1, (σ.2.2.2.2.1, (σ.2.2.2.2.2.1, (σ.2.2.2.2.2.2.1, (fun i => if i = j1 then (τ.2.1) else σ.2.2.2.2.2.2.2 i)))))))).2.2.1.2.2.2))), (σ.1, (σ.2.1, (σ.2.2.1, (σ.2.2.2.1, (σ.2.2.2.2.1, (σ.2.2.2.2.2.1, (σ.2.2.2.2.2.2.1, (fun i => if i = j1 then (τ.2.1) else σ.2.2.2.2.2.2.2 i)))))))).2.2.2))).2.1, ((((σ.1, (σ.2.1, (σ.2.2.1, (σ.2.2.2.1, (σ.2.2.2.2.1, (σ.2.2.2.2.2.1, (σ.2.2.2.2.2.2.1, (fun i => if i = j1 then (τ.2.1) else σ.2.2.2.2.2.2.2 i)))))))).1, ((σ.1, (σ.2.1, (σ.2.2.1, (σ.2.2.2.1, (σ.2.2.2.2.1, (σ.2.2.2.2.2.1, (σ.2.2.2.2.2.2.1, (fun i => if i = j1 then (τ.2.1) else σ.2.2.2.2.2.2.2 i)))))))).2.1, (((σ.1, (σ.2.1, (σ.2.2.1, (σ.2.2.2.1, (σ.2.2.2.2.1, (σ.2.2.2.2.2.1, (σ.2.2.2.2.2.2.1, (fun i => if i = j1 then (τ.2.1) else σ.2.2.2.2.2.2.2 i)))))))).2.2.1.1, ((σ.1, (σ.2.1, (σ.2.2.1, (σ.2.2.2.1, (σ.2.2.2.2.1, (σ.2.2.2.2.2.1, (σ.2.2.2.2.2.2.1, (fun i => if i = j1 then (τ.2.1) else σ.2.2.2.2.2.2.2 i)))))))).2.2.1.2.1, ((τ.2.2.1), (σ.1, (σ.2.1, (σ.2.2.1, (σ.2.2.2.1, (σ.2.2.2.2.1, (σ.2.2.2.2.2.1, (σ.2.2.2.2.2.2.1, (fun i => if i = j1 then (τ.2.1) else σ.2.2.2.2.2.2.2 i)))))))).2.2.1.2.2.2))), (σ.1, (σ.2.1, (σ.2.2.1, (σ.2.2.2.1, (σ.2.2.2.2.1, (σ.2.2.2.2.2.1, (σ.2.2.2.2.2.2.1, (fun i => if i = j1 then (τ.2.1) else σ.2.2.2.2.2.2.2 i)))))))).2.2.2))).2.2.1.1, (((σ.1, (σ.2.1, (σ.2.2.1, (σ.2.2.2.1, (σ.2.2.2.2.1, (σ.2.2.2.2.2.1, (σ.2.2.2.2.2.2.1, (fun i => if i = j1 then (τ.2.1) else σ.2.2.2.2.2.2.2 i)))))))).1, ((σ.1, (σ.2.1, (σ.2.2.1, (σ.2.2.2.1, (σ.2.2.2.2.1, (σ.2.2.2.2.2.1, (σ.2.2.2.2.2.2.1, (fun i => if i = j1 then (τ.2.1) else σ.2.2.2.2.2.2.2 i)))))))).2.1, (((σ.1, (σ.2.1, (σ.2.2.1, (σ.2.2.2.1, (σ.2.2.2.2.1, (σ.2.2.2.2.2.1, (σ.2.2.2.2.2.2.1, (fun i => if i = j1 then (τ.2.1) else σ.2.2.2.2.2.2.2 i)))))))).2.2.1.1, ((σ.1, (σ.2.1, (σ.2.2.1, (σ.2.2.2.1, (σ.2.2.2.2.1, (σ.2.2.2.2.2.1, (σ.2.2.2.2.2.2.1, (fun i => if i = j1 then (τ.2.1) else σ.2.2.2.2.2.2.2 i)))))))).2.2.1.2.1, ((τ.2.2.1), (σ.1, (σ.2.1, (σ.2.2.1, (σ.2.2.2.1, (σ.2.2.2.2.1, (σ.2.2.2.2.2.1, (σ.2.2.2.2.2.2.1, (fun i => if i = j1 then (τ.2.1) else σ.2.2.2.2.2.2.2 i)))))))).2.2.1.2.2.2))), (σ.1, (σ.2.1, (σ.2.2.1, (σ.2.2.2.1, (σ.2.2.2.2.1, (σ.2.2.2.2.2.1, (σ.2.2.2.2.2.2.1, (fun i => if i = j1 then (τ.2.1) else σ.2.2.2.2.2.2.2 i)))))))).2.2.2))).2.2.1.2.1, (((σ.1, (σ.2.1, (σ.2.2.1, (σ.2.2.2.1, (σ.2.2.2.2.1, (σ.2.2.2.2.2.1, (σ.2.2.2.2.2.2.1, (fun i => if i = j1 then (τ.2.1) else σ.2.2.2.2.2.2.2 i)))))))).1, ((σ.1, (σ.2.1, (σ.2.2.1, (σ.2.2.2.1, (σ.2.2.2.2.1, (σ.2.2.2.2.2.1, (σ.2.2.2.2.2.2.1, (fun i => if i = j1 then (τ.2.1) else σ.2.2.2.2.2.2.2 i)))))))).2.1, (((σ.1, (σ.2.1, (σ.2.2.1, (σ.2.2.2.1, (σ.2.2.2.2.1, (σ.2.2.2.2.2.1, (σ.2.2.2.2.2.2.1, (fun i => if i = j1 then (τ.2.1) else σ.2.2.2.2.2.2.2 i)))))))).2.2.1.1, ((σ.1, (σ.2.1, (σ.2.2.1, (σ.2.2.2.1, (σ.2.2.2.2.1, (σ.2.2.2.2.2.1, (σ.2.2.2.2.2.2.1, (fun i => if i = j1 then (τ.2.1) else σ.2.2.2.2.2.2.2 i)))))))).2.2.1.2.1, ((τ.2.2.1), (σ.1, (σ.2.1, (σ.2.2.1, (σ.2.2.2.1, (σ.2.2.2.2.1, (σ.2.2.2.2.2.1, (σ.2.2.2.2.2.2.1, (fun i => if i = j1 then (τ.2.1) else σ.2.2.2.2.2.2.2 i)))))))).2.2.1.2.2.2))), (σ.1, (σ.2.1, (σ.2.2.1, (σ.2.2.2.1, (σ.2.2.2.2.1, (σ.2.2.2.2.2.1, (σ.2.2.2.2.2.2.1, (fun i => if i = j1 then (τ.2.1) else σ.2.2.2.2.2.2.2 i)))))))).2.2.2))).2.2.1.2.2.1, (τ.2.2.2)))), ((σ.1, (σ.2.1, (σ.2.2.1, (σ.2.2.2.1, (σ.2.2.2.2.1, (σ.2.2.2.2.2.1, (σ.2.2.2.2.2.2.1, (fun i => if i = j1 then (τ.2.1) else σ.2.2.2.2.2.2.2 i)))))))).1, ((σ.1, (σ.2.1, (σ.2.2.1, (σ.2.2.2.1, (σ.2.2.2.2.1, (σ.2.2.2.2.2.1, (σ.2.2.2.2.2.2.1, (fun i => if i = j1 then (τ.2.1) else σ.2.2.2.2.2.2.2 i)))))))).2.1, (((σ.1, (σ.2.1, (σ.2.2.1, (σ.2.2.2.1, (σ.2.2.2.2.1, (σ.2.2.2.2.2.1, (σ.2.2.2.2.2.2.1, (fun i => if i = j1 then (τ.2.1) else σ.2.2.2.2.2.2.2 i)))))))).2.2.1.1, ((σ.1, (σ.2.1, (σ.2.2.1, (σ.2.2.2.1, (σ.2.2.2.2.1, (σ.2.2.2.2.2.1, (σ.2.2.2.2.2.2.1, (fun i => if i = j1 then (τ.2.1) else σ.2.2.2.2.2.2.2 i)))))))).2.2.1.2.1, ((τ.2.2.1), (σ.1, (σ.2.1, (σ.2.2.1, (σ.2.2.2.1, (σ.2.2.2.2.1, (σ.2.2.2.2.2.1, (σ.2.2.2.2.2.2.1, (fun i => if i = j1 then (τ.2.1) else σ.2.2.2.2.2.2.2 i)))))))).2.2.1.2.2.2))), (σ.1, (σ.2.1, (σ.2.2.1, (σ.2.2.2.1, (σ.2.2.2.2.1, (σ.2.2.2.2.2.1, (σ.2.2.2.2.2.2.1, (fun i => if i = j1 then (τ.2.1) else σ.2.2.2.2.2.2.2 i)))))))).2.2.2))).2.2.2)))).flatten H1 := by rw [← ee]; exact h
  exact ⟨hz, nd_Da hD dA_X11⟩
def ow_dm_X11_keepCopy : List Cond := Cond.code yX11_keepCopy cX11_keepCopy 1 none :: ([Cond.fieldLink RX11 85 "TimeMachine$Timeline" "copies" "I", Cond.fieldLink RX11 48 "TimeMachine$Timeline" "copy" "[LTimeMachine$Machine;", Cond.fieldLink RX11 30 "TimeMachine$Timeline" "machine" "LTimeMachine$Machine;", Cond.methodLink RX11 94 yX6_become, Cond.instanceMethod yX6_become, Cond.selects RX6 yX6_become yX6_become, Cond.initialized RX6, Cond.fieldLink RX11 52 "TimeMachine$Timeline" "copyAt" "[I", Cond.fieldLink RX11 72 "TimeMachine$Timeline" "now" "I"] ++ (u_ws RX11 TX11 16 ++ (ow_dm_X6_become ++ [])))
theorem gd_dm_X11_keepCopy : ∀ w ∈ ow_dm_X11_keepCopy, (w.onTables && w.keeps) = true ∨ ∃ ty, w = Cond.arrayClass ty := List.forall_mem_cons.mpr ⟨good_of_word rfl, List.forall_mem_append.mpr ⟨fun w h => good_of_word (List.all_eq_true.mp (by decide +kernel) w h), List.forall_mem_append.mpr ⟨gu_X11, List.forall_mem_append.mpr ⟨gd_dm_X6_become, fun _ h => nomatch h⟩⟩⟩⟩
theorem hi_dm_X11_keepCopy_X11 : ∀ w ∈ u_ws RX11 TX11 16, w ∈ ow_dm_X11_keepCopy := fun w h => List.mem_cons_of_mem _ (List.mem_append_right _ (List.mem_append_left _ h))
theorem gi_dm_X11_keepCopy_0 : GoodIn ow_dm_X11_keepCopy (wsV RX11 94 RX6 yX6_become ow_dm_X6_become) := goodIn_app (goodIn_of _ (by decide +kernel)) (fun w h => ⟨List.mem_cons_of_mem _ (List.mem_append_right _ (List.mem_append_right _ (List.mem_append_left _ h))), gd_dm_X6_become w h⟩)
def dj_X11_keepCopy_48 (p : Program) (l : Launch) (e : Env) (s : State) (m : MethodId) (args : Array Value) (below : List Frame) (meth : Method) (c : Code) (Q : State → Prop) (A : Nat → Prop) (dC : Nat → ClassId) (dI : Nat → Nat → Nat) (a : Nat → Nat) (ac : Nat → ClassId) (g : (St × Rw × (St × (St × (St × (St)))) × (St) × (St) × (Nat → St) × (Nat → St) × (Nat → St × (St))) → Option (St × Rw × (St × (St × (St × (St)))) × (St) × (St) × (Nat → St) × (Nat → St) × (Nat → St × (St)))) (r : St × Rw × (St × (St × (St × (St)))) × (St) × (St) × (Nat → St) × (Nat → St) × (Nat → St × (St))) : Prop := ∀ (s0 : St × Rw × (St × (St × (St × (St)))) × (St) × (St) × (Nat → St) × (Nat → St) × (Nat → St × (St))) (H : Heap) (locs : List Loc) (ls : Array Slot), g s0 = some r → va_P (dC, dI) vwCl (dw_X11 a ac s0) H → va_D A (dw_X11 a ac s0) → va_S A s.heap H locs → lv_has ls 1 [] → W p l e (headSpec ow_dm_X11_keepCopy ({ frames := 3, cells := 0, slots := 0, locals := 83 })).room s m args below meth c H locs 0 0 Q (F0 m 48 ls [])
def dj_X11_keepCopy_0 (p : Program) (l : Launch) (e : Env) (s : State) (m : MethodId) (args : Array Value) (below : List Frame) (meth : Method) (c : Code) (Q : State → Prop) (A : Nat → Prop) (dC : Nat → ClassId) (dI : Nat → Nat → Nat) (a : Nat → Nat) (ac : Nat → ClassId) (g : (St × Rw × (St × (St × (St × (St)))) × (St) × (St) × (Nat → St) × (Nat → St) × (Nat → St × (St))) → Option (St × Rw × (St × (St × (St × (St)))) × (St) × (St) × (Nat → St) × (Nat → St) × (Nat → St × (St)))) (r : St × Rw × (St × (St × (St × (St)))) × (St) × (St) × (Nat → St) × (Nat → St) × (Nat → St × (St))) : Prop := ∀ (s0 : St × Rw × (St × (St × (St × (St)))) × (St) × (St) × (Nat → St) × (Nat → St) × (Nat → St × (St))) (H : Heap) (locs : List Loc) (ls : Array Slot), g s0 = some r → va_P (dC, dI) vwCl (dw_X11 a ac s0) H → va_D A (dw_X11 a ac s0) → va_S A s.heap H locs → lv_has ls 1 [(0, .ref (a 0))] → W p l e (headSpec ow_dm_X11_keepCopy ({ frames := 3, cells := 0, slots := 0, locals := 83 })).room s m args below meth c H locs 0 0 Q (F0 m 0 ls [])
set_option maxHeartbeats 40000000 in
set_option maxRecDepth 100000 in
theorem db_X11_keepCopy_48 {p : Program} {l : Launch} {e : Env} {s : State} {m : MethodId} {args : Array Value} {below : List Frame} {meth : Method} {c : Code} {Q : State → Prop} {A : Nat → Prop} {dC : Nat → ClassId} {dI : Nat → Nat → Nat} {a : Nat → Nat} {ac : Nat → ClassId} {n : Nat} {r : St × Rw × (St × (St × (St × (St)))) × (St) × (St) × (Nat → St) × (Nat → St) × (Nat → St × (St))} (C : nd_C p l s m args c A (dC, dI) cX11_keepCopy 1 RX11 ow_dm_X11_keepCopy (dk_X11 ac)) (K : nd_Kv p l e (headSpec ow_dm_X11_keepCopy ({ frames := 3, cells := 0, slots := 0, locals := 83 })).room s m args below meth c Q A (dC, dI) cX11_keepCopy (St × Rw × (St × (St × (St × (St)))) × (St) × (St) × (Nat → St) × (Nat → St) × (Nat → St × (St))) (dw_X11 a ac) r) : dj_X11_keepCopy_48 p l e s m args below meth c Q A dC dI a ac (df_X11_keepCopy_48 n) r := by
  obtain ⟨hlt, hx, hb, hml, hown, hts, hN, hA, hK⟩ := id C
  intro s0 H locs ls h hP hD hS hl
  unfold df_X11_keepCopy_48 at h
  exact K _ _ _ _ _ dX11_keepCopy_48 (Option.some.inj h).symm hP hD hS
set_option maxHeartbeats 40000000 in
set_option maxRecDepth 100000 in
theorem db_X11_keepCopy_0 {p : Program} {l : Launch} {e : Env} {s : State} {m : MethodId} {args : Array Value} {below : List Frame} {meth : Method} {c : Code} {Q : State → Prop} {A : Nat → Prop} {dC : Nat → ClassId} {dI : Nat → Nat → Nat} {a : Nat → Nat} {ac : Nat → ClassId} {n : Nat} {r : St × Rw × (St × (St × (St × (St)))) × (St) × (St) × (Nat → St) × (Nat → St) × (Nat → St × (St))} (C : nd_C p l s m args c A (dC, dI) cX11_keepCopy 1 RX11 ow_dm_X11_keepCopy (dk_X11 ac)) (K : nd_Kv p l e (headSpec ow_dm_X11_keepCopy ({ frames := 3, cells := 0, slots := 0, locals := 83 })).room s m args below meth c Q A (dC, dI) cX11_keepCopy (St × Rw × (St × (St × (St × (St)))) × (St) × (St) × (Nat → St) × (Nat → St) × (Nat → St × (St))) (dw_X11 a ac) r) : dj_X11_keepCopy_0 p l e s m args below meth c Q A dC dI a ac (df_X11_keepCopy_0 n) r := by
  obtain ⟨hlt, hx, hb, hml, hown, hts, hN, hA, hK⟩ := id C
  intro s0 H locs ls h hP hD hS hl
  unfold df_X11_keepCopy_0 at h
  refine lv_aload_n hx hb dX11_keepCopy_0 rfl (lv_at hl 0 rfl) ?_
  refine va_get (D := (dC, dI)) (ci := 12) (v := .int (sI s0.1 1)) (C := RX11) (T := TX11) (N := 16) hx hb hts hi_dm_X11_keepCopy_X11 hown hK hP 0 rfl rfl 9 (by decide) (hts (.fieldLink RX11 85 "TimeMachine$Timeline" "copies" "I") (List.mem_of_getElem? (i := 1) rfl)) (fun _ h9 => h9) rfl dX11_keepCopy_1 ?_
  refine lv_bipush (v := 8) hx hb dX11_keepCopy_4 (by decide) ?_
  refine lv_icmp_ge (tgt := 48) hx hb dX11_keepCopy_6 (by decide) (fun c1 => ?_) (fun c1 => ?_)
  · have h := nd_pos h c1
    exact (db_X11_keepCopy_48 C K)  s0 _ _ _ h hP hD hS (lv_sub hl [] rfl)
  · have h := nd_neg h c1
    refine lv_aload_n hx hb dX11_keepCopy_9 rfl (lv_at hl 0 rfl) ?_
    refine va_get (D := (dC, dI)) (ci := 12) (v := .ref (a 40)) (C := RX11) (T := TX11) (N := 16) hx hb hts hi_dm_X11_keepCopy_X11 hown hK hP 0 rfl rfl 7 (by decide) (hts (.fieldLink RX11 48 "TimeMachine$Timeline" "copy" "[LTimeMachine$Machine;") (List.mem_of_getElem? (i := 2) rfl)) (fun _ h9 => h9) rfl dX11_keepCopy_10 ?_
    refine lv_aload_n hx hb dX11_keepCopy_13 rfl (lv_at hl 0 rfl) ?_
    refine va_get (D := (dC, dI)) (ci := 12) (v := .int (sI s0.1 1)) (C := RX11) (T := TX11) (N := 16) hx hb hts hi_dm_X11_keepCopy_X11 hown hK hP 0 rfl rfl 9 (by decide) (hts (.fieldLink RX11 85 "TimeMachine$Timeline" "copies" "I") (List.mem_of_getElem? (i := 1) rfl)) (fun _ h9 => h9) rfl dX11_keepCopy_14 ?_
    obtain ⟨i2, h⟩ := nd_ck_e h
    refine va_aldq (i := (sI s0.1 1)) hx hb hK hP 40 33 rfl rfl i2 dX11_keepCopy_17 ?_
    cases hrj3 : s0.2.1 3 (Int32.toNatClampNeg ((sI s0.1 1) : Int32)) with
    | none =>
      have h := nd_mN h hrj3
      refine W.eq (g2 := F0 m 18 ls [.null]) (by first | rfl | (show F0 m _ ls (va_rf (Option.map (fun j => a (0 + j * 20 + 167)) (s0.2.1 3 (Int32.toNatClampNeg ((sI s0.1 1) : Int32)))) :: _) = _; rw [hrj3]; rfl)) ?_
      refine lv_aload_n hx hb dX11_keepCopy_18 rfl (lv_at hl 0 rfl) ?_
      refine va_get (D := (dC, dI)) (ci := 12) (v := .ref (a 7)) (C := RX11) (T := TX11) (N := 16) hx hb hts hi_dm_X11_keepCopy_X11 hown hK hP 0 rfl rfl 3 (by decide) (hts (.fieldLink RX11 30 "TimeMachine$Timeline" "machine" "LTimeMachine$Machine;") (List.mem_of_getElem? (i := 3) rfl)) (fun _ h9 => h9) rfl dX11_keepCopy_19 ?_
      exact nomatch h
    | some j3 =>
      have h := nd_mS h hrj3
      refine W.eq (g2 := F0 m 18 ls [.ref (a (0 + j3 * 20 + 167))]) (by first | rfl | (show F0 m _ ls (va_rf (Option.map (fun j => a (0 + j * 20 + 167)) (s0.2.1 3 (Int32.toNatClampNeg ((sI s0.1 1) : Int32)))) :: _) = _; rw [hrj3]; rfl)) ?_
      refine lv_aload_n hx hb dX11_keepCopy_18 rfl (lv_at hl 0 rfl) ?_
      refine va_get (D := (dC, dI)) (ci := 12) (v := .ref (a 7)) (C := RX11) (T := TX11) (N := 16) hx hb hts hi_dm_X11_keepCopy_X11 hown hK hP 0 rfl rfl 3 (by decide) (hts (.fieldLink RX11 30 "TimeMachine$Timeline" "machine" "LTimeMachine$Machine;") (List.mem_of_getElem? (i := 3) rfl)) (fun _ h9 => h9) rfl dX11_keepCopy_19 ?_
      obtain ⟨l4, h⟩ := nd_lt_e h
      obtain ⟨s6, hq, h⟩ := nd_b1_e h
      have hPc := dp_wX11_X6m_6 l4 hP
      have hDc := dd_wX11_X6m_6 l4 hD
      have hKc := dy_wX11_X6m_6 l4 hK
      have hFc := nd_rs hDc hS hA
      have hzA : ∀ q : Nat, H.size ≤ q → A q := fun q h => hA q (Nat.le_trans hS.1 h)
      refine nd_cVv (As := [.ref (a 7)]) (rest := []) (w' := dw_X6m (fun k => a (if k < 20 then k - 0 + j3 * 20 + 167 else k - 20 + 7)) (fun k => ac (if k < 20 then k - 0 + j3 * 20 + 167 else k - 20 + 7)) s6) ⟨hx, hb, hml, hown, hts⟩ (fun sz => dm_X6_become l hlt dC dI (fun k => a (if k < 20 then k - 0 + j3 * 20 + 167 else k - 20 + 7)) (fun k => ac (if k < 20 then k - 0 + j3 * 20 + 167 else k - 20 + 7)) n  (nd_st0, (s0.2.2.2.2.2.2.2 j3), s0.2.2.1.2.2) hq sz) (cwV 1 hts gi_dm_X11_keepCopy_0 rfl rfl rfl (by decide +kernel) ⟨Nat.le_of_ble_eq_true rfl, Nat.le_of_ble_eq_true rfl⟩) hPc hDc hKc hS hA hN (va_recv hKc hPc (ci := 7) (q0 := 0) rfl rfl) rfl hl.1 rfl (Nat.le_of_ble_eq_true rfl) dX11_keepCopy_22 (fun H locs hP1 hD1 hk1 hS => ?_)
      obtain ⟨hP, hD⟩ := dn_wX11_X6m_6 l4 hP hD hzA hk1 hP1 hD1
      obtain ⟨s8, es8, h⟩ := nd_let_e h
      have hP : va_P (dC, dI) vwCl (dw_X11 a ac s8) H := by rw [es8]; exact hP
      have hD : va_D A (dw_X11 a ac s8) := by rw [es8]; exact hD
      refine lv_aload_n hx hb dX11_keepCopy_25 rfl (lv_at hl 0 rfl) ?_
      refine va_get (D := (dC, dI)) (ci := 12) (v := .ref (a 2)) (C := RX11) (T := TX11) (N := 16) hx hb hts hi_dm_X11_keepCopy_X11 hown hK hP 0 rfl rfl 8 (by decide) (hts (.fieldLink RX11 52 "TimeMachine$Timeline" "copyAt" "[I") (List.mem_of_getElem? (i := 8) rfl)) (fun _ h9 => h9) rfl dX11_keepCopy_26 ?_
      refine lv_aload_n hx hb dX11_keepCopy_29 rfl (lv_at hl 0 rfl) ?_
      refine va_get (D := (dC, dI)) (ci := 12) (v := .int (sI s8.1 1)) (C := RX11) (T := TX11) (N := 16) hx hb hts hi_dm_X11_keepCopy_X11 hown hK hP 0 rfl rfl 9 (by decide) (hts (.fieldLink RX11 85 "TimeMachine$Timeline" "copies" "I") (List.mem_of_getElem? (i := 1) rfl)) (fun _ h9 => h9) rfl dX11_keepCopy_30 ?_
      refine lv_aload_n hx hb dX11_keepCopy_33 rfl (lv_at hl 0 rfl) ?_
      refine va_get (D := (dC, dI)) (ci := 12) (v := .int (sI s8.1 3)) (C := RX11) (T := TX11) (N := 16) hx hb hts hi_dm_X11_keepCopy_X11 hown hK hP 0 rfl rfl 11 (by decide) (hts (.fieldLink RX11 72 "TimeMachine$Timeline" "now" "I") (List.mem_of_getElem? (i := 9) rfl)) (fun _ h9 => h9) rfl dX11_keepCopy_34 ?_
      obtain ⟨i9, h⟩ := nd_ck_e h
      refine va_iast (i := (sI s8.1 1)) (x := (sI s8.1 3)) hx hb hK hP hD hS 2 1 rfl rfl i9 dX11_keepCopy_37 (fun H locs hP hD hS => ?_)
      obtain ⟨s10, es10, h⟩ := nd_let_e h
      have hP : va_P (dC, dI) vwCl (dw_X11 a ac s10) H := by rw [es10]; exact hP
      have hD : va_D A (dw_X11 a ac s10) := by rw [es10]; exact hD
      refine lv_aload_n hx hb dX11_keepCopy_38 rfl (lv_at hl 0 rfl) ?_
      refine lv_dup hx hb dX11_keepCopy_39 rfl ?_
      refine va_get (D := (dC, dI)) (ci := 12) (v := .int (sI s10.1 1)) (C := RX11) (T := TX11) (N := 16) hx hb hts hi_dm_X11_keepCopy_X11 hown hK hP 0 rfl rfl 9 (by decide) (hts (.fieldLink RX11 85 "TimeMachine$Timeline" "copies" "I") (List.mem_of_getElem? (i := 1) rfl)) (fun _ h9 => h9) rfl dX11_keepCopy_40 ?_
      refine lv_iconst (v := 1) hx hb dX11_keepCopy_43 (by decide) ?_
      refine lv_iadd hx hb dX11_keepCopy_44 ?_
      refine va_put (D := (dC, dI)) (ci := 12) (v := .int ((sI s10.1 1) + 1)) (ty := .int) (C := RX11) (T := TX11) (N := 16) hx hb hts hi_dm_X11_keepCopy_X11 tyX11 tyX11_ok nmX11 hown hK hP hD hS 0 rfl rfl 9 (by decide) (hts (.fieldLink RX11 85 "TimeMachine$Timeline" "copies" "I") (List.mem_of_getElem? (i := 1) rfl)) (fun _ h9 => h9) rfl (by decide +kernel) rfl rfl (Nat.le_of_ble_eq_true rfl) dX11_keepCopy_45 (fun H locs hP hD hS => ?_)
      obtain ⟨s11, es11, h⟩ := nd_let_e h
      have hP : va_P (dC, dI) vwCl (dw_X11 a ac s11) H := by rw [es11]; exact hP
      have hD : va_D A (dw_X11 a ac s11) := by rw [es11]; exact hD
      exact (db_X11_keepCopy_48 C K)  s11 _ _ _ h hP hD hS (lv_sub hl [] rfl)
set_option maxHeartbeats 40000000 in
set_option maxRecDepth 100000 in
theorem dm_X11_keepCopy (l : Launch) (hlt : l.stackTraces = false) (dC : Nat → ClassId) (dI : Nat → Nat → Nat) (a : Nat → Nat) (ac : Nat → ClassId) (n : Nat) (s0 : St × Rw × (St × (St × (St × (St)))) × (St) × (St) × (Nat → St) × (Nat → St) × (Nat → St × (St))) {r : St × Rw × (St × (St × (St × (St)))) × (St) × (St) × (Nat → St) × (Nat → St) × (Nat → St × (St))} (h : df_X11_keepCopy n s0 = some r) (sz : Nat) : Met l yX11_keepCopy ow_dm_X11_keepCopy ({ frames := 3, cells := 0, slots := 0, locals := 83 }) (va_Pc [.ref (a 0)] (fun U => U.heap.size = sz ∧ va_P (dC, dI) vwCl (dw_X11 a ac s0) U.heap ∧ va_K (dC, dI) vwCl (dk_X11 ac) U ∧ va_D (fun _ => True) (dw_X11 a ac s0) ∧ nv_E dI (va_A (dw_X11 a ac s0) sz) U)) (va_Qv (fun _ => True) (fun (_ : Unit) t => va_P (dC, dI) vwCl (dw_X11 a ac r) t.heap ∧ va_K (dC, dI) vwCl (dk_X11 ac) t ∧ va_D (va_A (dw_X11 a ac s0) sz) (dw_X11 a ac r)) (va_A (dw_X11 a ac s0) sz)) 0 0 (va_A (dw_X11 a ac s0) sz) := by
  refine Met.ofW (cc := cX11_keepCopy) (maxL := 1) (ret := none) (by decide) rfl ?_
  intro p e s m args below meth c s₁ B hml hv
  obtain ⟨rfl, hsz, hP, hK, hD0, hN⟩ := hv
  have hx := B.exec
  have hb := B.bytes
  have hr := B.returns
  have hts := atoms_spec (ws := ow_dm_X11_keepCopy) B.pre
  have hown : s.vm.findClass RX11 = some m.cls := findClass_of_methodNamed B.named
  have hlocks := B.notSynchronized
  subst hsz
  have hD := hD0.self (sz := s.heap.size)
  generalize hAe : va_A (dw_X11 a ac s0) s.heap.size = A at hD hN ⊢
  have hA : ∀ q : Nat, s.heap.size ≤ q → A q := fun q h => by rw [← hAe]; exact Or.inr h
  have hl := lv_entry ([.ref (a 0)]) (n := 1) (Nat.le_of_ble_eq_true rfl)
  rw [lg_entry_eq]
  generalize (lg_sl ([.ref (a 0)]) ++ List.replicate (1 - (lg_sl ([.ref (a 0)])).length) Slot.unset).toArray = ls at hl ⊢
  have hl : lv_has ls 1 [(0, .ref (a 0))] := hl
  exact db_X11_keepCopy_0 (dC := dC) (dI := dI) (a := a) (ac := ac) (n := n) (r := r) ⟨hlt, hx, hb, hml, hown, hts, hN, hA, hK⟩ (fun pc τ H locs ls d er hP hD hS => by subst er; exact W.vret hx hb hr (fun t ht hW => ⟨⟨(), rfl, trivial, by rw [ht]; exact hP, va_K.moved hW.alike hK, hD⟩, hS.F ht⟩) hS.2.2 d) s0 _ _ _ h hP hD va_S.rf (lv_sub hl [0] rfl)
def ow_dm_X11_start : List Cond := Cond.code yX11_start cX11_start 4 none :: ([Cond.fieldLink RX11 11 "TimeMachine$Timeline" "programs" "[LTimeMachine$Program;", Cond.fieldLink RX11 30 "TimeMachine$Timeline" "machine" "LTimeMachine$Machine;", Cond.methodLink RX11 65 yX6_start, Cond.instanceMethod yX6_start, Cond.selects RX6 yX6_start yX6_start, Cond.initialized RX6, Cond.fieldLink RX11 68 "TimeMachine$Timeline" "booted" "Z", Cond.fieldLink RX11 72 "TimeMachine$Timeline" "now" "I", Cond.fieldLink RX11 76 "TimeMachine$Timeline" "end" "I", Cond.fieldLink RX11 79 "TimeMachine$Timeline" "came" "I", Cond.fieldLink RX11 82 "TimeMachine$Timeline" "missed" "Z", Cond.fieldLink RX11 85 "TimeMachine$Timeline" "copies" "I", Cond.fieldLink RX11 88 "TimeMachine$Timeline" "spacing" "I", Cond.methodLink RX11 91 yX11_keepCopy, Cond.instanceMethod yX11_keepCopy, Cond.selects RX11 yX11_keepCopy yX11_keepCopy, Cond.initialized RX11] ++ (u_ws RX11 TX11 16 ++ (ow_dm_X6_start ++ (ow_dm_X11_keepCopy ++ []))))
theorem gd_dm_X11_start : ∀ w ∈ ow_dm_X11_start, (w.onTables && w.keeps) = true ∨ ∃ ty, w = Cond.arrayClass ty := List.forall_mem_cons.mpr ⟨good_of_word rfl, List.forall_mem_append.mpr ⟨fun w h => good_of_word (List.all_eq_true.mp (by decide +kernel) w h), List.forall_mem_append.mpr ⟨gu_X11, List.forall_mem_append.mpr ⟨gd_dm_X6_start, List.forall_mem_append.mpr ⟨gd_dm_X11_keepCopy, fun _ h => nomatch h⟩⟩⟩⟩⟩
theorem hi_dm_X11_start_X11 : ∀ w ∈ u_ws RX11 TX11 16, w ∈ ow_dm_X11_start := fun w h => List.mem_cons_of_mem _ (List.mem_append_right _ (List.mem_append_left _ h))
theorem gi_dm_X11_start_0 : GoodIn ow_dm_X11_start (wsV RX11 65 RX6 yX6_start ow_dm_X6_start) := goodIn_app (goodIn_of _ (by decide +kernel)) (fun w h => ⟨List.mem_cons_of_mem _ (List.mem_append_right _ (List.mem_append_right _ (List.mem_append_left _ h))), gd_dm_X6_start w h⟩)
theorem gi_dm_X11_start_1 : GoodIn ow_dm_X11_start (wsV RX11 91 RX11 yX11_keepCopy ow_dm_X11_keepCopy) := goodIn_app (goodIn_of _ (by decide +kernel)) (fun w h => ⟨List.mem_cons_of_mem _ (List.mem_append_right _ (List.mem_append_right _ (List.mem_append_right _ (List.mem_append_left _ h)))), gd_dm_X11_keepCopy w h⟩)
def dj_X11_start_2 (p : Program) (l : Launch) (e : Env) (s : State) (m : MethodId) (args : Array Value) (below : List Frame) (meth : Method) (c : Code) (Q : State → Prop) (A : Nat → Prop) (dC : Nat → ClassId) (dI : Nat → Nat → Nat) (a : Nat → Nat) (ac : Nat → ClassId) (g : Int32 → Int32 → (St × Rw × (St × (St × (St × (St)))) × (St) × (St) × (Nat → St) × (Nat → St) × (Nat → St × (St))) → Option (St × Rw × (St × (St × (St × (St)))) × (St) × (St) × (Nat → St) × (Nat → St) × (Nat → St × (St)))) (r : St × Rw × (St × (St × (St × (St)))) × (St) × (St) × (Nat → St) × (Nat → St) × (Nat → St × (St))) : Prop := ∀ (x2 : Int32) (x3 : Int32) (s0 : St × Rw × (St × (St × (St × (St)))) × (St) × (St) × (Nat → St) × (Nat → St) × (Nat → St × (St))) (H : Heap) (locs : List Loc) (ls : Array Slot), g x2 x3 s0 = some r → va_P (dC, dI) vwCl (dw_X11 a ac s0) H → va_D A (dw_X11 a ac s0) → va_S A s.heap H locs → lv_has ls 4 [(0, .ref (a 0)), (1, .ref (a 38)), (2, .int x2), (3, .int x3)] → W p l e (headSpec ow_dm_X11_start ({ frames := 4, cells := 0, slots := 0, locals := 103 })).room s m args below meth c H locs 0 0 Q (F0 m 2 ls [])
def dj_X11_start_0 (p : Program) (l : Launch) (e : Env) (s : State) (m : MethodId) (args : Array Value) (below : List Frame) (meth : Method) (c : Code) (Q : State → Prop) (A : Nat → Prop) (dC : Nat → ClassId) (dI : Nat → Nat → Nat) (a : Nat → Nat) (ac : Nat → ClassId) (g : Int32 → (St × Rw × (St × (St × (St × (St)))) × (St) × (St) × (Nat → St) × (Nat → St) × (Nat → St × (St))) → Option (St × Rw × (St × (St × (St × (St)))) × (St) × (St) × (Nat → St) × (Nat → St) × (Nat → St × (St)))) (r : St × Rw × (St × (St × (St × (St)))) × (St) × (St) × (Nat → St) × (Nat → St) × (Nat → St × (St))) : Prop := ∀ (v1 : Int32) (s0 : St × Rw × (St × (St × (St × (St)))) × (St) × (St) × (Nat → St) × (Nat → St) × (Nat → St × (St))) (H : Heap) (locs : List Loc) (ls : Array Slot), g v1 s0 = some r → va_P (dC, dI) vwCl (dw_X11 a ac s0) H → va_D A (dw_X11 a ac s0) → va_S A s.heap H locs → lv_has ls 4 [(0, .ref (a 0)), (1, .ref (a 38)), (2, .int v1)] → W p l e (headSpec ow_dm_X11_start ({ frames := 4, cells := 0, slots := 0, locals := 103 })).room s m args below meth c H locs 0 0 Q (F0 m 0 ls [])
set_option maxHeartbeats 40000000 in
set_option maxRecDepth 100000 in
theorem dB_X11_start_2 {p : Program} {l : Launch} {e : Env} {s : State} {m : MethodId} {args : Array Value} {below : List Frame} {meth : Method} {c : Code} {Q : State → Prop} {A : Nat → Prop} {dC : Nat → ClassId} {dI : Nat → Nat → Nat} {a : Nat → Nat} {ac : Nat → ClassId} {n : Nat} {r : St × Rw × (St × (St × (St × (St)))) × (St) × (St) × (Nat → St) × (Nat → St) × (Nat → St × (St))} (C : nd_C p l s m args c A (dC, dI) cX11_start 4 RX11 ow_dm_X11_start (dk_X11 ac)) (K : nd_Kv p l e (headSpec ow_dm_X11_start ({ frames := 4, cells := 0, slots := 0, locals := 103 })).room s m args below meth c Q A (dC, dI) cX11_start (St × Rw × (St × (St × (St × (St)))) × (St) × (St) × (Nat → St) × (Nat → St) × (Nat → St × (St))) (dw_X11 a ac) r) {g2 : Int32 → Int32 → (St × Rw × (St × (St × (St × (St)))) × (St) × (St) × (Nat → St) × (Nat → St) × (Nat → St × (St))) → Option (St × Rw × (St × (St × (St × (St)))) × (St) × (St) × (Nat → St) × (Nat → St) × (Nat → St × (St)))} (J2 : dj_X11_start_2 p l e s m args below meth c Q A dC dI a ac g2 r) : dj_X11_start_2 p l e s m args below meth c Q A dC dI a ac (dF_X11_start_2 n g2) r := by
  obtain ⟨hlt, hx, hb, hml, hown, hts, hN, hA, hK⟩ := id C
  intro x2 x3 s0 H locs ls h hP hD hS hl
  unfold dF_X11_start_2 at h
  refine lv_iload_n hx hb dX11_start_2 rfl (lv_at hl 3 rfl) ?_
  refine lv_aload_n hx hb dX11_start_3 rfl (lv_at hl 0 rfl) ?_
  refine va_get (D := (dC, dI)) (ci := 12) (v := .ref (a 37)) (C := RX11) (T := TX11) (N := 16) hx hb hts hi_dm_X11_start_X11 hown hK hP 0 rfl rfl 0 (by decide) (hts (.fieldLink RX11 11 "TimeMachine$Timeline" "programs" "[LTimeMachine$Program;") (List.mem_of_getElem? (i := 1) rfl)) (fun _ h9 => h9) rfl dX11_start_4 ?_
  refine va_alen (v := 4) hx hb hK hP 37 30 rfl rfl (show Int32.ofNat 4 = 4 by decide) dX11_start_7 ?_
  refine lv_icmp_ge (tgt := 26) hx hb dX11_start_8 (by decide) (fun c1 => ?_) (fun c1 => ?_)
  · have h := nd_pos h c1
    refine lv_aload_n hx hb dX11_start_26 rfl (lv_at hl 0 rfl) ?_
    refine va_get (D := (dC, dI)) (ci := 12) (v := .ref (a 7)) (C := RX11) (T := TX11) (N := 16) hx hb hts hi_dm_X11_start_X11 hown hK hP 0 rfl rfl 3 (by decide) (hts (.fieldLink RX11 30 "TimeMachine$Timeline" "machine" "LTimeMachine$Machine;") (List.mem_of_getElem? (i := 2) rfl)) (fun _ h9 => h9) rfl dX11_start_27 ?_
    refine lv_aload_n hx hb dX11_start_30 rfl (lv_at hl 0 rfl) ?_
    refine va_get (D := (dC, dI)) (ci := 12) (v := .ref (a 37)) (C := RX11) (T := TX11) (N := 16) hx hb hts hi_dm_X11_start_X11 hown hK hP 0 rfl rfl 0 (by decide) (hts (.fieldLink RX11 11 "TimeMachine$Timeline" "programs" "[LTimeMachine$Program;") (List.mem_of_getElem? (i := 1) rfl)) (fun _ h9 => h9) rfl dX11_start_31 ?_
    refine lv_iload_n hx hb dX11_start_34 rfl (lv_at hl 2 rfl) ?_
    obtain ⟨i2, h⟩ := nd_ck_e h
    refine va_aldq (i := x2) hx hb hK hP 37 30 rfl rfl i2 dX11_start_35 ?_
    cases hrj3 : s0.2.1 0 (Int32.toNatClampNeg x2) with
    | none =>
      have h := nd_mN h hrj3
      refine W.eq (g2 := F0 m 36 ls [.null, .ref (a 7)]) (by first | rfl | (show F0 m _ ls (va_rf (Option.map (fun j => a (0 + j * 5 + 41)) (s0.2.1 0 (Int32.toNatClampNeg x2))) :: _) = _; rw [hrj3]; rfl)) ?_
      exact nomatch h
    | some j3 =>
      have h := nd_mS h hrj3
      refine W.eq (g2 := F0 m 36 ls [.ref (a (0 + j3 * 5 + 41)), .ref (a 7)]) (by first | rfl | (show F0 m _ ls (va_rf (Option.map (fun j => a (0 + j * 5 + 41)) (s0.2.1 0 (Int32.toNatClampNeg x2))) :: _) = _; rw [hrj3]; rfl)) ?_
      obtain ⟨l4, h⟩ := nd_lt_e h
      obtain ⟨s6, hq, h⟩ := nd_b1_e h
      have hPc := dp_wX11_X6p_4 l4 hP
      have hDc := dd_wX11_X6p_4 l4 hD
      have hKc := dy_wX11_X6p_4 l4 hK
      have hFc := nd_rs hDc hS hA
      have hzA : ∀ q : Nat, H.size ≤ q → A q := fun q h => hA q (Nat.le_trans hS.1 h)
      refine nd_cVv (As := [.ref (a (0 + j3 * 5 + 41))]) (rest := []) (w' := dw_X6p (fun k => a (if k < 20 then k - 0 + 7 else k - 20 + j3 * 5 + 41)) (fun k => ac (if k < 20 then k - 0 + 7 else k - 20 + j3 * 5 + 41)) s6) ⟨hx, hb, hml, hown, hts⟩ (fun sz => dm_X6_start l hlt dC dI (fun k => a (if k < 20 then k - 0 + 7 else k - 20 + j3 * 5 + 41)) (fun k => ac (if k < 20 then k - 0 + 7 else k - 20 + j3 * 5 + 41)) n  (nd_st0, s0.2.2.1.2.2, (s0.2.2.2.2.2.1 j3)) hq sz) (cwV 1 hts gi_dm_X11_start_0 rfl rfl rfl (by decide +kernel) ⟨Nat.le_of_ble_eq_true rfl, Nat.le_of_ble_eq_true rfl⟩) hPc hDc hKc hS hA hN (va_recv hKc hPc (ci := 7) (q0 := 0) rfl rfl) rfl hl.1 rfl (Nat.le_of_ble_eq_true rfl) dX11_start_36 (fun H locs hP1 hD1 hk1 hS => ?_)
      obtain ⟨hP, hD⟩ := dn_wX11_X6p_4 l4 hP hD hzA hk1 hP1 hD1
      obtain ⟨s8, es8, h⟩ := nd_let_e h
      have hP : va_P (dC, dI) vwCl (dw_X11 a ac s8) H := by rw [es8]; exact hP
      have hD : va_D A (dw_X11 a ac s8) := by rw [es8]; exact hD
      refine lv_aload_n hx hb dX11_start_39 rfl (lv_at hl 0 rfl) ?_
      refine lv_iconst (v := 1) hx hb dX11_start_40 (by decide) ?_
      refine va_put (D := (dC, dI)) (ci := 12) (v := .int 1) (ty := .boolean) (C := RX11) (T := TX11) (N := 16) hx hb hts hi_dm_X11_start_X11 tyX11 tyX11_ok nmX11 hown hK hP hD hS 0 rfl rfl 6 (by decide) (hts (.fieldLink RX11 68 "TimeMachine$Timeline" "booted" "Z") (List.mem_of_getElem? (i := 7) rfl)) (fun _ h9 => h9) rfl (by decide +kernel) (by first | rfl | decide) rfl (Nat.le_of_ble_eq_true rfl) dX11_start_41 (fun H locs hP hD hS => ?_)
      obtain ⟨s9, es9, h⟩ := nd_let_e h
      have hP : va_P (dC, dI) vwCl (dw_X11 a ac s9) H := by rw [es9]; exact hP
      have hD : va_D A (dw_X11 a ac s9) := by rw [es9]; exact hD
      refine lv_aload_n hx hb dX11_start_44 rfl (lv_at hl 0 rfl) ?_
      refine lv_iconst (v := 0) hx hb dX11_start_45 (by decide) ?_
      refine va_put (D := (dC, dI)) (ci := 12) (v := .int 0) (ty := .int) (C := RX11) (T := TX11) (N := 16) hx hb hts hi_dm_X11_start_X11 tyX11 tyX11_ok nmX11 hown hK hP hD hS 0 rfl rfl 11 (by decide) (hts (.fieldLink RX11 72 "TimeMachine$Timeline" "now" "I") (List.mem_of_getElem? (i := 8) rfl)) (fun _ h9 => h9) rfl (by decide +kernel) rfl rfl (Nat.le_of_ble_eq_true rfl) dX11_start_46 (fun H locs hP hD hS => ?_)
      obtain ⟨s10, es10, h⟩ := nd_let_e h
      have hP : va_P (dC, dI) vwCl (dw_X11 a ac s10) H := by rw [es10]; exact hP
      have hD : va_D A (dw_X11 a ac s10) := by rw [es10]; exact hD
      refine lv_aload_n hx hb dX11_start_49 rfl (lv_at hl 0 rfl) ?_
      refine lv_iconst (v := 0) hx hb dX11_start_50 (by decide) ?_
      refine va_put (D := (dC, dI)) (ci := 12) (v := .int 0) (ty := .int) (C := RX11) (T := TX11) (N := 16) hx hb hts hi_dm_X11_start_X11 tyX11 tyX11_ok nmX11 hown hK hP hD hS 0 rfl rfl 12 (by decide) (hts (.fieldLink RX11 76 "TimeMachine$Timeline" "end" "I") (List.mem_of_getElem? (i := 9) rfl)) (fun _ h9 => h9) rfl (by decide +kernel) rfl rfl (Nat.le_of_ble_eq_true rfl) dX11_start_51 (fun H locs hP hD hS => ?_)
      obtain ⟨s11, es11, h⟩ := nd_let_e h
      have hP : va_P (dC, dI) vwCl (dw_X11 a ac s11) H := by rw [es11]; exact hP
      have hD : va_D A (dw_X11 a ac s11) := by rw [es11]; exact hD
      refine lv_aload_n hx hb dX11_start_54 rfl (lv_at hl 0 rfl) ?_
      refine lv_iconst (v := 0) hx hb dX11_start_55 (by decide) ?_
      refine va_put (D := (dC, dI)) (ci := 12) (v := .int 0) (ty := .int) (C := RX11) (T := TX11) (N := 16) hx hb hts hi_dm_X11_start_X11 tyX11 tyX11_ok nmX11 hown hK hP hD hS 0 rfl rfl 13 (by decide) (hts (.fieldLink RX11 79 "TimeMachine$Timeline" "came" "I") (List.mem_of_getElem? (i := 10) rfl)) (fun _ h9 => h9) rfl (by decide +kernel) rfl rfl (Nat.le_of_ble_eq_true rfl) dX11_start_56 (fun H locs hP hD hS => ?_)
      obtain ⟨s12, es12, h⟩ := nd_let_e h
      have hP : va_P (dC, dI) vwCl (dw_X11 a ac s12) H := by rw [es12]; exact hP
      have hD : va_D A (dw_X11 a ac s12) := by rw [es12]; exact hD
      refine lv_aload_n hx hb dX11_start_59 rfl (lv_at hl 0 rfl) ?_
      refine lv_iconst (v := 0) hx hb dX11_start_60 (by decide) ?_
      refine va_put (D := (dC, dI)) (ci := 12) (v := .int 0) (ty := .boolean) (C := RX11) (T := TX11) (N := 16) hx hb hts hi_dm_X11_start_X11 tyX11 tyX11_ok nmX11 hown hK hP hD hS 0 rfl rfl 14 (by decide) (hts (.fieldLink RX11 82 "TimeMachine$Timeline" "missed" "Z") (List.mem_of_getElem? (i := 11) rfl)) (fun _ h9 => h9) rfl (by decide +kernel) (by first | rfl | decide) rfl (Nat.le_of_ble_eq_true rfl) dX11_start_61 (fun H locs hP hD hS => ?_)
      obtain ⟨s13, es13, h⟩ := nd_let_e h
      have hP : va_P (dC, dI) vwCl (dw_X11 a ac s13) H := by rw [es13]; exact hP
      have hD : va_D A (dw_X11 a ac s13) := by rw [es13]; exact hD
      refine lv_aload_n hx hb dX11_start_64 rfl (lv_at hl 0 rfl) ?_
      refine lv_iconst (v := 0) hx hb dX11_start_65 (by decide) ?_
      refine va_put (D := (dC, dI)) (ci := 12) (v := .int 0) (ty := .int) (C := RX11) (T := TX11) (N := 16) hx hb hts hi_dm_X11_start_X11 tyX11 tyX11_ok nmX11 hown hK hP hD hS 0 rfl rfl 9 (by decide) (hts (.fieldLink RX11 85 "TimeMachine$Timeline" "copies" "I") (List.mem_of_getElem? (i := 12) rfl)) (fun _ h9 => h9) rfl (by decide +kernel) rfl rfl (Nat.le_of_ble_eq_true rfl) dX11_start_66 (fun H locs hP hD hS => ?_)
      obtain ⟨s14, es14, h⟩ := nd_let_e h
      have hP : va_P (dC, dI) vwCl (dw_X11 a ac s14) H := by rw [es14]; exact hP
      have hD : va_D A (dw_X11 a ac s14) := by rw [es14]; exact hD
      refine lv_aload_n hx hb dX11_start_69 rfl (lv_at hl 0 rfl) ?_
      refine lv_sipush (v := 256) hx hb dX11_start_70 (by decide) ?_
      refine va_put (D := (dC, dI)) (ci := 12) (v := .int 256) (ty := .int) (C := RX11) (T := TX11) (N := 16) hx hb hts hi_dm_X11_start_X11 tyX11 tyX11_ok nmX11 hown hK hP hD hS 0 rfl rfl 10 (by decide) (hts (.fieldLink RX11 88 "TimeMachine$Timeline" "spacing" "I") (List.mem_of_getElem? (i := 13) rfl)) (fun _ h9 => h9) rfl (by decide +kernel) rfl rfl (Nat.le_of_ble_eq_true rfl) dX11_start_73 (fun H locs hP hD hS => ?_)
      obtain ⟨s15, es15, h⟩ := nd_let_e h
      have hP : va_P (dC, dI) vwCl (dw_X11 a ac s15) H := by rw [es15]; exact hP
      have hD : va_D A (dw_X11 a ac s15) := by rw [es15]; exact hD
      refine lv_aload_n hx hb dX11_start_76 rfl (lv_at hl 0 rfl) ?_
      obtain ⟨s17, hq, h⟩ := nd_b1_e h
      have hPc := hP
      have hDc := hD
      have hKc := hK
      have hFc := nd_rs hD hS hA
      refine nd_cVv (As := []) (rest := []) (w' := dw_X11 a ac s17) ⟨hx, hb, hml, hown, hts⟩ (fun sz => dm_X11_keepCopy l hlt dC dI a ac n  s15 hq sz) (cwV 0 hts gi_dm_X11_start_1 rfl rfl rfl (by decide +kernel) ⟨Nat.le_of_ble_eq_true rfl, Nat.le_of_ble_eq_true rfl⟩) hPc hDc hKc hS hA hN (va_recv hKc hPc (ci := 12) (q0 := 0) rfl rfl) rfl hl.1 rfl (Nat.le_of_ble_eq_true rfl) dX11_start_77 (fun H locs hP1 hD1 hk1 hS => ?_)
      have hP := hP1
      have hD := hD1.weaken (fun k q _ h => hFc q.1 h)
      exact K _ _ _ _ _ dX11_start_80 (Option.some.inj h).symm hP hD hS
  · have h := nd_neg h c1
    refine lv_aload_n hx hb dX11_start_11 rfl (lv_at hl 0 rfl) ?_
    refine va_get (D := (dC, dI)) (ci := 12) (v := .ref (a 37)) (C := RX11) (T := TX11) (N := 16) hx hb hts hi_dm_X11_start_X11 hown hK hP 0 rfl rfl 0 (by decide) (hts (.fieldLink RX11 11 "TimeMachine$Timeline" "programs" "[LTimeMachine$Program;") (List.mem_of_getElem? (i := 1) rfl)) (fun _ h9 => h9) rfl dX11_start_12 ?_
    refine lv_iload_n hx hb dX11_start_15 rfl (lv_at hl 3 rfl) ?_
    refine lv_aload_n hx hb dX11_start_16 rfl (lv_at hl 1 rfl) ?_
    refine lv_iload_n hx hb dX11_start_17 rfl (lv_at hl 3 rfl) ?_
    obtain ⟨i19, h⟩ := nd_ck_e h
    refine va_aldq (i := x3) hx hb hK hP 38 31 rfl rfl i19 dX11_start_18 ?_
    cases hrj20 : s0.2.1 1 (Int32.toNatClampNeg x3) with
    | none =>
      have h := nd_mN h hrj20
      refine W.eq (g2 := F0 m 19 ls [.null, .int x3, .ref (a 37)]) (by first | rfl | (show F0 m _ ls (va_rf (Option.map (fun j => a (0 + j * 5 + 41)) (s0.2.1 1 (Int32.toNatClampNeg x3))) :: _) = _; rw [hrj20]; rfl)) ?_
      obtain ⟨i21, h⟩ := nd_ck_e h
      refine va_astqN (i := x3) hx hb hK hP hD hS 37 30 rfl rfl i21 dX11_start_19 (fun H locs hP hD hS => ?_)
      have hP : va_P (dC, dI) vwCl ((dw_X11 a ac s0).set 37 (a 37, .inl (ac 37, 4, .inr (.inr (.inr (.inr (va_up (fun i => Option.map (fun j => a (0 + j * 5 + 41)) (s0.2.1 0 i)) (Int32.toNatClampNeg x3) (Option.map (fun j => a (0 + j * 5 + 41)) none)))))))) H := hP
      have hD : va_D A ((dw_X11 a ac s0).set 37 (a 37, .inl (ac 37, 4, .inr (.inr (.inr (.inr (va_up (fun i => Option.map (fun j => a (0 + j * 5 + 41)) (s0.2.1 0 i)) (Int32.toNatClampNeg x3) (Option.map (fun j => a (0 + j * 5 + 41)) none)))))))) := hD
      rw [nd_up] at hP hD
      obtain ⟨s22, es22, h⟩ := nd_let_e h
      have hP : va_P (dC, dI) vwCl (dw_X11 a ac s22) H := by rw [es22]; exact hP
      have hD : va_D A (dw_X11 a ac s22) := by rw [es22]; exact hD
      obtain ⟨z23, ez23, h⟩ := nd_let_e h
      refine lv_iinc (v := z23) (lv' := [(3, .int z23), (0, .ref (a 0)), (1, .ref (a 38)), (2, .int x2)]) hx hb dX11_start_20 hl (k := 3) rfl (by rw [ez23]) (by decide) rfl (fun ls hl => ?_)
      refine lv_goto (tgt := 2) hx hb dX11_start_23 (by decide) ?_
      exact (J2) (x2) (z23) s22 _ _ _ h hP hD hS (lv_sub hl [1, 2, 3, 0] rfl)
    | some j20 =>
      have h := nd_mS h hrj20
      refine W.eq (g2 := F0 m 19 ls [.ref (a (0 + j20 * 5 + 41)), .int x3, .ref (a 37)]) (by first | rfl | (show F0 m _ ls (va_rf (Option.map (fun j => a (0 + j * 5 + 41)) (s0.2.1 1 (Int32.toNatClampNeg x3))) :: _) = _; rw [hrj20]; rfl)) ?_
      obtain ⟨i24, h⟩ := nd_ck_e h
      obtain ⟨l25, h⟩ := nd_lt_e h
      obtain ⟨qk, vs, hqk⟩ := dv_X11_P8 (a := a) (ac := ac) (σ := s0) l25
      refine va_astq (i := x3) (r := (RX8, TX8, 10)) hx hb hK hP hD hS 37 30 qk 9 rfl rfl hqk rfl i24 dX11_start_19 (fun H locs hP hD hS => ?_)
      have hP : va_P (dC, dI) vwCl ((dw_X11 a ac s0).set 37 (a 37, .inl (ac 37, 4, .inr (.inr (.inr (.inr (va_up (fun i => Option.map (fun j => a (0 + j * 5 + 41)) (s0.2.1 0 i)) (Int32.toNatClampNeg x3) (Option.map (fun j => a (0 + j * 5 + 41)) (some j20))))))))) H := hP
      have hD : va_D A ((dw_X11 a ac s0).set 37 (a 37, .inl (ac 37, 4, .inr (.inr (.inr (.inr (va_up (fun i => Option.map (fun j => a (0 + j * 5 + 41)) (s0.2.1 0 i)) (Int32.toNatClampNeg x3) (Option.map (fun j => a (0 + j * 5 + 41)) (some j20))))))))) := hD
      rw [nd_up] at hP hD
      obtain ⟨s26, es26, h⟩ := nd_let_e h
      have hP : va_P (dC, dI) vwCl (dw_X11 a ac s26) H := by rw [es26]; exact hP
      have hD : va_D A (dw_X11 a ac s26) := by rw [es26]; exact hD
      obtain ⟨z27, ez27, h⟩ := nd_let_e h
      refine lv_iinc (v := z27) (lv' := [(3, .int z27), (0, .ref (a 0)), (1, .ref (a 38)), (2, .int x2)]) hx hb dX11_start_20 hl (k := 3) rfl (by rw [ez27]) (by decide) rfl (fun ls hl => ?_)
      refine lv_goto (tgt := 2) hx hb dX11_start_23 (by decide) ?_
      exact (J2) (x2) (z27) s26 _ _ _ h hP hD hS (lv_sub hl [1, 2, 3, 0] rfl)
set_option maxHeartbeats 40000000 in
set_option maxRecDepth 100000 in
theorem db_X11_start_2 {p : Program} {l : Launch} {e : Env} {s : State} {m : MethodId} {args : Array Value} {below : List Frame} {meth : Method} {c : Code} {Q : State → Prop} {A : Nat → Prop} {dC : Nat → ClassId} {dI : Nat → Nat → Nat} {a : Nat → Nat} {ac : Nat → ClassId} {n : Nat} {r : St × Rw × (St × (St × (St × (St)))) × (St) × (St) × (Nat → St) × (Nat → St) × (Nat → St × (St))} (C : nd_C p l s m args c A (dC, dI) cX11_start 4 RX11 ow_dm_X11_start (dk_X11 ac)) (K : nd_Kv p l e (headSpec ow_dm_X11_start ({ frames := 4, cells := 0, slots := 0, locals := 103 })).room s m args below meth c Q A (dC, dI) cX11_start (St × Rw × (St × (St × (St × (St)))) × (St) × (St) × (Nat → St) × (Nat → St) × (Nat → St × (St))) (dw_X11 a ac) r) (k : Nat) : dj_X11_start_2 p l e s m args below meth c Q A dC dI a ac (df_X11_start_2 n k) r := by
  induction k with
  | zero => intro x2 x3 s0 H locs ls h; exact nomatch (show (none : Option (St × Rw × (St × (St × (St × (St)))) × (St) × (St) × (Nat → St) × (Nat → St) × (Nat → St × (St)))) = some r from h)
  | succ k ih => exact dB_X11_start_2 C K ih
set_option maxHeartbeats 40000000 in
set_option maxRecDepth 100000 in
theorem db_X11_start_0 {p : Program} {l : Launch} {e : Env} {s : State} {m : MethodId} {args : Array Value} {below : List Frame} {meth : Method} {c : Code} {Q : State → Prop} {A : Nat → Prop} {dC : Nat → ClassId} {dI : Nat → Nat → Nat} {a : Nat → Nat} {ac : Nat → ClassId} {n : Nat} {r : St × Rw × (St × (St × (St × (St)))) × (St) × (St) × (Nat → St) × (Nat → St) × (Nat → St × (St))} (C : nd_C p l s m args c A (dC, dI) cX11_start 4 RX11 ow_dm_X11_start (dk_X11 ac)) (K : nd_Kv p l e (headSpec ow_dm_X11_start ({ frames := 4, cells := 0, slots := 0, locals := 103 })).room s m args below meth c Q A (dC, dI) cX11_start (St × Rw × (St × (St × (St × (St)))) × (St) × (St) × (Nat → St) × (Nat → St) × (Nat → St × (St))) (dw_X11 a ac) r) : dj_X11_start_0 p l e s m args below meth c Q A dC dI a ac (df_X11_start_0 n) r := by
  obtain ⟨hlt, hx, hb, hml, hown, hts, hN, hA, hK⟩ := id C
  intro v1 s0 H locs ls h hP hD hS hl
  unfold df_X11_start_0 at h
  refine lv_iconst (v := 0) hx hb dX11_start_0 (by decide) ?_
  refine lv_istore_n (lv' := [(3, .int 0), (0, .ref (a 0)), (1, .ref (a 38)), (2, .int v1)]) hx hb dX11_start_1 rfl hl (by decide) rfl (fun ls hl => ?_)
  exact (db_X11_start_2 C K n) (v1) (0) s0 _ _ _ h hP hD hS (lv_sub hl [1, 2, 3, 0] rfl)
set_option maxHeartbeats 40000000 in
set_option maxRecDepth 100000 in
theorem dm_X11_start (l : Launch) (hlt : l.stackTraces = false) (dC : Nat → ClassId) (dI : Nat → Nat → Nat) (a : Nat → Nat) (ac : Nat → ClassId) (n : Nat) (v1 : Int32) (s0 : St × Rw × (St × (St × (St × (St)))) × (St) × (St) × (Nat → St) × (Nat → St) × (Nat → St × (St))) {r : St × Rw × (St × (St × (St × (St)))) × (St) × (St) × (Nat → St) × (Nat → St) × (Nat → St × (St))} (h : df_X11_start n v1 s0 = some r) (sz : Nat) : Met l yX11_start ow_dm_X11_start ({ frames := 4, cells := 0, slots := 0, locals := 103 }) (va_Pc [.ref (a 0), .ref (a 38), .int v1] (fun U => U.heap.size = sz ∧ va_P (dC, dI) vwCl (dw_X11 a ac s0) U.heap ∧ va_K (dC, dI) vwCl (dk_X11 ac) U ∧ va_D (fun _ => True) (dw_X11 a ac s0) ∧ nv_E dI (va_A (dw_X11 a ac s0) sz) U)) (va_Qv (fun _ => True) (fun (_ : Unit) t => va_P (dC, dI) vwCl (dw_X11 a ac r) t.heap ∧ va_K (dC, dI) vwCl (dk_X11 ac) t ∧ va_D (va_A (dw_X11 a ac s0) sz) (dw_X11 a ac r)) (va_A (dw_X11 a ac s0) sz)) 0 0 (va_A (dw_X11 a ac s0) sz) := by
  refine Met.ofW (cc := cX11_start) (maxL := 4) (ret := none) (by decide) rfl ?_
  intro p e s m args below meth c s₁ B hml hv
  obtain ⟨rfl, hsz, hP, hK, hD0, hN⟩ := hv
  have hx := B.exec
  have hb := B.bytes
  have hr := B.returns
  have hts := atoms_spec (ws := ow_dm_X11_start) B.pre
  have hown : s.vm.findClass RX11 = some m.cls := findClass_of_methodNamed B.named
  have hlocks := B.notSynchronized
  subst hsz
  have hD := hD0.self (sz := s.heap.size)
  generalize hAe : va_A (dw_X11 a ac s0) s.heap.size = A at hD hN ⊢
  have hA : ∀ q : Nat, s.heap.size ≤ q → A q := fun q h => by rw [← hAe]; exact Or.inr h
  have hl := lv_entry ([.ref (a 0), .ref (a 38), .int v1]) (n := 4) (Nat.le_of_ble_eq_true rfl)
  rw [lg_entry_eq]
  generalize (lg_sl ([.ref (a 0), .ref (a 38), .int v1]) ++ List.replicate (4 - (lg_sl ([.ref (a 0), .ref (a 38), .int v1])).length) Slot.unset).toArray = ls at hl ⊢
  have hl : lv_has ls 4 [(0, .ref (a 0)), (1, .ref (a 38)), (2, .int v1)] := hl
  exact db_X11_start_0 (dC := dC) (dI := dI) (a := a) (ac := ac) (n := n) (r := r) ⟨hlt, hx, hb, hml, hown, hts, hN, hA, hK⟩ (fun pc τ H locs ls d er hP hD hS => by subst er; exact W.vret hx hb hr (fun t ht hW => ⟨⟨(), rfl, trivial, by rw [ht]; exact hP, va_K.moved hW.alike hK, hD⟩, hS.F ht⟩) hS.2.2 d) v1 s0 _ _ _ h hP hD va_S.rf (lv_sub hl [0, 1, 2] rfl)
set_option maxHeartbeats 40000000 in
set_option maxRecDepth 100000 in
theorem de_wX11_X3c_5 {a : Nat → Nat} {ac : Nat → ClassId} {τ : St} : ([dw_X3c (fun k => a (k + 27)) (fun k => ac (k + 27)) (τ)] : List va_W).flatten = dw_X3c (fun k => a (k + 27)) (fun k => ac (k + 27)) τ := by
  first
  | (simp only [List.flatten_cons, List.flatten_nil, List.append_nil]; done)
  | (simp only [List.flatten_cons, List.flatten_nil, List.append_nil]; rfl)
set_option maxHeartbeats 40000000 in
set_option maxRecDepth 100000 in
theorem dp_wX11_X3c_5 {D : va_G} {H : Heap} {a : Nat → Nat} {ac : Nat → ClassId} {σ : St × Rw × (St × (St × (St × (St)))) × (St) × (St) × (Nat → St) × (Nat → St) × (Nat → St × (St))} (h : va_P D vwCl (dw_X11 a ac σ) H) : va_P D vwCl (dw_X3c (fun k => a (k + 27)) (fun k => ac (k + 27)) σ.2.2.2.1) H := by
  have h2 := nd_vp (segs := dg_X11 a ac σ) (ix := [5]) (old := [dw_X3c (fun k => a (k + 27)) (fun k => ac (k + 27)) (σ.2.2.2.1)]) h (nd_co rfl rfl)
  have e := de_wX11_X3c_5 (a := a) (ac := ac) (τ := σ.2.2.2.1)
  exact e ▸ h2
set_option maxHeartbeats 40000000 in
set_option maxRecDepth 100000 in
theorem dd_wX11_X3c_5 {A : Nat → Prop} {a : Nat → Nat} {ac : Nat → ClassId} {σ : St × Rw × (St × (St × (St × (St)))) × (St) × (St) × (Nat → St) × (Nat → St) × (Nat → St × (St))} (h : va_D A (dw_X11 a ac σ)) : va_D A (dw_X3c (fun k => a (k + 27)) (fun k => ac (k + 27)) σ.2.2.2.1) := by
  have h2 := nd_vd (segs := dg_X11 a ac σ) (ix := [5]) (old := [dw_X3c (fun k => a (k + 27)) (fun k => ac (k + 27)) (σ.2.2.2.1)]) h (nd_co rfl rfl) (by decide)
  have e := de_wX11_X3c_5 (a := a) (ac := ac) (τ := σ.2.2.2.1)
  exact e ▸ h2
set_option maxHeartbeats 40000000 in
set_option maxRecDepth 100000 in
theorem dy_wX11_X3c_5 {D : va_G} {U : State} {ac : Nat → ClassId} (h : va_K D vwCl (dk_X11 ac) U) : va_K D vwCl (dk_X3c (fun k => ac (k + 27))) U := (h.sub [22, 23, 24, 25] rfl)
set_option maxHeartbeats 40000000 in
set_option maxRecDepth 100000 in
theorem dn_wX11_X3c_5 {A0 : Nat → Prop} {D : va_G} {H H1 : Heap} {a : Nat → Nat} {ac : Nat → ClassId} {σ : St × Rw × (St × (St × (St × (St)))) × (St) × (St) × (Nat → St) × (Nat → St) × (Nat → St × (St))} {τ : St} (hP : va_P D vwCl (dw_X11 a ac σ) H) (hD : va_D A0 (dw_X11 a ac σ)) (hA : ∀ q : Nat, H.size ≤ q → A0 q) (hk : ∀ q : Nat, q < H.size → ¬ va_A (dw_X3c (fun k => a (k + 27)) (fun k => ac (k + 27)) σ.2.2.2.1) H.size q → H1[q]? = H[q]?) (h1 : va_P D vwCl (dw_X3c (fun k => a (k + 27)) (fun k => ac (k + 27)) τ) H1) (h2 : va_D (va_A (dw_X3c (fun k => a (k + 27)) (fun k => ac (k + 27)) σ.2.2.2.1) H.size) (dw_X3c (fun k => a (k + 27)) (fun k => ac (k + 27)) τ)) : va_P D vwCl (dw_X11 a ac (σ.1, (σ.2.1, (σ.2.2.1, (τ, σ.2.2.2.2))))) H1 ∧ va_D A0 (dw_X11 a ac (σ.1, (σ.2.1, (σ.2.2.1, (τ, σ.2.2.2.2))))) := by
  have eo := de_wX11_X3c_5 (a := a) (ac := ac) (τ := σ.2.2.2.1)
  have en := de_wX11_X3c_5 (a := a) (ac := ac) (τ := τ)
  have h := nd_vn (segs := dg_X11 a ac σ) (ix := [5]) (old := [dw_X3c (fun k => a (k + 27)) (fun k => ac (k + 27)) (σ.2.2.2.1)]) (new := [dw_X3c (fun k => a (k + 27)) (fun k => ac (k + 27)) (τ)]) hP hD (nd_co rfl rfl) rfl (fun q z y => hk q z (fun w => y (eo ▸ w))) (en ▸ h1)
  have ee : nd_sets (dg_X11 a ac σ) [5] [dw_X3c (fun k => a (k + 27)) (fun k => ac (k + 27)) (τ)] = dg_X11 a ac (σ.1, (σ.2.1, (σ.2.2.1, (τ, σ.2.2.2.2)))) := rfl
  have hz : va_P D vwCl (dg_X11 a ac (σ.1, (σ.2.1, (σ.2.2.1, (τ, σ.2.2.2.2))))).flatten H1 := by rw [← ee]; exact h
  exact ⟨hz, nd_Da hD dA_X11⟩
set_option maxHeartbeats 40000000 in
set_option maxRecDepth 100000 in
theorem de_wX11_X3c_7 {a : Nat → Nat} {ac : Nat → ClassId} {τ : St} : ([dw_X3c (fun k => a (k + 32)) (fun k => ac (k + 32)) (τ)] : List va_W).flatten = dw_X3c (fun k => a (k + 32)) (fun k => ac (k + 32)) τ := by
  first
  | (simp only [List.flatten_cons, List.flatten_nil, List.append_nil]; done)
  | (simp only [List.flatten_cons, List.flatten_nil, List.append_nil]; rfl)
set_option maxHeartbeats 40000000 in
set_option maxRecDepth 100000 in
theorem dp_wX11_X3c_7 {D : va_G} {H : Heap} {a : Nat → Nat} {ac : Nat → ClassId} {σ : St × Rw × (St × (St × (St × (St)))) × (St) × (St) × (Nat → St) × (Nat → St) × (Nat → St × (St))} (h : va_P D vwCl (dw_X11 a ac σ) H) : va_P D vwCl (dw_X3c (fun k => a (k + 32)) (fun k => ac (k + 32)) σ.2.2.2.2.1) H := by
  have h2 := nd_vp (segs := dg_X11 a ac σ) (ix := [6]) (old := [dw_X3c (fun k => a (k + 32)) (fun k => ac (k + 32)) (σ.2.2.2.2.1)]) h (nd_co rfl rfl)
  have e := de_wX11_X3c_7 (a := a) (ac := ac) (τ := σ.2.2.2.2.1)
  exact e ▸ h2
set_option maxHeartbeats 40000000 in
set_option maxRecDepth 100000 in
theorem dd_wX11_X3c_7 {A : Nat → Prop} {a : Nat → Nat} {ac : Nat → ClassId} {σ : St × Rw × (St × (St × (St × (St)))) × (St) × (St) × (Nat → St) × (Nat → St) × (Nat → St × (St))} (h : va_D A (dw_X11 a ac σ)) : va_D A (dw_X3c (fun k => a (k + 32)) (fun k => ac (k + 32)) σ.2.2.2.2.1) := by
  have h2 := nd_vd (segs := dg_X11 a ac σ) (ix := [6]) (old := [dw_X3c (fun k => a (k + 32)) (fun k => ac (k + 32)) (σ.2.2.2.2.1)]) h (nd_co rfl rfl) (by decide)
  have e := de_wX11_X3c_7 (a := a) (ac := ac) (τ := σ.2.2.2.2.1)
  exact e ▸ h2
set_option maxHeartbeats 40000000 in
set_option maxRecDepth 100000 in
theorem dy_wX11_X3c_7 {D : va_G} {U : State} {ac : Nat → ClassId} (h : va_K D vwCl (dk_X11 ac) U) : va_K D vwCl (dk_X3c (fun k => ac (k + 32))) U := (h.sub [26, 27, 28, 29] rfl)
set_option maxHeartbeats 40000000 in
set_option maxRecDepth 100000 in
theorem dn_wX11_X3c_7 {A0 : Nat → Prop} {D : va_G} {H H1 : Heap} {a : Nat → Nat} {ac : Nat → ClassId} {σ : St × Rw × (St × (St × (St × (St)))) × (St) × (St) × (Nat → St) × (Nat → St) × (Nat → St × (St))} {τ : St} (hP : va_P D vwCl (dw_X11 a ac σ) H) (hD : va_D A0 (dw_X11 a ac σ)) (hA : ∀ q : Nat, H.size ≤ q → A0 q) (hk : ∀ q : Nat, q < H.size → ¬ va_A (dw_X3c (fun k => a (k + 32)) (fun k => ac (k + 32)) σ.2.2.2.2.1) H.size q → H1[q]? = H[q]?) (h1 : va_P D vwCl (dw_X3c (fun k => a (k + 32)) (fun k => ac (k + 32)) τ) H1) (h2 : va_D (va_A (dw_X3c (fun k => a (k + 32)) (fun k => ac (k + 32)) σ.2.2.2.2.1) H.size) (dw_X3c (fun k => a (k + 32)) (fun k => ac (k + 32)) τ)) : va_P D vwCl (dw_X11 a ac (σ.1, (σ.2.1, (σ.2.2.1, (σ.2.2.2.1, (τ, σ.2.2.2.2.2)))))) H1 ∧ va_D A0 (dw_X11 a ac (σ.1, (σ.2.1, (σ.2.2.1, (σ.2.2.2.1, (τ, σ.2.2.2.2.2)))))) := by
  have eo := de_wX11_X3c_7 (a := a) (ac := ac) (τ := σ.2.2.2.2.1)
  have en := de_wX11_X3c_7 (a := a) (ac := ac) (τ := τ)
  have h := nd_vn (segs := dg_X11 a ac σ) (ix := [6]) (old := [dw_X3c (fun k => a (k + 32)) (fun k => ac (k + 32)) (σ.2.2.2.2.1)]) (new := [dw_X3c (fun k => a (k + 32)) (fun k => ac (k + 32)) (τ)]) hP hD (nd_co rfl rfl) rfl (fun q z y => hk q z (fun w => y (eo ▸ w))) (en ▸ h1)
  have ee : nd_sets (dg_X11 a ac σ) [6] [dw_X3c (fun k => a (k + 32)) (fun k => ac (k + 32)) (τ)] = dg_X11 a ac (σ.1, (σ.2.1, (σ.2.2.1, (σ.2.2.2.1, (τ, σ.2.2.2.2.2))))) := rfl
  have hz : va_P D vwCl (dg_X11 a ac (σ.1, (σ.2.1, (σ.2.2.1, (σ.2.2.2.1, (τ, σ.2.2.2.2.2)))))).flatten H1 := by rw [← ee]; exact h
  exact ⟨hz, nd_Da hD dA_X11⟩
def ow_dm_X11_startWithout : List Cond := Cond.code yX11_startWithout cX11_startWithout 3 none :: ([Cond.fieldLink RX11 20 "TimeMachine$Timeline" "events" "LTimeMachine$Events;", Cond.methodLink RX11 55 yX3_clear, Cond.instanceMethod yX3_clear, Cond.selects RX3 yX3_clear yX3_clear, Cond.initialized RX3, Cond.methodLink RX11 58 yX11_start, Cond.instanceMethod yX11_start, Cond.selects RX11 yX11_start yX11_start, Cond.initialized RX11] ++ (u_ws RX11 TX11 16 ++ (ow_dm_X3_clear ++ (ow_dm_X11_start ++ []))))
theorem gd_dm_X11_startWithout : ∀ w ∈ ow_dm_X11_startWithout, (w.onTables && w.keeps) = true ∨ ∃ ty, w = Cond.arrayClass ty := List.forall_mem_cons.mpr ⟨good_of_word rfl, List.forall_mem_append.mpr ⟨fun w h => good_of_word (List.all_eq_true.mp (by decide +kernel) w h), List.forall_mem_append.mpr ⟨gu_X11, List.forall_mem_append.mpr ⟨gd_dm_X3_clear, List.forall_mem_append.mpr ⟨gd_dm_X11_start, fun _ h => nomatch h⟩⟩⟩⟩⟩
theorem hi_dm_X11_startWithout_X11 : ∀ w ∈ u_ws RX11 TX11 16, w ∈ ow_dm_X11_startWithout := fun w h => List.mem_cons_of_mem _ (List.mem_append_right _ (List.mem_append_left _ h))
theorem gi_dm_X11_startWithout_0 : GoodIn ow_dm_X11_startWithout (wsV RX11 55 RX3 yX3_clear ow_dm_X3_clear) := goodIn_app (goodIn_of _ (by decide +kernel)) (fun w h => ⟨List.mem_cons_of_mem _ (List.mem_append_right _ (List.mem_append_right _ (List.mem_append_left _ h))), gd_dm_X3_clear w h⟩)
theorem gi_dm_X11_startWithout_1 : GoodIn ow_dm_X11_startWithout (wsV RX11 58 RX11 yX11_start ow_dm_X11_start) := goodIn_app (goodIn_of _ (by decide +kernel)) (fun w h => ⟨List.mem_cons_of_mem _ (List.mem_append_right _ (List.mem_append_right _ (List.mem_append_right _ (List.mem_append_left _ h)))), gd_dm_X11_start w h⟩)
def dj_X11_startWithout_0 (p : Program) (l : Launch) (e : Env) (s : State) (m : MethodId) (args : Array Value) (below : List Frame) (meth : Method) (c : Code) (Q : State → Prop) (A : Nat → Prop) (dC : Nat → ClassId) (dI : Nat → Nat → Nat) (a : Nat → Nat) (ac : Nat → ClassId) (g : Int32 → (St × Rw × (St × (St × (St × (St)))) × (St) × (St) × (Nat → St) × (Nat → St) × (Nat → St × (St))) → Option (St × Rw × (St × (St × (St × (St)))) × (St) × (St) × (Nat → St) × (Nat → St) × (Nat → St × (St)))) (r : St × Rw × (St × (St × (St × (St)))) × (St) × (St) × (Nat → St) × (Nat → St) × (Nat → St × (St))) : Prop := ∀ (v1 : Int32) (s0 : St × Rw × (St × (St × (St × (St)))) × (St) × (St) × (Nat → St) × (Nat → St) × (Nat → St × (St))) (H : Heap) (locs : List Loc) (ls : Array Slot), g v1 s0 = some r → va_P (dC, dI) vwCl (dw_X11 a ac s0) H → va_D A (dw_X11 a ac s0) → va_S A s.heap H locs → lv_has ls 3 [(0, .ref (a 0)), (1, .ref (a 38)), (2, .int v1)] → W p l e (headSpec ow_dm_X11_startWithout ({ frames := 5, cells := 0, slots := 0, locals := 126 })).room s m args below meth c H locs 0 0 Q (F0 m 0 ls [])
set_option maxHeartbeats 40000000 in
set_option maxRecDepth 100000 in
theorem db_X11_startWithout_0 {p : Program} {l : Launch} {e : Env} {s : State} {m : MethodId} {args : Array Value} {below : List Frame} {meth : Method} {c : Code} {Q : State → Prop} {A : Nat → Prop} {dC : Nat → ClassId} {dI : Nat → Nat → Nat} {a : Nat → Nat} {ac : Nat → ClassId} {n : Nat} {r : St × Rw × (St × (St × (St × (St)))) × (St) × (St) × (Nat → St) × (Nat → St) × (Nat → St × (St))} (C : nd_C p l s m args c A (dC, dI) cX11_startWithout 3 RX11 ow_dm_X11_startWithout (dk_X11 ac)) (K : nd_Kv p l e (headSpec ow_dm_X11_startWithout ({ frames := 5, cells := 0, slots := 0, locals := 126 })).room s m args below meth c Q A (dC, dI) cX11_startWithout (St × Rw × (St × (St × (St × (St)))) × (St) × (St) × (Nat → St) × (Nat → St) × (Nat → St × (St))) (dw_X11 a ac) r) : dj_X11_startWithout_0 p l e s m args below meth c Q A dC dI a ac (df_X11_startWithout_0 n) r := by
  obtain ⟨hlt, hx, hb, hml, hown, hts, hN, hA, hK⟩ := id C
  intro v1 s0 H locs ls h hP hD hS hl
  unfold df_X11_startWithout_0 at h
  refine lv_aload_n hx hb dX11_startWithout_0 rfl (lv_at hl 0 rfl) ?_
  by_cases o1 : sO s0.1 0 = some 27
  · have h := nd_pos h o1
    refine va_get (D := (dC, dI)) (ci := 12) (v := .ref (a 27)) (C := RX11) (T := TX11) (N := 16) hx hb hts hi_dm_X11_startWithout_X11 hown hK hP 0 rfl rfl 1 (by decide) (hts (.fieldLink RX11 20 "TimeMachine$Timeline" "events" "LTimeMachine$Events;") (List.mem_of_getElem? (i := 1) rfl)) (fun _ h9 => h9) (congrArg (fun z => some (va_rf (Option.map a z))) o1) dX11_startWithout_1 ?_
    obtain ⟨s3, hq, h⟩ := nd_b1_e h
    have hPc := dp_wX11_X3c_5 hP
    have hDc := dd_wX11_X3c_5 hD
    have hKc := dy_wX11_X3c_5 hK
    have hFc := nd_rs hDc hS hA
    have hzA : ∀ q : Nat, H.size ≤ q → A q := fun q h => hA q (Nat.le_trans hS.1 h)
    refine nd_cVv (As := []) (rest := []) (w' := dw_X3c (fun k => a (k + 27)) (fun k => ac (k + 27)) s3) ⟨hx, hb, hml, hown, hts⟩ (fun sz => dm_X3_clear l hlt dC dI (fun k => a (k + 27)) (fun k => ac (k + 27)) n  s0.2.2.2.1 hq sz) (cwV 0 hts gi_dm_X11_startWithout_0 rfl rfl rfl (by decide +kernel) ⟨Nat.le_of_ble_eq_true rfl, Nat.le_of_ble_eq_true rfl⟩) hPc hDc hKc hS hA hN (va_recv hKc hPc (ci := 4) (q0 := 0) rfl rfl) rfl hl.1 rfl (Nat.le_of_ble_eq_true rfl) dX11_startWithout_4 (fun H locs hP1 hD1 hk1 hS => ?_)
    obtain ⟨hP, hD⟩ := dn_wX11_X3c_5 hP hD hzA hk1 hP1 hD1
    obtain ⟨s5, es5, h⟩ := nd_let_e h
    have hP : va_P (dC, dI) vwCl (dw_X11 a ac s5) H := by rw [es5]; exact hP
    have hD : va_D A (dw_X11 a ac s5) := by rw [es5]; exact hD
    have o1 : sO s5.1 0 = some 27 := by rw [es5]; exact o1
    refine lv_aload_n hx hb dX11_startWithout_7 rfl (lv_at hl 0 rfl) ?_
    refine lv_aload_n hx hb dX11_startWithout_8 rfl (lv_at hl 1 rfl) ?_
    refine lv_iload_n hx hb dX11_startWithout_9 rfl (lv_at hl 2 rfl) ?_
    obtain ⟨s7, hq, h⟩ := nd_b1_e h
    have hPc := hP
    have hDc := hD
    have hKc := hK
    have hFc := nd_rs hD hS hA
    refine nd_cVv (As := [.ref (a 38), .int v1]) (rest := []) (w' := dw_X11 a ac s7) ⟨hx, hb, hml, hown, hts⟩ (fun sz => dm_X11_start l hlt dC dI a ac n (v1) s5 hq sz) (cwV 2 hts gi_dm_X11_startWithout_1 rfl rfl rfl (by decide +kernel) ⟨Nat.le_of_ble_eq_true rfl, Nat.le_of_ble_eq_true rfl⟩) hPc hDc hKc hS hA hN (va_recv hKc hPc (ci := 12) (q0 := 0) rfl rfl) rfl hl.1 rfl (Nat.le_of_ble_eq_true rfl) dX11_startWithout_10 (fun H locs hP1 hD1 hk1 hS => ?_)
    have hP := hP1
    have hD := hD1.weaken (fun k q _ h => hFc q.1 h)
    exact K _ _ _ _ _ dX11_startWithout_13 (Option.some.inj h).symm hP hD hS
  have h := nd_neg h o1
  by_cases o9 : sO s0.1 0 = some 32
  · have h := nd_pos h o9
    refine va_get (D := (dC, dI)) (ci := 12) (v := .ref (a 32)) (C := RX11) (T := TX11) (N := 16) hx hb hts hi_dm_X11_startWithout_X11 hown hK hP 0 rfl rfl 1 (by decide) (hts (.fieldLink RX11 20 "TimeMachine$Timeline" "events" "LTimeMachine$Events;") (List.mem_of_getElem? (i := 1) rfl)) (fun _ h9 => h9) (congrArg (fun z => some (va_rf (Option.map a z))) o9) dX11_startWithout_1 ?_
    obtain ⟨s11, hq, h⟩ := nd_b1_e h
    have hPc := dp_wX11_X3c_7 hP
    have hDc := dd_wX11_X3c_7 hD
    have hKc := dy_wX11_X3c_7 hK
    have hFc := nd_rs hDc hS hA
    have hzA : ∀ q : Nat, H.size ≤ q → A q := fun q h => hA q (Nat.le_trans hS.1 h)
    refine nd_cVv (As := []) (rest := []) (w' := dw_X3c (fun k => a (k + 32)) (fun k => ac (k + 32)) s11) ⟨hx, hb, hml, hown, hts⟩ (fun sz => dm_X3_clear l hlt dC dI (fun k => a (k + 32)) (fun k => ac (k + 32)) n  s0.2.2.2.2.1 hq sz) (cwV 0 hts gi_dm_X11_startWithout_0 rfl rfl rfl (by decide +kernel) ⟨Nat.le_of_ble_eq_true rfl, Nat.le_of_ble_eq_true rfl⟩) hPc hDc hKc hS hA hN (va_recv hKc hPc (ci := 4) (q0 := 0) rfl rfl) rfl hl.1 rfl (Nat.le_of_ble_eq_true rfl) dX11_startWithout_4 (fun H locs hP1 hD1 hk1 hS => ?_)
    obtain ⟨hP, hD⟩ := dn_wX11_X3c_7 hP hD hzA hk1 hP1 hD1
    obtain ⟨s13, es13, h⟩ := nd_let_e h
    have hP : va_P (dC, dI) vwCl (dw_X11 a ac s13) H := by rw [es13]; exact hP
    have hD : va_D A (dw_X11 a ac s13) := by rw [es13]; exact hD
    have o9 : sO s13.1 0 = some 32 := by rw [es13]; exact o9
    refine lv_aload_n hx hb dX11_startWithout_7 rfl (lv_at hl 0 rfl) ?_
    refine lv_aload_n hx hb dX11_startWithout_8 rfl (lv_at hl 1 rfl) ?_
    refine lv_iload_n hx hb dX11_startWithout_9 rfl (lv_at hl 2 rfl) ?_
    obtain ⟨s15, hq, h⟩ := nd_b1_e h
    have hPc := hP
    have hDc := hD
    have hKc := hK
    have hFc := nd_rs hD hS hA
    refine nd_cVv (As := [.ref (a 38), .int v1]) (rest := []) (w' := dw_X11 a ac s15) ⟨hx, hb, hml, hown, hts⟩ (fun sz => dm_X11_start l hlt dC dI a ac n (v1) s13 hq sz) (cwV 2 hts gi_dm_X11_startWithout_1 rfl rfl rfl (by decide +kernel) ⟨Nat.le_of_ble_eq_true rfl, Nat.le_of_ble_eq_true rfl⟩) hPc hDc hKc hS hA hN (va_recv hKc hPc (ci := 12) (q0 := 0) rfl rfl) rfl hl.1 rfl (Nat.le_of_ble_eq_true rfl) dX11_startWithout_10 (fun H locs hP1 hD1 hk1 hS => ?_)
    have hP := hP1
    have hD := hD1.weaken (fun k q _ h => hFc q.1 h)
    exact K _ _ _ _ _ dX11_startWithout_13 (Option.some.inj h).symm hP hD hS
  have h := nd_neg h o9
  exact nomatch h
set_option maxHeartbeats 40000000 in
set_option maxRecDepth 100000 in
theorem dm_X11_startWithout (l : Launch) (hlt : l.stackTraces = false) (dC : Nat → ClassId) (dI : Nat → Nat → Nat) (a : Nat → Nat) (ac : Nat → ClassId) (n : Nat) (v1 : Int32) (s0 : St × Rw × (St × (St × (St × (St)))) × (St) × (St) × (Nat → St) × (Nat → St) × (Nat → St × (St))) {r : St × Rw × (St × (St × (St × (St)))) × (St) × (St) × (Nat → St) × (Nat → St) × (Nat → St × (St))} (h : df_X11_startWithout n v1 s0 = some r) (sz : Nat) : Met l yX11_startWithout ow_dm_X11_startWithout ({ frames := 5, cells := 0, slots := 0, locals := 126 }) (va_Pc [.ref (a 0), .ref (a 38), .int v1] (fun U => U.heap.size = sz ∧ va_P (dC, dI) vwCl (dw_X11 a ac s0) U.heap ∧ va_K (dC, dI) vwCl (dk_X11 ac) U ∧ va_D (fun _ => True) (dw_X11 a ac s0) ∧ nv_E dI (va_A (dw_X11 a ac s0) sz) U)) (va_Qv (fun _ => True) (fun (_ : Unit) t => va_P (dC, dI) vwCl (dw_X11 a ac r) t.heap ∧ va_K (dC, dI) vwCl (dk_X11 ac) t ∧ va_D (va_A (dw_X11 a ac s0) sz) (dw_X11 a ac r)) (va_A (dw_X11 a ac s0) sz)) 0 0 (va_A (dw_X11 a ac s0) sz) := by
  refine Met.ofW (cc := cX11_startWithout) (maxL := 3) (ret := none) (by decide) rfl ?_
  intro p e s m args below meth c s₁ B hml hv
  obtain ⟨rfl, hsz, hP, hK, hD0, hN⟩ := hv
  have hx := B.exec
  have hb := B.bytes
  have hr := B.returns
  have hts := atoms_spec (ws := ow_dm_X11_startWithout) B.pre
  have hown : s.vm.findClass RX11 = some m.cls := findClass_of_methodNamed B.named
  have hlocks := B.notSynchronized
  subst hsz
  have hD := hD0.self (sz := s.heap.size)
  generalize hAe : va_A (dw_X11 a ac s0) s.heap.size = A at hD hN ⊢
  have hA : ∀ q : Nat, s.heap.size ≤ q → A q := fun q h => by rw [← hAe]; exact Or.inr h
  have hl := lv_entry ([.ref (a 0), .ref (a 38), .int v1]) (n := 3) (Nat.le_of_ble_eq_true rfl)
  rw [lg_entry_eq]
  generalize (lg_sl ([.ref (a 0), .ref (a 38), .int v1]) ++ List.replicate (3 - (lg_sl ([.ref (a 0), .ref (a 38), .int v1])).length) Slot.unset).toArray = ls at hl ⊢
  have hl : lv_has ls 3 [(0, .ref (a 0)), (1, .ref (a 38)), (2, .int v1)] := hl
  exact db_X11_startWithout_0 (dC := dC) (dI := dI) (a := a) (ac := ac) (n := n) (r := r) ⟨hlt, hx, hb, hml, hown, hts, hN, hA, hK⟩ (fun pc τ H locs ls d er hP hD hS => by subst er; exact W.vret hx hb hr (fun t ht hW => ⟨⟨(), rfl, trivial, by rw [ht]; exact hP, va_K.moved hW.alike hK, hD⟩, hS.F ht⟩) hS.2.2 d) v1 s0 _ _ _ h hP hD va_S.rf (lv_sub hl [0, 1, 2] rfl)
def ow_dm_X11_takeScheduled : List Cond := Cond.code yX11_takeScheduled cX11_takeScheduled 2 none :: ([Cond.fieldLink RX11 20 "TimeMachine$Timeline" "events" "LTimeMachine$Events;", Cond.fieldLink RX11 116 "TimeMachine$Events" "recorded" "I", Cond.fieldLink RX11 137 "TimeMachine$Events" "total" "I", Cond.fieldLink RX11 76 "TimeMachine$Timeline" "end" "I", Cond.methodLink RX11 119 yX3_isAt, Cond.instanceMethod yX3_isAt, Cond.selects RX3 yX3_isAt yX3_isAt, Cond.initialized RX3, Cond.fieldLink RX11 39 "TimeMachine$Timeline" "kernel" "LTimeMachine$Kernel;", Cond.fieldLink RX11 123 "TimeMachine$Events" "kind" "[I", Cond.fieldLink RX11 126 "TimeMachine$Events" "a" "[J", Cond.fieldLink RX11 130 "TimeMachine$Events" "b" "[I", Cond.methodLink RX11 133 yX5_come, Cond.instanceMethod yX5_come, Cond.selects RX5 yX5_come yX5_come, Cond.initialized RX5, Cond.fieldLink RX11 82 "TimeMachine$Timeline" "missed" "Z", Cond.fieldLink RX11 79 "TimeMachine$Timeline" "came" "I"] ++ (u_ws RX11 TX11 16 ++ (u_ws RX3 TX3 11 ++ (ow_dm_X3_isAt ++ (ow_dm_X5_come ++ [])))))
theorem gd_dm_X11_takeScheduled : ∀ w ∈ ow_dm_X11_takeScheduled, (w.onTables && w.keeps) = true ∨ ∃ ty, w = Cond.arrayClass ty := List.forall_mem_cons.mpr ⟨good_of_word rfl, List.forall_mem_append.mpr ⟨fun w h => good_of_word (List.all_eq_true.mp (by decide +kernel) w h), List.forall_mem_append.mpr ⟨gu_X11, List.forall_mem_append.mpr ⟨gu_X3, List.forall_mem_append.mpr ⟨gd_dm_X3_isAt, List.forall_mem_append.mpr ⟨gd_dm_X5_come, fun _ h => nomatch h⟩⟩⟩⟩⟩⟩
theorem hi_dm_X11_takeScheduled_X11 : ∀ w ∈ u_ws RX11 TX11 16, w ∈ ow_dm_X11_takeScheduled := fun w h => List.mem_cons_of_mem _ (List.mem_append_right _ (List.mem_append_left _ h))
theorem hi_dm_X11_takeScheduled_X3 : ∀ w ∈ u_ws RX3 TX3 11, w ∈ ow_dm_X11_takeScheduled := fun w h => List.mem_cons_of_mem _ (List.mem_append_right _ (List.mem_append_right _ (List.mem_append_left _ h)))
theorem gi_dm_X11_takeScheduled_0 : GoodIn ow_dm_X11_takeScheduled (wsV RX11 119 RX3 yX3_isAt ow_dm_X3_isAt) := goodIn_app (goodIn_of _ (by decide +kernel)) (fun w h => ⟨List.mem_cons_of_mem _ (List.mem_append_right _ (List.mem_append_right _ (List.mem_append_right _ (List.mem_append_left _ h)))), gd_dm_X3_isAt w h⟩)
theorem gi_dm_X11_takeScheduled_1 : GoodIn ow_dm_X11_takeScheduled (wsV RX11 133 RX5 yX5_come ow_dm_X5_come) := goodIn_app (goodIn_of _ (by decide +kernel)) (fun w h => ⟨List.mem_cons_of_mem _ (List.mem_append_right _ (List.mem_append_right _ (List.mem_append_right _ (List.mem_append_right _ (List.mem_append_left _ h))))), gd_dm_X5_come w h⟩)
def dj_X11_takeScheduled_131 (p : Program) (l : Launch) (e : Env) (s : State) (m : MethodId) (args : Array Value) (below : List Frame) (meth : Method) (c : Code) (Q : State → Prop) (A : Nat → Prop) (dC : Nat → ClassId) (dI : Nat → Nat → Nat) (a : Nat → Nat) (ac : Nat → ClassId) (g : (St × Rw × (St × (St × (St × (St)))) × (St) × (St) × (Nat → St) × (Nat → St) × (Nat → St × (St))) → Option (St × Rw × (St × (St × (St × (St)))) × (St) × (St) × (Nat → St) × (Nat → St) × (Nat → St × (St)))) (r : St × Rw × (St × (St × (St × (St)))) × (St) × (St) × (Nat → St) × (Nat → St) × (Nat → St × (St))) : Prop := ∀ (s0 : St × Rw × (St × (St × (St × (St)))) × (St) × (St) × (Nat → St) × (Nat → St) × (Nat → St × (St))) (H : Heap) (locs : List Loc) (ls : Array Slot), g s0 = some r → va_P (dC, dI) vwCl (dw_X11 a ac s0) H → va_D A (dw_X11 a ac s0) → va_S A s.heap H locs → lv_has ls 2 [] → W p l e (headSpec ow_dm_X11_takeScheduled ({ frames := 4, cells := 0, slots := 0, locals := 95 })).room s m args below meth c H locs 0 0 Q (F0 m 131 ls [])
def dj_X11_takeScheduled_128 (p : Program) (l : Launch) (e : Env) (s : State) (m : MethodId) (args : Array Value) (below : List Frame) (meth : Method) (c : Code) (Q : State → Prop) (A : Nat → Prop) (dC : Nat → ClassId) (dI : Nat → Nat → Nat) (a : Nat → Nat) (ac : Nat → ClassId) (g : (St × Rw × (St × (St × (St × (St)))) × (St) × (St) × (Nat → St) × (Nat → St) × (Nat → St × (St))) → Option (St × Rw × (St × (St × (St × (St)))) × (St) × (St) × (Nat → St) × (Nat → St) × (Nat → St × (St)))) (r : St × Rw × (St × (St × (St × (St)))) × (St) × (St) × (Nat → St) × (Nat → St) × (Nat → St × (St))) : Prop := ∀ (s0 : St × Rw × (St × (St × (St × (St)))) × (St) × (St) × (Nat → St) × (Nat → St) × (Nat → St × (St))) (H : Heap) (locs : List Loc) (ls : Array Slot), g s0 = some r → va_P (dC, dI) vwCl (dw_X11 a ac s0) H → va_D A (dw_X11 a ac s0) → va_S A s.heap H locs → lv_has ls 2 [(0, .ref (a 0))] → W p l e (headSpec ow_dm_X11_takeScheduled ({ frames := 4, cells := 0, slots := 0, locals := 95 })).room s m args below meth c H locs 0 0 Q (F0 m 128 ls [])
def dj_X11_takeScheduled_0 (p : Program) (l : Launch) (e : Env) (s : State) (m : MethodId) (args : Array Value) (below : List Frame) (meth : Method) (c : Code) (Q : State → Prop) (A : Nat → Prop) (dC : Nat → ClassId) (dI : Nat → Nat → Nat) (a : Nat → Nat) (ac : Nat → ClassId) (g : (St × Rw × (St × (St × (St × (St)))) × (St) × (St) × (Nat → St) × (Nat → St) × (Nat → St × (St))) → Option (St × Rw × (St × (St × (St × (St)))) × (St) × (St) × (Nat → St) × (Nat → St) × (Nat → St × (St)))) (r : St × Rw × (St × (St × (St × (St)))) × (St) × (St) × (Nat → St) × (Nat → St) × (Nat → St × (St))) : Prop := ∀ (s0 : St × Rw × (St × (St × (St × (St)))) × (St) × (St) × (Nat → St) × (Nat → St) × (Nat → St × (St))) (H : Heap) (locs : List Loc) (ls : Array Slot), g s0 = some r → va_P (dC, dI) vwCl (dw_X11 a ac s0) H → va_D A (dw_X11 a ac s0) → va_S A s.heap H locs → lv_has ls 2 [(0, .ref (a 0))] → W p l e (headSpec ow_dm_X11_takeScheduled ({ frames := 4, cells := 0, slots := 0, locals := 95 })).room s m args below meth c H locs 0 0 Q (F0 m 0 ls [])
set_option maxHeartbeats 40000000 in
set_option maxRecDepth 100000 in
theorem db_X11_takeScheduled_131 {p : Program} {l : Launch} {e : Env} {s : State} {m : MethodId} {args : Array Value} {below : List Frame} {meth : Method} {c : Code} {Q : State → Prop} {A : Nat → Prop} {dC : Nat → ClassId} {dI : Nat → Nat → Nat} {a : Nat → Nat} {ac : Nat → ClassId} {n : Nat} {r : St × Rw × (St × (St × (St × (St)))) × (St) × (St) × (Nat → St) × (Nat → St) × (Nat → St × (St))} (C : nd_C p l s m args c A (dC, dI) cX11_takeScheduled 2 RX11 ow_dm_X11_takeScheduled (dk_X11 ac)) (K : nd_Kv p l e (headSpec ow_dm_X11_takeScheduled ({ frames := 4, cells := 0, slots := 0, locals := 95 })).room s m args below meth c Q A (dC, dI) cX11_takeScheduled (St × Rw × (St × (St × (St × (St)))) × (St) × (St) × (Nat → St) × (Nat → St) × (Nat → St × (St))) (dw_X11 a ac) r) : dj_X11_takeScheduled_131 p l e s m args below meth c Q A dC dI a ac (df_X11_takeScheduled_131 n) r := by
  obtain ⟨hlt, hx, hb, hml, hown, hts, hN, hA, hK⟩ := id C
  intro s0 H locs ls h hP hD hS hl
  unfold df_X11_takeScheduled_131 at h
  exact K _ _ _ _ _ dX11_takeScheduled_131 (Option.some.inj h).symm hP hD hS
set_option maxHeartbeats 40000000 in
set_option maxRecDepth 100000 in
theorem db_X11_takeScheduled_128 {p : Program} {l : Launch} {e : Env} {s : State} {m : MethodId} {args : Array Value} {below : List Frame} {meth : Method} {c : Code} {Q : State → Prop} {A : Nat → Prop} {dC : Nat → ClassId} {dI : Nat → Nat → Nat} {a : Nat → Nat} {ac : Nat → ClassId} {n : Nat} {r : St × Rw × (St × (St × (St × (St)))) × (St) × (St) × (Nat → St) × (Nat → St) × (Nat → St × (St))} (C : nd_C p l s m args c A (dC, dI) cX11_takeScheduled 2 RX11 ow_dm_X11_takeScheduled (dk_X11 ac)) (K : nd_Kv p l e (headSpec ow_dm_X11_takeScheduled ({ frames := 4, cells := 0, slots := 0, locals := 95 })).room s m args below meth c Q A (dC, dI) cX11_takeScheduled (St × Rw × (St × (St × (St × (St)))) × (St) × (St) × (Nat → St) × (Nat → St) × (Nat → St × (St))) (dw_X11 a ac) r) {g0 : (St × Rw × (St × (St × (St × (St)))) × (St) × (St) × (Nat → St) × (Nat → St) × (Nat → St × (St))) → Option (St × Rw × (St × (St × (St × (St)))) × (St) × (St) × (Nat → St) × (Nat → St) × (Nat → St × (St)))} (J0 : dj_X11_takeScheduled_0 p l e s m args below meth c Q A dC dI a ac g0 r) : dj_X11_takeScheduled_128 p l e s m args below meth c Q A dC dI a ac (df_X11_takeScheduled_128 n g0) r := by
  obtain ⟨hlt, hx, hb, hml, hown, hts, hN, hA, hK⟩ := id C
  intro s0 H locs ls h hP hD hS hl
  unfold df_X11_takeScheduled_128 at h
  refine lv_goto (tgt := 0) hx hb dX11_takeScheduled_128 (by decide) ?_
  exact (J0)  s0 _ _ _ h hP hD hS (lv_sub hl [0] rfl)
set_option maxHeartbeats 40000000 in
set_option maxRecDepth 100000 in
theorem dB_X11_takeScheduled_0 {p : Program} {l : Launch} {e : Env} {s : State} {m : MethodId} {args : Array Value} {below : List Frame} {meth : Method} {c : Code} {Q : State → Prop} {A : Nat → Prop} {dC : Nat → ClassId} {dI : Nat → Nat → Nat} {a : Nat → Nat} {ac : Nat → ClassId} {n : Nat} {r : St × Rw × (St × (St × (St × (St)))) × (St) × (St) × (Nat → St) × (Nat → St) × (Nat → St × (St))} (C : nd_C p l s m args c A (dC, dI) cX11_takeScheduled 2 RX11 ow_dm_X11_takeScheduled (dk_X11 ac)) (K : nd_Kv p l e (headSpec ow_dm_X11_takeScheduled ({ frames := 4, cells := 0, slots := 0, locals := 95 })).room s m args below meth c Q A (dC, dI) cX11_takeScheduled (St × Rw × (St × (St × (St × (St)))) × (St) × (St) × (Nat → St) × (Nat → St) × (Nat → St × (St))) (dw_X11 a ac) r) {g0 : (St × Rw × (St × (St × (St × (St)))) × (St) × (St) × (Nat → St) × (Nat → St) × (Nat → St × (St))) → Option (St × Rw × (St × (St × (St × (St)))) × (St) × (St) × (Nat → St) × (Nat → St) × (Nat → St × (St)))} (J0 : dj_X11_takeScheduled_0 p l e s m args below meth c Q A dC dI a ac g0 r) : dj_X11_takeScheduled_0 p l e s m args below meth c Q A dC dI a ac (dF_X11_takeScheduled_0 n g0) r := by
  obtain ⟨hlt, hx, hb, hml, hown, hts, hN, hA, hK⟩ := id C
  intro s0 H locs ls h hP hD hS hl
  unfold dF_X11_takeScheduled_0 at h
  refine lv_aload_n hx hb dX11_takeScheduled_0 rfl (lv_at hl 0 rfl) ?_
  by_cases o1 : sO s0.1 0 = some 27
  · have h := nd_pos h o1
    refine va_get (D := (dC, dI)) (ci := 12) (v := .ref (a 27)) (C := RX11) (T := TX11) (N := 16) hx hb hts hi_dm_X11_takeScheduled_X11 hown hK hP 0 rfl rfl 1 (by decide) (hts (.fieldLink RX11 20 "TimeMachine$Timeline" "events" "LTimeMachine$Events;") (List.mem_of_getElem? (i := 1) rfl)) (fun _ h9 => h9) (congrArg (fun z => some (va_rf (Option.map a z))) o1) dX11_takeScheduled_1 ?_
    refine va_get (D := (dC, dI)) (ci := 4) (v := .int (sI s0.2.2.2.1 0)) (C := RX3) (T := TX3) (N := 11) hx hb hts hi_dm_X11_takeScheduled_X3 hown hK hP 27 rfl rfl 4 (by decide) (hts (.fieldLink RX11 116 "TimeMachine$Events" "recorded" "I") (List.mem_of_getElem? (i := 2) rfl)) (fun _ h9 => h9) rfl dX11_takeScheduled_4 ?_
    refine lv_aload_n hx hb dX11_takeScheduled_7 rfl (lv_at hl 0 rfl) ?_
    refine va_get (D := (dC, dI)) (ci := 12) (v := .ref (a 27)) (C := RX11) (T := TX11) (N := 16) hx hb hts hi_dm_X11_takeScheduled_X11 hown hK hP 0 rfl rfl 1 (by decide) (hts (.fieldLink RX11 20 "TimeMachine$Timeline" "events" "LTimeMachine$Events;") (List.mem_of_getElem? (i := 1) rfl)) (fun _ h9 => h9) (congrArg (fun z => some (va_rf (Option.map a z))) o1) dX11_takeScheduled_8 ?_
    refine va_get (D := (dC, dI)) (ci := 4) (v := .int (sI s0.2.2.2.1 1)) (C := RX3) (T := TX3) (N := 11) hx hb hts hi_dm_X11_takeScheduled_X3 hown hK hP 27 rfl rfl 5 (by decide) (hts (.fieldLink RX11 137 "TimeMachine$Events" "total" "I") (List.mem_of_getElem? (i := 3) rfl)) (fun _ h9 => h9) rfl dX11_takeScheduled_11 ?_
    refine lv_icmp_ge (tgt := 131) hx hb dX11_takeScheduled_14 (by decide) (fun c2 => ?_) (fun c2 => ?_)
    · have h := nd_pos h c2
      exact (db_X11_takeScheduled_131 C K)  s0 _ _ _ h hP hD hS (lv_sub hl [] rfl)
    · have h := nd_neg h c2
      refine lv_aload_n hx hb dX11_takeScheduled_17 rfl (lv_at hl 0 rfl) ?_
      refine va_get (D := (dC, dI)) (ci := 12) (v := .ref (a 27)) (C := RX11) (T := TX11) (N := 16) hx hb hts hi_dm_X11_takeScheduled_X11 hown hK hP 0 rfl rfl 1 (by decide) (hts (.fieldLink RX11 20 "TimeMachine$Timeline" "events" "LTimeMachine$Events;") (List.mem_of_getElem? (i := 1) rfl)) (fun _ h9 => h9) (congrArg (fun z => some (va_rf (Option.map a z))) o1) dX11_takeScheduled_18 ?_
      refine lv_aload_n hx hb dX11_takeScheduled_21 rfl (lv_at hl 0 rfl) ?_
      refine va_get (D := (dC, dI)) (ci := 12) (v := .ref (a 27)) (C := RX11) (T := TX11) (N := 16) hx hb hts hi_dm_X11_takeScheduled_X11 hown hK hP 0 rfl rfl 1 (by decide) (hts (.fieldLink RX11 20 "TimeMachine$Timeline" "events" "LTimeMachine$Events;") (List.mem_of_getElem? (i := 1) rfl)) (fun _ h9 => h9) (congrArg (fun z => some (va_rf (Option.map a z))) o1) dX11_takeScheduled_22 ?_
      refine va_get (D := (dC, dI)) (ci := 4) (v := .int (sI s0.2.2.2.1 0)) (C := RX3) (T := TX3) (N := 11) hx hb hts hi_dm_X11_takeScheduled_X3 hown hK hP 27 rfl rfl 4 (by decide) (hts (.fieldLink RX11 116 "TimeMachine$Events" "recorded" "I") (List.mem_of_getElem? (i := 2) rfl)) (fun _ h9 => h9) rfl dX11_takeScheduled_25 ?_
      refine lv_aload_n hx hb dX11_takeScheduled_28 rfl (lv_at hl 0 rfl) ?_
      refine va_get (D := (dC, dI)) (ci := 12) (v := .int (sI s0.1 4)) (C := RX11) (T := TX11) (N := 16) hx hb hts hi_dm_X11_takeScheduled_X11 hown hK hP 0 rfl rfl 12 (by decide) (hts (.fieldLink RX11 76 "TimeMachine$Timeline" "end" "I") (List.mem_of_getElem? (i := 4) rfl)) (fun _ h9 => h9) rfl dX11_takeScheduled_29 ?_
      obtain ⟨q3, s4, hq, h⟩ := nd_b2_e h
      have hPc := dp_wX11_X3c_5 hP
      have hDc := dd_wX11_X3c_5 hD
      have hKc := dy_wX11_X3c_5 hK
      have hFc := nd_rs hDc hS hA
      have hzA : ∀ q : Nat, H.size ≤ q → A q := fun q h => hA q (Nat.le_trans hS.1 h)
      refine nd_cVi (As := [.int (sI s0.2.2.2.1 0), .int (sI s0.1 4)]) (rest := []) (q := q3) (w' := dw_X3c (fun k => a (k + 27)) (fun k => ac (k + 27)) s4) ⟨hx, hb, hml, hown, hts⟩ (fun sz => dm_X3_isAt l hlt dC dI (fun k => a (k + 27)) (fun k => ac (k + 27)) n ((sI s0.2.2.2.1 0)) ((sI s0.1 4)) s0.2.2.2.1 hq sz) (cwV 2 hts gi_dm_X11_takeScheduled_0 rfl rfl rfl (by decide +kernel) ⟨Nat.le_of_ble_eq_true rfl, Nat.le_of_ble_eq_true rfl⟩) hPc hDc hKc hS hA hN (va_recv hKc hPc (ci := 4) (q0 := 0) rfl rfl) rfl hl.1 rfl (Nat.le_of_ble_eq_true rfl) dX11_takeScheduled_32 (fun H locs hP1 hD1 hk1 hS => ?_)
      obtain ⟨hP, hD⟩ := dn_wX11_X3c_5 hP hD hzA hk1 hP1 hD1
      obtain ⟨s6, es6, h⟩ := nd_let_e h
      have hP : va_P (dC, dI) vwCl (dw_X11 a ac s6) H := by rw [es6]; exact hP
      have hD : va_D A (dw_X11 a ac s6) := by rw [es6]; exact hD
      have o1 : sO s6.1 0 = some 27 := by rw [es6]; exact o1
      refine lv_if_eq (tgt := 131) hx hb dX11_takeScheduled_35 (by decide) (fun c7 => ?_) (fun c7 => ?_)
      · have h := nd_pos h c7
        exact (db_X11_takeScheduled_131 C K)  s6 _ _ _ h hP hD hS (lv_sub hl [] rfl)
      · have h := nd_neg h c7
        refine lv_aload_n hx hb dX11_takeScheduled_38 rfl (lv_at hl 0 rfl) ?_
        refine va_get (D := (dC, dI)) (ci := 12) (v := .ref (a 27)) (C := RX11) (T := TX11) (N := 16) hx hb hts hi_dm_X11_takeScheduled_X11 hown hK hP 0 rfl rfl 1 (by decide) (hts (.fieldLink RX11 20 "TimeMachine$Timeline" "events" "LTimeMachine$Events;") (List.mem_of_getElem? (i := 1) rfl)) (fun _ h9 => h9) (congrArg (fun z => some (va_rf (Option.map a z))) o1) dX11_takeScheduled_39 ?_
        refine va_get (D := (dC, dI)) (ci := 4) (v := .int (sI s6.2.2.2.1 0)) (C := RX3) (T := TX3) (N := 11) hx hb hts hi_dm_X11_takeScheduled_X3 hown hK hP 27 rfl rfl 4 (by decide) (hts (.fieldLink RX11 116 "TimeMachine$Events" "recorded" "I") (List.mem_of_getElem? (i := 2) rfl)) (fun _ h9 => h9) rfl dX11_takeScheduled_42 ?_
        refine lv_topi (fun z8 ez8 => ?_)
        have h := nd_at h ez8
        refine lv_istore_n (lv' := [(1, .int z8), (0, .ref (a 0))]) hx hb dX11_takeScheduled_45 rfl hl (by decide) rfl (fun ls hl => ?_)
        refine lv_aload_n hx hb dX11_takeScheduled_46 rfl (lv_at hl 1 rfl) ?_
        refine va_get (D := (dC, dI)) (ci := 12) (v := .ref (a 3)) (C := RX11) (T := TX11) (N := 16) hx hb hts hi_dm_X11_takeScheduled_X11 hown hK hP 0 rfl rfl 4 (by decide) (hts (.fieldLink RX11 39 "TimeMachine$Timeline" "kernel" "LTimeMachine$Kernel;") (List.mem_of_getElem? (i := 9) rfl)) (fun _ h9 => h9) rfl dX11_takeScheduled_47 ?_
        refine lv_aload_n hx hb dX11_takeScheduled_50 rfl (lv_at hl 1 rfl) ?_
        refine va_get (D := (dC, dI)) (ci := 12) (v := .ref (a 27)) (C := RX11) (T := TX11) (N := 16) hx hb hts hi_dm_X11_takeScheduled_X11 hown hK hP 0 rfl rfl 1 (by decide) (hts (.fieldLink RX11 20 "TimeMachine$Timeline" "events" "LTimeMachine$Events;") (List.mem_of_getElem? (i := 1) rfl)) (fun _ h9 => h9) (congrArg (fun z => some (va_rf (Option.map a z))) o1) dX11_takeScheduled_51 ?_
        refine va_get (D := (dC, dI)) (ci := 4) (v := .ref (a 28)) (C := RX3) (T := TX3) (N := 11) hx hb hts hi_dm_X11_takeScheduled_X3 hown hK hP 27 rfl rfl 0 (by decide) (hts (.fieldLink RX11 123 "TimeMachine$Events" "kind" "[I") (List.mem_of_getElem? (i := 10) rfl)) (fun _ h9 => h9) rfl dX11_takeScheduled_54 ?_
        refine lv_iload_n hx hb dX11_takeScheduled_57 rfl (lv_at hl 0 rfl) ?_
        obtain ⟨i9, h⟩ := nd_ck_e h
        refine va_iald (i := z8) hx hb hK hP 28 22 rfl rfl i9 dX11_takeScheduled_58 ?_
        refine lv_aload_n hx hb dX11_takeScheduled_59 rfl (lv_at hl 1 rfl) ?_
        refine va_get (D := (dC, dI)) (ci := 12) (v := .ref (a 27)) (C := RX11) (T := TX11) (N := 16) hx hb hts hi_dm_X11_takeScheduled_X11 hown hK hP 0 rfl rfl 1 (by decide) (hts (.fieldLink RX11 20 "TimeMachine$Timeline" "events" "LTimeMachine$Events;") (List.mem_of_getElem? (i := 1) rfl)) (fun _ h9 => h9) (congrArg (fun z => some (va_rf (Option.map a z))) o1) dX11_takeScheduled_60 ?_
        refine va_get (D := (dC, dI)) (ci := 4) (v := .ref (a 30)) (C := RX3) (T := TX3) (N := 11) hx hb hts hi_dm_X11_takeScheduled_X3 hown hK hP 27 rfl rfl 2 (by decide) (hts (.fieldLink RX11 126 "TimeMachine$Events" "a" "[J") (List.mem_of_getElem? (i := 11) rfl)) (fun _ h9 => h9) rfl dX11_takeScheduled_63 ?_
        refine lv_iload_n hx hb dX11_takeScheduled_66 rfl (lv_at hl 0 rfl) ?_
        obtain ⟨i10, h⟩ := nd_ck_e h
        refine va_lald (i := z8) hx hb hK hP 30 24 rfl rfl i10 dX11_takeScheduled_67 ?_
        refine lv_aload_n hx hb dX11_takeScheduled_68 rfl (lv_at hl 1 rfl) ?_
        refine va_get (D := (dC, dI)) (ci := 12) (v := .ref (a 27)) (C := RX11) (T := TX11) (N := 16) hx hb hts hi_dm_X11_takeScheduled_X11 hown hK hP 0 rfl rfl 1 (by decide) (hts (.fieldLink RX11 20 "TimeMachine$Timeline" "events" "LTimeMachine$Events;") (List.mem_of_getElem? (i := 1) rfl)) (fun _ h9 => h9) (congrArg (fun z => some (va_rf (Option.map a z))) o1) dX11_takeScheduled_69 ?_
        refine va_get (D := (dC, dI)) (ci := 4) (v := .ref (a 31)) (C := RX3) (T := TX3) (N := 11) hx hb hts hi_dm_X11_takeScheduled_X3 hown hK hP 27 rfl rfl 3 (by decide) (hts (.fieldLink RX11 130 "TimeMachine$Events" "b" "[I") (List.mem_of_getElem? (i := 12) rfl)) (fun _ h9 => h9) rfl dX11_takeScheduled_72 ?_
        refine lv_iload_n hx hb dX11_takeScheduled_75 rfl (lv_at hl 0 rfl) ?_
        obtain ⟨i11, h⟩ := nd_ck_e h
        refine va_iald (i := z8) hx hb hK hP 31 25 rfl rfl i11 dX11_takeScheduled_76 ?_
        obtain ⟨q12, s13, hq, h⟩ := nd_b2_e h
        have hPc := dp_wX11_X5_2 hP
        have hDc := dd_wX11_X5_2 hD
        have hKc := dy_wX11_X5_2 hK
        have hFc := nd_rs hDc hS hA
        have hzA : ∀ q : Nat, H.size ≤ q → A q := fun q h => hA q (Nat.le_trans hS.1 h)
        refine nd_cVi (As := [.int (sR s6.2.2.2.1 0 (Int32.toNatClampNeg z8)), .long (sQ s6.2.2.2.1 1 (Int32.toNatClampNeg z8)), .int (sR s6.2.2.2.1 1 (Int32.toNatClampNeg z8))]) (rest := []) (q := q12) (w' := dw_X5 (fun k => a (k + 3)) (fun k => ac (k + 3)) s13) ⟨hx, hb, hml, hown, hts⟩ (fun sz => dm_X5_come l hlt dC dI (fun k => a (k + 3)) (fun k => ac (k + 3)) n ((sR s6.2.2.2.1 0 (Int32.toNatClampNeg z8))) ((sQ s6.2.2.2.1 1 (Int32.toNatClampNeg z8))) ((sR s6.2.2.2.1 1 (Int32.toNatClampNeg z8))) s6.2.2.1 hq sz) (cwV 3 hts gi_dm_X11_takeScheduled_1 rfl rfl rfl (by decide +kernel) ⟨Nat.le_of_ble_eq_true rfl, Nat.le_of_ble_eq_true rfl⟩) hPc hDc hKc hS hA hN (va_recv hKc hPc (ci := 6) (q0 := 0) rfl rfl) rfl hl.1 rfl (Nat.le_of_ble_eq_true rfl) dX11_takeScheduled_77 (fun H locs hP1 hD1 hk1 hS => ?_)
        obtain ⟨hP, hD⟩ := dn_wX11_X5_2 hP hD hzA hk1 hP1 hD1
        obtain ⟨s15, es15, h⟩ := nd_let_e h
        have hP : va_P (dC, dI) vwCl (dw_X11 a ac s15) H := by rw [es15]; exact hP
        have hD : va_D A (dw_X11 a ac s15) := by rw [es15]; exact hD
        have o1 : sO s15.1 0 = some 27 := by rw [es15]; exact o1
        refine lv_if_eq (tgt := 109) hx hb dX11_takeScheduled_80 (by decide) (fun c16 => ?_) (fun c16 => ?_)
        · have h := nd_pos h c16
          refine lv_aload_n hx hb dX11_takeScheduled_109 rfl (lv_at hl 1 rfl) ?_
          refine va_get (D := (dC, dI)) (ci := 12) (v := .ref (a 27)) (C := RX11) (T := TX11) (N := 16) hx hb hts hi_dm_X11_takeScheduled_X11 hown hK hP 0 rfl rfl 1 (by decide) (hts (.fieldLink RX11 20 "TimeMachine$Timeline" "events" "LTimeMachine$Events;") (List.mem_of_getElem? (i := 1) rfl)) (fun _ h9 => h9) (congrArg (fun z => some (va_rf (Option.map a z))) o1) dX11_takeScheduled_110 ?_
          refine lv_aload_n hx hb dX11_takeScheduled_113 rfl (lv_at hl 1 rfl) ?_
          refine va_get (D := (dC, dI)) (ci := 12) (v := .ref (a 27)) (C := RX11) (T := TX11) (N := 16) hx hb hts hi_dm_X11_takeScheduled_X11 hown hK hP 0 rfl rfl 1 (by decide) (hts (.fieldLink RX11 20 "TimeMachine$Timeline" "events" "LTimeMachine$Events;") (List.mem_of_getElem? (i := 1) rfl)) (fun _ h9 => h9) (congrArg (fun z => some (va_rf (Option.map a z))) o1) dX11_takeScheduled_114 ?_
          refine va_get (D := (dC, dI)) (ci := 4) (v := .int (sI s15.2.2.2.1 0)) (C := RX3) (T := TX3) (N := 11) hx hb hts hi_dm_X11_takeScheduled_X3 hown hK hP 27 rfl rfl 4 (by decide) (hts (.fieldLink RX11 116 "TimeMachine$Events" "recorded" "I") (List.mem_of_getElem? (i := 2) rfl)) (fun _ h9 => h9) rfl dX11_takeScheduled_117 ?_
          refine va_put (D := (dC, dI)) (ci := 4) (v := .int (sI s15.2.2.2.1 0)) (ty := .int) (C := RX3) (T := TX3) (N := 11) hx hb hts hi_dm_X11_takeScheduled_X3 tyX3 tyX3_ok nmX3 hown hK hP hD hS 27 rfl rfl 5 (by decide) (hts (.fieldLink RX11 137 "TimeMachine$Events" "total" "I") (List.mem_of_getElem? (i := 3) rfl)) (fun _ h9 => h9) rfl (by decide +kernel) rfl rfl (Nat.le_of_ble_eq_true rfl) dX11_takeScheduled_120 (fun H locs hP hD hS => ?_)
          obtain ⟨s17, es17, h⟩ := nd_let_e h
          have hP : va_P (dC, dI) vwCl (dw_X11 a ac s17) H := by rw [es17]; exact hP
          have hD : va_D A (dw_X11 a ac s17) := by rw [es17]; exact hD
          have o1 : sO s17.1 0 = some 27 := by rw [es17]; exact o1
          refine lv_aload_n hx hb dX11_takeScheduled_123 rfl (lv_at hl 1 rfl) ?_
          refine lv_iconst (v := 1) hx hb dX11_takeScheduled_124 (by decide) ?_
          refine va_put (D := (dC, dI)) (ci := 12) (v := .int 1) (ty := .boolean) (C := RX11) (T := TX11) (N := 16) hx hb hts hi_dm_X11_takeScheduled_X11 tyX11 tyX11_ok nmX11 hown hK hP hD hS 0 rfl rfl 14 (by decide) (hts (.fieldLink RX11 82 "TimeMachine$Timeline" "missed" "Z") (List.mem_of_getElem? (i := 17) rfl)) (fun _ h9 => h9) rfl (by decide +kernel) (by first | rfl | decide) rfl (Nat.le_of_ble_eq_true rfl) dX11_takeScheduled_125 (fun H locs hP hD hS => ?_)
          obtain ⟨s18, es18, h⟩ := nd_let_e h
          have hP : va_P (dC, dI) vwCl (dw_X11 a ac s18) H := by rw [es18]; exact hP
          have hD : va_D A (dw_X11 a ac s18) := by rw [es18]; exact hD
          have o1 : sO s18.1 0 = some 27 := by rw [es18]; exact o1
          exact (db_X11_takeScheduled_128 C K J0)  s18 _ _ _ h hP hD hS (lv_sub hl [1] rfl)
        · have h := nd_neg h c16
          refine lv_aload_n hx hb dX11_takeScheduled_83 rfl (lv_at hl 1 rfl) ?_
          refine va_get (D := (dC, dI)) (ci := 12) (v := .ref (a 27)) (C := RX11) (T := TX11) (N := 16) hx hb hts hi_dm_X11_takeScheduled_X11 hown hK hP 0 rfl rfl 1 (by decide) (hts (.fieldLink RX11 20 "TimeMachine$Timeline" "events" "LTimeMachine$Events;") (List.mem_of_getElem? (i := 1) rfl)) (fun _ h9 => h9) (congrArg (fun z => some (va_rf (Option.map a z))) o1) dX11_takeScheduled_84 ?_
          refine lv_dup hx hb dX11_takeScheduled_87 rfl ?_
          refine va_get (D := (dC, dI)) (ci := 4) (v := .int (sI s15.2.2.2.1 0)) (C := RX3) (T := TX3) (N := 11) hx hb hts hi_dm_X11_takeScheduled_X3 hown hK hP 27 rfl rfl 4 (by decide) (hts (.fieldLink RX11 116 "TimeMachine$Events" "recorded" "I") (List.mem_of_getElem? (i := 2) rfl)) (fun _ h9 => h9) rfl dX11_takeScheduled_88 ?_
          refine lv_iconst (v := 1) hx hb dX11_takeScheduled_91 (by decide) ?_
          refine lv_iadd hx hb dX11_takeScheduled_92 ?_
          refine va_put (D := (dC, dI)) (ci := 4) (v := .int ((sI s15.2.2.2.1 0) + 1)) (ty := .int) (C := RX3) (T := TX3) (N := 11) hx hb hts hi_dm_X11_takeScheduled_X3 tyX3 tyX3_ok nmX3 hown hK hP hD hS 27 rfl rfl 4 (by decide) (hts (.fieldLink RX11 116 "TimeMachine$Events" "recorded" "I") (List.mem_of_getElem? (i := 2) rfl)) (fun _ h9 => h9) rfl (by decide +kernel) rfl rfl (Nat.le_of_ble_eq_true rfl) dX11_takeScheduled_93 (fun H locs hP hD hS => ?_)
          obtain ⟨s19, es19, h⟩ := nd_let_e h
          have hP : va_P (dC, dI) vwCl (dw_X11 a ac s19) H := by rw [es19]; exact hP
          have hD : va_D A (dw_X11 a ac s19) := by rw [es19]; exact hD
          have o1 : sO s19.1 0 = some 27 := by rw [es19]; exact o1
          refine lv_aload_n hx hb dX11_takeScheduled_96 rfl (lv_at hl 1 rfl) ?_
          refine lv_dup hx hb dX11_takeScheduled_97 rfl ?_
          refine va_get (D := (dC, dI)) (ci := 12) (v := .int (sI s19.1 5)) (C := RX11) (T := TX11) (N := 16) hx hb hts hi_dm_X11_takeScheduled_X11 hown hK hP 0 rfl rfl 13 (by decide) (hts (.fieldLink RX11 79 "TimeMachine$Timeline" "came" "I") (List.mem_of_getElem? (i := 18) rfl)) (fun _ h9 => h9) rfl dX11_takeScheduled_98 ?_
          refine lv_iconst (v := 1) hx hb dX11_takeScheduled_101 (by decide) ?_
          refine lv_iadd hx hb dX11_takeScheduled_102 ?_
          refine va_put (D := (dC, dI)) (ci := 12) (v := .int ((sI s19.1 5) + 1)) (ty := .int) (C := RX11) (T := TX11) (N := 16) hx hb hts hi_dm_X11_takeScheduled_X11 tyX11 tyX11_ok nmX11 hown hK hP hD hS 0 rfl rfl 13 (by decide) (hts (.fieldLink RX11 79 "TimeMachine$Timeline" "came" "I") (List.mem_of_getElem? (i := 18) rfl)) (fun _ h9 => h9) rfl (by decide +kernel) rfl rfl (Nat.le_of_ble_eq_true rfl) dX11_takeScheduled_103 (fun H locs hP hD hS => ?_)
          obtain ⟨s20, es20, h⟩ := nd_let_e h
          have hP : va_P (dC, dI) vwCl (dw_X11 a ac s20) H := by rw [es20]; exact hP
          have hD : va_D A (dw_X11 a ac s20) := by rw [es20]; exact hD
          have o1 : sO s20.1 0 = some 27 := by rw [es20]; exact o1
          refine lv_goto (tgt := 128) hx hb dX11_takeScheduled_106 (by decide) ?_
          exact (db_X11_takeScheduled_128 C K J0)  s20 _ _ _ h hP hD hS (lv_sub hl [1] rfl)
  have h := nd_neg h o1
  by_cases o21 : sO s0.1 0 = some 32
  · have h := nd_pos h o21
    refine va_get (D := (dC, dI)) (ci := 12) (v := .ref (a 32)) (C := RX11) (T := TX11) (N := 16) hx hb hts hi_dm_X11_takeScheduled_X11 hown hK hP 0 rfl rfl 1 (by decide) (hts (.fieldLink RX11 20 "TimeMachine$Timeline" "events" "LTimeMachine$Events;") (List.mem_of_getElem? (i := 1) rfl)) (fun _ h9 => h9) (congrArg (fun z => some (va_rf (Option.map a z))) o21) dX11_takeScheduled_1 ?_
    refine va_get (D := (dC, dI)) (ci := 4) (v := .int (sI s0.2.2.2.2.1 0)) (C := RX3) (T := TX3) (N := 11) hx hb hts hi_dm_X11_takeScheduled_X3 hown hK hP 32 rfl rfl 4 (by decide) (hts (.fieldLink RX11 116 "TimeMachine$Events" "recorded" "I") (List.mem_of_getElem? (i := 2) rfl)) (fun _ h9 => h9) rfl dX11_takeScheduled_4 ?_
    refine lv_aload_n hx hb dX11_takeScheduled_7 rfl (lv_at hl 0 rfl) ?_
    refine va_get (D := (dC, dI)) (ci := 12) (v := .ref (a 32)) (C := RX11) (T := TX11) (N := 16) hx hb hts hi_dm_X11_takeScheduled_X11 hown hK hP 0 rfl rfl 1 (by decide) (hts (.fieldLink RX11 20 "TimeMachine$Timeline" "events" "LTimeMachine$Events;") (List.mem_of_getElem? (i := 1) rfl)) (fun _ h9 => h9) (congrArg (fun z => some (va_rf (Option.map a z))) o21) dX11_takeScheduled_8 ?_
    refine va_get (D := (dC, dI)) (ci := 4) (v := .int (sI s0.2.2.2.2.1 1)) (C := RX3) (T := TX3) (N := 11) hx hb hts hi_dm_X11_takeScheduled_X3 hown hK hP 32 rfl rfl 5 (by decide) (hts (.fieldLink RX11 137 "TimeMachine$Events" "total" "I") (List.mem_of_getElem? (i := 3) rfl)) (fun _ h9 => h9) rfl dX11_takeScheduled_11 ?_
    refine lv_icmp_ge (tgt := 131) hx hb dX11_takeScheduled_14 (by decide) (fun c22 => ?_) (fun c22 => ?_)
    · have h := nd_pos h c22
      exact (db_X11_takeScheduled_131 C K)  s0 _ _ _ h hP hD hS (lv_sub hl [] rfl)
    · have h := nd_neg h c22
      refine lv_aload_n hx hb dX11_takeScheduled_17 rfl (lv_at hl 0 rfl) ?_
      refine va_get (D := (dC, dI)) (ci := 12) (v := .ref (a 32)) (C := RX11) (T := TX11) (N := 16) hx hb hts hi_dm_X11_takeScheduled_X11 hown hK hP 0 rfl rfl 1 (by decide) (hts (.fieldLink RX11 20 "TimeMachine$Timeline" "events" "LTimeMachine$Events;") (List.mem_of_getElem? (i := 1) rfl)) (fun _ h9 => h9) (congrArg (fun z => some (va_rf (Option.map a z))) o21) dX11_takeScheduled_18 ?_
      refine lv_aload_n hx hb dX11_takeScheduled_21 rfl (lv_at hl 0 rfl) ?_
      refine va_get (D := (dC, dI)) (ci := 12) (v := .ref (a 32)) (C := RX11) (T := TX11) (N := 16) hx hb hts hi_dm_X11_takeScheduled_X11 hown hK hP 0 rfl rfl 1 (by decide) (hts (.fieldLink RX11 20 "TimeMachine$Timeline" "events" "LTimeMachine$Events;") (List.mem_of_getElem? (i := 1) rfl)) (fun _ h9 => h9) (congrArg (fun z => some (va_rf (Option.map a z))) o21) dX11_takeScheduled_22 ?_
      refine va_get (D := (dC, dI)) (ci := 4) (v := .int (sI s0.2.2.2.2.1 0)) (C := RX3) (T := TX3) (N := 11) hx hb hts hi_dm_X11_takeScheduled_X3 hown hK hP 32 rfl rfl 4 (by decide) (hts (.fieldLink RX11 116 "TimeMachine$Events" "recorded" "I") (List.mem_of_getElem? (i := 2) rfl)) (fun _ h9 => h9) rfl dX11_takeScheduled_25 ?_
      refine lv_aload_n hx hb dX11_takeScheduled_28 rfl (lv_at hl 0 rfl) ?_
      refine va_get (D := (dC, dI)) (ci := 12) (v := .int (sI s0.1 4)) (C := RX11) (T := TX11) (N := 16) hx hb hts hi_dm_X11_takeScheduled_X11 hown hK hP 0 rfl rfl 12 (by decide) (hts (.fieldLink RX11 76 "TimeMachine$Timeline" "end" "I") (List.mem_of_getElem? (i := 4) rfl)) (fun _ h9 => h9) rfl dX11_takeScheduled_29 ?_
      obtain ⟨q23, s24, hq, h⟩ := nd_b2_e h
      have hPc := dp_wX11_X3c_7 hP
      have hDc := dd_wX11_X3c_7 hD
      have hKc := dy_wX11_X3c_7 hK
      have hFc := nd_rs hDc hS hA
      have hzA : ∀ q : Nat, H.size ≤ q → A q := fun q h => hA q (Nat.le_trans hS.1 h)
      refine nd_cVi (As := [.int (sI s0.2.2.2.2.1 0), .int (sI s0.1 4)]) (rest := []) (q := q23) (w' := dw_X3c (fun k => a (k + 32)) (fun k => ac (k + 32)) s24) ⟨hx, hb, hml, hown, hts⟩ (fun sz => dm_X3_isAt l hlt dC dI (fun k => a (k + 32)) (fun k => ac (k + 32)) n ((sI s0.2.2.2.2.1 0)) ((sI s0.1 4)) s0.2.2.2.2.1 hq sz) (cwV 2 hts gi_dm_X11_takeScheduled_0 rfl rfl rfl (by decide +kernel) ⟨Nat.le_of_ble_eq_true rfl, Nat.le_of_ble_eq_true rfl⟩) hPc hDc hKc hS hA hN (va_recv hKc hPc (ci := 4) (q0 := 0) rfl rfl) rfl hl.1 rfl (Nat.le_of_ble_eq_true rfl) dX11_takeScheduled_32 (fun H locs hP1 hD1 hk1 hS => ?_)
      obtain ⟨hP, hD⟩ := dn_wX11_X3c_7 hP hD hzA hk1 hP1 hD1
      obtain ⟨s26, es26, h⟩ := nd_let_e h
      have hP : va_P (dC, dI) vwCl (dw_X11 a ac s26) H := by rw [es26]; exact hP
      have hD : va_D A (dw_X11 a ac s26) := by rw [es26]; exact hD
      have o21 : sO s26.1 0 = some 32 := by rw [es26]; exact o21
      refine lv_if_eq (tgt := 131) hx hb dX11_takeScheduled_35 (by decide) (fun c27 => ?_) (fun c27 => ?_)
      · have h := nd_pos h c27
        exact (db_X11_takeScheduled_131 C K)  s26 _ _ _ h hP hD hS (lv_sub hl [] rfl)
      · have h := nd_neg h c27
        refine lv_aload_n hx hb dX11_takeScheduled_38 rfl (lv_at hl 0 rfl) ?_
        refine va_get (D := (dC, dI)) (ci := 12) (v := .ref (a 32)) (C := RX11) (T := TX11) (N := 16) hx hb hts hi_dm_X11_takeScheduled_X11 hown hK hP 0 rfl rfl 1 (by decide) (hts (.fieldLink RX11 20 "TimeMachine$Timeline" "events" "LTimeMachine$Events;") (List.mem_of_getElem? (i := 1) rfl)) (fun _ h9 => h9) (congrArg (fun z => some (va_rf (Option.map a z))) o21) dX11_takeScheduled_39 ?_
        refine va_get (D := (dC, dI)) (ci := 4) (v := .int (sI s26.2.2.2.2.1 0)) (C := RX3) (T := TX3) (N := 11) hx hb hts hi_dm_X11_takeScheduled_X3 hown hK hP 32 rfl rfl 4 (by decide) (hts (.fieldLink RX11 116 "TimeMachine$Events" "recorded" "I") (List.mem_of_getElem? (i := 2) rfl)) (fun _ h9 => h9) rfl dX11_takeScheduled_42 ?_
        refine lv_topi (fun z28 ez28 => ?_)
        have h := nd_at h ez28
        refine lv_istore_n (lv' := [(1, .int z28), (0, .ref (a 0))]) hx hb dX11_takeScheduled_45 rfl hl (by decide) rfl (fun ls hl => ?_)
        refine lv_aload_n hx hb dX11_takeScheduled_46 rfl (lv_at hl 1 rfl) ?_
        refine va_get (D := (dC, dI)) (ci := 12) (v := .ref (a 3)) (C := RX11) (T := TX11) (N := 16) hx hb hts hi_dm_X11_takeScheduled_X11 hown hK hP 0 rfl rfl 4 (by decide) (hts (.fieldLink RX11 39 "TimeMachine$Timeline" "kernel" "LTimeMachine$Kernel;") (List.mem_of_getElem? (i := 9) rfl)) (fun _ h9 => h9) rfl dX11_takeScheduled_47 ?_
        refine lv_aload_n hx hb dX11_takeScheduled_50 rfl (lv_at hl 1 rfl) ?_
        refine va_get (D := (dC, dI)) (ci := 12) (v := .ref (a 32)) (C := RX11) (T := TX11) (N := 16) hx hb hts hi_dm_X11_takeScheduled_X11 hown hK hP 0 rfl rfl 1 (by decide) (hts (.fieldLink RX11 20 "TimeMachine$Timeline" "events" "LTimeMachine$Events;") (List.mem_of_getElem? (i := 1) rfl)) (fun _ h9 => h9) (congrArg (fun z => some (va_rf (Option.map a z))) o21) dX11_takeScheduled_51 ?_
        refine va_get (D := (dC, dI)) (ci := 4) (v := .ref (a 33)) (C := RX3) (T := TX3) (N := 11) hx hb hts hi_dm_X11_takeScheduled_X3 hown hK hP 32 rfl rfl 0 (by decide) (hts (.fieldLink RX11 123 "TimeMachine$Events" "kind" "[I") (List.mem_of_getElem? (i := 10) rfl)) (fun _ h9 => h9) rfl dX11_takeScheduled_54 ?_
        refine lv_iload_n hx hb dX11_takeScheduled_57 rfl (lv_at hl 0 rfl) ?_
        obtain ⟨i29, h⟩ := nd_ck_e h
        refine va_iald (i := z28) hx hb hK hP 33 26 rfl rfl i29 dX11_takeScheduled_58 ?_
        refine lv_aload_n hx hb dX11_takeScheduled_59 rfl (lv_at hl 1 rfl) ?_
        refine va_get (D := (dC, dI)) (ci := 12) (v := .ref (a 32)) (C := RX11) (T := TX11) (N := 16) hx hb hts hi_dm_X11_takeScheduled_X11 hown hK hP 0 rfl rfl 1 (by decide) (hts (.fieldLink RX11 20 "TimeMachine$Timeline" "events" "LTimeMachine$Events;") (List.mem_of_getElem? (i := 1) rfl)) (fun _ h9 => h9) (congrArg (fun z => some (va_rf (Option.map a z))) o21) dX11_takeScheduled_60 ?_
        refine va_get (D := (dC, dI)) (ci := 4) (v := .ref (a 35)) (C := RX3) (T := TX3) (N := 11) hx hb hts hi_dm_X11_takeScheduled_X3 hown hK hP 32 rfl rfl 2 (by decide) (hts (.fieldLink RX11 126 "TimeMachine$Events" "a" "[J") (List.mem_of_getElem? (i := 11) rfl)) (fun _ h9 => h9) rfl dX11_takeScheduled_63 ?_
        refine lv_iload_n hx hb dX11_takeScheduled_66 rfl (lv_at hl 0 rfl) ?_
        obtain ⟨i30, h⟩ := nd_ck_e h
        refine va_lald (i := z28) hx hb hK hP 35 28 rfl rfl i30 dX11_takeScheduled_67 ?_
        refine lv_aload_n hx hb dX11_takeScheduled_68 rfl (lv_at hl 1 rfl) ?_
        refine va_get (D := (dC, dI)) (ci := 12) (v := .ref (a 32)) (C := RX11) (T := TX11) (N := 16) hx hb hts hi_dm_X11_takeScheduled_X11 hown hK hP 0 rfl rfl 1 (by decide) (hts (.fieldLink RX11 20 "TimeMachine$Timeline" "events" "LTimeMachine$Events;") (List.mem_of_getElem? (i := 1) rfl)) (fun _ h9 => h9) (congrArg (fun z => some (va_rf (Option.map a z))) o21) dX11_takeScheduled_69 ?_
        refine va_get (D := (dC, dI)) (ci := 4) (v := .ref (a 36)) (C := RX3) (T := TX3) (N := 11) hx hb hts hi_dm_X11_takeScheduled_X3 hown hK hP 32 rfl rfl 3 (by decide) (hts (.fieldLink RX11 130 "TimeMachine$Events" "b" "[I") (List.mem_of_getElem? (i := 12) rfl)) (fun _ h9 => h9) rfl dX11_takeScheduled_72 ?_
        refine lv_iload_n hx hb dX11_takeScheduled_75 rfl (lv_at hl 0 rfl) ?_
        obtain ⟨i31, h⟩ := nd_ck_e h
        refine va_iald (i := z28) hx hb hK hP 36 29 rfl rfl i31 dX11_takeScheduled_76 ?_
        obtain ⟨q32, s33, hq, h⟩ := nd_b2_e h
        have hPc := dp_wX11_X5_2 hP
        have hDc := dd_wX11_X5_2 hD
        have hKc := dy_wX11_X5_2 hK
        have hFc := nd_rs hDc hS hA
        have hzA : ∀ q : Nat, H.size ≤ q → A q := fun q h => hA q (Nat.le_trans hS.1 h)
        refine nd_cVi (As := [.int (sR s26.2.2.2.2.1 0 (Int32.toNatClampNeg z28)), .long (sQ s26.2.2.2.2.1 1 (Int32.toNatClampNeg z28)), .int (sR s26.2.2.2.2.1 1 (Int32.toNatClampNeg z28))]) (rest := []) (q := q32) (w' := dw_X5 (fun k => a (k + 3)) (fun k => ac (k + 3)) s33) ⟨hx, hb, hml, hown, hts⟩ (fun sz => dm_X5_come l hlt dC dI (fun k => a (k + 3)) (fun k => ac (k + 3)) n ((sR s26.2.2.2.2.1 0 (Int32.toNatClampNeg z28))) ((sQ s26.2.2.2.2.1 1 (Int32.toNatClampNeg z28))) ((sR s26.2.2.2.2.1 1 (Int32.toNatClampNeg z28))) s26.2.2.1 hq sz) (cwV 3 hts gi_dm_X11_takeScheduled_1 rfl rfl rfl (by decide +kernel) ⟨Nat.le_of_ble_eq_true rfl, Nat.le_of_ble_eq_true rfl⟩) hPc hDc hKc hS hA hN (va_recv hKc hPc (ci := 6) (q0 := 0) rfl rfl) rfl hl.1 rfl (Nat.le_of_ble_eq_true rfl) dX11_takeScheduled_77 (fun H locs hP1 hD1 hk1 hS => ?_)
        obtain ⟨hP, hD⟩ := dn_wX11_X5_2 hP hD hzA hk1 hP1 hD1
        obtain ⟨s35, es35, h⟩ := nd_let_e h
        have hP : va_P (dC, dI) vwCl (dw_X11 a ac s35) H := by rw [es35]; exact hP
        have hD : va_D A (dw_X11 a ac s35) := by rw [es35]; exact hD
        have o21 : sO s35.1 0 = some 32 := by rw [es35]; exact o21
        refine lv_if_eq (tgt := 109) hx hb dX11_takeScheduled_80 (by decide) (fun c36 => ?_) (fun c36 => ?_)
        · have h := nd_pos h c36
          refine lv_aload_n hx hb dX11_takeScheduled_109 rfl (lv_at hl 1 rfl) ?_
          refine va_get (D := (dC, dI)) (ci := 12) (v := .ref (a 32)) (C := RX11) (T := TX11) (N := 16) hx hb hts hi_dm_X11_takeScheduled_X11 hown hK hP 0 rfl rfl 1 (by decide) (hts (.fieldLink RX11 20 "TimeMachine$Timeline" "events" "LTimeMachine$Events;") (List.mem_of_getElem? (i := 1) rfl)) (fun _ h9 => h9) (congrArg (fun z => some (va_rf (Option.map a z))) o21) dX11_takeScheduled_110 ?_
          refine lv_aload_n hx hb dX11_takeScheduled_113 rfl (lv_at hl 1 rfl) ?_
          refine va_get (D := (dC, dI)) (ci := 12) (v := .ref (a 32)) (C := RX11) (T := TX11) (N := 16) hx hb hts hi_dm_X11_takeScheduled_X11 hown hK hP 0 rfl rfl 1 (by decide) (hts (.fieldLink RX11 20 "TimeMachine$Timeline" "events" "LTimeMachine$Events;") (List.mem_of_getElem? (i := 1) rfl)) (fun _ h9 => h9) (congrArg (fun z => some (va_rf (Option.map a z))) o21) dX11_takeScheduled_114 ?_
          refine va_get (D := (dC, dI)) (ci := 4) (v := .int (sI s35.2.2.2.2.1 0)) (C := RX3) (T := TX3) (N := 11) hx hb hts hi_dm_X11_takeScheduled_X3 hown hK hP 32 rfl rfl 4 (by decide) (hts (.fieldLink RX11 116 "TimeMachine$Events" "recorded" "I") (List.mem_of_getElem? (i := 2) rfl)) (fun _ h9 => h9) rfl dX11_takeScheduled_117 ?_
          refine va_put (D := (dC, dI)) (ci := 4) (v := .int (sI s35.2.2.2.2.1 0)) (ty := .int) (C := RX3) (T := TX3) (N := 11) hx hb hts hi_dm_X11_takeScheduled_X3 tyX3 tyX3_ok nmX3 hown hK hP hD hS 32 rfl rfl 5 (by decide) (hts (.fieldLink RX11 137 "TimeMachine$Events" "total" "I") (List.mem_of_getElem? (i := 3) rfl)) (fun _ h9 => h9) rfl (by decide +kernel) rfl rfl (Nat.le_of_ble_eq_true rfl) dX11_takeScheduled_120 (fun H locs hP hD hS => ?_)
          obtain ⟨s37, es37, h⟩ := nd_let_e h
          have hP : va_P (dC, dI) vwCl (dw_X11 a ac s37) H := by rw [es37]; exact hP
          have hD : va_D A (dw_X11 a ac s37) := by rw [es37]; exact hD
          have o21 : sO s37.1 0 = some 32 := by rw [es37]; exact o21
          refine lv_aload_n hx hb dX11_takeScheduled_123 rfl (lv_at hl 1 rfl) ?_
          refine lv_iconst (v := 1) hx hb dX11_takeScheduled_124 (by decide) ?_
          refine va_put (D := (dC, dI)) (ci := 12) (v := .int 1) (ty := .boolean) (C := RX11) (T := TX11) (N := 16) hx hb hts hi_dm_X11_takeScheduled_X11 tyX11 tyX11_ok nmX11 hown hK hP hD hS 0 rfl rfl 14 (by decide) (hts (.fieldLink RX11 82 "TimeMachine$Timeline" "missed" "Z") (List.mem_of_getElem? (i := 17) rfl)) (fun _ h9 => h9) rfl (by decide +kernel) (by first | rfl | decide) rfl (Nat.le_of_ble_eq_true rfl) dX11_takeScheduled_125 (fun H locs hP hD hS => ?_)
          obtain ⟨s38, es38, h⟩ := nd_let_e h
          have hP : va_P (dC, dI) vwCl (dw_X11 a ac s38) H := by rw [es38]; exact hP
          have hD : va_D A (dw_X11 a ac s38) := by rw [es38]; exact hD
          have o21 : sO s38.1 0 = some 32 := by rw [es38]; exact o21
          exact (db_X11_takeScheduled_128 C K J0)  s38 _ _ _ h hP hD hS (lv_sub hl [1] rfl)
        · have h := nd_neg h c36
          refine lv_aload_n hx hb dX11_takeScheduled_83 rfl (lv_at hl 1 rfl) ?_
          refine va_get (D := (dC, dI)) (ci := 12) (v := .ref (a 32)) (C := RX11) (T := TX11) (N := 16) hx hb hts hi_dm_X11_takeScheduled_X11 hown hK hP 0 rfl rfl 1 (by decide) (hts (.fieldLink RX11 20 "TimeMachine$Timeline" "events" "LTimeMachine$Events;") (List.mem_of_getElem? (i := 1) rfl)) (fun _ h9 => h9) (congrArg (fun z => some (va_rf (Option.map a z))) o21) dX11_takeScheduled_84 ?_
          refine lv_dup hx hb dX11_takeScheduled_87 rfl ?_
          refine va_get (D := (dC, dI)) (ci := 4) (v := .int (sI s35.2.2.2.2.1 0)) (C := RX3) (T := TX3) (N := 11) hx hb hts hi_dm_X11_takeScheduled_X3 hown hK hP 32 rfl rfl 4 (by decide) (hts (.fieldLink RX11 116 "TimeMachine$Events" "recorded" "I") (List.mem_of_getElem? (i := 2) rfl)) (fun _ h9 => h9) rfl dX11_takeScheduled_88 ?_
          refine lv_iconst (v := 1) hx hb dX11_takeScheduled_91 (by decide) ?_
          refine lv_iadd hx hb dX11_takeScheduled_92 ?_
          refine va_put (D := (dC, dI)) (ci := 4) (v := .int ((sI s35.2.2.2.2.1 0) + 1)) (ty := .int) (C := RX3) (T := TX3) (N := 11) hx hb hts hi_dm_X11_takeScheduled_X3 tyX3 tyX3_ok nmX3 hown hK hP hD hS 32 rfl rfl 4 (by decide) (hts (.fieldLink RX11 116 "TimeMachine$Events" "recorded" "I") (List.mem_of_getElem? (i := 2) rfl)) (fun _ h9 => h9) rfl (by decide +kernel) rfl rfl (Nat.le_of_ble_eq_true rfl) dX11_takeScheduled_93 (fun H locs hP hD hS => ?_)
          obtain ⟨s39, es39, h⟩ := nd_let_e h
          have hP : va_P (dC, dI) vwCl (dw_X11 a ac s39) H := by rw [es39]; exact hP
          have hD : va_D A (dw_X11 a ac s39) := by rw [es39]; exact hD
          have o21 : sO s39.1 0 = some 32 := by rw [es39]; exact o21
          refine lv_aload_n hx hb dX11_takeScheduled_96 rfl (lv_at hl 1 rfl) ?_
          refine lv_dup hx hb dX11_takeScheduled_97 rfl ?_
          refine va_get (D := (dC, dI)) (ci := 12) (v := .int (sI s39.1 5)) (C := RX11) (T := TX11) (N := 16) hx hb hts hi_dm_X11_takeScheduled_X11 hown hK hP 0 rfl rfl 13 (by decide) (hts (.fieldLink RX11 79 "TimeMachine$Timeline" "came" "I") (List.mem_of_getElem? (i := 18) rfl)) (fun _ h9 => h9) rfl dX11_takeScheduled_98 ?_
          refine lv_iconst (v := 1) hx hb dX11_takeScheduled_101 (by decide) ?_
          refine lv_iadd hx hb dX11_takeScheduled_102 ?_
          refine va_put (D := (dC, dI)) (ci := 12) (v := .int ((sI s39.1 5) + 1)) (ty := .int) (C := RX11) (T := TX11) (N := 16) hx hb hts hi_dm_X11_takeScheduled_X11 tyX11 tyX11_ok nmX11 hown hK hP hD hS 0 rfl rfl 13 (by decide) (hts (.fieldLink RX11 79 "TimeMachine$Timeline" "came" "I") (List.mem_of_getElem? (i := 18) rfl)) (fun _ h9 => h9) rfl (by decide +kernel) rfl rfl (Nat.le_of_ble_eq_true rfl) dX11_takeScheduled_103 (fun H locs hP hD hS => ?_)
          obtain ⟨s40, es40, h⟩ := nd_let_e h
          have hP : va_P (dC, dI) vwCl (dw_X11 a ac s40) H := by rw [es40]; exact hP
          have hD : va_D A (dw_X11 a ac s40) := by rw [es40]; exact hD
          have o21 : sO s40.1 0 = some 32 := by rw [es40]; exact o21
          refine lv_goto (tgt := 128) hx hb dX11_takeScheduled_106 (by decide) ?_
          exact (db_X11_takeScheduled_128 C K J0)  s40 _ _ _ h hP hD hS (lv_sub hl [1] rfl)
  have h := nd_neg h o21
  exact nomatch h
set_option maxHeartbeats 40000000 in
set_option maxRecDepth 100000 in
theorem db_X11_takeScheduled_0 {p : Program} {l : Launch} {e : Env} {s : State} {m : MethodId} {args : Array Value} {below : List Frame} {meth : Method} {c : Code} {Q : State → Prop} {A : Nat → Prop} {dC : Nat → ClassId} {dI : Nat → Nat → Nat} {a : Nat → Nat} {ac : Nat → ClassId} {n : Nat} {r : St × Rw × (St × (St × (St × (St)))) × (St) × (St) × (Nat → St) × (Nat → St) × (Nat → St × (St))} (C : nd_C p l s m args c A (dC, dI) cX11_takeScheduled 2 RX11 ow_dm_X11_takeScheduled (dk_X11 ac)) (K : nd_Kv p l e (headSpec ow_dm_X11_takeScheduled ({ frames := 4, cells := 0, slots := 0, locals := 95 })).room s m args below meth c Q A (dC, dI) cX11_takeScheduled (St × Rw × (St × (St × (St × (St)))) × (St) × (St) × (Nat → St) × (Nat → St) × (Nat → St × (St))) (dw_X11 a ac) r) (k : Nat) : dj_X11_takeScheduled_0 p l e s m args below meth c Q A dC dI a ac (df_X11_takeScheduled_0 n k) r := by
  induction k with
  | zero => intro s0 H locs ls h; exact nomatch (show (none : Option (St × Rw × (St × (St × (St × (St)))) × (St) × (St) × (Nat → St) × (Nat → St) × (Nat → St × (St)))) = some r from h)
  | succ k ih => exact dB_X11_takeScheduled_0 C K ih
set_option maxHeartbeats 40000000 in
set_option maxRecDepth 100000 in
theorem dm_X11_takeScheduled (l : Launch) (hlt : l.stackTraces = false) (dC : Nat → ClassId) (dI : Nat → Nat → Nat) (a : Nat → Nat) (ac : Nat → ClassId) (n : Nat) (s0 : St × Rw × (St × (St × (St × (St)))) × (St) × (St) × (Nat → St) × (Nat → St) × (Nat → St × (St))) {r : St × Rw × (St × (St × (St × (St)))) × (St) × (St) × (Nat → St) × (Nat → St) × (Nat → St × (St))} (h : df_X11_takeScheduled n s0 = some r) (sz : Nat) : Met l yX11_takeScheduled ow_dm_X11_takeScheduled ({ frames := 4, cells := 0, slots := 0, locals := 95 }) (va_Pc [.ref (a 0)] (fun U => U.heap.size = sz ∧ va_P (dC, dI) vwCl (dw_X11 a ac s0) U.heap ∧ va_K (dC, dI) vwCl (dk_X11 ac) U ∧ va_D (fun _ => True) (dw_X11 a ac s0) ∧ nv_E dI (va_A (dw_X11 a ac s0) sz) U)) (va_Qv (fun _ => True) (fun (_ : Unit) t => va_P (dC, dI) vwCl (dw_X11 a ac r) t.heap ∧ va_K (dC, dI) vwCl (dk_X11 ac) t ∧ va_D (va_A (dw_X11 a ac s0) sz) (dw_X11 a ac r)) (va_A (dw_X11 a ac s0) sz)) 0 0 (va_A (dw_X11 a ac s0) sz) := by
  refine Met.ofW (cc := cX11_takeScheduled) (maxL := 2) (ret := none) (by decide) rfl ?_
  intro p e s m args below meth c s₁ B hml hv
  obtain ⟨rfl, hsz, hP, hK, hD0, hN⟩ := hv
  have hx := B.exec
  have hb := B.bytes
  have hr := B.returns
  have hts := atoms_spec (ws := ow_dm_X11_takeScheduled) B.pre
  have hown : s.vm.findClass RX11 = some m.cls := findClass_of_methodNamed B.named
  have hlocks := B.notSynchronized
  subst hsz
  have hD := hD0.self (sz := s.heap.size)
  generalize hAe : va_A (dw_X11 a ac s0) s.heap.size = A at hD hN ⊢
  have hA : ∀ q : Nat, s.heap.size ≤ q → A q := fun q h => by rw [← hAe]; exact Or.inr h
  have hl := lv_entry ([.ref (a 0)]) (n := 2) (Nat.le_of_ble_eq_true rfl)
  rw [lg_entry_eq]
  generalize (lg_sl ([.ref (a 0)]) ++ List.replicate (2 - (lg_sl ([.ref (a 0)])).length) Slot.unset).toArray = ls at hl ⊢
  have hl : lv_has ls 2 [(0, .ref (a 0))] := hl
  exact db_X11_takeScheduled_0 (dC := dC) (dI := dI) (a := a) (ac := ac) (n := n) (r := r) ⟨hlt, hx, hb, hml, hown, hts, hN, hA, hK⟩ (fun pc τ H locs ls d er hP hD hS => by subst er; exact W.vret hx hb hr (fun t ht hW => ⟨⟨(), rfl, trivial, by rw [ht]; exact hP, va_K.moved hW.alike hK, hD⟩, hS.F ht⟩) hS.2.2 d) n s0 _ _ _ h hP hD va_S.rf (lv_sub hl [0] rfl)
def ow_dm_X11_startWith : List Cond := Cond.code yX11_startWith cX11_startWith 4 none :: ([Cond.fieldLink RX11 20 "TimeMachine$Timeline" "events" "LTimeMachine$Events;", Cond.fieldLink RX11 24 "TimeMachine$Timeline" "spareEvents" "LTimeMachine$Events;", Cond.methodLink RX11 58 yX11_start, Cond.instanceMethod yX11_start, Cond.selects RX11 yX11_start yX11_start, Cond.initialized RX11, Cond.methodLink RX11 62 yX11_takeScheduled, Cond.instanceMethod yX11_takeScheduled, Cond.selects RX11 yX11_takeScheduled yX11_takeScheduled] ++ (u_ws RX11 TX11 16 ++ (ow_dm_X11_start ++ (ow_dm_X11_takeScheduled ++ []))))
theorem gd_dm_X11_startWith : ∀ w ∈ ow_dm_X11_startWith, (w.onTables && w.keeps) = true ∨ ∃ ty, w = Cond.arrayClass ty := List.forall_mem_cons.mpr ⟨good_of_word rfl, List.forall_mem_append.mpr ⟨fun w h => good_of_word (List.all_eq_true.mp (by decide +kernel) w h), List.forall_mem_append.mpr ⟨gu_X11, List.forall_mem_append.mpr ⟨gd_dm_X11_start, List.forall_mem_append.mpr ⟨gd_dm_X11_takeScheduled, fun _ h => nomatch h⟩⟩⟩⟩⟩
theorem hi_dm_X11_startWith_X11 : ∀ w ∈ u_ws RX11 TX11 16, w ∈ ow_dm_X11_startWith := fun w h => List.mem_cons_of_mem _ (List.mem_append_right _ (List.mem_append_left _ h))
theorem gi_dm_X11_startWith_0 : GoodIn ow_dm_X11_startWith (wsV RX11 58 RX11 yX11_start ow_dm_X11_start) := goodIn_app (goodIn_of _ (by decide +kernel)) (fun w h => ⟨List.mem_cons_of_mem _ (List.mem_append_right _ (List.mem_append_right _ (List.mem_append_left _ h))), gd_dm_X11_start w h⟩)
theorem gi_dm_X11_startWith_1 : GoodIn ow_dm_X11_startWith (wsV RX11 62 RX11 yX11_takeScheduled ow_dm_X11_takeScheduled) := goodIn_app (goodIn_of _ (by decide +kernel)) (fun w h => ⟨List.mem_cons_of_mem _ (List.mem_append_right _ (List.mem_append_right _ (List.mem_append_right _ (List.mem_append_left _ h)))), gd_dm_X11_takeScheduled w h⟩)
def dj_X11_startWith_0 (p : Program) (l : Launch) (e : Env) (s : State) (m : MethodId) (args : Array Value) (below : List Frame) (meth : Method) (c : Code) (Q : State → Prop) (A : Nat → Prop) (dC : Nat → ClassId) (dI : Nat → Nat → Nat) (a : Nat → Nat) (ac : Nat → ClassId) (g : Int32 → (St × Rw × (St × (St × (St × (St)))) × (St) × (St) × (Nat → St) × (Nat → St) × (Nat → St × (St))) → Option (St × Rw × (St × (St × (St × (St)))) × (St) × (St) × (Nat → St) × (Nat → St) × (Nat → St × (St)))) (r : St × Rw × (St × (St × (St × (St)))) × (St) × (St) × (Nat → St) × (Nat → St) × (Nat → St × (St))) : Prop := ∀ (v1 : Int32) (s0 : St × Rw × (St × (St × (St × (St)))) × (St) × (St) × (Nat → St) × (Nat → St) × (Nat → St × (St))) (H : Heap) (locs : List Loc) (ls : Array Slot), g v1 s0 = some r → va_P (dC, dI) vwCl (dw_X11 a ac s0) H → va_D A (dw_X11 a ac s0) → va_S A s.heap H locs → lv_has ls 4 [(0, .ref (a 0)), (1, .ref (a 38)), (2, .int v1)] → W p l e (headSpec ow_dm_X11_startWith ({ frames := 5, cells := 0, slots := 0, locals := 126 })).room s m args below meth c H locs 0 0 Q (F0 m 0 ls [])
set_option maxHeartbeats 40000000 in
set_option maxRecDepth 100000 in
theorem db_X11_startWith_0 {p : Program} {l : Launch} {e : Env} {s : State} {m : MethodId} {args : Array Value} {below : List Frame} {meth : Method} {c : Code} {Q : State → Prop} {A : Nat → Prop} {dC : Nat → ClassId} {dI : Nat → Nat → Nat} {a : Nat → Nat} {ac : Nat → ClassId} {n : Nat} {r : St × Rw × (St × (St × (St × (St)))) × (St) × (St) × (Nat → St) × (Nat → St) × (Nat → St × (St))} (C : nd_C p l s m args c A (dC, dI) cX11_startWith 4 RX11 ow_dm_X11_startWith (dk_X11 ac)) (K : nd_Kv p l e (headSpec ow_dm_X11_startWith ({ frames := 5, cells := 0, slots := 0, locals := 126 })).room s m args below meth c Q A (dC, dI) cX11_startWith (St × Rw × (St × (St × (St × (St)))) × (St) × (St) × (Nat → St) × (Nat → St) × (Nat → St × (St))) (dw_X11 a ac) r) : dj_X11_startWith_0 p l e s m args below meth c Q A dC dI a ac (df_X11_startWith_0 n) r := by
  obtain ⟨hlt, hx, hb, hml, hown, hts, hN, hA, hK⟩ := id C
  intro v1 s0 H locs ls h hP hD hS hl
  unfold df_X11_startWith_0 at h
  refine lv_aload_n hx hb dX11_startWith_0 rfl (lv_at hl 0 rfl) ?_
  by_cases o1 : sO s0.1 0 = some 27
  · have h := nd_pos h o1
    refine va_get (D := (dC, dI)) (ci := 12) (v := .ref (a 27)) (C := RX11) (T := TX11) (N := 16) hx hb hts hi_dm_X11_startWith_X11 hown hK hP 0 rfl rfl 1 (by decide) (hts (.fieldLink RX11 20 "TimeMachine$Timeline" "events" "LTimeMachine$Events;") (List.mem_of_getElem? (i := 1) rfl)) (fun _ h9 => h9) (congrArg (fun z => some (va_rf (Option.map a z))) o1) dX11_startWith_1 ?_
    refine lv_astore_n (lv' := [(3, .ref (a 27)), (0, .ref (a 0)), (1, .ref (a 38)), (2, .int v1)]) hx hb dX11_startWith_4 rfl hl (by decide) rfl (fun ls hl => ?_)
    refine lv_aload_n hx hb dX11_startWith_5 rfl (lv_at hl 1 rfl) ?_
    refine lv_aload_n hx hb dX11_startWith_6 rfl (lv_at hl 1 rfl) ?_
    by_cases o2 : sO s0.1 1 = some 27
    · have h := nd_pos h o2
      refine va_get (D := (dC, dI)) (ci := 12) (v := .ref (a 27)) (C := RX11) (T := TX11) (N := 16) hx hb hts hi_dm_X11_startWith_X11 hown hK hP 0 rfl rfl 2 (by decide) (hts (.fieldLink RX11 24 "TimeMachine$Timeline" "spareEvents" "LTimeMachine$Events;") (List.mem_of_getElem? (i := 2) rfl)) (fun _ h9 => h9) (congrArg (fun z => some (va_rf (Option.map a z))) o2) dX11_startWith_7 ?_
      refine va_put (D := (dC, dI)) (ci := 12) (v := .ref (a 27)) (ty := .object "TimeMachine$Events") (C := RX11) (T := TX11) (N := 16) hx hb hts hi_dm_X11_startWith_X11 tyX11 tyX11_ok nmX11 hown hK hP hD hS 0 rfl rfl 1 (by decide) (hts (.fieldLink RX11 20 "TimeMachine$Timeline" "events" "LTimeMachine$Events;") (List.mem_of_getElem? (i := 1) rfl)) (fun _ h9 => h9) rfl (by decide +kernel) rfl rfl (Nat.le_of_ble_eq_true rfl) dX11_startWith_10 (fun H locs hP hD hS => ?_)
      obtain ⟨s3, es3, h⟩ := nd_let_e h
      have hP : va_P (dC, dI) vwCl (dw_X11 a ac s3) H := by rw [es3]; exact hP
      have hD : va_D A (dw_X11 a ac s3) := by rw [es3]; exact hD
      have o2 : sO s3.1 1 = some 27 := by rw [es3]; exact o2
      refine lv_aload_n hx hb dX11_startWith_13 rfl (lv_at hl 1 rfl) ?_
      refine lv_aload_n hx hb dX11_startWith_14 rfl (lv_at hl 0 rfl) ?_
      refine va_put (D := (dC, dI)) (ci := 12) (v := .ref (a 27)) (ty := .object "TimeMachine$Events") (C := RX11) (T := TX11) (N := 16) hx hb hts hi_dm_X11_startWith_X11 tyX11 tyX11_ok nmX11 hown hK hP hD hS 0 rfl rfl 2 (by decide) (hts (.fieldLink RX11 24 "TimeMachine$Timeline" "spareEvents" "LTimeMachine$Events;") (List.mem_of_getElem? (i := 2) rfl)) (fun _ h9 => h9) rfl (by decide +kernel) rfl rfl (Nat.le_of_ble_eq_true rfl) dX11_startWith_15 (fun H locs hP hD hS => ?_)
      obtain ⟨s4, es4, h⟩ := nd_let_e h
      have hP : va_P (dC, dI) vwCl (dw_X11 a ac s4) H := by rw [es4]; exact hP
      have hD : va_D A (dw_X11 a ac s4) := by rw [es4]; exact hD
      refine lv_aload_n hx hb dX11_startWith_18 rfl (lv_at hl 1 rfl) ?_
      refine lv_aload_n hx hb dX11_startWith_19 rfl (lv_at hl 2 rfl) ?_
      refine lv_iload_n hx hb dX11_startWith_20 rfl (lv_at hl 3 rfl) ?_
      obtain ⟨s6, hq, h⟩ := nd_b1_e h
      have hPc := hP
      have hDc := hD
      have hKc := hK
      have hFc := nd_rs hD hS hA
      refine nd_cVv (As := [.ref (a 38), .int v1]) (rest := []) (w' := dw_X11 a ac s6) ⟨hx, hb, hml, hown, hts⟩ (fun sz => dm_X11_start l hlt dC dI a ac n (v1) s4 hq sz) (cwV 2 hts gi_dm_X11_startWith_0 rfl rfl rfl (by decide +kernel) ⟨Nat.le_of_ble_eq_true rfl, Nat.le_of_ble_eq_true rfl⟩) hPc hDc hKc hS hA hN (va_recv hKc hPc (ci := 12) (q0 := 0) rfl rfl) rfl hl.1 rfl (Nat.le_of_ble_eq_true rfl) dX11_startWith_21 (fun H locs hP1 hD1 hk1 hS => ?_)
      have hP := hP1
      have hD := hD1.weaken (fun k q _ h => hFc q.1 h)
      refine lv_aload_n hx hb dX11_startWith_24 rfl (lv_at hl 1 rfl) ?_
      obtain ⟨s9, hq, h⟩ := nd_b1_e h
      have hPc := hP
      have hDc := hD
      have hKc := hK
      have hFc := nd_rs hD hS hA
      refine nd_cVv (As := []) (rest := []) (w' := dw_X11 a ac s9) ⟨hx, hb, hml, hown, hts⟩ (fun sz => dm_X11_takeScheduled l hlt dC dI a ac n  s6 hq sz) (cwV 0 hts gi_dm_X11_startWith_1 rfl rfl rfl (by decide +kernel) ⟨Nat.le_of_ble_eq_true rfl, Nat.le_of_ble_eq_true rfl⟩) hPc hDc hKc hS hA hN (va_recv hKc hPc (ci := 12) (q0 := 0) rfl rfl) rfl hl.1 rfl (Nat.le_of_ble_eq_true rfl) dX11_startWith_25 (fun H locs hP1 hD1 hk1 hS => ?_)
      have hP := hP1
      have hD := hD1.weaken (fun k q _ h => hFc q.1 h)
      exact K _ _ _ _ _ dX11_startWith_28 (Option.some.inj h).symm hP hD hS
    have h := nd_neg h o2
    by_cases o11 : sO s0.1 1 = some 32
    · have h := nd_pos h o11
      refine va_get (D := (dC, dI)) (ci := 12) (v := .ref (a 32)) (C := RX11) (T := TX11) (N := 16) hx hb hts hi_dm_X11_startWith_X11 hown hK hP 0 rfl rfl 2 (by decide) (hts (.fieldLink RX11 24 "TimeMachine$Timeline" "spareEvents" "LTimeMachine$Events;") (List.mem_of_getElem? (i := 2) rfl)) (fun _ h9 => h9) (congrArg (fun z => some (va_rf (Option.map a z))) o11) dX11_startWith_7 ?_
      refine va_put (D := (dC, dI)) (ci := 12) (v := .ref (a 32)) (ty := .object "TimeMachine$Events") (C := RX11) (T := TX11) (N := 16) hx hb hts hi_dm_X11_startWith_X11 tyX11 tyX11_ok nmX11 hown hK hP hD hS 0 rfl rfl 1 (by decide) (hts (.fieldLink RX11 20 "TimeMachine$Timeline" "events" "LTimeMachine$Events;") (List.mem_of_getElem? (i := 1) rfl)) (fun _ h9 => h9) rfl (by decide +kernel) rfl rfl (Nat.le_of_ble_eq_true rfl) dX11_startWith_10 (fun H locs hP hD hS => ?_)
      obtain ⟨s12, es12, h⟩ := nd_let_e h
      have hP : va_P (dC, dI) vwCl (dw_X11 a ac s12) H := by rw [es12]; exact hP
      have hD : va_D A (dw_X11 a ac s12) := by rw [es12]; exact hD
      have o11 : sO s12.1 1 = some 32 := by rw [es12]; exact o11
      refine lv_aload_n hx hb dX11_startWith_13 rfl (lv_at hl 1 rfl) ?_
      refine lv_aload_n hx hb dX11_startWith_14 rfl (lv_at hl 0 rfl) ?_
      refine va_put (D := (dC, dI)) (ci := 12) (v := .ref (a 27)) (ty := .object "TimeMachine$Events") (C := RX11) (T := TX11) (N := 16) hx hb hts hi_dm_X11_startWith_X11 tyX11 tyX11_ok nmX11 hown hK hP hD hS 0 rfl rfl 2 (by decide) (hts (.fieldLink RX11 24 "TimeMachine$Timeline" "spareEvents" "LTimeMachine$Events;") (List.mem_of_getElem? (i := 2) rfl)) (fun _ h9 => h9) rfl (by decide +kernel) rfl rfl (Nat.le_of_ble_eq_true rfl) dX11_startWith_15 (fun H locs hP hD hS => ?_)
      obtain ⟨s13, es13, h⟩ := nd_let_e h
      have hP : va_P (dC, dI) vwCl (dw_X11 a ac s13) H := by rw [es13]; exact hP
      have hD : va_D A (dw_X11 a ac s13) := by rw [es13]; exact hD
      refine lv_aload_n hx hb dX11_startWith_18 rfl (lv_at hl 1 rfl) ?_
      refine lv_aload_n hx hb dX11_startWith_19 rfl (lv_at hl 2 rfl) ?_
      refine lv_iload_n hx hb dX11_startWith_20 rfl (lv_at hl 3 rfl) ?_
      obtain ⟨s15, hq, h⟩ := nd_b1_e h
      have hPc := hP
      have hDc := hD
      have hKc := hK
      have hFc := nd_rs hD hS hA
      refine nd_cVv (As := [.ref (a 38), .int v1]) (rest := []) (w' := dw_X11 a ac s15) ⟨hx, hb, hml, hown, hts⟩ (fun sz => dm_X11_start l hlt dC dI a ac n (v1) s13 hq sz) (cwV 2 hts gi_dm_X11_startWith_0 rfl rfl rfl (by decide +kernel) ⟨Nat.le_of_ble_eq_true rfl, Nat.le_of_ble_eq_true rfl⟩) hPc hDc hKc hS hA hN (va_recv hKc hPc (ci := 12) (q0 := 0) rfl rfl) rfl hl.1 rfl (Nat.le_of_ble_eq_true rfl) dX11_startWith_21 (fun H locs hP1 hD1 hk1 hS => ?_)
      have hP := hP1
      have hD := hD1.weaken (fun k q _ h => hFc q.1 h)
      refine lv_aload_n hx hb dX11_startWith_24 rfl (lv_at hl 1 rfl) ?_
      obtain ⟨s18, hq, h⟩ := nd_b1_e h
      have hPc := hP
      have hDc := hD
      have hKc := hK
      have hFc := nd_rs hD hS hA
      refine nd_cVv (As := []) (rest := []) (w' := dw_X11 a ac s18) ⟨hx, hb, hml, hown, hts⟩ (fun sz => dm_X11_takeScheduled l hlt dC dI a ac n  s15 hq sz) (cwV 0 hts gi_dm_X11_startWith_1 rfl rfl rfl (by decide +kernel) ⟨Nat.le_of_ble_eq_true rfl, Nat.le_of_ble_eq_true rfl⟩) hPc hDc hKc hS hA hN (va_recv hKc hPc (ci := 12) (q0 := 0) rfl rfl) rfl hl.1 rfl (Nat.le_of_ble_eq_true rfl) dX11_startWith_25 (fun H locs hP1 hD1 hk1 hS => ?_)
      have hP := hP1
      have hD := hD1.weaken (fun k q _ h => hFc q.1 h)
      exact K _ _ _ _ _ dX11_startWith_28 (Option.some.inj h).symm hP hD hS
    have h := nd_neg h o11
    exact nomatch h
  have h := nd_neg h o1
  by_cases o20 : sO s0.1 0 = some 32
  · have h := nd_pos h o20
    refine va_get (D := (dC, dI)) (ci := 12) (v := .ref (a 32)) (C := RX11) (T := TX11) (N := 16) hx hb hts hi_dm_X11_startWith_X11 hown hK hP 0 rfl rfl 1 (by decide) (hts (.fieldLink RX11 20 "TimeMachine$Timeline" "events" "LTimeMachine$Events;") (List.mem_of_getElem? (i := 1) rfl)) (fun _ h9 => h9) (congrArg (fun z => some (va_rf (Option.map a z))) o20) dX11_startWith_1 ?_
    refine lv_astore_n (lv' := [(3, .ref (a 32)), (0, .ref (a 0)), (1, .ref (a 38)), (2, .int v1)]) hx hb dX11_startWith_4 rfl hl (by decide) rfl (fun ls hl => ?_)
    refine lv_aload_n hx hb dX11_startWith_5 rfl (lv_at hl 1 rfl) ?_
    refine lv_aload_n hx hb dX11_startWith_6 rfl (lv_at hl 1 rfl) ?_
    by_cases o21 : sO s0.1 1 = some 27
    · have h := nd_pos h o21
      refine va_get (D := (dC, dI)) (ci := 12) (v := .ref (a 27)) (C := RX11) (T := TX11) (N := 16) hx hb hts hi_dm_X11_startWith_X11 hown hK hP 0 rfl rfl 2 (by decide) (hts (.fieldLink RX11 24 "TimeMachine$Timeline" "spareEvents" "LTimeMachine$Events;") (List.mem_of_getElem? (i := 2) rfl)) (fun _ h9 => h9) (congrArg (fun z => some (va_rf (Option.map a z))) o21) dX11_startWith_7 ?_
      refine va_put (D := (dC, dI)) (ci := 12) (v := .ref (a 27)) (ty := .object "TimeMachine$Events") (C := RX11) (T := TX11) (N := 16) hx hb hts hi_dm_X11_startWith_X11 tyX11 tyX11_ok nmX11 hown hK hP hD hS 0 rfl rfl 1 (by decide) (hts (.fieldLink RX11 20 "TimeMachine$Timeline" "events" "LTimeMachine$Events;") (List.mem_of_getElem? (i := 1) rfl)) (fun _ h9 => h9) rfl (by decide +kernel) rfl rfl (Nat.le_of_ble_eq_true rfl) dX11_startWith_10 (fun H locs hP hD hS => ?_)
      obtain ⟨s22, es22, h⟩ := nd_let_e h
      have hP : va_P (dC, dI) vwCl (dw_X11 a ac s22) H := by rw [es22]; exact hP
      have hD : va_D A (dw_X11 a ac s22) := by rw [es22]; exact hD
      have o21 : sO s22.1 1 = some 27 := by rw [es22]; exact o21
      refine lv_aload_n hx hb dX11_startWith_13 rfl (lv_at hl 1 rfl) ?_
      refine lv_aload_n hx hb dX11_startWith_14 rfl (lv_at hl 0 rfl) ?_
      refine va_put (D := (dC, dI)) (ci := 12) (v := .ref (a 32)) (ty := .object "TimeMachine$Events") (C := RX11) (T := TX11) (N := 16) hx hb hts hi_dm_X11_startWith_X11 tyX11 tyX11_ok nmX11 hown hK hP hD hS 0 rfl rfl 2 (by decide) (hts (.fieldLink RX11 24 "TimeMachine$Timeline" "spareEvents" "LTimeMachine$Events;") (List.mem_of_getElem? (i := 2) rfl)) (fun _ h9 => h9) rfl (by decide +kernel) rfl rfl (Nat.le_of_ble_eq_true rfl) dX11_startWith_15 (fun H locs hP hD hS => ?_)
      obtain ⟨s23, es23, h⟩ := nd_let_e h
      have hP : va_P (dC, dI) vwCl (dw_X11 a ac s23) H := by rw [es23]; exact hP
      have hD : va_D A (dw_X11 a ac s23) := by rw [es23]; exact hD
      refine lv_aload_n hx hb dX11_startWith_18 rfl (lv_at hl 1 rfl) ?_
      refine lv_aload_n hx hb dX11_startWith_19 rfl (lv_at hl 2 rfl) ?_
      refine lv_iload_n hx hb dX11_startWith_20 rfl (lv_at hl 3 rfl) ?_
      obtain ⟨s25, hq, h⟩ := nd_b1_e h
      have hPc := hP
      have hDc := hD
      have hKc := hK
      have hFc := nd_rs hD hS hA
      refine nd_cVv (As := [.ref (a 38), .int v1]) (rest := []) (w' := dw_X11 a ac s25) ⟨hx, hb, hml, hown, hts⟩ (fun sz => dm_X11_start l hlt dC dI a ac n (v1) s23 hq sz) (cwV 2 hts gi_dm_X11_startWith_0 rfl rfl rfl (by decide +kernel) ⟨Nat.le_of_ble_eq_true rfl, Nat.le_of_ble_eq_true rfl⟩) hPc hDc hKc hS hA hN (va_recv hKc hPc (ci := 12) (q0 := 0) rfl rfl) rfl hl.1 rfl (Nat.le_of_ble_eq_true rfl) dX11_startWith_21 (fun H locs hP1 hD1 hk1 hS => ?_)
      have hP := hP1
      have hD := hD1.weaken (fun k q _ h => hFc q.1 h)
      refine lv_aload_n hx hb dX11_startWith_24 rfl (lv_at hl 1 rfl) ?_
      obtain ⟨s28, hq, h⟩ := nd_b1_e h
      have hPc := hP
      have hDc := hD
      have hKc := hK
      have hFc := nd_rs hD hS hA
      refine nd_cVv (As := []) (rest := []) (w' := dw_X11 a ac s28) ⟨hx, hb, hml, hown, hts⟩ (fun sz => dm_X11_takeScheduled l hlt dC dI a ac n  s25 hq sz) (cwV 0 hts gi_dm_X11_startWith_1 rfl rfl rfl (by decide +kernel) ⟨Nat.le_of_ble_eq_true rfl, Nat.le_of_ble_eq_true rfl⟩) hPc hDc hKc hS hA hN (va_recv hKc hPc (ci := 12) (q0 := 0) rfl rfl) rfl hl.1 rfl (Nat.le_of_ble_eq_true rfl) dX11_startWith_25 (fun H locs hP1 hD1 hk1 hS => ?_)
      have hP := hP1
      have hD := hD1.weaken (fun k q _ h => hFc q.1 h)
      exact K _ _ _ _ _ dX11_startWith_28 (Option.some.inj h).symm hP hD hS
    have h := nd_neg h o21
    by_cases o30 : sO s0.1 1 = some 32
    · have h := nd_pos h o30
      refine va_get (D := (dC, dI)) (ci := 12) (v := .ref (a 32)) (C := RX11) (T := TX11) (N := 16) hx hb hts hi_dm_X11_startWith_X11 hown hK hP 0 rfl rfl 2 (by decide) (hts (.fieldLink RX11 24 "TimeMachine$Timeline" "spareEvents" "LTimeMachine$Events;") (List.mem_of_getElem? (i := 2) rfl)) (fun _ h9 => h9) (congrArg (fun z => some (va_rf (Option.map a z))) o30) dX11_startWith_7 ?_
      refine va_put (D := (dC, dI)) (ci := 12) (v := .ref (a 32)) (ty := .object "TimeMachine$Events") (C := RX11) (T := TX11) (N := 16) hx hb hts hi_dm_X11_startWith_X11 tyX11 tyX11_ok nmX11 hown hK hP hD hS 0 rfl rfl 1 (by decide) (hts (.fieldLink RX11 20 "TimeMachine$Timeline" "events" "LTimeMachine$Events;") (List.mem_of_getElem? (i := 1) rfl)) (fun _ h9 => h9) rfl (by decide +kernel) rfl rfl (Nat.le_of_ble_eq_true rfl) dX11_startWith_10 (fun H locs hP hD hS => ?_)
      obtain ⟨s31, es31, h⟩ := nd_let_e h
      have hP : va_P (dC, dI) vwCl (dw_X11 a ac s31) H := by rw [es31]; exact hP
      have hD : va_D A (dw_X11 a ac s31) := by rw [es31]; exact hD
      have o30 : sO s31.1 1 = some 32 := by rw [es31]; exact o30
      refine lv_aload_n hx hb dX11_startWith_13 rfl (lv_at hl 1 rfl) ?_
      refine lv_aload_n hx hb dX11_startWith_14 rfl (lv_at hl 0 rfl) ?_
      refine va_put (D := (dC, dI)) (ci := 12) (v := .ref (a 32)) (ty := .object "TimeMachine$Events") (C := RX11) (T := TX11) (N := 16) hx hb hts hi_dm_X11_startWith_X11 tyX11 tyX11_ok nmX11 hown hK hP hD hS 0 rfl rfl 2 (by decide) (hts (.fieldLink RX11 24 "TimeMachine$Timeline" "spareEvents" "LTimeMachine$Events;") (List.mem_of_getElem? (i := 2) rfl)) (fun _ h9 => h9) rfl (by decide +kernel) rfl rfl (Nat.le_of_ble_eq_true rfl) dX11_startWith_15 (fun H locs hP hD hS => ?_)
      obtain ⟨s32, es32, h⟩ := nd_let_e h
      have hP : va_P (dC, dI) vwCl (dw_X11 a ac s32) H := by rw [es32]; exact hP
      have hD : va_D A (dw_X11 a ac s32) := by rw [es32]; exact hD
      refine lv_aload_n hx hb dX11_startWith_18 rfl (lv_at hl 1 rfl) ?_
      refine lv_aload_n hx hb dX11_startWith_19 rfl (lv_at hl 2 rfl) ?_
      refine lv_iload_n hx hb dX11_startWith_20 rfl (lv_at hl 3 rfl) ?_
      obtain ⟨s34, hq, h⟩ := nd_b1_e h
      have hPc := hP
      have hDc := hD
      have hKc := hK
      have hFc := nd_rs hD hS hA
      refine nd_cVv (As := [.ref (a 38), .int v1]) (rest := []) (w' := dw_X11 a ac s34) ⟨hx, hb, hml, hown, hts⟩ (fun sz => dm_X11_start l hlt dC dI a ac n (v1) s32 hq sz) (cwV 2 hts gi_dm_X11_startWith_0 rfl rfl rfl (by decide +kernel) ⟨Nat.le_of_ble_eq_true rfl, Nat.le_of_ble_eq_true rfl⟩) hPc hDc hKc hS hA hN (va_recv hKc hPc (ci := 12) (q0 := 0) rfl rfl) rfl hl.1 rfl (Nat.le_of_ble_eq_true rfl) dX11_startWith_21 (fun H locs hP1 hD1 hk1 hS => ?_)
      have hP := hP1
      have hD := hD1.weaken (fun k q _ h => hFc q.1 h)
      refine lv_aload_n hx hb dX11_startWith_24 rfl (lv_at hl 1 rfl) ?_
      obtain ⟨s37, hq, h⟩ := nd_b1_e h
      have hPc := hP
      have hDc := hD
      have hKc := hK
      have hFc := nd_rs hD hS hA
      refine nd_cVv (As := []) (rest := []) (w' := dw_X11 a ac s37) ⟨hx, hb, hml, hown, hts⟩ (fun sz => dm_X11_takeScheduled l hlt dC dI a ac n  s34 hq sz) (cwV 0 hts gi_dm_X11_startWith_1 rfl rfl rfl (by decide +kernel) ⟨Nat.le_of_ble_eq_true rfl, Nat.le_of_ble_eq_true rfl⟩) hPc hDc hKc hS hA hN (va_recv hKc hPc (ci := 12) (q0 := 0) rfl rfl) rfl hl.1 rfl (Nat.le_of_ble_eq_true rfl) dX11_startWith_25 (fun H locs hP1 hD1 hk1 hS => ?_)
      have hP := hP1
      have hD := hD1.weaken (fun k q _ h => hFc q.1 h)
      exact K _ _ _ _ _ dX11_startWith_28 (Option.some.inj h).symm hP hD hS
    have h := nd_neg h o30
    exact nomatch h
  have h := nd_neg h o20
  exact nomatch h
set_option maxHeartbeats 40000000 in
set_option maxRecDepth 100000 in
theorem dm_X11_startWith (l : Launch) (hlt : l.stackTraces = false) (dC : Nat → ClassId) (dI : Nat → Nat → Nat) (a : Nat → Nat) (ac : Nat → ClassId) (n : Nat) (v1 : Int32) (s0 : St × Rw × (St × (St × (St × (St)))) × (St) × (St) × (Nat → St) × (Nat → St) × (Nat → St × (St))) {r : St × Rw × (St × (St × (St × (St)))) × (St) × (St) × (Nat → St) × (Nat → St) × (Nat → St × (St))} (h : df_X11_startWith n v1 s0 = some r) (sz : Nat) : Met l yX11_startWith ow_dm_X11_startWith ({ frames := 5, cells := 0, slots := 0, locals := 126 }) (va_Pc [.ref (a 0), .ref (a 38), .int v1] (fun U => U.heap.size = sz ∧ va_P (dC, dI) vwCl (dw_X11 a ac s0) U.heap ∧ va_K (dC, dI) vwCl (dk_X11 ac) U ∧ va_D (fun _ => True) (dw_X11 a ac s0) ∧ nv_E dI (va_A (dw_X11 a ac s0) sz) U)) (va_Qv (fun _ => True) (fun (_ : Unit) t => va_P (dC, dI) vwCl (dw_X11 a ac r) t.heap ∧ va_K (dC, dI) vwCl (dk_X11 ac) t ∧ va_D (va_A (dw_X11 a ac s0) sz) (dw_X11 a ac r)) (va_A (dw_X11 a ac s0) sz)) 0 0 (va_A (dw_X11 a ac s0) sz) := by
  refine Met.ofW (cc := cX11_startWith) (maxL := 4) (ret := none) (by decide) rfl ?_
  intro p e s m args below meth c s₁ B hml hv
  obtain ⟨rfl, hsz, hP, hK, hD0, hN⟩ := hv
  have hx := B.exec
  have hb := B.bytes
  have hr := B.returns
  have hts := atoms_spec (ws := ow_dm_X11_startWith) B.pre
  have hown : s.vm.findClass RX11 = some m.cls := findClass_of_methodNamed B.named
  have hlocks := B.notSynchronized
  subst hsz
  have hD := hD0.self (sz := s.heap.size)
  generalize hAe : va_A (dw_X11 a ac s0) s.heap.size = A at hD hN ⊢
  have hA : ∀ q : Nat, s.heap.size ≤ q → A q := fun q h => by rw [← hAe]; exact Or.inr h
  have hl := lv_entry ([.ref (a 0), .ref (a 38), .int v1]) (n := 4) (Nat.le_of_ble_eq_true rfl)
  rw [lg_entry_eq]
  generalize (lg_sl ([.ref (a 0), .ref (a 38), .int v1]) ++ List.replicate (4 - (lg_sl ([.ref (a 0), .ref (a 38), .int v1])).length) Slot.unset).toArray = ls at hl ⊢
  have hl : lv_has ls 4 [(0, .ref (a 0)), (1, .ref (a 38)), (2, .int v1)] := hl
  exact db_X11_startWith_0 (dC := dC) (dI := dI) (a := a) (ac := ac) (n := n) (r := r) ⟨hlt, hx, hb, hml, hown, hts, hN, hA, hK⟩ (fun pc τ H locs ls d er hP hD hS => by subst er; exact W.vret hx hb hr (fun t ht hW => ⟨⟨(), rfl, trivial, by rw [ht]; exact hP, va_K.moved hW.alike hK, hD⟩, hS.F ht⟩) hS.2.2 d) v1 s0 _ _ _ h hP hD va_S.rf (lv_sub hl [0, 1, 2] rfl)
def ow_dm_X11_thinOut : List Cond := Cond.code yX11_thinOut cX11_thinOut 3 none :: ([Cond.fieldLink RX11 85 "TimeMachine$Timeline" "copies" "I", Cond.fieldLink RX11 88 "TimeMachine$Timeline" "spacing" "I", Cond.fieldLink RX11 48 "TimeMachine$Timeline" "copy" "[LTimeMachine$Machine;", Cond.fieldLink RX11 52 "TimeMachine$Timeline" "copyAt" "[I"] ++ (u_ws RX11 TX11 16 ++ []))
theorem gd_dm_X11_thinOut : ∀ w ∈ ow_dm_X11_thinOut, (w.onTables && w.keeps) = true ∨ ∃ ty, w = Cond.arrayClass ty := List.forall_mem_cons.mpr ⟨good_of_word rfl, List.forall_mem_append.mpr ⟨fun w h => good_of_word (List.all_eq_true.mp (by decide +kernel) w h), List.forall_mem_append.mpr ⟨gu_X11, fun _ h => nomatch h⟩⟩⟩
theorem hi_dm_X11_thinOut_X11 : ∀ w ∈ u_ws RX11 TX11 16, w ∈ ow_dm_X11_thinOut := fun w h => List.mem_cons_of_mem _ (List.mem_append_right _ (List.mem_append_left _ h))
def dj_X11_thinOut_2 (p : Program) (l : Launch) (e : Env) (s : State) (m : MethodId) (args : Array Value) (below : List Frame) (meth : Method) (c : Code) (Q : State → Prop) (A : Nat → Prop) (dC : Nat → ClassId) (dI : Nat → Nat → Nat) (a : Nat → Nat) (ac : Nat → ClassId) (g : Int32 → (St × Rw × (St × (St × (St × (St)))) × (St) × (St) × (Nat → St) × (Nat → St) × (Nat → St × (St))) → Option (St × Rw × (St × (St × (St × (St)))) × (St) × (St) × (Nat → St) × (Nat → St) × (Nat → St × (St)))) (r : St × Rw × (St × (St × (St × (St)))) × (St) × (St) × (Nat → St) × (Nat → St) × (Nat → St × (St))) : Prop := ∀ (x1 : Int32) (s0 : St × Rw × (St × (St × (St × (St)))) × (St) × (St) × (Nat → St) × (Nat → St) × (Nat → St × (St))) (H : Heap) (locs : List Loc) (ls : Array Slot), g x1 s0 = some r → va_P (dC, dI) vwCl (dw_X11 a ac s0) H → va_D A (dw_X11 a ac s0) → va_S A s.heap H locs → lv_has ls 3 [(0, .ref (a 0)), (1, .int x1)] → W p l e (headSpec ow_dm_X11_thinOut ({ frames := 0, cells := 0, slots := 0, locals := 0 })).room s m args below meth c H locs 0 0 Q (F0 m 2 ls [])
def dj_X11_thinOut_0 (p : Program) (l : Launch) (e : Env) (s : State) (m : MethodId) (args : Array Value) (below : List Frame) (meth : Method) (c : Code) (Q : State → Prop) (A : Nat → Prop) (dC : Nat → ClassId) (dI : Nat → Nat → Nat) (a : Nat → Nat) (ac : Nat → ClassId) (g : (St × Rw × (St × (St × (St × (St)))) × (St) × (St) × (Nat → St) × (Nat → St) × (Nat → St × (St))) → Option (St × Rw × (St × (St × (St × (St)))) × (St) × (St) × (Nat → St) × (Nat → St) × (Nat → St × (St)))) (r : St × Rw × (St × (St × (St × (St)))) × (St) × (St) × (Nat → St) × (Nat → St) × (Nat → St × (St))) : Prop := ∀ (s0 : St × Rw × (St × (St × (St × (St)))) × (St) × (St) × (Nat → St) × (Nat → St) × (Nat → St × (St))) (H : Heap) (locs : List Loc) (ls : Array Slot), g s0 = some r → va_P (dC, dI) vwCl (dw_X11 a ac s0) H → va_D A (dw_X11 a ac s0) → va_S A s.heap H locs → lv_has ls 3 [(0, .ref (a 0))] → W p l e (headSpec ow_dm_X11_thinOut ({ frames := 0, cells := 0, slots := 0, locals := 0 })).room s m args below meth c H locs 0 0 Q (F0 m 0 ls [])
set_option maxHeartbeats 40000000 in
set_option maxRecDepth 100000 in
theorem dB_X11_thinOut_2 {p : Program} {l : Launch} {e : Env} {s : State} {m : MethodId} {args : Array Value} {below : List Frame} {meth : Method} {c : Code} {Q : State → Prop} {A : Nat → Prop} {dC : Nat → ClassId} {dI : Nat → Nat → Nat} {a : Nat → Nat} {ac : Nat → ClassId} {n : Nat} {r : St × Rw × (St × (St × (St × (St)))) × (St) × (St) × (Nat → St) × (Nat → St) × (Nat → St × (St))} (C : nd_C p l s m args c A (dC, dI) cX11_thinOut 3 RX11 ow_dm_X11_thinOut (dk_X11 ac)) (K : nd_Kv p l e (headSpec ow_dm_X11_thinOut ({ frames := 0, cells := 0, slots := 0, locals := 0 })).room s m args below meth c Q A (dC, dI) cX11_thinOut (St × Rw × (St × (St × (St × (St)))) × (St) × (St) × (Nat → St) × (Nat → St) × (Nat → St × (St))) (dw_X11 a ac) r) {g2 : Int32 → (St × Rw × (St × (St × (St × (St)))) × (St) × (St) × (Nat → St) × (Nat → St) × (Nat → St × (St))) → Option (St × Rw × (St × (St × (St × (St)))) × (St) × (St) × (Nat → St) × (Nat → St) × (Nat → St × (St)))} (J2 : dj_X11_thinOut_2 p l e s m args below meth c Q A dC dI a ac g2 r) : dj_X11_thinOut_2 p l e s m args below meth c Q A dC dI a ac (dF_X11_thinOut_2 n g2) r := by
  obtain ⟨hlt, hx, hb, hml, hown, hts, hN, hA, hK⟩ := id C
  intro x1 s0 H locs ls h hP hD hS hl
  unfold dF_X11_thinOut_2 at h
  refine lv_iconst (v := 2) hx hb dX11_thinOut_2 (by decide) ?_
  refine lv_iload_n hx hb dX11_thinOut_3 rfl (lv_at hl 1 rfl) ?_
  refine lv_imul hx hb dX11_thinOut_4 ?_
  refine lv_bipush (v := 8) hx hb dX11_thinOut_5 (by decide) ?_
  refine lv_icmp_ge (tgt := 60) hx hb dX11_thinOut_7 (by decide) (fun c1 => ?_) (fun c1 => ?_)
  · have h := nd_pos h c1
    refine lv_aload_n hx hb dX11_thinOut_60 rfl (lv_at hl 0 rfl) ?_
    refine lv_iconst (v := 4) hx hb dX11_thinOut_61 (by decide) ?_
    refine va_put (D := (dC, dI)) (ci := 12) (v := .int 4) (ty := .int) (C := RX11) (T := TX11) (N := 16) hx hb hts hi_dm_X11_thinOut_X11 tyX11 tyX11_ok nmX11 hown hK hP hD hS 0 rfl rfl 9 (by decide) (hts (.fieldLink RX11 85 "TimeMachine$Timeline" "copies" "I") (List.mem_of_getElem? (i := 1) rfl)) (fun _ h9 => h9) rfl (by decide +kernel) rfl rfl (Nat.le_of_ble_eq_true rfl) dX11_thinOut_62 (fun H locs hP hD hS => ?_)
    obtain ⟨s2, es2, h⟩ := nd_let_e h
    have hP : va_P (dC, dI) vwCl (dw_X11 a ac s2) H := by rw [es2]; exact hP
    have hD : va_D A (dw_X11 a ac s2) := by rw [es2]; exact hD
    refine lv_aload_n hx hb dX11_thinOut_65 rfl (lv_at hl 0 rfl) ?_
    refine lv_dup hx hb dX11_thinOut_66 rfl ?_
    refine va_get (D := (dC, dI)) (ci := 12) (v := .int (sI s2.1 2)) (C := RX11) (T := TX11) (N := 16) hx hb hts hi_dm_X11_thinOut_X11 hown hK hP 0 rfl rfl 10 (by decide) (hts (.fieldLink RX11 88 "TimeMachine$Timeline" "spacing" "I") (List.mem_of_getElem? (i := 2) rfl)) (fun _ h9 => h9) rfl dX11_thinOut_67 ?_
    refine lv_iconst (v := 2) hx hb dX11_thinOut_70 (by decide) ?_
    refine lv_imul hx hb dX11_thinOut_71 ?_
    refine va_put (D := (dC, dI)) (ci := 12) (v := .int ((sI s2.1 2) * 2)) (ty := .int) (C := RX11) (T := TX11) (N := 16) hx hb hts hi_dm_X11_thinOut_X11 tyX11 tyX11_ok nmX11 hown hK hP hD hS 0 rfl rfl 10 (by decide) (hts (.fieldLink RX11 88 "TimeMachine$Timeline" "spacing" "I") (List.mem_of_getElem? (i := 2) rfl)) (fun _ h9 => h9) rfl (by decide +kernel) rfl rfl (Nat.le_of_ble_eq_true rfl) dX11_thinOut_72 (fun H locs hP hD hS => ?_)
    obtain ⟨s3, es3, h⟩ := nd_let_e h
    have hP : va_P (dC, dI) vwCl (dw_X11 a ac s3) H := by rw [es3]; exact hP
    have hD : va_D A (dw_X11 a ac s3) := by rw [es3]; exact hD
    exact K _ _ _ _ _ dX11_thinOut_75 (Option.some.inj h).symm hP hD hS
  · have h := nd_neg h c1
    refine lv_aload_n hx hb dX11_thinOut_10 rfl (lv_at hl 0 rfl) ?_
    refine va_get (D := (dC, dI)) (ci := 12) (v := .ref (a 40)) (C := RX11) (T := TX11) (N := 16) hx hb hts hi_dm_X11_thinOut_X11 hown hK hP 0 rfl rfl 7 (by decide) (hts (.fieldLink RX11 48 "TimeMachine$Timeline" "copy" "[LTimeMachine$Machine;") (List.mem_of_getElem? (i := 3) rfl)) (fun _ h9 => h9) rfl dX11_thinOut_11 ?_
    refine lv_iload_n hx hb dX11_thinOut_14 rfl (lv_at hl 1 rfl) ?_
    obtain ⟨i4, h⟩ := nd_ck_e h
    refine va_aldq (i := x1) hx hb hK hP 40 33 rfl rfl i4 dX11_thinOut_15 ?_
    cases hrj5 : s0.2.1 3 (Int32.toNatClampNeg x1) with
    | none =>
      have h := nd_mN h hrj5
      refine W.eq (g2 := F0 m 16 ls [.null]) (by first | rfl | (show F0 m _ ls (va_rf (Option.map (fun j => a (0 + j * 20 + 167)) (s0.2.1 3 (Int32.toNatClampNeg x1))) :: _) = _; rw [hrj5]; rfl)) ?_
      refine lv_astore_nN (lv' := [(2, .null), (0, .ref (a 0)), (1, .int x1)]) hx hb dX11_thinOut_16 rfl hl (by decide) rfl (fun ls hl => ?_)
      refine lv_aload_n hx hb dX11_thinOut_17 rfl (lv_at hl 1 rfl) ?_
      refine va_get (D := (dC, dI)) (ci := 12) (v := .ref (a 40)) (C := RX11) (T := TX11) (N := 16) hx hb hts hi_dm_X11_thinOut_X11 hown hK hP 0 rfl rfl 7 (by decide) (hts (.fieldLink RX11 48 "TimeMachine$Timeline" "copy" "[LTimeMachine$Machine;") (List.mem_of_getElem? (i := 3) rfl)) (fun _ h9 => h9) rfl dX11_thinOut_18 ?_
      refine lv_iload_n hx hb dX11_thinOut_21 rfl (lv_at hl 2 rfl) ?_
      refine lv_aload_n hx hb dX11_thinOut_22 rfl (lv_at hl 1 rfl) ?_
      refine va_get (D := (dC, dI)) (ci := 12) (v := .ref (a 40)) (C := RX11) (T := TX11) (N := 16) hx hb hts hi_dm_X11_thinOut_X11 hown hK hP 0 rfl rfl 7 (by decide) (hts (.fieldLink RX11 48 "TimeMachine$Timeline" "copy" "[LTimeMachine$Machine;") (List.mem_of_getElem? (i := 3) rfl)) (fun _ h9 => h9) rfl dX11_thinOut_23 ?_
      refine lv_iconst (v := 2) hx hb dX11_thinOut_26 (by decide) ?_
      refine lv_iload_n hx hb dX11_thinOut_27 rfl (lv_at hl 2 rfl) ?_
      refine lv_imul hx hb dX11_thinOut_28 ?_
      obtain ⟨i6, h⟩ := nd_ck_e h
      refine va_aldq (i := (2 * x1)) hx hb hK hP 40 33 rfl rfl i6 dX11_thinOut_29 ?_
      cases hrj7 : s0.2.1 3 (Int32.toNatClampNeg ((2 * x1) : Int32)) with
      | none =>
        have h := nd_mN h hrj7
        refine W.eq (g2 := F0 m 30 ls [.null, .int x1, .ref (a 40)]) (by first | rfl | (show F0 m _ ls (va_rf (Option.map (fun j => a (0 + j * 20 + 167)) (s0.2.1 3 (Int32.toNatClampNeg ((2 * x1) : Int32)))) :: _) = _; rw [hrj7]; rfl)) ?_
        obtain ⟨i8, h⟩ := nd_ck_e h
        refine va_astqN (i := x1) hx hb hK hP hD hS 40 33 rfl rfl i8 dX11_thinOut_30 (fun H locs hP hD hS => ?_)
        have hP : va_P (dC, dI) vwCl ((dw_X11 a ac s0).set 40 (a 40, .inl (ac 40, 8, .inr (.inr (.inr (.inr (va_up (fun i => Option.map (fun j => a (0 + j * 20 + 167)) (s0.2.1 3 i)) (Int32.toNatClampNeg x1) (Option.map (fun j => a (0 + j * 20 + 167)) none)))))))) H := hP
        have hD : va_D A ((dw_X11 a ac s0).set 40 (a 40, .inl (ac 40, 8, .inr (.inr (.inr (.inr (va_up (fun i => Option.map (fun j => a (0 + j * 20 + 167)) (s0.2.1 3 i)) (Int32.toNatClampNeg x1) (Option.map (fun j => a (0 + j * 20 + 167)) none)))))))) := hD
        rw [nd_up] at hP hD
        obtain ⟨s9, es9, h⟩ := nd_let_e h
        have hP : va_P (dC, dI) vwCl (dw_X11 a ac s9) H := by rw [es9]; exact hP
        have hD : va_D A (dw_X11 a ac s9) := by rw [es9]; exact hD
        refine lv_aload_n hx hb dX11_thinOut_31 rfl (lv_at hl 1 rfl) ?_
        refine va_get (D := (dC, dI)) (ci := 12) (v := .ref (a 40)) (C := RX11) (T := TX11) (N := 16) hx hb hts hi_dm_X11_thinOut_X11 hown hK hP 0 rfl rfl 7 (by decide) (hts (.fieldLink RX11 48 "TimeMachine$Timeline" "copy" "[LTimeMachine$Machine;") (List.mem_of_getElem? (i := 3) rfl)) (fun _ h9 => h9) rfl dX11_thinOut_32 ?_
        refine lv_iconst (v := 2) hx hb dX11_thinOut_35 (by decide) ?_
        refine lv_iload_n hx hb dX11_thinOut_36 rfl (lv_at hl 2 rfl) ?_
        refine lv_imul hx hb dX11_thinOut_37 ?_
        refine lv_aload_nN hx hb dX11_thinOut_38 rfl (lv_at hl 0 rfl) ?_
        obtain ⟨i10, h⟩ := nd_ck_e h
        refine va_astqN (i := (2 * x1)) hx hb hK hP hD hS 40 33 rfl rfl i10 dX11_thinOut_39 (fun H locs hP hD hS => ?_)
        have hP : va_P (dC, dI) vwCl ((dw_X11 a ac s9).set 40 (a 40, .inl (ac 40, 8, .inr (.inr (.inr (.inr (va_up (fun i => Option.map (fun j => a (0 + j * 20 + 167)) (s9.2.1 3 i)) (Int32.toNatClampNeg ((2 * x1) : Int32)) (Option.map (fun j => a (0 + j * 20 + 167)) none)))))))) H := hP
        have hD : va_D A ((dw_X11 a ac s9).set 40 (a 40, .inl (ac 40, 8, .inr (.inr (.inr (.inr (va_up (fun i => Option.map (fun j => a (0 + j * 20 + 167)) (s9.2.1 3 i)) (Int32.toNatClampNeg ((2 * x1) : Int32)) (Option.map (fun j => a (0 + j * 20 + 167)) none)))))))) := hD
        rw [nd_up] at hP hD
        obtain ⟨s11, es11, h⟩ := nd_let_e h
        have hP : va_P (dC, dI) vwCl (dw_X11 a ac s11) H := by rw [es11]; exact hP
        have hD : va_D A (dw_X11 a ac s11) := by rw [es11]; exact hD
        refine lv_aload_n hx hb dX11_thinOut_40 rfl (lv_at hl 1 rfl) ?_
        refine va_get (D := (dC, dI)) (ci := 12) (v := .ref (a 2)) (C := RX11) (T := TX11) (N := 16) hx hb hts hi_dm_X11_thinOut_X11 hown hK hP 0 rfl rfl 8 (by decide) (hts (.fieldLink RX11 52 "TimeMachine$Timeline" "copyAt" "[I") (List.mem_of_getElem? (i := 4) rfl)) (fun _ h9 => h9) rfl dX11_thinOut_41 ?_
        refine lv_iload_n hx hb dX11_thinOut_44 rfl (lv_at hl 2 rfl) ?_
        refine lv_aload_n hx hb dX11_thinOut_45 rfl (lv_at hl 1 rfl) ?_
        refine va_get (D := (dC, dI)) (ci := 12) (v := .ref (a 2)) (C := RX11) (T := TX11) (N := 16) hx hb hts hi_dm_X11_thinOut_X11 hown hK hP 0 rfl rfl 8 (by decide) (hts (.fieldLink RX11 52 "TimeMachine$Timeline" "copyAt" "[I") (List.mem_of_getElem? (i := 4) rfl)) (fun _ h9 => h9) rfl dX11_thinOut_46 ?_
        refine lv_iconst (v := 2) hx hb dX11_thinOut_49 (by decide) ?_
        refine lv_iload_n hx hb dX11_thinOut_50 rfl (lv_at hl 2 rfl) ?_
        refine lv_imul hx hb dX11_thinOut_51 ?_
        obtain ⟨i12, h⟩ := nd_ck_e h
        refine va_iald (i := (2 * x1)) hx hb hK hP 2 1 rfl rfl i12 dX11_thinOut_52 ?_
        obtain ⟨i13, h⟩ := nd_ck_e h
        refine va_iast (i := x1) (x := (sR s11.1 1 (Int32.toNatClampNeg (2 * x1)))) hx hb hK hP hD hS 2 1 rfl rfl i13 dX11_thinOut_53 (fun H locs hP hD hS => ?_)
        obtain ⟨s14, es14, h⟩ := nd_let_e h
        have hP : va_P (dC, dI) vwCl (dw_X11 a ac s14) H := by rw [es14]; exact hP
        have hD : va_D A (dw_X11 a ac s14) := by rw [es14]; exact hD
        obtain ⟨z15, ez15, h⟩ := nd_let_e h
        refine lv_iinc (v := z15) (lv' := [(1, .int z15), (2, .null), (0, .ref (a 0))]) hx hb dX11_thinOut_54 hl (k := 2) rfl (by rw [ez15]) (by decide) rfl (fun ls hl => ?_)
        refine lv_goto (tgt := 2) hx hb dX11_thinOut_57 (by decide) ?_
        exact (J2) (z15) s14 _ _ _ h hP hD hS (lv_sub hl [2, 0] rfl)
      | some j7 =>
        have h := nd_mS h hrj7
        refine W.eq (g2 := F0 m 30 ls [.ref (a (0 + j7 * 20 + 167)), .int x1, .ref (a 40)]) (by first | rfl | (show F0 m _ ls (va_rf (Option.map (fun j => a (0 + j * 20 + 167)) (s0.2.1 3 (Int32.toNatClampNeg ((2 * x1) : Int32)))) :: _) = _; rw [hrj7]; rfl)) ?_
        obtain ⟨i16, h⟩ := nd_ck_e h
        obtain ⟨l17, h⟩ := nd_lt_e h
        obtain ⟨qk, vs, hqk⟩ := dv_X11_C6 (a := a) (ac := ac) (σ := s0) l17
        refine va_astq (i := x1) (r := (RX6, TX6, 20)) hx hb hK hP hD hS 40 33 qk 7 rfl rfl hqk rfl i16 dX11_thinOut_30 (fun H locs hP hD hS => ?_)
        have hP : va_P (dC, dI) vwCl ((dw_X11 a ac s0).set 40 (a 40, .inl (ac 40, 8, .inr (.inr (.inr (.inr (va_up (fun i => Option.map (fun j => a (0 + j * 20 + 167)) (s0.2.1 3 i)) (Int32.toNatClampNeg x1) (Option.map (fun j => a (0 + j * 20 + 167)) (some j7))))))))) H := hP
        have hD : va_D A ((dw_X11 a ac s0).set 40 (a 40, .inl (ac 40, 8, .inr (.inr (.inr (.inr (va_up (fun i => Option.map (fun j => a (0 + j * 20 + 167)) (s0.2.1 3 i)) (Int32.toNatClampNeg x1) (Option.map (fun j => a (0 + j * 20 + 167)) (some j7))))))))) := hD
        rw [nd_up] at hP hD
        obtain ⟨s18, es18, h⟩ := nd_let_e h
        have hP : va_P (dC, dI) vwCl (dw_X11 a ac s18) H := by rw [es18]; exact hP
        have hD : va_D A (dw_X11 a ac s18) := by rw [es18]; exact hD
        refine lv_aload_n hx hb dX11_thinOut_31 rfl (lv_at hl 1 rfl) ?_
        refine va_get (D := (dC, dI)) (ci := 12) (v := .ref (a 40)) (C := RX11) (T := TX11) (N := 16) hx hb hts hi_dm_X11_thinOut_X11 hown hK hP 0 rfl rfl 7 (by decide) (hts (.fieldLink RX11 48 "TimeMachine$Timeline" "copy" "[LTimeMachine$Machine;") (List.mem_of_getElem? (i := 3) rfl)) (fun _ h9 => h9) rfl dX11_thinOut_32 ?_
        refine lv_iconst (v := 2) hx hb dX11_thinOut_35 (by decide) ?_
        refine lv_iload_n hx hb dX11_thinOut_36 rfl (lv_at hl 2 rfl) ?_
        refine lv_imul hx hb dX11_thinOut_37 ?_
        refine lv_aload_nN hx hb dX11_thinOut_38 rfl (lv_at hl 0 rfl) ?_
        obtain ⟨i19, h⟩ := nd_ck_e h
        refine va_astqN (i := (2 * x1)) hx hb hK hP hD hS 40 33 rfl rfl i19 dX11_thinOut_39 (fun H locs hP hD hS => ?_)
        have hP : va_P (dC, dI) vwCl ((dw_X11 a ac s18).set 40 (a 40, .inl (ac 40, 8, .inr (.inr (.inr (.inr (va_up (fun i => Option.map (fun j => a (0 + j * 20 + 167)) (s18.2.1 3 i)) (Int32.toNatClampNeg ((2 * x1) : Int32)) (Option.map (fun j => a (0 + j * 20 + 167)) none)))))))) H := hP
        have hD : va_D A ((dw_X11 a ac s18).set 40 (a 40, .inl (ac 40, 8, .inr (.inr (.inr (.inr (va_up (fun i => Option.map (fun j => a (0 + j * 20 + 167)) (s18.2.1 3 i)) (Int32.toNatClampNeg ((2 * x1) : Int32)) (Option.map (fun j => a (0 + j * 20 + 167)) none)))))))) := hD
        rw [nd_up] at hP hD
        obtain ⟨s20, es20, h⟩ := nd_let_e h
        have hP : va_P (dC, dI) vwCl (dw_X11 a ac s20) H := by rw [es20]; exact hP
        have hD : va_D A (dw_X11 a ac s20) := by rw [es20]; exact hD
        refine lv_aload_n hx hb dX11_thinOut_40 rfl (lv_at hl 1 rfl) ?_
        refine va_get (D := (dC, dI)) (ci := 12) (v := .ref (a 2)) (C := RX11) (T := TX11) (N := 16) hx hb hts hi_dm_X11_thinOut_X11 hown hK hP 0 rfl rfl 8 (by decide) (hts (.fieldLink RX11 52 "TimeMachine$Timeline" "copyAt" "[I") (List.mem_of_getElem? (i := 4) rfl)) (fun _ h9 => h9) rfl dX11_thinOut_41 ?_
        refine lv_iload_n hx hb dX11_thinOut_44 rfl (lv_at hl 2 rfl) ?_
        refine lv_aload_n hx hb dX11_thinOut_45 rfl (lv_at hl 1 rfl) ?_
        refine va_get (D := (dC, dI)) (ci := 12) (v := .ref (a 2)) (C := RX11) (T := TX11) (N := 16) hx hb hts hi_dm_X11_thinOut_X11 hown hK hP 0 rfl rfl 8 (by decide) (hts (.fieldLink RX11 52 "TimeMachine$Timeline" "copyAt" "[I") (List.mem_of_getElem? (i := 4) rfl)) (fun _ h9 => h9) rfl dX11_thinOut_46 ?_
        refine lv_iconst (v := 2) hx hb dX11_thinOut_49 (by decide) ?_
        refine lv_iload_n hx hb dX11_thinOut_50 rfl (lv_at hl 2 rfl) ?_
        refine lv_imul hx hb dX11_thinOut_51 ?_
        obtain ⟨i21, h⟩ := nd_ck_e h
        refine va_iald (i := (2 * x1)) hx hb hK hP 2 1 rfl rfl i21 dX11_thinOut_52 ?_
        obtain ⟨i22, h⟩ := nd_ck_e h
        refine va_iast (i := x1) (x := (sR s20.1 1 (Int32.toNatClampNeg (2 * x1)))) hx hb hK hP hD hS 2 1 rfl rfl i22 dX11_thinOut_53 (fun H locs hP hD hS => ?_)
        obtain ⟨s23, es23, h⟩ := nd_let_e h
        have hP : va_P (dC, dI) vwCl (dw_X11 a ac s23) H := by rw [es23]; exact hP
        have hD : va_D A (dw_X11 a ac s23) := by rw [es23]; exact hD
        obtain ⟨z24, ez24, h⟩ := nd_let_e h
        refine lv_iinc (v := z24) (lv' := [(1, .int z24), (2, .null), (0, .ref (a 0))]) hx hb dX11_thinOut_54 hl (k := 2) rfl (by rw [ez24]) (by decide) rfl (fun ls hl => ?_)
        refine lv_goto (tgt := 2) hx hb dX11_thinOut_57 (by decide) ?_
        exact (J2) (z24) s23 _ _ _ h hP hD hS (lv_sub hl [2, 0] rfl)
    | some j5 =>
      have h := nd_mS h hrj5
      refine W.eq (g2 := F0 m 16 ls [.ref (a (0 + j5 * 20 + 167))]) (by first | rfl | (show F0 m _ ls (va_rf (Option.map (fun j => a (0 + j * 20 + 167)) (s0.2.1 3 (Int32.toNatClampNeg x1))) :: _) = _; rw [hrj5]; rfl)) ?_
      refine lv_astore_n (lv' := [(2, .ref (a (0 + j5 * 20 + 167))), (0, .ref (a 0)), (1, .int x1)]) hx hb dX11_thinOut_16 rfl hl (by decide) rfl (fun ls hl => ?_)
      refine lv_aload_n hx hb dX11_thinOut_17 rfl (lv_at hl 1 rfl) ?_
      refine va_get (D := (dC, dI)) (ci := 12) (v := .ref (a 40)) (C := RX11) (T := TX11) (N := 16) hx hb hts hi_dm_X11_thinOut_X11 hown hK hP 0 rfl rfl 7 (by decide) (hts (.fieldLink RX11 48 "TimeMachine$Timeline" "copy" "[LTimeMachine$Machine;") (List.mem_of_getElem? (i := 3) rfl)) (fun _ h9 => h9) rfl dX11_thinOut_18 ?_
      refine lv_iload_n hx hb dX11_thinOut_21 rfl (lv_at hl 2 rfl) ?_
      refine lv_aload_n hx hb dX11_thinOut_22 rfl (lv_at hl 1 rfl) ?_
      refine va_get (D := (dC, dI)) (ci := 12) (v := .ref (a 40)) (C := RX11) (T := TX11) (N := 16) hx hb hts hi_dm_X11_thinOut_X11 hown hK hP 0 rfl rfl 7 (by decide) (hts (.fieldLink RX11 48 "TimeMachine$Timeline" "copy" "[LTimeMachine$Machine;") (List.mem_of_getElem? (i := 3) rfl)) (fun _ h9 => h9) rfl dX11_thinOut_23 ?_
      refine lv_iconst (v := 2) hx hb dX11_thinOut_26 (by decide) ?_
      refine lv_iload_n hx hb dX11_thinOut_27 rfl (lv_at hl 2 rfl) ?_
      refine lv_imul hx hb dX11_thinOut_28 ?_
      obtain ⟨i25, h⟩ := nd_ck_e h
      refine va_aldq (i := (2 * x1)) hx hb hK hP 40 33 rfl rfl i25 dX11_thinOut_29 ?_
      cases hrj26 : s0.2.1 3 (Int32.toNatClampNeg ((2 * x1) : Int32)) with
      | none =>
        have h := nd_mN h hrj26
        refine W.eq (g2 := F0 m 30 ls [.null, .int x1, .ref (a 40)]) (by first | rfl | (show F0 m _ ls (va_rf (Option.map (fun j => a (0 + j * 20 + 167)) (s0.2.1 3 (Int32.toNatClampNeg ((2 * x1) : Int32)))) :: _) = _; rw [hrj26]; rfl)) ?_
        obtain ⟨i27, h⟩ := nd_ck_e h
        refine va_astqN (i := x1) hx hb hK hP hD hS 40 33 rfl rfl i27 dX11_thinOut_30 (fun H locs hP hD hS => ?_)
        have hP : va_P (dC, dI) vwCl ((dw_X11 a ac s0).set 40 (a 40, .inl (ac 40, 8, .inr (.inr (.inr (.inr (va_up (fun i => Option.map (fun j => a (0 + j * 20 + 167)) (s0.2.1 3 i)) (Int32.toNatClampNeg x1) (Option.map (fun j => a (0 + j * 20 + 167)) none)))))))) H := hP
        have hD : va_D A ((dw_X11 a ac s0).set 40 (a 40, .inl (ac 40, 8, .inr (.inr (.inr (.inr (va_up (fun i => Option.map (fun j => a (0 + j * 20 + 167)) (s0.2.1 3 i)) (Int32.toNatClampNeg x1) (Option.map (fun j => a (0 + j * 20 + 167)) none)))))))) := hD
        rw [nd_up] at hP hD
        obtain ⟨s28, es28, h⟩ := nd_let_e h
        have hP : va_P (dC, dI) vwCl (dw_X11 a ac s28) H := by rw [es28]; exact hP
        have hD : va_D A (dw_X11 a ac s28) := by rw [es28]; exact hD
        refine lv_aload_n hx hb dX11_thinOut_31 rfl (lv_at hl 1 rfl) ?_
        refine va_get (D := (dC, dI)) (ci := 12) (v := .ref (a 40)) (C := RX11) (T := TX11) (N := 16) hx hb hts hi_dm_X11_thinOut_X11 hown hK hP 0 rfl rfl 7 (by decide) (hts (.fieldLink RX11 48 "TimeMachine$Timeline" "copy" "[LTimeMachine$Machine;") (List.mem_of_getElem? (i := 3) rfl)) (fun _ h9 => h9) rfl dX11_thinOut_32 ?_
        refine lv_iconst (v := 2) hx hb dX11_thinOut_35 (by decide) ?_
        refine lv_iload_n hx hb dX11_thinOut_36 rfl (lv_at hl 2 rfl) ?_
        refine lv_imul hx hb dX11_thinOut_37 ?_
        refine lv_aload_n hx hb dX11_thinOut_38 rfl (lv_at hl 0 rfl) ?_
        obtain ⟨i29, h⟩ := nd_ck_e h
        obtain ⟨l30, h⟩ := nd_lt_e h
        obtain ⟨qk, vs, hqk⟩ := dv_X11_C6 (a := a) (ac := ac) (σ := s28) l30
        refine va_astq (i := (2 * x1)) (r := (RX6, TX6, 20)) hx hb hK hP hD hS 40 33 qk 7 rfl rfl hqk rfl i29 dX11_thinOut_39 (fun H locs hP hD hS => ?_)
        have hP : va_P (dC, dI) vwCl ((dw_X11 a ac s28).set 40 (a 40, .inl (ac 40, 8, .inr (.inr (.inr (.inr (va_up (fun i => Option.map (fun j => a (0 + j * 20 + 167)) (s28.2.1 3 i)) (Int32.toNatClampNeg ((2 * x1) : Int32)) (Option.map (fun j => a (0 + j * 20 + 167)) (some j5))))))))) H := hP
        have hD : va_D A ((dw_X11 a ac s28).set 40 (a 40, .inl (ac 40, 8, .inr (.inr (.inr (.inr (va_up (fun i => Option.map (fun j => a (0 + j * 20 + 167)) (s28.2.1 3 i)) (Int32.toNatClampNeg ((2 * x1) : Int32)) (Option.map (fun j => a (0 + j * 20 + 167)) (some j5))))))))) := hD
        rw [nd_up] at hP hD
        obtain ⟨s31, es31, h⟩ := nd_let_e h
        have hP : va_P (dC, dI) vwCl (dw_X11 a ac s31) H := by rw [es31]; exact hP
        have hD : va_D A (dw_X11 a ac s31) := by rw [es31]; exact hD
        refine lv_aload_n hx hb dX11_thinOut_40 rfl (lv_at hl 1 rfl) ?_
        refine va_get (D := (dC, dI)) (ci := 12) (v := .ref (a 2)) (C := RX11) (T := TX11) (N := 16) hx hb hts hi_dm_X11_thinOut_X11 hown hK hP 0 rfl rfl 8 (by decide) (hts (.fieldLink RX11 52 "TimeMachine$Timeline" "copyAt" "[I") (List.mem_of_getElem? (i := 4) rfl)) (fun _ h9 => h9) rfl dX11_thinOut_41 ?_
        refine lv_iload_n hx hb dX11_thinOut_44 rfl (lv_at hl 2 rfl) ?_
        refine lv_aload_n hx hb dX11_thinOut_45 rfl (lv_at hl 1 rfl) ?_
        refine va_get (D := (dC, dI)) (ci := 12) (v := .ref (a 2)) (C := RX11) (T := TX11) (N := 16) hx hb hts hi_dm_X11_thinOut_X11 hown hK hP 0 rfl rfl 8 (by decide) (hts (.fieldLink RX11 52 "TimeMachine$Timeline" "copyAt" "[I") (List.mem_of_getElem? (i := 4) rfl)) (fun _ h9 => h9) rfl dX11_thinOut_46 ?_
        refine lv_iconst (v := 2) hx hb dX11_thinOut_49 (by decide) ?_
        refine lv_iload_n hx hb dX11_thinOut_50 rfl (lv_at hl 2 rfl) ?_
        refine lv_imul hx hb dX11_thinOut_51 ?_
        obtain ⟨i32, h⟩ := nd_ck_e h
        refine va_iald (i := (2 * x1)) hx hb hK hP 2 1 rfl rfl i32 dX11_thinOut_52 ?_
        obtain ⟨i33, h⟩ := nd_ck_e h
        refine va_iast (i := x1) (x := (sR s31.1 1 (Int32.toNatClampNeg (2 * x1)))) hx hb hK hP hD hS 2 1 rfl rfl i33 dX11_thinOut_53 (fun H locs hP hD hS => ?_)
        obtain ⟨s34, es34, h⟩ := nd_let_e h
        have hP : va_P (dC, dI) vwCl (dw_X11 a ac s34) H := by rw [es34]; exact hP
        have hD : va_D A (dw_X11 a ac s34) := by rw [es34]; exact hD
        obtain ⟨z35, ez35, h⟩ := nd_let_e h
        refine lv_iinc (v := z35) (lv' := [(1, .int z35), (2, .ref (a (0 + j5 * 20 + 167))), (0, .ref (a 0))]) hx hb dX11_thinOut_54 hl (k := 2) rfl (by rw [ez35]) (by decide) rfl (fun ls hl => ?_)
        refine lv_goto (tgt := 2) hx hb dX11_thinOut_57 (by decide) ?_
        exact (J2) (z35) s34 _ _ _ h hP hD hS (lv_sub hl [2, 0] rfl)
      | some j26 =>
        have h := nd_mS h hrj26
        refine W.eq (g2 := F0 m 30 ls [.ref (a (0 + j26 * 20 + 167)), .int x1, .ref (a 40)]) (by first | rfl | (show F0 m _ ls (va_rf (Option.map (fun j => a (0 + j * 20 + 167)) (s0.2.1 3 (Int32.toNatClampNeg ((2 * x1) : Int32)))) :: _) = _; rw [hrj26]; rfl)) ?_
        obtain ⟨i36, h⟩ := nd_ck_e h
        obtain ⟨l37, h⟩ := nd_lt_e h
        obtain ⟨qk, vs, hqk⟩ := dv_X11_C6 (a := a) (ac := ac) (σ := s0) l37
        refine va_astq (i := x1) (r := (RX6, TX6, 20)) hx hb hK hP hD hS 40 33 qk 7 rfl rfl hqk rfl i36 dX11_thinOut_30 (fun H locs hP hD hS => ?_)
        have hP : va_P (dC, dI) vwCl ((dw_X11 a ac s0).set 40 (a 40, .inl (ac 40, 8, .inr (.inr (.inr (.inr (va_up (fun i => Option.map (fun j => a (0 + j * 20 + 167)) (s0.2.1 3 i)) (Int32.toNatClampNeg x1) (Option.map (fun j => a (0 + j * 20 + 167)) (some j26))))))))) H := hP
        have hD : va_D A ((dw_X11 a ac s0).set 40 (a 40, .inl (ac 40, 8, .inr (.inr (.inr (.inr (va_up (fun i => Option.map (fun j => a (0 + j * 20 + 167)) (s0.2.1 3 i)) (Int32.toNatClampNeg x1) (Option.map (fun j => a (0 + j * 20 + 167)) (some j26))))))))) := hD
        rw [nd_up] at hP hD
        obtain ⟨s38, es38, h⟩ := nd_let_e h
        have hP : va_P (dC, dI) vwCl (dw_X11 a ac s38) H := by rw [es38]; exact hP
        have hD : va_D A (dw_X11 a ac s38) := by rw [es38]; exact hD
        refine lv_aload_n hx hb dX11_thinOut_31 rfl (lv_at hl 1 rfl) ?_
        refine va_get (D := (dC, dI)) (ci := 12) (v := .ref (a 40)) (C := RX11) (T := TX11) (N := 16) hx hb hts hi_dm_X11_thinOut_X11 hown hK hP 0 rfl rfl 7 (by decide) (hts (.fieldLink RX11 48 "TimeMachine$Timeline" "copy" "[LTimeMachine$Machine;") (List.mem_of_getElem? (i := 3) rfl)) (fun _ h9 => h9) rfl dX11_thinOut_32 ?_
        refine lv_iconst (v := 2) hx hb dX11_thinOut_35 (by decide) ?_
        refine lv_iload_n hx hb dX11_thinOut_36 rfl (lv_at hl 2 rfl) ?_
        refine lv_imul hx hb dX11_thinOut_37 ?_
        refine lv_aload_n hx hb dX11_thinOut_38 rfl (lv_at hl 0 rfl) ?_
        obtain ⟨i39, h⟩ := nd_ck_e h
        obtain ⟨l40, h⟩ := nd_lt_e h
        obtain ⟨qk, vs, hqk⟩ := dv_X11_C6 (a := a) (ac := ac) (σ := s38) l40
        refine va_astq (i := (2 * x1)) (r := (RX6, TX6, 20)) hx hb hK hP hD hS 40 33 qk 7 rfl rfl hqk rfl i39 dX11_thinOut_39 (fun H locs hP hD hS => ?_)
        have hP : va_P (dC, dI) vwCl ((dw_X11 a ac s38).set 40 (a 40, .inl (ac 40, 8, .inr (.inr (.inr (.inr (va_up (fun i => Option.map (fun j => a (0 + j * 20 + 167)) (s38.2.1 3 i)) (Int32.toNatClampNeg ((2 * x1) : Int32)) (Option.map (fun j => a (0 + j * 20 + 167)) (some j5))))))))) H := hP
        have hD : va_D A ((dw_X11 a ac s38).set 40 (a 40, .inl (ac 40, 8, .inr (.inr (.inr (.inr (va_up (fun i => Option.map (fun j => a (0 + j * 20 + 167)) (s38.2.1 3 i)) (Int32.toNatClampNeg ((2 * x1) : Int32)) (Option.map (fun j => a (0 + j * 20 + 167)) (some j5))))))))) := hD
        rw [nd_up] at hP hD
        obtain ⟨s41, es41, h⟩ := nd_let_e h
        have hP : va_P (dC, dI) vwCl (dw_X11 a ac s41) H := by rw [es41]; exact hP
        have hD : va_D A (dw_X11 a ac s41) := by rw [es41]; exact hD
        refine lv_aload_n hx hb dX11_thinOut_40 rfl (lv_at hl 1 rfl) ?_
        refine va_get (D := (dC, dI)) (ci := 12) (v := .ref (a 2)) (C := RX11) (T := TX11) (N := 16) hx hb hts hi_dm_X11_thinOut_X11 hown hK hP 0 rfl rfl 8 (by decide) (hts (.fieldLink RX11 52 "TimeMachine$Timeline" "copyAt" "[I") (List.mem_of_getElem? (i := 4) rfl)) (fun _ h9 => h9) rfl dX11_thinOut_41 ?_
        refine lv_iload_n hx hb dX11_thinOut_44 rfl (lv_at hl 2 rfl) ?_
        refine lv_aload_n hx hb dX11_thinOut_45 rfl (lv_at hl 1 rfl) ?_
        refine va_get (D := (dC, dI)) (ci := 12) (v := .ref (a 2)) (C := RX11) (T := TX11) (N := 16) hx hb hts hi_dm_X11_thinOut_X11 hown hK hP 0 rfl rfl 8 (by decide) (hts (.fieldLink RX11 52 "TimeMachine$Timeline" "copyAt" "[I") (List.mem_of_getElem? (i := 4) rfl)) (fun _ h9 => h9) rfl dX11_thinOut_46 ?_
        refine lv_iconst (v := 2) hx hb dX11_thinOut_49 (by decide) ?_
        refine lv_iload_n hx hb dX11_thinOut_50 rfl (lv_at hl 2 rfl) ?_
        refine lv_imul hx hb dX11_thinOut_51 ?_
        obtain ⟨i42, h⟩ := nd_ck_e h
        refine va_iald (i := (2 * x1)) hx hb hK hP 2 1 rfl rfl i42 dX11_thinOut_52 ?_
        obtain ⟨i43, h⟩ := nd_ck_e h
        refine va_iast (i := x1) (x := (sR s41.1 1 (Int32.toNatClampNeg (2 * x1)))) hx hb hK hP hD hS 2 1 rfl rfl i43 dX11_thinOut_53 (fun H locs hP hD hS => ?_)
        obtain ⟨s44, es44, h⟩ := nd_let_e h
        have hP : va_P (dC, dI) vwCl (dw_X11 a ac s44) H := by rw [es44]; exact hP
        have hD : va_D A (dw_X11 a ac s44) := by rw [es44]; exact hD
        obtain ⟨z45, ez45, h⟩ := nd_let_e h
        refine lv_iinc (v := z45) (lv' := [(1, .int z45), (2, .ref (a (0 + j5 * 20 + 167))), (0, .ref (a 0))]) hx hb dX11_thinOut_54 hl (k := 2) rfl (by rw [ez45]) (by decide) rfl (fun ls hl => ?_)
        refine lv_goto (tgt := 2) hx hb dX11_thinOut_57 (by decide) ?_
        exact (J2) (z45) s44 _ _ _ h hP hD hS (lv_sub hl [2, 0] rfl)
set_option maxHeartbeats 40000000 in
set_option maxRecDepth 100000 in
theorem db_X11_thinOut_2 {p : Program} {l : Launch} {e : Env} {s : State} {m : MethodId} {args : Array Value} {below : List Frame} {meth : Method} {c : Code} {Q : State → Prop} {A : Nat → Prop} {dC : Nat → ClassId} {dI : Nat → Nat → Nat} {a : Nat → Nat} {ac : Nat → ClassId} {n : Nat} {r : St × Rw × (St × (St × (St × (St)))) × (St) × (St) × (Nat → St) × (Nat → St) × (Nat → St × (St))} (C : nd_C p l s m args c A (dC, dI) cX11_thinOut 3 RX11 ow_dm_X11_thinOut (dk_X11 ac)) (K : nd_Kv p l e (headSpec ow_dm_X11_thinOut ({ frames := 0, cells := 0, slots := 0, locals := 0 })).room s m args below meth c Q A (dC, dI) cX11_thinOut (St × Rw × (St × (St × (St × (St)))) × (St) × (St) × (Nat → St) × (Nat → St) × (Nat → St × (St))) (dw_X11 a ac) r) (k : Nat) : dj_X11_thinOut_2 p l e s m args below meth c Q A dC dI a ac (df_X11_thinOut_2 n k) r := by
  induction k with
  | zero => intro x1 s0 H locs ls h; exact nomatch (show (none : Option (St × Rw × (St × (St × (St × (St)))) × (St) × (St) × (Nat → St) × (Nat → St) × (Nat → St × (St)))) = some r from h)
  | succ k ih => exact dB_X11_thinOut_2 C K ih
set_option maxHeartbeats 40000000 in
set_option maxRecDepth 100000 in
theorem db_X11_thinOut_0 {p : Program} {l : Launch} {e : Env} {s : State} {m : MethodId} {args : Array Value} {below : List Frame} {meth : Method} {c : Code} {Q : State → Prop} {A : Nat → Prop} {dC : Nat → ClassId} {dI : Nat → Nat → Nat} {a : Nat → Nat} {ac : Nat → ClassId} {n : Nat} {r : St × Rw × (St × (St × (St × (St)))) × (St) × (St) × (Nat → St) × (Nat → St) × (Nat → St × (St))} (C : nd_C p l s m args c A (dC, dI) cX11_thinOut 3 RX11 ow_dm_X11_thinOut (dk_X11 ac)) (K : nd_Kv p l e (headSpec ow_dm_X11_thinOut ({ frames := 0, cells := 0, slots := 0, locals := 0 })).room s m args below meth c Q A (dC, dI) cX11_thinOut (St × Rw × (St × (St × (St × (St)))) × (St) × (St) × (Nat → St) × (Nat → St) × (Nat → St × (St))) (dw_X11 a ac) r) : dj_X11_thinOut_0 p l e s m args below meth c Q A dC dI a ac (df_X11_thinOut_0 n) r := by
  obtain ⟨hlt, hx, hb, hml, hown, hts, hN, hA, hK⟩ := id C
  intro s0 H locs ls h hP hD hS hl
  unfold df_X11_thinOut_0 at h
  refine lv_iconst (v := 1) hx hb dX11_thinOut_0 (by decide) ?_
  refine lv_istore_n (lv' := [(1, .int 1), (0, .ref (a 0))]) hx hb dX11_thinOut_1 rfl hl (by decide) rfl (fun ls hl => ?_)
  exact (db_X11_thinOut_2 C K n) (1) s0 _ _ _ h hP hD hS (lv_sub hl [1, 0] rfl)
set_option maxHeartbeats 40000000 in
set_option maxRecDepth 100000 in
theorem dm_X11_thinOut (l : Launch) (hlt : l.stackTraces = false) (dC : Nat → ClassId) (dI : Nat → Nat → Nat) (a : Nat → Nat) (ac : Nat → ClassId) (n : Nat) (s0 : St × Rw × (St × (St × (St × (St)))) × (St) × (St) × (Nat → St) × (Nat → St) × (Nat → St × (St))) {r : St × Rw × (St × (St × (St × (St)))) × (St) × (St) × (Nat → St) × (Nat → St) × (Nat → St × (St))} (h : df_X11_thinOut n s0 = some r) (sz : Nat) : Met l yX11_thinOut ow_dm_X11_thinOut ({ frames := 0, cells := 0, slots := 0, locals := 0 }) (va_Pc [.ref (a 0)] (fun U => U.heap.size = sz ∧ va_P (dC, dI) vwCl (dw_X11 a ac s0) U.heap ∧ va_K (dC, dI) vwCl (dk_X11 ac) U ∧ va_D (fun _ => True) (dw_X11 a ac s0) ∧ nv_E dI (va_A (dw_X11 a ac s0) sz) U)) (va_Qv (fun _ => True) (fun (_ : Unit) t => va_P (dC, dI) vwCl (dw_X11 a ac r) t.heap ∧ va_K (dC, dI) vwCl (dk_X11 ac) t ∧ va_D (va_A (dw_X11 a ac s0) sz) (dw_X11 a ac r)) (va_A (dw_X11 a ac s0) sz)) 0 0 (va_A (dw_X11 a ac s0) sz) := by
  refine Met.ofW (cc := cX11_thinOut) (maxL := 3) (ret := none) (by decide) rfl ?_
  intro p e s m args below meth c s₁ B hml hv
  obtain ⟨rfl, hsz, hP, hK, hD0, hN⟩ := hv
  have hx := B.exec
  have hb := B.bytes
  have hr := B.returns
  have hts := atoms_spec (ws := ow_dm_X11_thinOut) B.pre
  have hown : s.vm.findClass RX11 = some m.cls := findClass_of_methodNamed B.named
  have hlocks := B.notSynchronized
  subst hsz
  have hD := hD0.self (sz := s.heap.size)
  generalize hAe : va_A (dw_X11 a ac s0) s.heap.size = A at hD hN ⊢
  have hA : ∀ q : Nat, s.heap.size ≤ q → A q := fun q h => by rw [← hAe]; exact Or.inr h
  have hl := lv_entry ([.ref (a 0)]) (n := 3) (Nat.le_of_ble_eq_true rfl)
  rw [lg_entry_eq]
  generalize (lg_sl ([.ref (a 0)]) ++ List.replicate (3 - (lg_sl ([.ref (a 0)])).length) Slot.unset).toArray = ls at hl ⊢
  have hl : lv_has ls 3 [(0, .ref (a 0))] := hl
  exact db_X11_thinOut_0 (dC := dC) (dI := dI) (a := a) (ac := ac) (n := n) (r := r) ⟨hlt, hx, hb, hml, hown, hts, hN, hA, hK⟩ (fun pc τ H locs ls d er hP hD hS => by subst er; exact W.vret hx hb hr (fun t ht hW => ⟨⟨(), rfl, trivial, by rw [ht]; exact hP, va_K.moved hW.alike hK, hD⟩, hS.F ht⟩) hS.2.2 d) s0 _ _ _ h hP hD va_S.rf (lv_sub hl [0] rfl)
def ow_dm_X11_takeRecorded : List Cond := Cond.code yX11_takeRecorded cX11_takeRecorded 1 none :: ([Cond.fieldLink RX11 79 "TimeMachine$Timeline" "came" "I", Cond.fieldLink RX11 20 "TimeMachine$Timeline" "events" "LTimeMachine$Events;", Cond.fieldLink RX11 116 "TimeMachine$Events" "recorded" "I", Cond.fieldLink RX11 72 "TimeMachine$Timeline" "now" "I", Cond.methodLink RX11 119 yX3_isAt, Cond.instanceMethod yX3_isAt, Cond.selects RX3 yX3_isAt yX3_isAt, Cond.initialized RX3, Cond.fieldLink RX11 39 "TimeMachine$Timeline" "kernel" "LTimeMachine$Kernel;", Cond.fieldLink RX11 123 "TimeMachine$Events" "kind" "[I", Cond.fieldLink RX11 126 "TimeMachine$Events" "a" "[J", Cond.fieldLink RX11 130 "TimeMachine$Events" "b" "[I", Cond.methodLink RX11 133 yX5_come, Cond.instanceMethod yX5_come, Cond.selects RX5 yX5_come yX5_come, Cond.initialized RX5] ++ (u_ws RX11 TX11 16 ++ (u_ws RX3 TX3 11 ++ (ow_dm_X3_isAt ++ (ow_dm_X5_come ++ [])))))
theorem gd_dm_X11_takeRecorded : ∀ w ∈ ow_dm_X11_takeRecorded, (w.onTables && w.keeps) = true ∨ ∃ ty, w = Cond.arrayClass ty := List.forall_mem_cons.mpr ⟨good_of_word rfl, List.forall_mem_append.mpr ⟨fun w h => good_of_word (List.all_eq_true.mp (by decide +kernel) w h), List.forall_mem_append.mpr ⟨gu_X11, List.forall_mem_append.mpr ⟨gu_X3, List.forall_mem_append.mpr ⟨gd_dm_X3_isAt, List.forall_mem_append.mpr ⟨gd_dm_X5_come, fun _ h => nomatch h⟩⟩⟩⟩⟩⟩
theorem hi_dm_X11_takeRecorded_X11 : ∀ w ∈ u_ws RX11 TX11 16, w ∈ ow_dm_X11_takeRecorded := fun w h => List.mem_cons_of_mem _ (List.mem_append_right _ (List.mem_append_left _ h))
theorem hi_dm_X11_takeRecorded_X3 : ∀ w ∈ u_ws RX3 TX3 11, w ∈ ow_dm_X11_takeRecorded := fun w h => List.mem_cons_of_mem _ (List.mem_append_right _ (List.mem_append_right _ (List.mem_append_left _ h)))
theorem gi_dm_X11_takeRecorded_0 : GoodIn ow_dm_X11_takeRecorded (wsV RX11 119 RX3 yX3_isAt ow_dm_X3_isAt) := goodIn_app (goodIn_of _ (by decide +kernel)) (fun w h => ⟨List.mem_cons_of_mem _ (List.mem_append_right _ (List.mem_append_right _ (List.mem_append_right _ (List.mem_append_left _ h)))), gd_dm_X3_isAt w h⟩)
theorem gi_dm_X11_takeRecorded_1 : GoodIn ow_dm_X11_takeRecorded (wsV RX11 133 RX5 yX5_come ow_dm_X5_come) := goodIn_app (goodIn_of _ (by decide +kernel)) (fun w h => ⟨List.mem_cons_of_mem _ (List.mem_append_right _ (List.mem_append_right _ (List.mem_append_right _ (List.mem_append_right _ (List.mem_append_left _ h))))), gd_dm_X5_come w h⟩)
def dj_X11_takeRecorded_89 (p : Program) (l : Launch) (e : Env) (s : State) (m : MethodId) (args : Array Value) (below : List Frame) (meth : Method) (c : Code) (Q : State → Prop) (A : Nat → Prop) (dC : Nat → ClassId) (dI : Nat → Nat → Nat) (a : Nat → Nat) (ac : Nat → ClassId) (g : (St × Rw × (St × (St × (St × (St)))) × (St) × (St) × (Nat → St) × (Nat → St) × (Nat → St × (St))) → Option (St × Rw × (St × (St × (St × (St)))) × (St) × (St) × (Nat → St) × (Nat → St) × (Nat → St × (St)))) (r : St × Rw × (St × (St × (St × (St)))) × (St) × (St) × (Nat → St) × (Nat → St) × (Nat → St × (St))) : Prop := ∀ (s0 : St × Rw × (St × (St × (St × (St)))) × (St) × (St) × (Nat → St) × (Nat → St) × (Nat → St × (St))) (H : Heap) (locs : List Loc) (ls : Array Slot), g s0 = some r → va_P (dC, dI) vwCl (dw_X11 a ac s0) H → va_D A (dw_X11 a ac s0) → va_S A s.heap H locs → lv_has ls 1 [] → W p l e (headSpec ow_dm_X11_takeRecorded ({ frames := 4, cells := 0, slots := 0, locals := 95 })).room s m args below meth c H locs 0 0 Q (F0 m 89 ls [])
def dj_X11_takeRecorded_0 (p : Program) (l : Launch) (e : Env) (s : State) (m : MethodId) (args : Array Value) (below : List Frame) (meth : Method) (c : Code) (Q : State → Prop) (A : Nat → Prop) (dC : Nat → ClassId) (dI : Nat → Nat → Nat) (a : Nat → Nat) (ac : Nat → ClassId) (g : (St × Rw × (St × (St × (St × (St)))) × (St) × (St) × (Nat → St) × (Nat → St) × (Nat → St × (St))) → Option (St × Rw × (St × (St × (St × (St)))) × (St) × (St) × (Nat → St) × (Nat → St) × (Nat → St × (St)))) (r : St × Rw × (St × (St × (St × (St)))) × (St) × (St) × (Nat → St) × (Nat → St) × (Nat → St × (St))) : Prop := ∀ (s0 : St × Rw × (St × (St × (St × (St)))) × (St) × (St) × (Nat → St) × (Nat → St) × (Nat → St × (St))) (H : Heap) (locs : List Loc) (ls : Array Slot), g s0 = some r → va_P (dC, dI) vwCl (dw_X11 a ac s0) H → va_D A (dw_X11 a ac s0) → va_S A s.heap H locs → lv_has ls 1 [(0, .ref (a 0))] → W p l e (headSpec ow_dm_X11_takeRecorded ({ frames := 4, cells := 0, slots := 0, locals := 95 })).room s m args below meth c H locs 0 0 Q (F0 m 0 ls [])
set_option maxHeartbeats 40000000 in
set_option maxRecDepth 100000 in
theorem db_X11_takeRecorded_89 {p : Program} {l : Launch} {e : Env} {s : State} {m : MethodId} {args : Array Value} {below : List Frame} {meth : Method} {c : Code} {Q : State → Prop} {A : Nat → Prop} {dC : Nat → ClassId} {dI : Nat → Nat → Nat} {a : Nat → Nat} {ac : Nat → ClassId} {n : Nat} {r : St × Rw × (St × (St × (St × (St)))) × (St) × (St) × (Nat → St) × (Nat → St) × (Nat → St × (St))} (C : nd_C p l s m args c A (dC, dI) cX11_takeRecorded 1 RX11 ow_dm_X11_takeRecorded (dk_X11 ac)) (K : nd_Kv p l e (headSpec ow_dm_X11_takeRecorded ({ frames := 4, cells := 0, slots := 0, locals := 95 })).room s m args below meth c Q A (dC, dI) cX11_takeRecorded (St × Rw × (St × (St × (St × (St)))) × (St) × (St) × (Nat → St) × (Nat → St) × (Nat → St × (St))) (dw_X11 a ac) r) : dj_X11_takeRecorded_89 p l e s m args below meth c Q A dC dI a ac (df_X11_takeRecorded_89 n) r := by
  obtain ⟨hlt, hx, hb, hml, hown, hts, hN, hA, hK⟩ := id C
  intro s0 H locs ls h hP hD hS hl
  unfold df_X11_takeRecorded_89 at h
  exact K _ _ _ _ _ dX11_takeRecorded_89 (Option.some.inj h).symm hP hD hS
set_option maxHeartbeats 40000000 in
set_option maxRecDepth 100000 in
theorem dB_X11_takeRecorded_0 {p : Program} {l : Launch} {e : Env} {s : State} {m : MethodId} {args : Array Value} {below : List Frame} {meth : Method} {c : Code} {Q : State → Prop} {A : Nat → Prop} {dC : Nat → ClassId} {dI : Nat → Nat → Nat} {a : Nat → Nat} {ac : Nat → ClassId} {n : Nat} {r : St × Rw × (St × (St × (St × (St)))) × (St) × (St) × (Nat → St) × (Nat → St) × (Nat → St × (St))} (C : nd_C p l s m args c A (dC, dI) cX11_takeRecorded 1 RX11 ow_dm_X11_takeRecorded (dk_X11 ac)) (K : nd_Kv p l e (headSpec ow_dm_X11_takeRecorded ({ frames := 4, cells := 0, slots := 0, locals := 95 })).room s m args below meth c Q A (dC, dI) cX11_takeRecorded (St × Rw × (St × (St × (St × (St)))) × (St) × (St) × (Nat → St) × (Nat → St) × (Nat → St × (St))) (dw_X11 a ac) r) {g0 : (St × Rw × (St × (St × (St × (St)))) × (St) × (St) × (Nat → St) × (Nat → St) × (Nat → St × (St))) → Option (St × Rw × (St × (St × (St × (St)))) × (St) × (St) × (Nat → St) × (Nat → St) × (Nat → St × (St)))} (J0 : dj_X11_takeRecorded_0 p l e s m args below meth c Q A dC dI a ac g0 r) : dj_X11_takeRecorded_0 p l e s m args below meth c Q A dC dI a ac (dF_X11_takeRecorded_0 n g0) r := by
  obtain ⟨hlt, hx, hb, hml, hown, hts, hN, hA, hK⟩ := id C
  intro s0 H locs ls h hP hD hS hl
  unfold dF_X11_takeRecorded_0 at h
  refine lv_aload_n hx hb dX11_takeRecorded_0 rfl (lv_at hl 0 rfl) ?_
  refine va_get (D := (dC, dI)) (ci := 12) (v := .int (sI s0.1 5)) (C := RX11) (T := TX11) (N := 16) hx hb hts hi_dm_X11_takeRecorded_X11 hown hK hP 0 rfl rfl 13 (by decide) (hts (.fieldLink RX11 79 "TimeMachine$Timeline" "came" "I") (List.mem_of_getElem? (i := 1) rfl)) (fun _ h9 => h9) rfl dX11_takeRecorded_1 ?_
  refine lv_aload_n hx hb dX11_takeRecorded_4 rfl (lv_at hl 0 rfl) ?_
  by_cases o1 : sO s0.1 0 = some 27
  · have h := nd_pos h o1
    refine va_get (D := (dC, dI)) (ci := 12) (v := .ref (a 27)) (C := RX11) (T := TX11) (N := 16) hx hb hts hi_dm_X11_takeRecorded_X11 hown hK hP 0 rfl rfl 1 (by decide) (hts (.fieldLink RX11 20 "TimeMachine$Timeline" "events" "LTimeMachine$Events;") (List.mem_of_getElem? (i := 2) rfl)) (fun _ h9 => h9) (congrArg (fun z => some (va_rf (Option.map a z))) o1) dX11_takeRecorded_5 ?_
    refine va_get (D := (dC, dI)) (ci := 4) (v := .int (sI s0.2.2.2.1 0)) (C := RX3) (T := TX3) (N := 11) hx hb hts hi_dm_X11_takeRecorded_X3 hown hK hP 27 rfl rfl 4 (by decide) (hts (.fieldLink RX11 116 "TimeMachine$Events" "recorded" "I") (List.mem_of_getElem? (i := 3) rfl)) (fun _ h9 => h9) rfl dX11_takeRecorded_8 ?_
    refine lv_icmp_ge (tgt := 89) hx hb dX11_takeRecorded_11 (by decide) (fun c2 => ?_) (fun c2 => ?_)
    · have h := nd_pos h c2
      exact (db_X11_takeRecorded_89 C K)  s0 _ _ _ h hP hD hS (lv_sub hl [] rfl)
    · have h := nd_neg h c2
      refine lv_aload_n hx hb dX11_takeRecorded_14 rfl (lv_at hl 0 rfl) ?_
      refine va_get (D := (dC, dI)) (ci := 12) (v := .ref (a 27)) (C := RX11) (T := TX11) (N := 16) hx hb hts hi_dm_X11_takeRecorded_X11 hown hK hP 0 rfl rfl 1 (by decide) (hts (.fieldLink RX11 20 "TimeMachine$Timeline" "events" "LTimeMachine$Events;") (List.mem_of_getElem? (i := 2) rfl)) (fun _ h9 => h9) (congrArg (fun z => some (va_rf (Option.map a z))) o1) dX11_takeRecorded_15 ?_
      refine lv_aload_n hx hb dX11_takeRecorded_18 rfl (lv_at hl 0 rfl) ?_
      refine va_get (D := (dC, dI)) (ci := 12) (v := .int (sI s0.1 5)) (C := RX11) (T := TX11) (N := 16) hx hb hts hi_dm_X11_takeRecorded_X11 hown hK hP 0 rfl rfl 13 (by decide) (hts (.fieldLink RX11 79 "TimeMachine$Timeline" "came" "I") (List.mem_of_getElem? (i := 1) rfl)) (fun _ h9 => h9) rfl dX11_takeRecorded_19 ?_
      refine lv_aload_n hx hb dX11_takeRecorded_22 rfl (lv_at hl 0 rfl) ?_
      refine va_get (D := (dC, dI)) (ci := 12) (v := .int (sI s0.1 3)) (C := RX11) (T := TX11) (N := 16) hx hb hts hi_dm_X11_takeRecorded_X11 hown hK hP 0 rfl rfl 11 (by decide) (hts (.fieldLink RX11 72 "TimeMachine$Timeline" "now" "I") (List.mem_of_getElem? (i := 4) rfl)) (fun _ h9 => h9) rfl dX11_takeRecorded_23 ?_
      obtain ⟨q3, s4, hq, h⟩ := nd_b2_e h
      have hPc := dp_wX11_X3c_5 hP
      have hDc := dd_wX11_X3c_5 hD
      have hKc := dy_wX11_X3c_5 hK
      have hFc := nd_rs hDc hS hA
      have hzA : ∀ q : Nat, H.size ≤ q → A q := fun q h => hA q (Nat.le_trans hS.1 h)
      refine nd_cVi (As := [.int (sI s0.1 5), .int (sI s0.1 3)]) (rest := []) (q := q3) (w' := dw_X3c (fun k => a (k + 27)) (fun k => ac (k + 27)) s4) ⟨hx, hb, hml, hown, hts⟩ (fun sz => dm_X3_isAt l hlt dC dI (fun k => a (k + 27)) (fun k => ac (k + 27)) n ((sI s0.1 5)) ((sI s0.1 3)) s0.2.2.2.1 hq sz) (cwV 2 hts gi_dm_X11_takeRecorded_0 rfl rfl rfl (by decide +kernel) ⟨Nat.le_of_ble_eq_true rfl, Nat.le_of_ble_eq_true rfl⟩) hPc hDc hKc hS hA hN (va_recv hKc hPc (ci := 4) (q0 := 0) rfl rfl) rfl hl.1 rfl (Nat.le_of_ble_eq_true rfl) dX11_takeRecorded_26 (fun H locs hP1 hD1 hk1 hS => ?_)
      obtain ⟨hP, hD⟩ := dn_wX11_X3c_5 hP hD hzA hk1 hP1 hD1
      obtain ⟨s6, es6, h⟩ := nd_let_e h
      have hP : va_P (dC, dI) vwCl (dw_X11 a ac s6) H := by rw [es6]; exact hP
      have hD : va_D A (dw_X11 a ac s6) := by rw [es6]; exact hD
      have o1 : sO s6.1 0 = some 27 := by rw [es6]; exact o1
      refine lv_if_eq (tgt := 89) hx hb dX11_takeRecorded_29 (by decide) (fun c7 => ?_) (fun c7 => ?_)
      · have h := nd_pos h c7
        exact (db_X11_takeRecorded_89 C K)  s6 _ _ _ h hP hD hS (lv_sub hl [] rfl)
      · have h := nd_neg h c7
        refine lv_aload_n hx hb dX11_takeRecorded_32 rfl (lv_at hl 0 rfl) ?_
        refine va_get (D := (dC, dI)) (ci := 12) (v := .ref (a 3)) (C := RX11) (T := TX11) (N := 16) hx hb hts hi_dm_X11_takeRecorded_X11 hown hK hP 0 rfl rfl 4 (by decide) (hts (.fieldLink RX11 39 "TimeMachine$Timeline" "kernel" "LTimeMachine$Kernel;") (List.mem_of_getElem? (i := 9) rfl)) (fun _ h9 => h9) rfl dX11_takeRecorded_33 ?_
        refine lv_aload_n hx hb dX11_takeRecorded_36 rfl (lv_at hl 0 rfl) ?_
        refine va_get (D := (dC, dI)) (ci := 12) (v := .ref (a 27)) (C := RX11) (T := TX11) (N := 16) hx hb hts hi_dm_X11_takeRecorded_X11 hown hK hP 0 rfl rfl 1 (by decide) (hts (.fieldLink RX11 20 "TimeMachine$Timeline" "events" "LTimeMachine$Events;") (List.mem_of_getElem? (i := 2) rfl)) (fun _ h9 => h9) (congrArg (fun z => some (va_rf (Option.map a z))) o1) dX11_takeRecorded_37 ?_
        refine va_get (D := (dC, dI)) (ci := 4) (v := .ref (a 28)) (C := RX3) (T := TX3) (N := 11) hx hb hts hi_dm_X11_takeRecorded_X3 hown hK hP 27 rfl rfl 0 (by decide) (hts (.fieldLink RX11 123 "TimeMachine$Events" "kind" "[I") (List.mem_of_getElem? (i := 10) rfl)) (fun _ h9 => h9) rfl dX11_takeRecorded_40 ?_
        refine lv_aload_n hx hb dX11_takeRecorded_43 rfl (lv_at hl 0 rfl) ?_
        refine va_get (D := (dC, dI)) (ci := 12) (v := .int (sI s6.1 5)) (C := RX11) (T := TX11) (N := 16) hx hb hts hi_dm_X11_takeRecorded_X11 hown hK hP 0 rfl rfl 13 (by decide) (hts (.fieldLink RX11 79 "TimeMachine$Timeline" "came" "I") (List.mem_of_getElem? (i := 1) rfl)) (fun _ h9 => h9) rfl dX11_takeRecorded_44 ?_
        obtain ⟨i8, h⟩ := nd_ck_e h
        refine va_iald (i := (sI s6.1 5)) hx hb hK hP 28 22 rfl rfl i8 dX11_takeRecorded_47 ?_
        refine lv_aload_n hx hb dX11_takeRecorded_48 rfl (lv_at hl 0 rfl) ?_
        refine va_get (D := (dC, dI)) (ci := 12) (v := .ref (a 27)) (C := RX11) (T := TX11) (N := 16) hx hb hts hi_dm_X11_takeRecorded_X11 hown hK hP 0 rfl rfl 1 (by decide) (hts (.fieldLink RX11 20 "TimeMachine$Timeline" "events" "LTimeMachine$Events;") (List.mem_of_getElem? (i := 2) rfl)) (fun _ h9 => h9) (congrArg (fun z => some (va_rf (Option.map a z))) o1) dX11_takeRecorded_49 ?_
        refine va_get (D := (dC, dI)) (ci := 4) (v := .ref (a 30)) (C := RX3) (T := TX3) (N := 11) hx hb hts hi_dm_X11_takeRecorded_X3 hown hK hP 27 rfl rfl 2 (by decide) (hts (.fieldLink RX11 126 "TimeMachine$Events" "a" "[J") (List.mem_of_getElem? (i := 11) rfl)) (fun _ h9 => h9) rfl dX11_takeRecorded_52 ?_
        refine lv_aload_n hx hb dX11_takeRecorded_55 rfl (lv_at hl 0 rfl) ?_
        refine va_get (D := (dC, dI)) (ci := 12) (v := .int (sI s6.1 5)) (C := RX11) (T := TX11) (N := 16) hx hb hts hi_dm_X11_takeRecorded_X11 hown hK hP 0 rfl rfl 13 (by decide) (hts (.fieldLink RX11 79 "TimeMachine$Timeline" "came" "I") (List.mem_of_getElem? (i := 1) rfl)) (fun _ h9 => h9) rfl dX11_takeRecorded_56 ?_
        obtain ⟨i9, h⟩ := nd_ck_e h
        refine va_lald (i := (sI s6.1 5)) hx hb hK hP 30 24 rfl rfl i9 dX11_takeRecorded_59 ?_
        refine lv_aload_n hx hb dX11_takeRecorded_60 rfl (lv_at hl 0 rfl) ?_
        refine va_get (D := (dC, dI)) (ci := 12) (v := .ref (a 27)) (C := RX11) (T := TX11) (N := 16) hx hb hts hi_dm_X11_takeRecorded_X11 hown hK hP 0 rfl rfl 1 (by decide) (hts (.fieldLink RX11 20 "TimeMachine$Timeline" "events" "LTimeMachine$Events;") (List.mem_of_getElem? (i := 2) rfl)) (fun _ h9 => h9) (congrArg (fun z => some (va_rf (Option.map a z))) o1) dX11_takeRecorded_61 ?_
        refine va_get (D := (dC, dI)) (ci := 4) (v := .ref (a 31)) (C := RX3) (T := TX3) (N := 11) hx hb hts hi_dm_X11_takeRecorded_X3 hown hK hP 27 rfl rfl 3 (by decide) (hts (.fieldLink RX11 130 "TimeMachine$Events" "b" "[I") (List.mem_of_getElem? (i := 12) rfl)) (fun _ h9 => h9) rfl dX11_takeRecorded_64 ?_
        refine lv_aload_n hx hb dX11_takeRecorded_67 rfl (lv_at hl 0 rfl) ?_
        refine va_get (D := (dC, dI)) (ci := 12) (v := .int (sI s6.1 5)) (C := RX11) (T := TX11) (N := 16) hx hb hts hi_dm_X11_takeRecorded_X11 hown hK hP 0 rfl rfl 13 (by decide) (hts (.fieldLink RX11 79 "TimeMachine$Timeline" "came" "I") (List.mem_of_getElem? (i := 1) rfl)) (fun _ h9 => h9) rfl dX11_takeRecorded_68 ?_
        obtain ⟨i10, h⟩ := nd_ck_e h
        refine va_iald (i := (sI s6.1 5)) hx hb hK hP 31 25 rfl rfl i10 dX11_takeRecorded_71 ?_
        obtain ⟨q11, s12, hq, h⟩ := nd_b2_e h
        have hPc := dp_wX11_X5_2 hP
        have hDc := dd_wX11_X5_2 hD
        have hKc := dy_wX11_X5_2 hK
        have hFc := nd_rs hDc hS hA
        have hzA : ∀ q : Nat, H.size ≤ q → A q := fun q h => hA q (Nat.le_trans hS.1 h)
        refine nd_cVi (As := [.int (sR s6.2.2.2.1 0 (Int32.toNatClampNeg (sI s6.1 5))), .long (sQ s6.2.2.2.1 1 (Int32.toNatClampNeg (sI s6.1 5))), .int (sR s6.2.2.2.1 1 (Int32.toNatClampNeg (sI s6.1 5)))]) (rest := []) (q := q11) (w' := dw_X5 (fun k => a (k + 3)) (fun k => ac (k + 3)) s12) ⟨hx, hb, hml, hown, hts⟩ (fun sz => dm_X5_come l hlt dC dI (fun k => a (k + 3)) (fun k => ac (k + 3)) n ((sR s6.2.2.2.1 0 (Int32.toNatClampNeg (sI s6.1 5)))) ((sQ s6.2.2.2.1 1 (Int32.toNatClampNeg (sI s6.1 5)))) ((sR s6.2.2.2.1 1 (Int32.toNatClampNeg (sI s6.1 5)))) s6.2.2.1 hq sz) (cwV 3 hts gi_dm_X11_takeRecorded_1 rfl rfl rfl (by decide +kernel) ⟨Nat.le_of_ble_eq_true rfl, Nat.le_of_ble_eq_true rfl⟩) hPc hDc hKc hS hA hN (va_recv hKc hPc (ci := 6) (q0 := 0) rfl rfl) rfl hl.1 rfl (Nat.le_of_ble_eq_true rfl) dX11_takeRecorded_72 (fun H locs hP1 hD1 hk1 hS => ?_)
        obtain ⟨hP, hD⟩ := dn_wX11_X5_2 hP hD hzA hk1 hP1 hD1
        obtain ⟨s14, es14, h⟩ := nd_let_e h
        have hP : va_P (dC, dI) vwCl (dw_X11 a ac s14) H := by rw [es14]; exact hP
        have hD : va_D A (dw_X11 a ac s14) := by rw [es14]; exact hD
        have o1 : sO s14.1 0 = some 27 := by rw [es14]; exact o1
        refine lv_pop hx hb dX11_takeRecorded_75 rfl ?_
        refine lv_aload_n hx hb dX11_takeRecorded_76 rfl (lv_at hl 0 rfl) ?_
        refine lv_dup hx hb dX11_takeRecorded_77 rfl ?_
        refine va_get (D := (dC, dI)) (ci := 12) (v := .int (sI s14.1 5)) (C := RX11) (T := TX11) (N := 16) hx hb hts hi_dm_X11_takeRecorded_X11 hown hK hP 0 rfl rfl 13 (by decide) (hts (.fieldLink RX11 79 "TimeMachine$Timeline" "came" "I") (List.mem_of_getElem? (i := 1) rfl)) (fun _ h9 => h9) rfl dX11_takeRecorded_78 ?_
        refine lv_iconst (v := 1) hx hb dX11_takeRecorded_81 (by decide) ?_
        refine lv_iadd hx hb dX11_takeRecorded_82 ?_
        refine va_put (D := (dC, dI)) (ci := 12) (v := .int ((sI s14.1 5) + 1)) (ty := .int) (C := RX11) (T := TX11) (N := 16) hx hb hts hi_dm_X11_takeRecorded_X11 tyX11 tyX11_ok nmX11 hown hK hP hD hS 0 rfl rfl 13 (by decide) (hts (.fieldLink RX11 79 "TimeMachine$Timeline" "came" "I") (List.mem_of_getElem? (i := 1) rfl)) (fun _ h9 => h9) rfl (by decide +kernel) rfl rfl (Nat.le_of_ble_eq_true rfl) dX11_takeRecorded_83 (fun H locs hP hD hS => ?_)
        obtain ⟨s15, es15, h⟩ := nd_let_e h
        have hP : va_P (dC, dI) vwCl (dw_X11 a ac s15) H := by rw [es15]; exact hP
        have hD : va_D A (dw_X11 a ac s15) := by rw [es15]; exact hD
        have o1 : sO s15.1 0 = some 27 := by rw [es15]; exact o1
        refine lv_goto (tgt := 0) hx hb dX11_takeRecorded_86 (by decide) ?_
        exact (J0)  s15 _ _ _ h hP hD hS (lv_sub hl [0] rfl)
  have h := nd_neg h o1
  by_cases o16 : sO s0.1 0 = some 32
  · have h := nd_pos h o16
    refine va_get (D := (dC, dI)) (ci := 12) (v := .ref (a 32)) (C := RX11) (T := TX11) (N := 16) hx hb hts hi_dm_X11_takeRecorded_X11 hown hK hP 0 rfl rfl 1 (by decide) (hts (.fieldLink RX11 20 "TimeMachine$Timeline" "events" "LTimeMachine$Events;") (List.mem_of_getElem? (i := 2) rfl)) (fun _ h9 => h9) (congrArg (fun z => some (va_rf (Option.map a z))) o16) dX11_takeRecorded_5 ?_
    refine va_get (D := (dC, dI)) (ci := 4) (v := .int (sI s0.2.2.2.2.1 0)) (C := RX3) (T := TX3) (N := 11) hx hb hts hi_dm_X11_takeRecorded_X3 hown hK hP 32 rfl rfl 4 (by decide) (hts (.fieldLink RX11 116 "TimeMachine$Events" "recorded" "I") (List.mem_of_getElem? (i := 3) rfl)) (fun _ h9 => h9) rfl dX11_takeRecorded_8 ?_
    refine lv_icmp_ge (tgt := 89) hx hb dX11_takeRecorded_11 (by decide) (fun c17 => ?_) (fun c17 => ?_)
    · have h := nd_pos h c17
      exact (db_X11_takeRecorded_89 C K)  s0 _ _ _ h hP hD hS (lv_sub hl [] rfl)
    · have h := nd_neg h c17
      refine lv_aload_n hx hb dX11_takeRecorded_14 rfl (lv_at hl 0 rfl) ?_
      refine va_get (D := (dC, dI)) (ci := 12) (v := .ref (a 32)) (C := RX11) (T := TX11) (N := 16) hx hb hts hi_dm_X11_takeRecorded_X11 hown hK hP 0 rfl rfl 1 (by decide) (hts (.fieldLink RX11 20 "TimeMachine$Timeline" "events" "LTimeMachine$Events;") (List.mem_of_getElem? (i := 2) rfl)) (fun _ h9 => h9) (congrArg (fun z => some (va_rf (Option.map a z))) o16) dX11_takeRecorded_15 ?_
      refine lv_aload_n hx hb dX11_takeRecorded_18 rfl (lv_at hl 0 rfl) ?_
      refine va_get (D := (dC, dI)) (ci := 12) (v := .int (sI s0.1 5)) (C := RX11) (T := TX11) (N := 16) hx hb hts hi_dm_X11_takeRecorded_X11 hown hK hP 0 rfl rfl 13 (by decide) (hts (.fieldLink RX11 79 "TimeMachine$Timeline" "came" "I") (List.mem_of_getElem? (i := 1) rfl)) (fun _ h9 => h9) rfl dX11_takeRecorded_19 ?_
      refine lv_aload_n hx hb dX11_takeRecorded_22 rfl (lv_at hl 0 rfl) ?_
      refine va_get (D := (dC, dI)) (ci := 12) (v := .int (sI s0.1 3)) (C := RX11) (T := TX11) (N := 16) hx hb hts hi_dm_X11_takeRecorded_X11 hown hK hP 0 rfl rfl 11 (by decide) (hts (.fieldLink RX11 72 "TimeMachine$Timeline" "now" "I") (List.mem_of_getElem? (i := 4) rfl)) (fun _ h9 => h9) rfl dX11_takeRecorded_23 ?_
      obtain ⟨q18, s19, hq, h⟩ := nd_b2_e h
      have hPc := dp_wX11_X3c_7 hP
      have hDc := dd_wX11_X3c_7 hD
      have hKc := dy_wX11_X3c_7 hK
      have hFc := nd_rs hDc hS hA
      have hzA : ∀ q : Nat, H.size ≤ q → A q := fun q h => hA q (Nat.le_trans hS.1 h)
      refine nd_cVi (As := [.int (sI s0.1 5), .int (sI s0.1 3)]) (rest := []) (q := q18) (w' := dw_X3c (fun k => a (k + 32)) (fun k => ac (k + 32)) s19) ⟨hx, hb, hml, hown, hts⟩ (fun sz => dm_X3_isAt l hlt dC dI (fun k => a (k + 32)) (fun k => ac (k + 32)) n ((sI s0.1 5)) ((sI s0.1 3)) s0.2.2.2.2.1 hq sz) (cwV 2 hts gi_dm_X11_takeRecorded_0 rfl rfl rfl (by decide +kernel) ⟨Nat.le_of_ble_eq_true rfl, Nat.le_of_ble_eq_true rfl⟩) hPc hDc hKc hS hA hN (va_recv hKc hPc (ci := 4) (q0 := 0) rfl rfl) rfl hl.1 rfl (Nat.le_of_ble_eq_true rfl) dX11_takeRecorded_26 (fun H locs hP1 hD1 hk1 hS => ?_)
      obtain ⟨hP, hD⟩ := dn_wX11_X3c_7 hP hD hzA hk1 hP1 hD1
      obtain ⟨s21, es21, h⟩ := nd_let_e h
      have hP : va_P (dC, dI) vwCl (dw_X11 a ac s21) H := by rw [es21]; exact hP
      have hD : va_D A (dw_X11 a ac s21) := by rw [es21]; exact hD
      have o16 : sO s21.1 0 = some 32 := by rw [es21]; exact o16
      refine lv_if_eq (tgt := 89) hx hb dX11_takeRecorded_29 (by decide) (fun c22 => ?_) (fun c22 => ?_)
      · have h := nd_pos h c22
        exact (db_X11_takeRecorded_89 C K)  s21 _ _ _ h hP hD hS (lv_sub hl [] rfl)
      · have h := nd_neg h c22
        refine lv_aload_n hx hb dX11_takeRecorded_32 rfl (lv_at hl 0 rfl) ?_
        refine va_get (D := (dC, dI)) (ci := 12) (v := .ref (a 3)) (C := RX11) (T := TX11) (N := 16) hx hb hts hi_dm_X11_takeRecorded_X11 hown hK hP 0 rfl rfl 4 (by decide) (hts (.fieldLink RX11 39 "TimeMachine$Timeline" "kernel" "LTimeMachine$Kernel;") (List.mem_of_getElem? (i := 9) rfl)) (fun _ h9 => h9) rfl dX11_takeRecorded_33 ?_
        refine lv_aload_n hx hb dX11_takeRecorded_36 rfl (lv_at hl 0 rfl) ?_
        refine va_get (D := (dC, dI)) (ci := 12) (v := .ref (a 32)) (C := RX11) (T := TX11) (N := 16) hx hb hts hi_dm_X11_takeRecorded_X11 hown hK hP 0 rfl rfl 1 (by decide) (hts (.fieldLink RX11 20 "TimeMachine$Timeline" "events" "LTimeMachine$Events;") (List.mem_of_getElem? (i := 2) rfl)) (fun _ h9 => h9) (congrArg (fun z => some (va_rf (Option.map a z))) o16) dX11_takeRecorded_37 ?_
        refine va_get (D := (dC, dI)) (ci := 4) (v := .ref (a 33)) (C := RX3) (T := TX3) (N := 11) hx hb hts hi_dm_X11_takeRecorded_X3 hown hK hP 32 rfl rfl 0 (by decide) (hts (.fieldLink RX11 123 "TimeMachine$Events" "kind" "[I") (List.mem_of_getElem? (i := 10) rfl)) (fun _ h9 => h9) rfl dX11_takeRecorded_40 ?_
        refine lv_aload_n hx hb dX11_takeRecorded_43 rfl (lv_at hl 0 rfl) ?_
        refine va_get (D := (dC, dI)) (ci := 12) (v := .int (sI s21.1 5)) (C := RX11) (T := TX11) (N := 16) hx hb hts hi_dm_X11_takeRecorded_X11 hown hK hP 0 rfl rfl 13 (by decide) (hts (.fieldLink RX11 79 "TimeMachine$Timeline" "came" "I") (List.mem_of_getElem? (i := 1) rfl)) (fun _ h9 => h9) rfl dX11_takeRecorded_44 ?_
        obtain ⟨i23, h⟩ := nd_ck_e h
        refine va_iald (i := (sI s21.1 5)) hx hb hK hP 33 26 rfl rfl i23 dX11_takeRecorded_47 ?_
        refine lv_aload_n hx hb dX11_takeRecorded_48 rfl (lv_at hl 0 rfl) ?_
        refine va_get (D := (dC, dI)) (ci := 12) (v := .ref (a 32)) (C := RX11) (T := TX11) (N := 16) hx hb hts hi_dm_X11_takeRecorded_X11 hown hK hP 0 rfl rfl 1 (by decide) (hts (.fieldLink RX11 20 "TimeMachine$Timeline" "events" "LTimeMachine$Events;") (List.mem_of_getElem? (i := 2) rfl)) (fun _ h9 => h9) (congrArg (fun z => some (va_rf (Option.map a z))) o16) dX11_takeRecorded_49 ?_
        refine va_get (D := (dC, dI)) (ci := 4) (v := .ref (a 35)) (C := RX3) (T := TX3) (N := 11) hx hb hts hi_dm_X11_takeRecorded_X3 hown hK hP 32 rfl rfl 2 (by decide) (hts (.fieldLink RX11 126 "TimeMachine$Events" "a" "[J") (List.mem_of_getElem? (i := 11) rfl)) (fun _ h9 => h9) rfl dX11_takeRecorded_52 ?_
        refine lv_aload_n hx hb dX11_takeRecorded_55 rfl (lv_at hl 0 rfl) ?_
        refine va_get (D := (dC, dI)) (ci := 12) (v := .int (sI s21.1 5)) (C := RX11) (T := TX11) (N := 16) hx hb hts hi_dm_X11_takeRecorded_X11 hown hK hP 0 rfl rfl 13 (by decide) (hts (.fieldLink RX11 79 "TimeMachine$Timeline" "came" "I") (List.mem_of_getElem? (i := 1) rfl)) (fun _ h9 => h9) rfl dX11_takeRecorded_56 ?_
        obtain ⟨i24, h⟩ := nd_ck_e h
        refine va_lald (i := (sI s21.1 5)) hx hb hK hP 35 28 rfl rfl i24 dX11_takeRecorded_59 ?_
        refine lv_aload_n hx hb dX11_takeRecorded_60 rfl (lv_at hl 0 rfl) ?_
        refine va_get (D := (dC, dI)) (ci := 12) (v := .ref (a 32)) (C := RX11) (T := TX11) (N := 16) hx hb hts hi_dm_X11_takeRecorded_X11 hown hK hP 0 rfl rfl 1 (by decide) (hts (.fieldLink RX11 20 "TimeMachine$Timeline" "events" "LTimeMachine$Events;") (List.mem_of_getElem? (i := 2) rfl)) (fun _ h9 => h9) (congrArg (fun z => some (va_rf (Option.map a z))) o16) dX11_takeRecorded_61 ?_
        refine va_get (D := (dC, dI)) (ci := 4) (v := .ref (a 36)) (C := RX3) (T := TX3) (N := 11) hx hb hts hi_dm_X11_takeRecorded_X3 hown hK hP 32 rfl rfl 3 (by decide) (hts (.fieldLink RX11 130 "TimeMachine$Events" "b" "[I") (List.mem_of_getElem? (i := 12) rfl)) (fun _ h9 => h9) rfl dX11_takeRecorded_64 ?_
        refine lv_aload_n hx hb dX11_takeRecorded_67 rfl (lv_at hl 0 rfl) ?_
        refine va_get (D := (dC, dI)) (ci := 12) (v := .int (sI s21.1 5)) (C := RX11) (T := TX11) (N := 16) hx hb hts hi_dm_X11_takeRecorded_X11 hown hK hP 0 rfl rfl 13 (by decide) (hts (.fieldLink RX11 79 "TimeMachine$Timeline" "came" "I") (List.mem_of_getElem? (i := 1) rfl)) (fun _ h9 => h9) rfl dX11_takeRecorded_68 ?_
        obtain ⟨i25, h⟩ := nd_ck_e h
        refine va_iald (i := (sI s21.1 5)) hx hb hK hP 36 29 rfl rfl i25 dX11_takeRecorded_71 ?_
        obtain ⟨q26, s27, hq, h⟩ := nd_b2_e h
        have hPc := dp_wX11_X5_2 hP
        have hDc := dd_wX11_X5_2 hD
        have hKc := dy_wX11_X5_2 hK
        have hFc := nd_rs hDc hS hA
        have hzA : ∀ q : Nat, H.size ≤ q → A q := fun q h => hA q (Nat.le_trans hS.1 h)
        refine nd_cVi (As := [.int (sR s21.2.2.2.2.1 0 (Int32.toNatClampNeg (sI s21.1 5))), .long (sQ s21.2.2.2.2.1 1 (Int32.toNatClampNeg (sI s21.1 5))), .int (sR s21.2.2.2.2.1 1 (Int32.toNatClampNeg (sI s21.1 5)))]) (rest := []) (q := q26) (w' := dw_X5 (fun k => a (k + 3)) (fun k => ac (k + 3)) s27) ⟨hx, hb, hml, hown, hts⟩ (fun sz => dm_X5_come l hlt dC dI (fun k => a (k + 3)) (fun k => ac (k + 3)) n ((sR s21.2.2.2.2.1 0 (Int32.toNatClampNeg (sI s21.1 5)))) ((sQ s21.2.2.2.2.1 1 (Int32.toNatClampNeg (sI s21.1 5)))) ((sR s21.2.2.2.2.1 1 (Int32.toNatClampNeg (sI s21.1 5)))) s21.2.2.1 hq sz) (cwV 3 hts gi_dm_X11_takeRecorded_1 rfl rfl rfl (by decide +kernel) ⟨Nat.le_of_ble_eq_true rfl, Nat.le_of_ble_eq_true rfl⟩) hPc hDc hKc hS hA hN (va_recv hKc hPc (ci := 6) (q0 := 0) rfl rfl) rfl hl.1 rfl (Nat.le_of_ble_eq_true rfl) dX11_takeRecorded_72 (fun H locs hP1 hD1 hk1 hS => ?_)
        obtain ⟨hP, hD⟩ := dn_wX11_X5_2 hP hD hzA hk1 hP1 hD1
        obtain ⟨s29, es29, h⟩ := nd_let_e h
        have hP : va_P (dC, dI) vwCl (dw_X11 a ac s29) H := by rw [es29]; exact hP
        have hD : va_D A (dw_X11 a ac s29) := by rw [es29]; exact hD
        have o16 : sO s29.1 0 = some 32 := by rw [es29]; exact o16
        refine lv_pop hx hb dX11_takeRecorded_75 rfl ?_
        refine lv_aload_n hx hb dX11_takeRecorded_76 rfl (lv_at hl 0 rfl) ?_
        refine lv_dup hx hb dX11_takeRecorded_77 rfl ?_
        refine va_get (D := (dC, dI)) (ci := 12) (v := .int (sI s29.1 5)) (C := RX11) (T := TX11) (N := 16) hx hb hts hi_dm_X11_takeRecorded_X11 hown hK hP 0 rfl rfl 13 (by decide) (hts (.fieldLink RX11 79 "TimeMachine$Timeline" "came" "I") (List.mem_of_getElem? (i := 1) rfl)) (fun _ h9 => h9) rfl dX11_takeRecorded_78 ?_
        refine lv_iconst (v := 1) hx hb dX11_takeRecorded_81 (by decide) ?_
        refine lv_iadd hx hb dX11_takeRecorded_82 ?_
        refine va_put (D := (dC, dI)) (ci := 12) (v := .int ((sI s29.1 5) + 1)) (ty := .int) (C := RX11) (T := TX11) (N := 16) hx hb hts hi_dm_X11_takeRecorded_X11 tyX11 tyX11_ok nmX11 hown hK hP hD hS 0 rfl rfl 13 (by decide) (hts (.fieldLink RX11 79 "TimeMachine$Timeline" "came" "I") (List.mem_of_getElem? (i := 1) rfl)) (fun _ h9 => h9) rfl (by decide +kernel) rfl rfl (Nat.le_of_ble_eq_true rfl) dX11_takeRecorded_83 (fun H locs hP hD hS => ?_)
        obtain ⟨s30, es30, h⟩ := nd_let_e h
        have hP : va_P (dC, dI) vwCl (dw_X11 a ac s30) H := by rw [es30]; exact hP
        have hD : va_D A (dw_X11 a ac s30) := by rw [es30]; exact hD
        have o16 : sO s30.1 0 = some 32 := by rw [es30]; exact o16
        refine lv_goto (tgt := 0) hx hb dX11_takeRecorded_86 (by decide) ?_
        exact (J0)  s30 _ _ _ h hP hD hS (lv_sub hl [0] rfl)
  have h := nd_neg h o16
  exact nomatch h
set_option maxHeartbeats 40000000 in
set_option maxRecDepth 100000 in
theorem db_X11_takeRecorded_0 {p : Program} {l : Launch} {e : Env} {s : State} {m : MethodId} {args : Array Value} {below : List Frame} {meth : Method} {c : Code} {Q : State → Prop} {A : Nat → Prop} {dC : Nat → ClassId} {dI : Nat → Nat → Nat} {a : Nat → Nat} {ac : Nat → ClassId} {n : Nat} {r : St × Rw × (St × (St × (St × (St)))) × (St) × (St) × (Nat → St) × (Nat → St) × (Nat → St × (St))} (C : nd_C p l s m args c A (dC, dI) cX11_takeRecorded 1 RX11 ow_dm_X11_takeRecorded (dk_X11 ac)) (K : nd_Kv p l e (headSpec ow_dm_X11_takeRecorded ({ frames := 4, cells := 0, slots := 0, locals := 95 })).room s m args below meth c Q A (dC, dI) cX11_takeRecorded (St × Rw × (St × (St × (St × (St)))) × (St) × (St) × (Nat → St) × (Nat → St) × (Nat → St × (St))) (dw_X11 a ac) r) (k : Nat) : dj_X11_takeRecorded_0 p l e s m args below meth c Q A dC dI a ac (df_X11_takeRecorded_0 n k) r := by
  induction k with
  | zero => intro s0 H locs ls h; exact nomatch (show (none : Option (St × Rw × (St × (St × (St × (St)))) × (St) × (St) × (Nat → St) × (Nat → St) × (Nat → St × (St)))) = some r from h)
  | succ k ih => exact dB_X11_takeRecorded_0 C K ih
set_option maxHeartbeats 40000000 in
set_option maxRecDepth 100000 in
theorem dm_X11_takeRecorded (l : Launch) (hlt : l.stackTraces = false) (dC : Nat → ClassId) (dI : Nat → Nat → Nat) (a : Nat → Nat) (ac : Nat → ClassId) (n : Nat) (s0 : St × Rw × (St × (St × (St × (St)))) × (St) × (St) × (Nat → St) × (Nat → St) × (Nat → St × (St))) {r : St × Rw × (St × (St × (St × (St)))) × (St) × (St) × (Nat → St) × (Nat → St) × (Nat → St × (St))} (h : df_X11_takeRecorded n s0 = some r) (sz : Nat) : Met l yX11_takeRecorded ow_dm_X11_takeRecorded ({ frames := 4, cells := 0, slots := 0, locals := 95 }) (va_Pc [.ref (a 0)] (fun U => U.heap.size = sz ∧ va_P (dC, dI) vwCl (dw_X11 a ac s0) U.heap ∧ va_K (dC, dI) vwCl (dk_X11 ac) U ∧ va_D (fun _ => True) (dw_X11 a ac s0) ∧ nv_E dI (va_A (dw_X11 a ac s0) sz) U)) (va_Qv (fun _ => True) (fun (_ : Unit) t => va_P (dC, dI) vwCl (dw_X11 a ac r) t.heap ∧ va_K (dC, dI) vwCl (dk_X11 ac) t ∧ va_D (va_A (dw_X11 a ac s0) sz) (dw_X11 a ac r)) (va_A (dw_X11 a ac s0) sz)) 0 0 (va_A (dw_X11 a ac s0) sz) := by
  refine Met.ofW (cc := cX11_takeRecorded) (maxL := 1) (ret := none) (by decide) rfl ?_
  intro p e s m args below meth c s₁ B hml hv
  obtain ⟨rfl, hsz, hP, hK, hD0, hN⟩ := hv
  have hx := B.exec
  have hb := B.bytes
  have hr := B.returns
  have hts := atoms_spec (ws := ow_dm_X11_takeRecorded) B.pre
  have hown : s.vm.findClass RX11 = some m.cls := findClass_of_methodNamed B.named
  have hlocks := B.notSynchronized
  subst hsz
  have hD := hD0.self (sz := s.heap.size)
  generalize hAe : va_A (dw_X11 a ac s0) s.heap.size = A at hD hN ⊢
  have hA : ∀ q : Nat, s.heap.size ≤ q → A q := fun q h => by rw [← hAe]; exact Or.inr h
  have hl := lv_entry ([.ref (a 0)]) (n := 1) (Nat.le_of_ble_eq_true rfl)
  rw [lg_entry_eq]
  generalize (lg_sl ([.ref (a 0)]) ++ List.replicate (1 - (lg_sl ([.ref (a 0)])).length) Slot.unset).toArray = ls at hl ⊢
  have hl : lv_has ls 1 [(0, .ref (a 0))] := hl
  exact db_X11_takeRecorded_0 (dC := dC) (dI := dI) (a := a) (ac := ac) (n := n) (r := r) ⟨hlt, hx, hb, hml, hown, hts, hN, hA, hK⟩ (fun pc τ H locs ls d er hP hD hS => by subst er; exact W.vret hx hb hr (fun t ht hW => ⟨⟨(), rfl, trivial, by rw [ht]; exact hP, va_K.moved hW.alike hK, hD⟩, hS.F ht⟩) hS.2.2 d) n s0 _ _ _ h hP hD va_S.rf (lv_sub hl [0] rfl)
def ow_dm_X11_advance : List Cond := Cond.code yX11_advance cX11_advance 1 none :: ([Cond.fieldLink RX11 39 "TimeMachine$Timeline" "kernel" "LTimeMachine$Kernel;", Cond.methodLink RX11 98 yX5_tick, Cond.instanceMethod yX5_tick, Cond.selects RX5 yX5_tick yX5_tick, Cond.initialized RX5, Cond.fieldLink RX11 72 "TimeMachine$Timeline" "now" "I", Cond.fieldLink RX11 44 "TimeMachine$Timeline" "writes" "[I", Cond.fieldLink RX11 88 "TimeMachine$Timeline" "spacing" "I", Cond.methodLink RX11 104 Lib.Math.max.name, Cond.static Lib.Math.max.name, Cond.initialized "java/lang/Math", Cond.code Lib.Math.max.name Lib.Math.max.code 2 (some .int), Cond.methodLink RX11 113 yX11_takeRecorded, Cond.instanceMethod yX11_takeRecorded, Cond.selects RX11 yX11_takeRecorded yX11_takeRecorded, Cond.initialized RX11, Cond.fieldLink RX11 76 "TimeMachine$Timeline" "end" "I", Cond.methodLink RX11 62 yX11_takeScheduled, Cond.instanceMethod yX11_takeScheduled, Cond.selects RX11 yX11_takeScheduled yX11_takeScheduled, Cond.fieldLink RX11 52 "TimeMachine$Timeline" "copyAt" "[I", Cond.fieldLink RX11 85 "TimeMachine$Timeline" "copies" "I", Cond.methodLink RX11 91 yX11_keepCopy, Cond.instanceMethod yX11_keepCopy, Cond.selects RX11 yX11_keepCopy yX11_keepCopy, Cond.methodLink RX11 110 yX11_thinOut, Cond.instanceMethod yX11_thinOut, Cond.selects RX11 yX11_thinOut yX11_thinOut, Cond.fieldLink RX11 30 "TimeMachine$Timeline" "machine" "LTimeMachine$Machine;", Cond.fieldLink RX11 101 "TimeMachine$Machine" "written" "I"] ++ (u_ws RX11 TX11 16 ++ (u_ws RX6 TX6 20 ++ (ow_dm_X5_tick ++ (ow_dm_X11_takeRecorded ++ (ow_dm_X11_takeScheduled ++ (ow_dm_X11_keepCopy ++ (ow_dm_X11_thinOut ++ []))))))))
theorem gd_dm_X11_advance : ∀ w ∈ ow_dm_X11_advance, (w.onTables && w.keeps) = true ∨ ∃ ty, w = Cond.arrayClass ty := List.forall_mem_cons.mpr ⟨good_of_word rfl, List.forall_mem_append.mpr ⟨fun w h => good_of_word (List.all_eq_true.mp (by decide +kernel) w h), List.forall_mem_append.mpr ⟨gu_X11, List.forall_mem_append.mpr ⟨gu_X6, List.forall_mem_append.mpr ⟨gd_dm_X5_tick, List.forall_mem_append.mpr ⟨gd_dm_X11_takeRecorded, List.forall_mem_append.mpr ⟨gd_dm_X11_takeScheduled, List.forall_mem_append.mpr ⟨gd_dm_X11_keepCopy, List.forall_mem_append.mpr ⟨gd_dm_X11_thinOut, fun _ h => nomatch h⟩⟩⟩⟩⟩⟩⟩⟩⟩
theorem hi_dm_X11_advance_X11 : ∀ w ∈ u_ws RX11 TX11 16, w ∈ ow_dm_X11_advance := fun w h => List.mem_cons_of_mem _ (List.mem_append_right _ (List.mem_append_left _ h))
theorem hi_dm_X11_advance_X6 : ∀ w ∈ u_ws RX6 TX6 20, w ∈ ow_dm_X11_advance := fun w h => List.mem_cons_of_mem _ (List.mem_append_right _ (List.mem_append_right _ (List.mem_append_left _ h)))
theorem gi_dm_X11_advance_0 : GoodIn ow_dm_X11_advance (wsV RX11 98 RX5 yX5_tick ow_dm_X5_tick) := goodIn_app (goodIn_of _ (by decide +kernel)) (fun w h => ⟨List.mem_cons_of_mem _ (List.mem_append_right _ (List.mem_append_right _ (List.mem_append_right _ (List.mem_append_left _ h)))), gd_dm_X5_tick w h⟩)
theorem gi_dm_X11_advance_1 : GoodIn ow_dm_X11_advance (wsV RX11 113 RX11 yX11_takeRecorded ow_dm_X11_takeRecorded) := goodIn_app (goodIn_of _ (by decide +kernel)) (fun w h => ⟨List.mem_cons_of_mem _ (List.mem_append_right _ (List.mem_append_right _ (List.mem_append_right _ (List.mem_append_right _ (List.mem_append_left _ h))))), gd_dm_X11_takeRecorded w h⟩)
theorem gi_dm_X11_advance_2 : GoodIn ow_dm_X11_advance (wsV RX11 62 RX11 yX11_takeScheduled ow_dm_X11_takeScheduled) := goodIn_app (goodIn_of _ (by decide +kernel)) (fun w h => ⟨List.mem_cons_of_mem _ (List.mem_append_right _ (List.mem_append_right _ (List.mem_append_right _ (List.mem_append_right _ (List.mem_append_right _ (List.mem_append_left _ h)))))), gd_dm_X11_takeScheduled w h⟩)
theorem gi_dm_X11_advance_3 : GoodIn ow_dm_X11_advance (wsV RX11 91 RX11 yX11_keepCopy ow_dm_X11_keepCopy) := goodIn_app (goodIn_of _ (by decide +kernel)) (fun w h => ⟨List.mem_cons_of_mem _ (List.mem_append_right _ (List.mem_append_right _ (List.mem_append_right _ (List.mem_append_right _ (List.mem_append_right _ (List.mem_append_right _ (List.mem_append_left _ h))))))), gd_dm_X11_keepCopy w h⟩)
theorem gi_dm_X11_advance_4 : GoodIn ow_dm_X11_advance (wsV RX11 110 RX11 yX11_thinOut ow_dm_X11_thinOut) := goodIn_app (goodIn_of _ (by decide +kernel)) (fun w h => ⟨List.mem_cons_of_mem _ (List.mem_append_right _ (List.mem_append_right _ (List.mem_append_right _ (List.mem_append_right _ (List.mem_append_right _ (List.mem_append_right _ (List.mem_append_right _ (List.mem_append_left _ h)))))))), gd_dm_X11_thinOut w h⟩)
def dj_X11_advance_139 (p : Program) (l : Launch) (e : Env) (s : State) (m : MethodId) (args : Array Value) (below : List Frame) (meth : Method) (c : Code) (Q : State → Prop) (A : Nat → Prop) (dC : Nat → ClassId) (dI : Nat → Nat → Nat) (a : Nat → Nat) (ac : Nat → ClassId) (g : (St × Rw × (St × (St × (St × (St)))) × (St) × (St) × (Nat → St) × (Nat → St) × (Nat → St × (St))) → Option (St × Rw × (St × (St × (St × (St)))) × (St) × (St) × (Nat → St) × (Nat → St) × (Nat → St × (St)))) (r : St × Rw × (St × (St × (St × (St)))) × (St) × (St) × (Nat → St) × (Nat → St) × (Nat → St × (St))) : Prop := ∀ (s0 : St × Rw × (St × (St × (St × (St)))) × (St) × (St) × (Nat → St) × (Nat → St) × (Nat → St × (St))) (H : Heap) (locs : List Loc) (ls : Array Slot), g s0 = some r → va_P (dC, dI) vwCl (dw_X11 a ac s0) H → va_D A (dw_X11 a ac s0) → va_S A s.heap H locs → lv_has ls 1 [] → W p l e (headSpec ow_dm_X11_advance ({ frames := 7, cells := 0, slots := 0, locals := 162 })).room s m args below meth c H locs 0 0 Q (F0 m 139 ls [])
def dj_X11_advance_112 (p : Program) (l : Launch) (e : Env) (s : State) (m : MethodId) (args : Array Value) (below : List Frame) (meth : Method) (c : Code) (Q : State → Prop) (A : Nat → Prop) (dC : Nat → ClassId) (dI : Nat → Nat → Nat) (a : Nat → Nat) (ac : Nat → ClassId) (g : (St × Rw × (St × (St × (St × (St)))) × (St) × (St) × (Nat → St) × (Nat → St) × (Nat → St × (St))) → Option (St × Rw × (St × (St × (St × (St)))) × (St) × (St) × (Nat → St) × (Nat → St) × (Nat → St × (St)))) (r : St × Rw × (St × (St × (St × (St)))) × (St) × (St) × (Nat → St) × (Nat → St) × (Nat → St × (St))) : Prop := ∀ (s0 : St × Rw × (St × (St × (St × (St)))) × (St) × (St) × (Nat → St) × (Nat → St) × (Nat → St × (St))) (H : Heap) (locs : List Loc) (ls : Array Slot), g s0 = some r → va_P (dC, dI) vwCl (dw_X11 a ac s0) H → va_D A (dw_X11 a ac s0) → va_S A s.heap H locs → lv_has ls 1 [(0, .ref (a 0))] → W p l e (headSpec ow_dm_X11_advance ({ frames := 7, cells := 0, slots := 0, locals := 162 })).room s m args below meth c H locs 0 0 Q (F0 m 112 ls [])
def dj_X11_advance_92 (p : Program) (l : Launch) (e : Env) (s : State) (m : MethodId) (args : Array Value) (below : List Frame) (meth : Method) (c : Code) (Q : State → Prop) (A : Nat → Prop) (dC : Nat → ClassId) (dI : Nat → Nat → Nat) (a : Nat → Nat) (ac : Nat → ClassId) (g : (St × Rw × (St × (St × (St × (St)))) × (St) × (St) × (Nat → St) × (Nat → St) × (Nat → St × (St))) → Option (St × Rw × (St × (St × (St × (St)))) × (St) × (St) × (Nat → St) × (Nat → St) × (Nat → St × (St)))) (r : St × Rw × (St × (St × (St × (St)))) × (St) × (St) × (Nat → St) × (Nat → St) × (Nat → St × (St))) : Prop := ∀ (s0 : St × Rw × (St × (St × (St × (St)))) × (St) × (St) × (Nat → St) × (Nat → St) × (Nat → St × (St))) (H : Heap) (locs : List Loc) (ls : Array Slot), g s0 = some r → va_P (dC, dI) vwCl (dw_X11 a ac s0) H → va_D A (dw_X11 a ac s0) → va_S A s.heap H locs → lv_has ls 1 [(0, .ref (a 0))] → W p l e (headSpec ow_dm_X11_advance ({ frames := 7, cells := 0, slots := 0, locals := 162 })).room s m args below meth c H locs 0 0 Q (F0 m 92 ls [])
def dj_X11_advance_35 (p : Program) (l : Launch) (e : Env) (s : State) (m : MethodId) (args : Array Value) (below : List Frame) (meth : Method) (c : Code) (Q : State → Prop) (A : Nat → Prop) (dC : Nat → ClassId) (dI : Nat → Nat → Nat) (a : Nat → Nat) (ac : Nat → ClassId) (g : (St × Rw × (St × (St × (St × (St)))) × (St) × (St) × (Nat → St) × (Nat → St) × (Nat → St × (St))) → Option (St × Rw × (St × (St × (St × (St)))) × (St) × (St) × (Nat → St) × (Nat → St) × (Nat → St × (St)))) (r : St × Rw × (St × (St × (St × (St)))) × (St) × (St) × (Nat → St) × (Nat → St) × (Nat → St × (St))) : Prop := ∀ (s0 : St × Rw × (St × (St × (St × (St)))) × (St) × (St) × (Nat → St) × (Nat → St) × (Nat → St × (St))) (H : Heap) (locs : List Loc) (ls : Array Slot), g s0 = some r → va_P (dC, dI) vwCl (dw_X11 a ac s0) H → va_D A (dw_X11 a ac s0) → va_S A s.heap H locs → lv_has ls 1 [(0, .ref (a 0))] → W p l e (headSpec ow_dm_X11_advance ({ frames := 7, cells := 0, slots := 0, locals := 162 })).room s m args below meth c H locs 0 0 Q (F0 m 35 ls [])
def dj_X11_advance_0 (p : Program) (l : Launch) (e : Env) (s : State) (m : MethodId) (args : Array Value) (below : List Frame) (meth : Method) (c : Code) (Q : State → Prop) (A : Nat → Prop) (dC : Nat → ClassId) (dI : Nat → Nat → Nat) (a : Nat → Nat) (ac : Nat → ClassId) (g : (St × Rw × (St × (St × (St × (St)))) × (St) × (St) × (Nat → St) × (Nat → St) × (Nat → St × (St))) → Option (St × Rw × (St × (St × (St × (St)))) × (St) × (St) × (Nat → St) × (Nat → St) × (Nat → St × (St)))) (r : St × Rw × (St × (St × (St × (St)))) × (St) × (St) × (Nat → St) × (Nat → St) × (Nat → St × (St))) : Prop := ∀ (s0 : St × Rw × (St × (St × (St × (St)))) × (St) × (St) × (Nat → St) × (Nat → St) × (Nat → St × (St))) (H : Heap) (locs : List Loc) (ls : Array Slot), g s0 = some r → va_P (dC, dI) vwCl (dw_X11 a ac s0) H → va_D A (dw_X11 a ac s0) → va_S A s.heap H locs → lv_has ls 1 [(0, .ref (a 0))] → W p l e (headSpec ow_dm_X11_advance ({ frames := 7, cells := 0, slots := 0, locals := 162 })).room s m args below meth c H locs 0 0 Q (F0 m 0 ls [])
set_option maxHeartbeats 40000000 in
set_option maxRecDepth 100000 in
theorem db_X11_advance_139 {p : Program} {l : Launch} {e : Env} {s : State} {m : MethodId} {args : Array Value} {below : List Frame} {meth : Method} {c : Code} {Q : State → Prop} {A : Nat → Prop} {dC : Nat → ClassId} {dI : Nat → Nat → Nat} {a : Nat → Nat} {ac : Nat → ClassId} {n : Nat} {r : St × Rw × (St × (St × (St × (St)))) × (St) × (St) × (Nat → St) × (Nat → St) × (Nat → St × (St))} (C : nd_C p l s m args c A (dC, dI) cX11_advance 1 RX11 ow_dm_X11_advance (dk_X11 ac)) (K : nd_Kv p l e (headSpec ow_dm_X11_advance ({ frames := 7, cells := 0, slots := 0, locals := 162 })).room s m args below meth c Q A (dC, dI) cX11_advance (St × Rw × (St × (St × (St × (St)))) × (St) × (St) × (Nat → St) × (Nat → St) × (Nat → St × (St))) (dw_X11 a ac) r) : dj_X11_advance_139 p l e s m args below meth c Q A dC dI a ac (df_X11_advance_139 n) r := by
  obtain ⟨hlt, hx, hb, hml, hown, hts, hN, hA, hK⟩ := id C
  intro s0 H locs ls h hP hD hS hl
  unfold df_X11_advance_139 at h
  exact K _ _ _ _ _ dX11_advance_139 (Option.some.inj h).symm hP hD hS

