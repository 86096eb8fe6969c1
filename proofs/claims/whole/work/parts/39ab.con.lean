set_option maxHeartbeats 40000000 in
set_option maxRecDepth 100000 in
theorem dy_wX11_X6m_6 {D : va_G} {U : State} {ac : Nat → ClassId} {j1 : Nat} (hj1 : j1 < 8) (h : va_K D vwCl (dk_X11 ac) U) : va_K D vwCl (dk_X6m (fun k => ac (if k < 20 then k - 0 + j1 * 20 + 167 else k - 20 + 7))) U := (va_K.app (nd_ks h (fun q hq => absurd hq List.not_mem_nil)) (va_K.app (dq_X11_C6 hj1 h) (h.sub [4, 5, 6, 7, 8, 9, 10, 11, 12, 13, 14, 15, 16, 17, 18, 19, 20, 21] rfl)))
set_option maxHeartbeats 40000000 in
set_option maxRecDepth 100000 in
theorem dn_wX11_X6m_6 {A0 : Nat → Prop} {D : va_G} {H H1 : Heap} {a : Nat → Nat} {ac : Nat → ClassId} {σ : St × Rw × (St × (St × (St × (St)))) × (St) × (St) × (Nat → St) × (Nat → St) × (Nat → St × (St))} {τ : St × (St × (St)) × (St × (St))} {j1 : Nat} (hj1 : j1 < 8) (hP : va_P D vwCl (dw_X11 a ac σ) H) (hD : va_D A0 (dw_X11 a ac σ)) (hA : ∀ q : Nat, H.size ≤ q → A0 q) (hk : ∀ q : Nat, q < H.size → ¬ va_A (dw_X6m (fun k => a (if k < 20 then k - 0 + j1 * 20 + 167 else k - 20 + 7)) (fun k => ac (if k < 20 then k - 0 + j1 * 20 + 167 else k - 20 + 7)) (nd_st0, (σ.2.2.2.2.2.2.2 j1), σ.2.2.1.2.2)) H.size q → H1[q]? = H[q]?) (h1 : va_P D vwCl (dw_X6m (fun k => a (if k < 20 then k - 0 + j1 * 20 + 167 else k - 20 + 7)) (fun k => ac (if k < 20 then k - 0 + j1 * 20 + 167 else k - 20 + 7)) τ) H1) (h2 : va_D (va_A (dw_X6m (fun k => a (if k < 20 then k - 0 + j1 * 20 + 167 else k - 20 + 7)) (fun k => ac (if k < 20 then k - 0 + j1 * 20 + 167 else k - 20 + 7)) (nd_st0, (σ.2.2.2.2.2.2.2 j1), σ.2.2.1.2.2)) H.size) (dw_X6m (fun k => a (if k < 20 then k - 0 + j1 * 20 + 167 else k - 20 + 7)) (fun k => ac (if k < 20 then k - 0 + j1 * 20 + 167 else k - 20 + 7)) τ)) : va_P D vwCl (dw_X11 a ac ((σ.1, (σ.2.1, (σ.2.2.1, (σ.2.2.2.1, (σ.2.2.2.2.1, (σ.2.2.2.2.2.1, (σ.2.2.2.2.2.2.1, (fun i => if i = j1 then τ.2.1 else σ.2.2.2.2.2.2.2 i)))))))).1, ((σ.1, (σ.2.1, (σ.2.2.1, (σ.2.2.2.1, (σ.2.2.2.2.1, (σ.2.2.2.2.2.1, (σ.2.2.2.2.2.2.1, (fun i => if i = j1 then τ.2.1 else σ.2.2.2.2.2.2.2 i)))))))).2.1, (((σ.1, (σ.2.1, (σ.2.2.1, (σ.2.2.2.1, (σ.2.2.2.2.1, (σ.2.2.2.2.2.1, (σ.2.2.2.2.2.2.1, (fun i => if i = j1 then τ.2.1 else σ.2.2.2.2.2.2.2 i)))))))).2.2.1.1, ((σ.1, (σ.2.1, (σ.2.2.1, (σ.2.2.2.1, (σ.2.2.2.2.1, (σ.2.2.2.2.2.1, (σ.2.2.2.2.2.2.1, (fun i => if i = j1 then τ.2.1 else σ.2.2.2.2.2.2.2 i)))))))).2.2.1.2.1, τ.2.2)), (σ.1, (σ.2.1, (σ.2.2.1, (σ.2.2.2.1, (σ.2.2.2.2.1, (σ.2.2.2.2.2.1, (σ.2.2.2.2.2.2.1, (fun i => if i = j1 then τ.2.1 else σ.2.2.2.2.2.2.2 i)))))))).2.2.2)))) H1 ∧ va_D A0 (dw_X11 a ac ((σ.1, (σ.2.1, (σ.2.2.1, (σ.2.2.2.1, (σ.2.2.2.2.1, (σ.2.2.2.2.2.1, (σ.2.2.2.2.2.2.1, (fun i => if i = j1 then τ.2.1 else σ.2.2.2.2.2.2.2 i)))))))).1, ((σ.1, (σ.2.1, (σ.2.2.1, (σ.2.2.2.1, (σ.2.2.2.2.1, (σ.2.2.2.2.2.1, (σ.2.2.2.2.2.2.1, (fun i => if i = j1 then τ.2.1 else σ.2.2.2.2.2.2.2 i)))))))).2.1, (((σ.1, (σ.2.1, (σ.2.2.1, (σ.2.2.2.1, (σ.2.2.2.2.1, (σ.2.2.2.2.2.1, (σ.2.2.2.2.2.2.1, (fun i => if i = j1 then τ.2.1 else σ.2.2.2.2.2.2.2 i)))))))).2.2.1.1, ((σ.1, (σ.2.1, (σ.2.2.1, (σ.2.2.2.1, (σ.2.2.2.2.1, (σ.2.2.2.2.2.1, (σ.2.2.2.2.2.2.1, (fun i => if i = j1 then τ.2.1 else σ.2.2.2.2.2.2.2 i)))))))).2.2.1.2.1, τ.2.2)), (σ.1, (σ.2.1, (σ.2.2.1, (σ.2.2.2.1, (σ.2.2.2.2.1, (σ.2.2.2.2.2.1, (σ.2.2.2.2.2.2.1, (fun i => if i = j1 then τ.2.1 else σ.2.2.2.2.2.2.2 i)))))))).2.2.2)))) := by
  have eo := de_wX11_X6m_6 (a := a) (ac := ac) (j1 := j1) (τ := (nd_st0, (σ.2.2.2.2.2.2.2 j1), σ.2.2.1.2.2))
  have en := de_wX11_X6m_6 (a := a) (ac := ac) (j1 := j1) (τ := τ)
  have h := nd_vn (segs := dg_X11 a ac σ) (ix := [29 + j1, 3, 4]) (old := [dw_X6 (fun k => a (k + j1 * 20 + 167)) (fun k => ac (k + j1 * 20 + 167)) (σ.2.2.2.2.2.2.2 j1), dwo_X6 (fun k => a (k + 7)) (fun k => ac (k + 7)) (σ.2.2.1.2.2.1), dw_X10 (fun k => a (k + 17)) (fun k => ac (k + 17)) (σ.2.2.1.2.2.2)]) (new := [dw_X6 (fun k => a (k + j1 * 20 + 167)) (fun k => ac (k + j1 * 20 + 167)) (τ.2.1), dwo_X6 (fun k => a (k + 7)) (fun k => ac (k + 7)) (τ.2.2.1), dw_X10 (fun k => a (k + 17)) (fun k => ac (k + 17)) (τ.2.2.2)]) hP hD (nd_co (dx_X11_C6 hj1) (nd_co rfl (nd_co rfl rfl))) rfl (fun q z y => hk q z (fun w => y (eo ▸ w))) (en ▸ h1)
  have e0 : (dg_X11 a ac σ).set (29 + j1) (dw_X6 (fun k => a (k + j1 * 20 + 167)) (fun k => ac (k + j1 * 20 + 167)) (τ.2.1)) = dg_X11 a ac (σ.1, (σ.2.1, (σ.2.2.1, (σ.2.2.2.1, (σ.2.2.2.2.1, (σ.2.2.2.2.2.1, (σ.2.2.2.2.2.2.1, (fun i => if i = j1 then (τ.2.1) else σ.2.2.2.2.2.2.2 i)))))))) := dz_X11_C6 hj1
  have e1 : (dg_X11 a ac (σ.1, (σ.2.1, (σ.2.2.1, (σ.2.2.2.1, (σ.2.2.2.2.1, (σ.2.2.2.2.2.1, (σ.2.2.2.2.2.2.1, (fun i => if i = j1 then (τ.2.1) else σ.2.2.2.2.2.2.2 i))))))))).set 3 (dwo_X6 (fun k => a (k + 7)) (fun k => ac (k + 7)) (τ.2.2.1)) = dg_X11 a ac ((σ.1, (σ.2.1, (σ.2.2.1, (σ.2.2.2.1, (σ.2.2.2.2.1, (σ.2.2.2.2.2.1, (σ.2.2.2.2.2.2.1, (fun i => if i = j1 then (τ.2.1) else σ.2.2.2.2.2.2.2 i)))))))).1, ((σ.1, (σ.2.1, (σ.2.2.1, (σ.2.2.2.1, (σ.2.2.2.2.1, (σ.2.2.2.2.2.1, (σ.2.2.2.2.2.2.1, (fun i => if i = j1 then (τ.2.1) else σ.2.2.2.2.2.2.2 i)))))))).2.1, (((σ.1, (σ.2.1, (σ.2.2.1, (σ.2.2.2.1, (σ.2.2.2.2.1, (σ.2.2.2.2.2.1, (σ.2.2.2.2.2.2.1, (fun i => if i = j1 then (τ.2.1) else σ.2.2.2.2.2.2.2 i)))))))).2.2.1.1, ((σ.1, (σ.2.1, (σ.2.2.1, (σ.2.2.2.1, (σ.2.2.2.2.1, (σ.2.2.2.2.2.1, (σ.2.2.2.2.2.2.1, (fun i => if i = j1 then (τ.2.1) else σ.2.2.2.2.2.2.2 i)))))))).2.2.1.2.1, ((τ.2.2.1), (σ.1, (σ.2.1, (σ.2.2.1, (σ.2.2.2.1, (σ.2.2.2.2.1, (σ.2.2.2.2.2.1, (σ.2.2.2.2.2.2.1, (fun i => if i = j1 then (τ.2.1) else σ.2.2.2.2.2.2.2 i)))))))).2.2.1.2.2.2))), (σ.1, (σ.2.1, (σ.2.2.1, (σ.2.2.2.1, (σ.2.2.2.2.1, (σ.2.2.2.2.2.1, (σ.2.2.2.2.2.2.1, (fun i => if i = j1 then (τ.2.1) else σ.2.2.2.2.2.2.2 i)))))))).2.2.2))) := rfl
  have e2 : (dg_X11 a ac ((σ.1, (σ.2.1, (σ.2.2.1, (σ.2.2.2.1, (σ.2.2.2.2.1, (σ.2.2.2.2.2.1, (σ.2.2.2.2.2.2.1, (fun i => if i = j1 then (τ.2.1) else σ.2.2.2.2.2.2.2 i)))))))).1, ((σ.1, (σ.2.1, (σ.2.2.1, (σ.2.2.2.1, (σ.2.2.2.2.1, (σ.2.2.2.2.2.1, (σ.2.2.2.2.2.2.1, (fun i => if i = j1 then (τ.2.1) else σ.2.2.2.2.2.2.2 i)))))))).2.1, (((σ.1, (σ.2.1, (σ.2.2.1, (σ.2.2.2.1, (σ.2.2.2.2.1, (σ.2.2.2.2.2.1, (σ.2.2.2.2.2.2.1, (fun i => if i = j1 then (τ.2.1) else σ.2.2.2.2.2.2.2 i)))))))).2.2.1.1, ((σ.1, (σ.2.1, (σ.2.2.1, (σ.2.2.2.1, (σ.2.2.2.2.1, (σ.2.2.2.2.2.1, (σ.2.2.2.2.2.2.1, (fun i => if i = j1 then (τ.2.1) else σ.2.2.2.2.2.2.2 i)))))))).2.2.1.2.1, ((τ.2.2.1), (σ.1, (σ.2.1, (σ.2.2.1, (σ.2.2.2.1, (σ.2.2.2.2.1, (σ.2.2.2.2.2.1, (σ.2.2.2.2.2.2.1, (fun i => if i = j1 then (τ.2.1) else σ.2.2.2.2.2.2.2 i)))))))).2.2.1.2.2.2))), (σ.1, (σ.2.1, (σ.2.2.1, (σ.2.2.2.1, (σ.2.2.2.2.1, (σ.2.2.2.2.2.1, (σ.2.2.2.2.2.2.1, (fun i => if i = j1 then (τ.2.1) else σ.2.2.2.2.2.2.2 i)))))))).2.2.2)))).set 4 (dw_X10 (fun k => a (k + 17)) (fun k => ac (k + 17)) (τ.2.2.2)) = dg_X11 a ac (((σ.1, (σ.2.1, (σ.2.2.1, (σ.2.2.2.1, (σ.2.2.2.2.1, (σ.2.2.2.2.2.1, (σ.2.2.2.2.2.2.1, (fun i => if i = j1 then (τ.2.1) else σ.2.2.2.2.2.2.2 i)))))))).1, ((σ.1, (σ.2.1, (σ.2.2.1, (σ.2.2.2.1, (σ.2.2.2.2.1, (σ.2.2.2.2.2.1, (σ.2.2.2.2.2.2.1, (fun i => if i = j1 then (τ.2.1) else σ.2.2.2.2.2.2.2 i)))))))).2.1, (((σ.1, (σ.2.1, (σ.2.2.1, (σ.2.2.2.1, (σ.2.2.2.2.1, (σ.2.2.2.2.2.1, (σ.2.2.2.2.2.2.1, (fun i => if i = j1 then (τ.2.1) else σ.2.2.2.2.2.2.2 i)))))))).2.2.1.1, ((σ.1, (σ.2.1, (σ.2.2.1, (σ.2.2.2.1, (σ.2.2.2.2.1, (σ.2.2.2.2.2.1, (σ.2.2.2.2.2.2.1, (fun i => if i = j1 then (τ.2.1) else σ.2.2.2.2.2.2.2 i)))))))).2.2.1.2.1, ((τ.2.2.1), (σ.1, (σ.2.1, (σ.2.2.1, (σ.2.2.2.1, (σ.2.2.2.2.1, (σ.2.2.2.2.2.1, (σ.2.2.2.2.2.2.1, (fun i => if i = j1 then (τ.2.1) else σ.2.2.2.2.2.2.2 i)))))))).2.2.1.2.2.2))), (σ.1, (σ.2.1, (σ.2.2.1, (σ.2.2.2.1, (σ.2.2.2.2.1, (σ.2.2.2.2.2.1, (σ.2.2.2.2.2.2.1, (fun i => if i = j1 then (τ.2.1) else σ.2.2.2.2.2.2.2 i)))))))).2.2.2))).1, (((σ.1, (σ.2.1, (σ.2.2.1, (σ.2.2.2.1, (σ.2.2.2.2.1, (σ.2.2.2.2.2.1, (σ.2.2.2.2.2.2.1, (fun i => if i = j1 then (τ.2.1) else σ.2.2.2.2.2.2.2 i)))))))).1, ((σ.1, (σ.2.1, (σ.2.2.1, (σ.2.2.2.1, (σ.2.2.2.2.1, (σ.2.2.2.2.2.1, (σ.2.2.2.2.2.2.1, (fun i => if i = j1 then (τ.2.1) else σ.2.2.2.2.2.2.2 i)))))))).2.1, (((σ.1, (σ.2.1, (σ.2.2.1, (σ.2.2.2.1, (σ.2.2.2.2.1, (σ.2.2.2.2.2.1, (σ.2.2.2.2.2.2.1, (fun i => if i = j1 then (τ.2.1) else σ.2.2.2.2.2.2.2 i)))))))).2.2.1.1, ((σ.1, (σ.2.1, (σ.2.2.1, (σ.2.2.2.1, (σ.2.2.2.2.1, (σ.2.2.2.2.2.1, (σ.2.2.2.2.2.2.1, (fun i => if i = j1 then (τ.2.1) else σ.2.2.2.2.2.2.2 i)))))))).2.2.1.2.1, ((τ.2.2.1), (σ.1, (σ.2.1, (σ.2.2.1, (σ.2.2.2.1, (σ.2.2.2.2.1, (σ.2.2.2.2.2.1, (σ.2.2.2.2.2.2.1, (fun i => if i = j1 then (τ.2.1) else σ.2.2.2.2.2.2.2 i)))))))).2.2.1.2.2.2))), (σ.1, (σ.2.1, (σ.2.2.1, (σ.2.2.2.1, (σ.2.2.2.2.1, (σ.2.2.2.2.2.1, (σ.2.2.2.2.2.2.1, (fun i => if i = j1 then (τ.2.1) else σ.2.2.2.2.2.2.2 i)))))))).2.2.2))).2.1, ((((σ.1, (σ.2.1, (σ.2.2.1, (σ.2.2.2.1, (σ.2.2.2.2.1, (σ.2.2.2.2.2.1, (σ.2.2.2.2.2.2.1, (fun i => if i = j1 then (τ.2.1) else σ.2.2.2.2.2.2.2 i)))))))).1, ((σ.1, (σ.2.1, (σ.2.2.1, (σ.2.2.2.1, (σ.2.2.2.2.1, (σ.2.2.2.2.2.1, (σ.2.2.2.2.2.2.1, (fun i => if i = j1 then (τ.2.1) else σ.2.2.2.2.2.2.2 i)))))))).2.1, (((σ.1, (σ.2.1, (σ.2.2.1, (σ.2.2.2.1, (σ.2.2.2.2.1, (σ.2.2.2.2.2.1, (σ.2.2.2.2.2.2.1, (fun i => if i = j1 then (τ.2.1) else σ.2.2.2.2.2.2.2 i)))))))).2.2.1.1, ((σ.1, (σ.2.1, (σ.2.2.1, (σ.2.2.2.1, (σ.2.2.2.2.1, (σ.2.2.2.2.2.1, (σ.2.2.2.2.2.2.1, (fun i => if i = j1 then (τ.2.1) else σ.2.2.2.2.2.2.2 i)))))))).2.2.1.2.1, ((τ.2.2.1), (σ.1, (σ.2.1, (σ.2.2.1, (σ.2.2.2.1, (σ.2.2.2.2.1, (σ.2.2.2.2.2.1, (σ.2.2.2.2.2.2.1, (fun i => if i = j1 then (τ.2.1) else σ.2.2.2.2.2.2.2 i)))))))).2.2.1.2.2.2))), (σ.1, (σ.2.1, (σ.2.2.1, (σ.2.2.2.1, (σ.2.2.2.2.1, (σ.2.2.2.2.2.1, (σ.2.2.2.2.2.2.1, (fun i => if i = j1 then (τ.2.1) else σ.2.2.2.2.2.2.2 i)))))))).2.2.2))).2.2.1.1, (((σ.1, (σ.2.1, (σ.2.2.1, (σ.2.2.2.1, (σ.2.2.2.2.1, (σ.2.2.2.2.2.1, (σ.2.2.2.2.2.2.1, (fun i => if i = j1 then (τ.2.1) else σ.2.2.2.2.2.2.2 i)))))))).1, ((σ.1, (σ.2.1, (σ.2.2.1, (σ.2.2.2.1, (σ.2.2.2.2.1, (σ.2.2.2.2.2.1, (σ.2.2.2.2.2.2.1, (fun i => if i = j1 then (τ.2.1) else σ.2.2.2.2.2.2.2 i)))))))).2.1, (((σ.1, (σ.2.1, (σ.2.2.1, (σ.2.2.2.1, (σ.2.2.2.2.1, (σ.2.2.2.2.2.1, (σ.2.2.2.2.2.2.1, (fun i => if i = j1 then (τ.2.1) else σ.2.2.2.2.2.2.2 i)))))))).2.2.1.1, ((σ.1, (σ.2.1, (σ.2.2.1, (σ.2.2.2.1, (σ.2.2.2.2.1, (σ.2.2.2.2.2.1, (σ.2.2.2.2.2.2.1, (fun i => if i = j1 then (τ.2.1) else σ.2.2.2.2.2.2.2 i)))))))).2.2.1.2.1, ((τ.2.2.1), (σ.1, (σ.2.1, (σ.2.2.1, (σ.2.2.2.1, (σ.2.2.2.2.1, (σ.2.2.2.2.2.1, (σ.2.2.2.2.2.2.1, (fun i => if i = j1 then (τ.2.1) else σ.2.2.2.2.2.2.2 i)))))))).2.2.1.2.2.2))), (σ.1, (σ.2.1, (σ.2.2.1, (σ.2.2.2.1, (σ.2.2.2.2.1, (σ.2.2.2.2.2.1, (σ.2.2.2.2.2.2.1, (fun i => if i = j1 then (τ.2.1) else σ.2.2.2.2.2.2.2 i)))))))).2.2.2))).2.2.1.2.1, (((σ.1, (σ.2.1, (σ.2.2.1, (σ.2.2.2.1, (σ.2.2.2.2.1, (σ.2.2.2.2.2.1, (σ.2.2.2.2.2.2.1, (fun i => if i = j1 then (τ.2.1) else σ.2.2.2.2.2.2.2 i)))))))).1, ((σ.1, (σ.2.1, (σ.2.2.1, (σ.2.2.2.1, (σ.2.2.2.2.1, (σ.2.2.2.2.2.1, (σ.2.2.2.2.2.2.1, (fun i => if i = j1 then (τ.2.1) else σ.2.2.2.2.2.2.2 i)))))))).2.1, (((σ.1, (σ.2.1, (σ.2.2.1, (σ.2.2.2.1, (σ.2.2.2.2.1, (σ.2.2.2.2.2.1, (σ.2.2.2.2.2.2.1, (fun i => if i = j1 then (τ.2.1) else σ.2.2.2.2.2.2.2 i)))))))).2.2.1.1, ((σ.1, (σ.2.1, (σ.2.2.1, (σ.2.2.2.1, (σ.2.2.2.2.1, (σ.2.2.2.2.2.1, (σ.2.2.2.2.2.2.1, (fun i => if i = j1 then (τ.2.1) else σ.2.2.2.2.2.2.2 i)))))))).2.2.1.2.1, ((τ.2.2.1), (σ.1, (σ.2.1, (σ.2.2.1, (σ.2.2.2.1, (σ.2.2.2.2.1, (σ.2.2.2.2.2.1, (σ.2.2.2.2.2.2.1, (fun i => if i = j1 then (τ.2.1) else σ.2.2.2.2.2.2.2 i)))))))).2.2.1.2.2.2))), (σ.1, (σ.2.1, (σ.2.2.1, (σ.2.2.2.1, (σ.2.2.2.2.1, (σ.2.2.2.2.2.1, (σ.2.2.2.2.2.2.1, (fun i => if i = j1 then (τ.2.1) else σ.2.2.2.2.2.2.2 i)))))))).2.2.2))).2.2.1.2.2.1, (τ.2.2.2)))), ((σ.1, (σ.2.1, (σ.2.2.1, (σ.2.2.2.1, (σ.2.2.2.2.1, (σ.2.2.2.2.2.1, (σ.2.2.2.2.2.2.1, (fun i => if i = j1 then (τ.2.1) else σ.2.2.2.2.2.2.2 i)))))))).1, ((σ.1, (σ.2.1, (σ.2.2.1, (σ.2.2.2.1, (σ.2.2.2.2.1, (σ.2.2.2.2.2.1, (σ.2.2.2.2.2.2.1, (fun i => if i = j1 then (τ.2.1) else σ.2.2.2.2.2.2.2 i)))))))).2.1, (((σ.1, (σ.2.1, (σ.2.2.1, (σ.2.2.2.1, (σ.2.2.2.2.1, (σ.2.2.2.2.2.1, (σ.2.2.2.2.2.2.1, (fun i => if i = j1 then (τ.2.1) else σ.2.2.2.2.2.2.2 i)))))))).2.2.1.1, ((σ.1, (σ.2.1, (σ.2.2.1, (σ.2.2.2.1, (σ.2.2.2.2.1, (σ.2.2.2.2.2.1, (σ.2.2.2.2.2.2.1, (fun i => if i = j1 then (τ.2.1) else σ.2.2.2.2.2.2.2 i)))))))).2.2.1.2.1, ((τ.2.2.1), (σ.1, (σ.2.1, (σ.2.2.1, (σ.2.2.2.1, (σ.2.2.2.2.1, (σ.2.2.2.2.2.1, (σ.2.2.2.2.2.2.1, (fun i => if i = j1 then (τ.2.1) else σ.2.2.2.2.2.2.2 i)))))))).2.2.1.2.2.2))), (σ.1, (σ.2.1, (σ.2.2.1, (σ.2.2.2.1, (σ.2.2.2.2.1, (σ.2.2.2.2.2.1, (σ.2.2.2.2.2.2.1, (fun i => if i = j1 then (τ.2.1) else σ.2.2.2.2.2.2.2 i)))))))).2.2.2))).2.2.2))) := rfl
  have ee : nd_sets (dg_X11 a ac σ) [29 + j1, 3, 4] [dw_X6 (fun k => a (k + j1 * 20 + 167)) (fun k => ac (k + j1 * 20 + 167)) (τ.2.1), dwo_X6 (fun k => a (k + 7)) (fun k => ac (k + 7)) (τ.2.2.1), dw_X10 (fun k => a (k + 17)) (fun k => ac (k + 17)) (τ.2.2.2)] = dg_X11 a ac (((σ.1, (σ.2.1, (σ.2.2.1, (σ.2.2.2.1, (σ.2.2.2.2.1, (σ.2.2.2.2.2.1, (σ.2.2.2.2.2.2.1, (fun i => if i = j1 then (τ.2.1) else σ.2.2.2.2.2.2.2 i)))))))).1, ((σ.1, (σ.2.1, (σ.2.2.1, (σ.2.2.2.1, (σ.2.2.2.2.1, (σ.2.2.2.2.2.1, (σ.2.2.2.2.2.2.1, (fun i => if i = j1 then (τ.2.1) else σ.2.2.2.2.2.2.2 i)))))))).2.1, (((σ.1, (σ.2.1, (σ.2.2.1, (σ.2.2.2.1, (σ.2.2.2.2.1, (σ.2.2.2.2.2.1, (σ.2.2.2.2.2.2.1, (fun i => if i = j1 then (τ.2.1) else σ.2.2.2.2.2.2.2 i)))))))).2.2.1.1, ((σ.1, (σ.2.1, (σ.2.2.1, (σ.2.2.2.1, (σ.2.2.2.2.1, (σ.2.2.2.2.2.1, (σ.2.2.2.2.2.2.1, (fun i => if i = j1 then (τ.2.1) else σ.2.2.2.2.2.2.2 i)))))))).2.2.1.2.1, ((τ.2.2.1), (σ.1, (σ.2.1, (σ.2.2.1, (σ.2.2.2.1, (σ.2.2.2.2.1, (σ.2.2.2.2.2.1, (σ.2.2.2.2.2.2.1, (fun i => if i = j1 then (τ.2.1) else σ.2.2.2.2.2.2.2 i)))))))).2.2.1.2.2.2))), (σ.1, (σ.2.1, (σ.2.2.1, (σ.2.2.2.1, (σ.2.2.2.2.1, (σ.2.2.2.2.2.1, (σ.2.2.2.2.2.2.1, (fun i => if i = j1 then (τ.2.1) else σ.2.2.2.2.2.2.2 i)))))))).2.2.2))).1, (((σ.1, (σ.2.1, (σ.2.2.1, (σ.2.2.2.1, (σ.2.2.2.2.1, (σ.2.2.2.2.2.1, (σ.2.2.2.2.2.2.1, (fun i => if i = j1 then (τ.2.1) else σ.2.2.2.2.2.2.2 i)))))))).1, ((σ.1, (σ.2.1, (σ.2.2.1, (σ.2.2.2.1, (σ.2.2.2.2.1, (σ.2.2.2.2.2.1, (σ.2.2.2.2.2.2.1, (fun i => if i = j1 then (τ.2.1) else σ.2.2.2.2.2.2.2 i)))))))).2.1, (((σ.1, (σ.2.1, (σ.2.2.1, (σ.2.2.2.1, (σ.2.2.2.2.1, (σ.2.2.2.2.2.1, (σ.2.2.2.2.2.2.1, (fun i => if i = j1 then (τ.2.1) else σ.2.2.2.2.2.2.2 i)))))))).2.2.1.1, ((σ.1, (σ.2.1, (σ.2.2.1, (σ.2.2.2.1, (σ.2.2.2.2.1, (σ.2.2.2.2.2.1, (σ.2.2.2.2.2.2.1, (fun i => if i = j1 then (τ.2.1) else σ.2.2.2.2.2.2.2 i)))))))).2.2.1.2.1, ((τ.2.2.1), (σ.1, (σ.2.1, (σ.2.2.1, (σ.2.2.2.1, (σ.2.2.2.2.1, (σ.2.2.2.2.2.1, (σ.2.2.2.2.2.2.1, (fun i => if i = j1 then (τ.2.1) else σ.2.2.2.2.2.2.2 i)))))))).2.2.1.2.2.2))), (σ.1, (σ.2.1, (σ.2.2.1, (σ.2.2.2.1, (σ.2.2.2.2.1, (σ.2.2.2.2.2.1, (σ.2.2.2.2.2.2.1, (fun i => if i = j1 then (τ.2.1) else σ.2.2.2.2.2.2.2 i)))))))).2.2.2))).2.1, ((((σ.1, (σ.2.1, (σ.2.2.1, (σ.2.2.2.1, (σ.2.2.2.2.1, (σ.2.2.2.2.2.1, (σ.2.2.2.2.2.2.1, (fun i => if i = j1 then (τ.2.1) else σ.2.2.2.2.2.2.2 i)))))))).1, ((σ.1, (σ.2.1, (σ.2.2.1, (σ.2.2.2.1, (σ.2.2.2.2.1, (σ.2.2.2.2.2.1, (σ.2.2.2.2.2.2.1, (fun i => if i = j1 then (τ.2.1) else σ.2.2.2.2.2.2.2 i)))))))).2.1, (((σ.1, (σ.2.1, (σ.2.2.1, (σ.2.2.2.1, (σ.2.2.2.2.1, (σ.2.2.2.2.2.1, (σ.2.2.2.2.2.2.1, (fun i => if i = j1 then (τ.2.1) else σ.2.2.2.2.2.2.2 i)))))))).2.2.1.1, ((σ.1, (σ.2.1, (σ.2.2.1, (σ.2.2.2.1, (σ.2.2.2.2.1, (σ.2.2.2.2.2.1, (σ.2.2.2.2.2.2.1, (fun i => if i = j1 then (τ.2.1) else σ.2.2.2.2.2.2.2 i)))))))).2.2.1.2.1, ((τ.2.2.1), (σ.1, (σ.2.1, (σ.2.2.1, (σ.2.2.2.1, (σ.2.2.2.2.1, (σ.2.2.2.2.2.1, (σ.2.2.2.2.2.2.1, (fun i => if i = j1 then (τ.2.1) else σ.2.2.2.2.2.2.2 i)))))))).2.2.1.2.2.2))), (σ.1, (σ.2.1, (σ.2.2.1, (σ.2.2.2.1, (σ.2.2.2.2.1, (σ.2.2.2.2.2.1, (σ.2.2.2.2.2.2.1, (fun i => if i = j1 then (τ.2.1) else σ.2.2.2.2.2.2.2 i)))))))).2.2.2))).2.2.1.1, (((σ.1, (σ.2.1, (σ.2.2.1, (σ.2.2.2.1, (σ.2.2.2.2.1, (σ.2.2.2.2.2.1, (σ.2.2.2.2.2.2.1, (fun i => if i = j1 then (τ.2.1) else σ.2.2.2.2.2.2.2 i)))))))).1, ((σ.1, (σ.2.1, (σ.2.2.1, (σ.2.2.2.1, (σ.2.2.2.2.1, (σ.2.2.2.2.2.1, (σ.2.2.2.2.2.2.1, (fun i => if i = j1 then (τ.2.1) else σ.2.2.2.2.2.2.2 i)))))))).2.1, (((σ.1, (σ.2.1, (σ.2.2.1, (σ.2.2.2.1, (σ.2.2.2.2.1, (σ.2.2.2.2.2.1, (σ.2.2.2.2.2.2.1, (fun i => if i = j1 then (τ.2.1) else σ.2.2.2.2.2.2.2 i)))))))).2.2.1.1, ((σ.1, (σ.2.1, (σ.2.2.1, (σ.2.2.2.1, (σ.2.2.2.2.1, (σ.2.2.2.2.2.1, (σ.2.2.2.2.2.2.1, (fun i => if i = j1 then (τ.2.1) else σ.2.2.2.2.2.2.2 i)))))))).2.2.1.2.1, ((τ.2.2.1), (σ.1, (σ.2.1, (σ.2.2.1, (σ.2.2.2.1, (σ.2.2.2.2.1, (σ.2.2.2.2.2.1, (σ.2.2.2.2.2.2.1, (fun i => if i = j1 then (τ.2.1) else σ.2.2.2.2.2.2.2 i)))))))).2.2.1.2.2.2))), (σ.1, (σ.2.1, (σ.2.2.1, (σ.2.2.2.1, (σ.2.2.2.2.1, (σ.2.2.2.2.2.1, (σ.2.2.2.2.2.2.1, (fun i => if i = j1 then (τ.2.1) else σ.2.2.2.2.2.2.2 i)))))))).2.2.2))).2.2.1.2.1, (((σ.1, (σ.2.1, (σ.2.2.1, (σ.2.2.2.1, (σ.2.2.2.2.1, (σ.2.2.2.2.2.1, (σ.2.2.2.2.2.2.1, (fun i => if i = j1 then (τ.2.1) else σ.2.2.2.2.2.2.2 i)))))))).1, ((σ.1, (σ.2.1, (σ.2.2.1, (σ.2.2.2.1, (σ.2.2.2.2.1, (σ.2.2.2.2.2.1, (σ.2.2.2.2.2.2.1, (fun i => if i = j1 then (τ.2.1) else σ.2.2.2.2.2.2.2 i)))))))).2.1, (((σ.1, (σ.2.1, (σ.2.2.1, (σ.2.2.2.1, (σ.2.2.2.2.1, (σ.2.2.2.2.2.1, (σ.2.2.2.2.2.2.1, (fun i => if i = j1 then (τ.2.1) else σ.2.2.2.2.2.2.2 i)))))))).2.2.1.1, ((σ.1, (σ.2.1, (σ.2.2.1, (σ.2.2.2.1, (σ.2.2.2.2.1, (σ.2.2.2.2.2.1, (σ.2.2.2.2.2.2.1, (fun i => if i = j1 then (τ.2.1) else σ.2.2.2.2.2.2.2 i)))))))).2.2.1.2.1, ((τ.2.2.1), (σ.1, (σ.2.1, (σ.2.2.1, (σ.2.2.2.1, (σ.2.2.2.2.1, (σ.2.2.2.2.2.1, (σ.2.2.2.2.2.2.1, (fun i => if i = j1 then (τ.2.1) else σ.2.2.2.2.2.2.2 i)))))))).2.2.1.2.2.2))), (σ.1, (σ.2.1, (σ.2.2.1, (σ.2.2.2.1, (σ.2.2.2.2.1, (σ.2.2.2.2.2.1, (σ.2.2.2.2.2.2.1, (fun i => if i = j1 then (τ.2.1) else σ.2.2.2.2.2.2.2 i)))))))).2.2.2))).2.2.1.2.2.1, (τ.2.2.2)))), ((σ.1, (σ.2.1, (σ.2.2.1, (σ.2.2.2.1, (σ.2.2.2.2.1, (σ.2.2.2.2.2.1, (σ.2.2.2.2.2.2.1, (fun i => if i = j1 then (τ.2.1) else σ.2.2.2.2.2.2.2 i)))))))).1, ((σ.1, (σ.2.1, (σ.2.2.1, (σ.2.2.2.1, (σ.2.2.2.2.1, (σ.2.2.2.2.2.1, (σ.2.2.2.2.2.2.1, (fun i => if i = j1 then (τ.2.1) else σ.2.2.2.2.2.2.2 i)))))))).2.1, (((σ.1, (σ.2.1, (σ.2.2.1, (σ.2.2.2.1, (σ.2.2.2.2.1, (σ.2.2.2.2.2.1, (σ.2.2.2.2.2.2.1, (fun i => if i = j1 then (τ.2.1) else σ.2.2.2.2.2.2.2 i)))))))).2.2.1.1, ((σ.1, (σ.2.1, (σ.2.2.1, (σ.2.2.2.1, (σ.2.2.2.2.1, (σ.2.2.2.2.2.1, (σ.2.2.2.2.2.2.1, (fun i => if i = j1 then (τ.2.1) else σ.2.2.2.2.2.2.2 i)))))))).2.2.1.2.1, ((τ.2.2.1), (σ.1, (σ.2.1, (σ.2.2.1, (σ.2.2.2.1, (σ.2.2.2.2.1, (σ.2.2.2.2.2.1, (σ.2.2.2.2.2.2.1, (fun i => if i = j1 then (τ.2.1) else σ.2.2.2.2.2.2.2 i)))))))).2.2.1.2.2.2))), (σ.1, (σ.2.1, (σ.2.2.1, (σ.2.2.2.1, (σ.2.2.2.2.1, (σ.2.2.2.2.2.1, (σ.2.2.2.2.2.2.1, (fun i => if i = j1 then (τ.2.1) else σ.2.2.2.2.2.2.2 i)))))))).2.2.2))).2.2.2))) := by
    show (((dg_X11 a ac σ).set (29 + j1) (dw_X6 (fun k => a (k + j1 * 20 + 167)) (fun k => ac (k + j1 * 20 + 167)) (τ.2.1))).set 3 (dwo_X6 (fun k => a (k + 7)) (fun k => ac (k + 7)) (τ.2.2.1))).set 4 (dw_X10 (fun k => a (k + 17)) (fun k => ac (k + 17)) (τ.2.2.2)) = _
    rw [e0, e1, e2]
  have hz : va_P D vwCl (dg_X11 a ac (((σ.1, (σ.2.1, (σ.2.2.1, (σ.2.2.2.1, (σ.2.2.2.2.1, (σ.2.2.2.2.2.1, (σ.2.2.2.2.2.2.1, (fun i => if i = j1 then (τ.2.1) else σ.2.2.2.2.2.2.2 i)))))))).1, ((σ.1, (σ.2.1, (σ.2.2.1, (σ.2.2.2.1, (σ.2.2.2.2.1, (σ.2.2.2.2.2.1, (σ.2.2.2.2.2.2.1, (fun i => if i = j1 then (τ.2.1) else σ.2.2.2.2.2.2.2 i)))))))).2.1, (((σ.1, (σ.2.1, (σ.2.2.1, (σ.2.2.2.1, (σ.2.2.2.2.1, (σ.2.2.2.2.2.1, (σ.2.2.2.2.2.2.1, (fun i => if i = j1 then (τ.2.1) else σ.2.2.2.2.2.2.2 i)))))))).2.2.1.1, ((σ.1, (σ.2.1, (σ.2.2.1, (σ.2.2.2.1, (σ.2.2.2.2.1, (σ.2.2.2.2.2.1, (σ.2.2.2.2.2.2.1, (fun i => if i = j1 then (τ.2.1) else σ.2.2.2.2.2.2.2 i)))))))).2.2.1.2.1, ((τ.2.2.1), (σ.1, (σ.2.1, (σ.2.2.1, (σ.2.2.2.1, (σ.2.2.2.2.1, (σ.2.2.2.2.2.1, (σ.2.2.2.2.2.2.1, (fun i => if i = j1 then (τ.2.1) else σ.2.2.2.2.2.2.2 i)))))))).2.2.1.2.2.2))), (σ.1, (σ.2.1, (σ.2.2.1, (σ.2.2.2.1, (σ.2.2.2.2.1, (σ.2.2.2.2.2.1, (σ.2.2.2.2.2.2.1, (fun i => if i = j1 then (τ.2.1) else σ.2.2.2.2.2.2.2 i)))))))).2.2.2))).1, (((σ.1, (σ.2.1, (σ.2.2.1, (σ.2.2.2.1, (σ.2.2.2.2.1, (σ.2.2.2.2.2.1, (σ.2.2.2.2.2.2.1, (fun i => if i = j1 then (τ.2.1) else σ.2.2.2.2.2.2.2 i)))))))).1, ((σ.1, (σ.2.1, (σ.2.2.1, (σ.2.2.2.1, (σ.2.2.2.2.1, (σ.2.2.2.2.2.1, (σ.2.2.2.2.2.2.1, (fun i => if i = j1 then (τ.2.1) else σ.2.2.2.2.2.2.2 i)))))))).2.1, (((σ.1, (σ.2.1, (σ.2.2.1, (σ.2.2.2.1, (σ.2.2.2.2.1, (σ.2.2.2.2.2.1, (σ.2.2.2.2.2.2.1, (fun i => if i = j1 then (τ.2.1) else σ.2.2.2.2.2.2.2 i)))))))).2.2.1.1, ((σ.1, (σ.2.1, (σ.2.2.1, (σ.2.2.2.1, (σ.2.2.2.2.1, (σ.2.2.2.2.2.1, (σ.2.2.2.2.2.2.1, (fun i => if i = j1 then (τ.2.1) else σ.2.2.2.2.2.2.2 i)))))))).2.2.1.2.1, ((τ.2.2.1), (σ.1, (σ.2.1, (σ.2.2.1, (σ.2.2.2.1, (σ.2.2.2.2.1, (σ.2.2.2.2.2.1, (σ.2.2.2.2.2.2.1, (fun i => if i = j1 then (τ.2.1) else σ.2.2.2.2.2.2.2 i)))))))).2.2.1.2.2.2))), (σ.1, (σ.2.1, (σ.2.2.1, (σ.2.2.2.1, (σ.2.2.2.2.1, (σ.2.2.2.2.2.1, (σ.2.2.2.2.2.2.1, (fun i => if i = j1 then (τ.2.1) else σ.2.2.2.2.2.2.2 i)))))))).2.2.2))).2.1, ((((σ.1, (σ.2.1, (σ.2.2.1, (σ.2.2.2.1, (σ.2.2.2.2.1, (σ.2.2.2.2.2.1, (σ.2.2.2.2.2.2.1, (fun i => if i = j1 then (τ.2.1) else σ.2.2.2.2.2.2.2 i)))))))).1, ((σ.1, (σ.2.1, (σ.2.2.1, (σ.2.2.2.1, (σ.2.2.2.2.1, (σ.2.2.2.2.2.1, (σ.2.2.2.2.2.2.1, (fun i => if i = j1 then (τ.2.1) else σ.2.2.2.2.2.2.2 i)))))))).2.1, (((σ.1, (σ.2.1, (σ.2.2.1, (σ.2.2.2.1, (σ.2.2.2.2.1, (σ.2.2.2.2.2.1, (σ.2.2.2.2.2.2.1, (fun i => if i = j1 then (τ.2.1) else σ.2.2.2.2.2.2.2 i)))))))).2.2.1.1, ((σ.1, (σ.2.1, (σ.2.2.1, (σ.2.2.2.1, (σ.2.2.2.2.1, (σ.2.2.2.2.2.1, (σ.2.2.2.2.2.2.1, (fun i => if i = j1 then (τ.2.1) else σ.2.2.2.2.2.2.2 i)))))))).2.2.1.2.1, ((τ.2.2.1), (σ.1, (σ.2.1, (σ.2.2.1, (σ.2.2.2.1, (σ.2.2.2.2.1, (σ.2.2.2.2.2.1, (σ.2.2.2.2.2.2.1, (fun i => if i = j1 then (τ.2.1) else σ.2.2.2.2.2.2.2 i)))))))).2.2.1.2.2.2))), (σ.1, (σ.2.1, (σ.2.2.1, (σ.2.2.2.1, (σ.2.2.2.2.1, (σ.2.2.2.2.2.1, (σ.2.2.2.2.2.2.1, (fun i => if i = j1 then (τ.2.1) else σ.2.2.2.2.2.2.2 i)))))))).2.2.2))).2.2.1.1, (((σ.1, (σ.2.1, (σ.2.2.1, (σ.2.2.2.1, (σ.2.2.2.2.1, (σ.2.2.2.2.2.1, (σ.2.2.2.2.2.2.1, (fun i => if i = j1 then (τ.2.1) else σ.2.2.2.2.2.2.2 i)))))))).1, ((σ.1, (σ.2.1, (σ.2.2.1, (σ.2.2.2.1, (σ.2.2.2.2.1, (σ.2.2.2.2.2.1, (σ.2.2.2.2.2.2.1, (fun i => if i = j1 then (τ.2.1) else σ.2.2.2.2.2.2.2 i)))))))).2.1, (((σ.1, (σ.2.1, (σ.2.2.1, (σ.2.2.2.1, (σ.2.2.2.2.1, (σ.2.2.2.2.2.1, (σ.2.2.2.2.2.2.1, (fun i => if i = j1 then (τ.2.1) else σ.2.2.2.2.2.2.2 i)))))))).2.2.1.1, ((σ.1, (σ.2.1, (σ.2.2.1, (σ.2.2.2.1, (σ.2.2.2.2.1, (σ.2.2.2.2.2.1, (σ.2.2.2.2.2.2.1, (fun i => if i = j1 then (τ.2.1) else σ.2.2.2.2.2.2.2 i)))))))).2.2.1.2.1, ((τ.2.2.1), (σ.1, (σ.2.1, (σ.2.2.1, (σ.2.2.2.1, (σ.2.2.2.2.1, (σ.2.2.2.2.2.1, (σ.2.2.2.2.2.2.1, (fun i => if i = j1 then (τ.2.1) else σ.2.2.2.2.2.2.2 i)))))))).2.2.1.2.2.2))), (σ.1, (σ.2.1, (σ.2.2.1, (σ.2.2.2.1, (σ.2.2.2.2.1, (σ.2.2.2.2.2.1, (σ.2.2.2.2.2.2.1, (fun i => if i = j1 then (τ.2.1) else σ.2.2.2.2.2.2.2 i)))))))).2.2.2))).2.2.1.2.1, (((σ.1, (σ.2.1, (σ.2.2.1, (σ.2.2.2.1, (σ.2.2.2.2.1, (σ.2.2.2.2.2.1, (σ.2.2.2.2.2.2.1, (fun i => if i = j1 then (τ.2.1) else σ.2.2.2.2.2.2.2 i)))))))).1, ((σ.1, (σ.2.1, (σ.2.2.1, (σ.2.2.2.1, (σ.2.2.2.2.1, (σ.2.2.2.2.2.1, (σ.2.2.2.2.2.2.1, (fun i => if i = j1 then (τ.2.1) else σ.2.2.2.2.2.2.2 i)))))))).2.1, (((σ.1, (σ.2.1, (σ.2.2.1, (σ.2.2.2.1, (σ.2.2.2.2.1, (σ.2.2.2.2.2.1, (σ.2.2.2.2.2.2.1, (fun i => if i = j1 then (τ.2.1) else σ.2.2.2.2.2.2.2 i)))))))).2.2.1.1, ((σ.1, (σ.2.1, (σ.2.2.1, (σ.2.2.2.1, (σ.2.2.2.2.1, (σ.2.2.2.2.2.1, (σ.2.2.2.2.2.2.1, (fun i => if i = j1 then (τ.2.1) else σ.2.2.2.2.2.2.2 i)))))))).2.2.1.2.1, ((τ.2.2.1), (σ.1, (σ.2.1, (σ.2.2.1, (σ.2.2.2.1, (σ.2.2.2.2.1, (σ.2.2.2.2.2.1, (σ.2.2.2.2.2.2.1, (fun i => if i = j1 then (τ.2.1) else σ.2.2.2.2.2.2.2 i)))))))).2.2.1.2.2.2))), (σ.1, (σ.2.1, (σ.2.2.1, (σ.2.2.2.1, (σ.2.2.2.2.1, (σ.2.2.2.2.2.1, (σ.2.2.2.2.2.2.1, (fun i => if i = j1 then (τ.2.1) else σ.2.2.2.2.2.2.2 i)))))))).2.2.2))).2.2.1.2.2.1, (τ.2.2.2)))), ((σ.1, (σ.2.1, (σ.2.2.1, (σ.2.2.2.1, (σ.2.2.2.2.1, (σ.2.2.2.2.2.1, (σ.2.2.2.2.2.2.1, (fun i => if i = j1 then (τ.2.1) else σ.2.2.2.2.2.2.2 i)))))))).1, ((σ.1, (σ.2.1, (σ.2.2.1, (σ.2.2.2.1, (σ.2.2.2.2.1, (σ.2.2.2.2.2.1, (σ.2.2.2.2.2.2.1, (fun i => if i = j1 then (τ.2.1) else σ.2.2.2.2.2.2.2 i)))))))).2.1, (((σ.1, (σ.2.1, (σ.2.2.1, (σ.2.2.2.1, (σ.2.2.2.2.1, (σ.2.2.2.2.2.1, (σ.2.2.2.2.2.2.1, (fun i => if i = j1 then (τ.2.1) else σ.2.2.2.2.2.2.2 i)))))))).2.2.1.1, ((σ.1, (σ.2.1, (σ.2.2.1, (σ.2.2.2.1, (σ.2.2.2.2.1, (σ.2.2.2.2.2.1, (σ.2.2.2.2.2.2.1, (fun i => if i = j1 then (τ.2.1) else σ.2.2.2.2.2.2.2 i)))))))).2.2.1.2.1, ((τ.2.2.1), (σ.1, (σ.2.1, (σ.2.2.1, (σ.2.2.2.1, (σ.2.2.2.2.1, (σ.2.2.2.2.2.1, (σ.2.2.2.2.2.2.1, (fun i => if i = j1 then (τ.2.1) else σ.2.2.2.2.2.2.2 i)))))))).2.2.1.2.2.2))), (σ.1, (σ.2.1, (σ.2.2.1, (σ.2.2.2.1, (σ.2.2.2.2.1, (σ.2.2.2.2.2.1, (σ.2.2.2.2.2.2.1, (fun i => if i = j1 then (τ.2.1) else σ.2.2.2.2.2.2.2 i)))))))).2.2.2))).2.2.2)))).flatten H1 := by rw [← ee]; exact h
  exact ⟨hz, nd_Da hD dA_X11⟩
def ow_dm_X11_keepCopy : List Cond := .code yX11_keepCopy cX11_keepCopy 1 none :: ([.fieldLink RX11 85 "TimeMachine$Timeline" "copies" "I", .fieldLink RX11 48 "TimeMachine$Timeline" "copy" "[LTimeMachine$Machine;", .fieldLink RX11 30 "TimeMachine$Timeline" "machine" "LTimeMachine$Machine;", .methodLink RX11 94 yX6_become, .instanceMethod yX6_become, .selects RX6 yX6_become yX6_become, .initialized RX6, .fieldLink RX11 52 "TimeMachine$Timeline" "copyAt" "[I", .fieldLink RX11 72 "TimeMachine$Timeline" "now" "I"] ++ (u_ws RX11 TX11 16 ++ (ow_dm_X6_become ++ [])))
theorem gd_dm_X11_keepCopy : ∀ w ∈ ow_dm_X11_keepCopy, (w.onTables && w.keeps) = true ∨ ∃ ty, w = Cond.arrayClass ty := List.forall_mem_cons.mpr ⟨good_of_word rfl, List.forall_mem_append.mpr ⟨fun w h => good_of_word (List.all_eq_true.mp (by decide +kernel) w h), List.forall_mem_append.mpr ⟨gu_X11, List.forall_mem_append.mpr ⟨gd_dm_X6_become, fun _ h => nomatch h⟩⟩⟩⟩
theorem hi_dm_X11_keepCopy_X11 : ∀ w ∈ u_ws RX11 TX11 16, w ∈ ow_dm_X11_keepCopy := fun w h => List.mem_cons_of_mem _ (List.mem_append_right _ (List.mem_append_left _ h))
theorem gi_dm_X11_keepCopy_0 : GoodIn ow_dm_X11_keepCopy (wsV RX11 94 RX6 yX6_become ow_dm_X6_become) := goodIn_app (goodIn_of _ (by decide +kernel)) (fun w h => ⟨List.mem_cons_of_mem _ (List.mem_append_right _ (List.mem_append_right _ (List.mem_append_left _ h))), gd_dm_X6_become w h⟩)
def dj_X11_keepCopy_48 (p : Program) (l : Launch) (e : Env) (s : State) (m : MethodId) (args : Array Value) (below : List Frame) (meth : Method) (c : Code) (Q : State → Prop) (A : Nat → Prop) (dC : Nat → ClassId) (dI : Nat → Nat → Nat) (a : Nat → Nat) (ac : Nat → ClassId) (g : (St × Rw × (St × (St × (St × (St)))) × (St) × (St) × (Nat → St) × (Nat → St) × (Nat → St × (St))) → Option (St × Rw × (St × (St × (St × (St)))) × (St) × (St) × (Nat → St) × (Nat → St) × (Nat → St × (St)))) (r : St × Rw × (St × (St × (St × (St)))) × (St) × (St) × (Nat → St) × (Nat → St) × (Nat → St × (St))) : Prop := ∀ (s0 : St × Rw × (St × (St × (St × (St)))) × (St) × (St) × (Nat → St) × (Nat → St) × (Nat → St × (St))) (H : Heap) (locs : List Loc) (ls : Array Slot), g s0 = some r → va_P (dC, dI) vwCl (dw_X11 a ac s0) H → va_D A (dw_X11 a ac s0) → va_S A s.heap H locs → lv_has ls 1 [] → W p l e (headSpec ow_dm_X11_keepCopy ({ frames := 3, cells := 0, slots := 0, locals := 83 })).room s m args below meth c H locs 0 0 Q (F0 m 48 ls [])
def dj_X11_keepCopy_0 (p : Program) (l : Launch) (e : Env) (s : State) (m : MethodId) (args : Array Value) (below : List Frame) (meth : Method) (c : Code) (Q : State → Prop) (A : Nat → Prop) (dC : Nat → ClassId) (dI : Nat → Nat → Nat) (a : Nat → Nat) (ac : Nat → ClassId) (g : (St × Rw × (St × (St × (St × (St)))) × (St) × (St) × (Nat → St) × (Nat → St) × (Nat → St × (St))) → Option (St × Rw × (St × (St × (St × (St)))) × (St) × (St) × (Nat → St) × (Nat → St) × (Nat → St × (St)))) (r : St × Rw × (St × (St × (St × (St)))) × (St) × (St) × (Nat → St) × (Nat → St) × (Nat → St × (St))) : Prop := ∀ (s0 : St × Rw × (St × (St × (St × (St)))) × (St) × (St) × (Nat → St) × (Nat → St) × (Nat → St × (St))) (H : Heap) (locs : List Loc) (ls : Array Slot), g s0 = some r → va_P (dC, dI) vwCl (dw_X11 a ac s0) H → va_D A (dw_X11 a ac s0) → va_S A s.heap H locs → lv_has ls 1 [(0, .ref (a 0))] → W p l e (headSpec ow_dm_X11_keepCopy ({ frames := 3, cells := 0, slots := 0, locals := 83 })).room s m args below meth c H locs 0 0 Q (F0 m 0 ls [])
set_option maxHeartbeats 40000000 in
set_option maxRecDepth 100000 in
theorem db_X11_keepCopy_48 {p : Program} {l : Launch} {e : Env} {s : State} {m : MethodId} {args : Array Value} {below : List Frame} {meth : Method} {c : Code} {Q : State → Prop} {A : Nat → Prop} {dC : Nat → ClassId} {dI : Nat → Nat → Nat} {a : Nat → Nat} {ac : Nat → ClassId} {n : Nat} {r : St × Rw × (St × (St × (St × (St)))) × (St) × (St) × (Nat → St) × (Nat → St) × (Nat → St × (St))} (C : nd_C p l s m args c A (dC, dI) cX11_keepCopy 1 RX11 ow_dm_X11_keepCopy (dk_X11 ac)) (K : nd_Kv p l e (headSpec ow_dm_X11_keepCopy ({ frames := 3, cells := 0, slots := 0, locals := 83 })).room s m args below meth c Q A (dC, dI) cX11_keepCopy (St × Rw × (St × (St × (St × (St)))) × (St) × (St) × (Nat → St) × (Nat → St) × (Nat → St × (St))) (dw_X11 a ac) r) : dj_X11_keepCopy_48 p l e s m args below meth c Q A dC dI a ac (df_X11_keepCopy_48 n) r := by
  obtain ⟨hlt, hx, hb, hml, hown, hts, hN, hA, hK⟩ := id C
  intro s0 H locs ls h hP hD hS hl
  unfold df_X11_keepCopy_48 at h
  exact K _ _ _ _ _ dX11_keepCopy_48 (Option.some.inj h).symm hP hD hS
set_option maxHeartbeats 40000000 in
set_option maxRecDepth 100000 in
theorem db_X11_keepCopy_0 {p : Program} {l : Launch} {e : Env} {s : State} {m : MethodId} {args : Array Value} {below : List Frame} {meth : Method} {c : Code} {Q : State → Prop} {A : Nat → Prop} {dC : Nat → ClassId} {dI : Nat → Nat → Nat} {a : Nat → Nat} {ac : Nat → ClassId} {n : Nat} {r : St × Rw × (St × (St × (St × (St)))) × (St) × (St) × (Nat → St) × (Nat → St) × (Nat → St × (St))} (C : nd_C p l s m args c A (dC, dI) cX11_keepCopy 1 RX11 ow_dm_X11_keepCopy (dk_X11 ac)) (K : nd_Kv p l e (headSpec ow_dm_X11_keepCopy ({ frames := 3, cells := 0, slots := 0, locals := 83 })).room s m args below meth c Q A (dC, dI) cX11_keepCopy (St × Rw × (St × (St × (St × (St)))) × (St) × (St) × (Nat → St) × (Nat → St) × (Nat → St × (St))) (dw_X11 a ac) r) : dj_X11_keepCopy_0 p l e s m args below meth c Q A dC dI a ac (df_X11_keepCopy_0 n) r := by
  obtain ⟨hlt, hx, hb, hml, hown, hts, hN, hA, hK⟩ := id C
  intro s0 H locs ls h hP hD hS hl
  unfold df_X11_keepCopy_0 at h
  refine lv_aload_n hx hb dX11_keepCopy_0 rfl (lv_at hl 0 rfl) ?_
  refine va_get (D := (dC, dI)) (ci := 12) (v := .int (sI s0.1 1)) (C := RX11) (T := TX11) (N := 16) hx hb hts hi_dm_X11_keepCopy_X11 hown hK hP 0 rfl rfl 9 (by decide) (hts (.fieldLink RX11 85 "TimeMachine$Timeline" "copies" "I") (List.mem_of_getElem? (i := 1) rfl)) (fun _ h9 => h9) rfl dX11_keepCopy_1 ?_
  refine lv_bipush (v := 8) hx hb dX11_keepCopy_4 (by decide) ?_
  refine lv_icmp_ge (tgt := 48) hx hb dX11_keepCopy_6 (by decide) (fun c1 => ?_) (fun c1 => ?_)
  · have h := nd_pos h c1
    exact (db_X11_keepCopy_48 C K)  s0 _ _ _ h hP hD hS (lv_sub hl [] rfl)
  · have h := nd_neg h c1
    refine lv_aload_n hx hb dX11_keepCopy_9 rfl (lv_at hl 0 rfl) ?_
    refine va_get (D := (dC, dI)) (ci := 12) (v := .ref (a 40)) (C := RX11) (T := TX11) (N := 16) hx hb hts hi_dm_X11_keepCopy_X11 hown hK hP 0 rfl rfl 7 (by decide) (hts (.fieldLink RX11 48 "TimeMachine$Timeline" "copy" "[LTimeMachine$Machine;") (List.mem_of_getElem? (i := 2) rfl)) (fun _ h9 => h9) rfl dX11_keepCopy_10 ?_
    refine lv_aload_n hx hb dX11_keepCopy_13 rfl (lv_at hl 0 rfl) ?_
    refine va_get (D := (dC, dI)) (ci := 12) (v := .int (sI s0.1 1)) (C := RX11) (T := TX11) (N := 16) hx hb hts hi_dm_X11_keepCopy_X11 hown hK hP 0 rfl rfl 9 (by decide) (hts (.fieldLink RX11 85 "TimeMachine$Timeline" "copies" "I") (List.mem_of_getElem? (i := 1) rfl)) (fun _ h9 => h9) rfl dX11_keepCopy_14 ?_
    obtain ⟨i2, h⟩ := nd_ck_e h
    refine va_aldq (i := (sI s0.1 1)) hx hb hK hP 40 33 rfl rfl i2 dX11_keepCopy_17 ?_
    cases hrj3 : s0.2.1 3 (Int32.toNatClampNeg ((sI s0.1 1) : Int32)) with
    | none =>
      have h := nd_mN h hrj3
      refine W.eq (g2 := F0 m 18 ls [.null]) (by first | rfl | (show F0 m _ ls (va_rf (Option.map (fun j => a (0 + j * 20 + 167)) (s0.2.1 3 (Int32.toNatClampNeg ((sI s0.1 1) : Int32)))) :: _) = _; rw [hrj3]; rfl)) ?_
      refine lv_aload_n hx hb dX11_keepCopy_18 rfl (lv_at hl 0 rfl) ?_
      refine va_get (D := (dC, dI)) (ci := 12) (v := .ref (a 7)) (C := RX11) (T := TX11) (N := 16) hx hb hts hi_dm_X11_keepCopy_X11 hown hK hP 0 rfl rfl 3 (by decide) (hts (.fieldLink RX11 30 "TimeMachine$Timeline" "machine" "LTimeMachine$Machine;") (List.mem_of_getElem? (i := 3) rfl)) (fun _ h9 => h9) rfl dX11_keepCopy_19 ?_
      exact nomatch h
    | some j3 =>
      have h := nd_mS h hrj3
      refine W.eq (g2 := F0 m 18 ls [.ref (a (0 + j3 * 20 + 167))]) (by first | rfl | (show F0 m _ ls (va_rf (Option.map (fun j => a (0 + j * 20 + 167)) (s0.2.1 3 (Int32.toNatClampNeg ((sI s0.1 1) : Int32)))) :: _) = _; rw [hrj3]; rfl)) ?_
      refine lv_aload_n hx hb dX11_keepCopy_18 rfl (lv_at hl 0 rfl) ?_
      refine va_get (D := (dC, dI)) (ci := 12) (v := .ref (a 7)) (C := RX11) (T := TX11) (N := 16) hx hb hts hi_dm_X11_keepCopy_X11 hown hK hP 0 rfl rfl 3 (by decide) (hts (.fieldLink RX11 30 "TimeMachine$Timeline" "machine" "LTimeMachine$Machine;") (List.mem_of_getElem? (i := 3) rfl)) (fun _ h9 => h9) rfl dX11_keepCopy_19 ?_
      obtain ⟨l4, h⟩ := nd_lt_e h
      obtain ⟨s6, hq, h⟩ := nd_b1_e h
      have hPc := dp_wX11_X6m_6 l4 hP
      have hDc := dd_wX11_X6m_6 l4 hD
      have hKc := dy_wX11_X6m_6 l4 hK
      have hFc := nd_rs hDc hS hA
      have hzA : ∀ q : Nat, H.size ≤ q → A q := fun q h => hA q (Nat.le_trans hS.1 h)
      refine nd_cVv (As := [.ref (a 7)]) (rest := []) (w' := dw_X6m (fun k => a (if k < 20 then k - 0 + j3 * 20 + 167 else k - 20 + 7)) (fun k => ac (if k < 20 then k - 0 + j3 * 20 + 167 else k - 20 + 7)) s6) ⟨hx, hb, hml, hown, hts⟩ (fun sz => dm_X6_become l hlt dC dI (fun k => a (if k < 20 then k - 0 + j3 * 20 + 167 else k - 20 + 7)) (fun k => ac (if k < 20 then k - 0 + j3 * 20 + 167 else k - 20 + 7)) n  (nd_st0, (s0.2.2.2.2.2.2.2 j3), s0.2.2.1.2.2) hq sz) (cwV 1 hts gi_dm_X11_keepCopy_0 rfl rfl rfl (by decide +kernel) ⟨Nat.le_of_ble_eq_true rfl, Nat.le_of_ble_eq_true rfl⟩) hPc hDc hKc hS hA hN (va_recv hKc hPc (ci := 7) (q0 := 0) rfl rfl) rfl hl.1 rfl (Nat.le_of_ble_eq_true rfl) dX11_keepCopy_22 (fun H locs hP1 hD1 hk1 hS => ?_)
      obtain ⟨hP, hD⟩ := dn_wX11_X6m_6 l4 hP hD hzA hk1 hP1 hD1
      obtain ⟨s8, es8, h⟩ := nd_let_e h
      have hP : va_P (dC, dI) vwCl (dw_X11 a ac s8) H := by rw [es8]; exact hP
      have hD : va_D A (dw_X11 a ac s8) := by rw [es8]; exact hD
      refine lv_aload_n hx hb dX11_keepCopy_25 rfl (lv_at hl 0 rfl) ?_
      refine va_get (D := (dC, dI)) (ci := 12) (v := .ref (a 2)) (C := RX11) (T := TX11) (N := 16) hx hb hts hi_dm_X11_keepCopy_X11 hown hK hP 0 rfl rfl 8 (by decide) (hts (.fieldLink RX11 52 "TimeMachine$Timeline" "copyAt" "[I") (List.mem_of_getElem? (i := 8) rfl)) (fun _ h9 => h9) rfl dX11_keepCopy_26 ?_
      refine lv_aload_n hx hb dX11_keepCopy_29 rfl (lv_at hl 0 rfl) ?_
      refine va_get (D := (dC, dI)) (ci := 12) (v := .int (sI s8.1 1)) (C := RX11) (T := TX11) (N := 16) hx hb hts hi_dm_X11_keepCopy_X11 hown hK hP 0 rfl rfl 9 (by decide) (hts (.fieldLink RX11 85 "TimeMachine$Timeline" "copies" "I") (List.mem_of_getElem? (i := 1) rfl)) (fun _ h9 => h9) rfl dX11_keepCopy_30 ?_
      refine lv_aload_n hx hb dX11_keepCopy_33 rfl (lv_at hl 0 rfl) ?_
      refine va_get (D := (dC, dI)) (ci := 12) (v := .int (sI s8.1 3)) (C := RX11) (T := TX11) (N := 16) hx hb hts hi_dm_X11_keepCopy_X11 hown hK hP 0 rfl rfl 11 (by decide) (hts (.fieldLink RX11 72 "TimeMachine$Timeline" "now" "I") (List.mem_of_getElem? (i := 9) rfl)) (fun _ h9 => h9) rfl dX11_keepCopy_34 ?_
      obtain ⟨i9, h⟩ := nd_ck_e h
      refine va_iast (i := (sI s8.1 1)) (x := (sI s8.1 3)) hx hb hK hP hD hS 2 1 rfl rfl i9 dX11_keepCopy_37 (fun H locs hP hD hS => ?_)
      obtain ⟨s10, es10, h⟩ := nd_let_e h
      have hP : va_P (dC, dI) vwCl (dw_X11 a ac s10) H := by rw [es10]; exact hP
      have hD : va_D A (dw_X11 a ac s10) := by rw [es10]; exact hD
      refine lv_aload_n hx hb dX11_keepCopy_38 rfl (lv_at hl 0 rfl) ?_
      refine lv_dup hx hb dX11_keepCopy_39 rfl ?_
      refine va_get (D := (dC, dI)) (ci := 12) (v := .int (sI s10.1 1)) (C := RX11) (T := TX11) (N := 16) hx hb hts hi_dm_X11_keepCopy_X11 hown hK hP 0 rfl rfl 9 (by decide) (hts (.fieldLink RX11 85 "TimeMachine$Timeline" "copies" "I") (List.mem_of_getElem? (i := 1) rfl)) (fun _ h9 => h9) rfl dX11_keepCopy_40 ?_
      refine lv_iconst (v := 1) hx hb dX11_keepCopy_43 (by decide) ?_
      refine lv_iadd hx hb dX11_keepCopy_44 ?_
      refine va_put (D := (dC, dI)) (ci := 12) (v := .int ((sI s10.1 1) + 1)) (ty := .int) (C := RX11) (T := TX11) (N := 16) hx hb hts hi_dm_X11_keepCopy_X11 tyX11 tyX11_ok nmX11 hown hK hP hD hS 0 rfl rfl 9 (by decide) (hts (.fieldLink RX11 85 "TimeMachine$Timeline" "copies" "I") (List.mem_of_getElem? (i := 1) rfl)) (fun _ h9 => h9) rfl (by decide +kernel) rfl rfl (Nat.le_of_ble_eq_true rfl) dX11_keepCopy_45 (fun H locs hP hD hS => ?_)
      obtain ⟨s11, es11, h⟩ := nd_let_e h
      have hP : va_P (dC, dI) vwCl (dw_X11 a ac s11) H := by rw [es11]; exact hP
      have hD : va_D A (dw_X11 a ac s11) := by rw [es11]; exact hD
      exact (db_X11_keepCopy_48 C K)  s11 _ _ _ h hP hD hS (lv_sub hl [] rfl)
set_option maxHeartbeats 40000000 in
set_option maxRecDepth 100000 in
theorem dm_X11_keepCopy (l : Launch) (hlt : l.stackTraces = false) (dC : Nat → ClassId) (dI : Nat → Nat → Nat) (a : Nat → Nat) (ac : Nat → ClassId) (n : Nat) (s0 : St × Rw × (St × (St × (St × (St)))) × (St) × (St) × (Nat → St) × (Nat → St) × (Nat → St × (St))) {r : St × Rw × (St × (St × (St × (St)))) × (St) × (St) × (Nat → St) × (Nat → St) × (Nat → St × (St))} (h : df_X11_keepCopy n s0 = some r) (sz : Nat) : Met l yX11_keepCopy ow_dm_X11_keepCopy ({ frames := 3, cells := 0, slots := 0, locals := 83 }) (va_Pc [.ref (a 0)] (fun U => U.heap.size = sz ∧ va_P (dC, dI) vwCl (dw_X11 a ac s0) U.heap ∧ va_K (dC, dI) vwCl (dk_X11 ac) U ∧ va_D (fun _ => True) (dw_X11 a ac s0) ∧ nv_E (va_A (dw_X11 a ac s0) sz) U)) (va_Qv (fun _ => True) (fun (_ : Unit) t => va_P (dC, dI) vwCl (dw_X11 a ac r) t.heap ∧ va_K (dC, dI) vwCl (dk_X11 ac) t ∧ va_D (va_A (dw_X11 a ac s0) sz) (dw_X11 a ac r)) (va_A (dw_X11 a ac s0) sz)) 0 0 (va_A (dw_X11 a ac s0) sz) := by
  refine Met.ofW (cc := cX11_keepCopy) (maxL := 1) (ret := none) (by decide) rfl ?_
  intro p e s m args below meth c s₁ B hml hv
  obtain ⟨rfl, hsz, hP, hK, hD0, hN⟩ := hv
  have hx := B.exec
  have hb := B.bytes
  have hr := B.returns
  have hts := atoms_spec (ws := ow_dm_X11_keepCopy) B.pre
  have hown : s.vm.findClass RX11 = some m.cls := findClass_of_methodNamed B.named
  have hlocks := B.notSynchronized
  subst hsz
  have hD := hD0.self (sz := s.heap.size)
  generalize hAe : va_A (dw_X11 a ac s0) s.heap.size = A at hD hN ⊢
  have hA : ∀ q : Nat, s.heap.size ≤ q → A q := fun q h => by rw [← hAe]; exact Or.inr h
  have hl := lv_entry ([.ref (a 0)]) (n := 1) (Nat.le_of_ble_eq_true rfl)
  rw [lg_entry_eq]
  generalize (lg_sl ([.ref (a 0)]) ++ List.replicate (1 - (lg_sl ([.ref (a 0)])).length) Slot.unset).toArray = ls at hl ⊢
  have hl : lv_has ls 1 [(0, .ref (a 0))] := hl
  exact db_X11_keepCopy_0 (dC := dC) (dI := dI) (a := a) (ac := ac) (n := n) (r := r) ⟨hlt, hx, hb, hml, hown, hts, hN, hA, hK⟩ (fun pc τ H locs ls d er hP hD hS => by subst er; exact W.vret hx hb hr (fun t ht hW => ⟨⟨(), rfl, trivial, by rw [ht]; exact hP, va_K.moved hW.alike hK, hD⟩, hS.F ht⟩) hS.2.2 d) s0 _ _ _ h hP hD va_S.rf (lv_sub hl [0] rfl)
def ow_dm_X11_start : List Cond := .code yX11_start cX11_start 4 none :: ([.fieldLink RX11 11 "TimeMachine$Timeline" "programs" "[LTimeMachine$Program;", .fieldLink RX11 30 "TimeMachine$Timeline" "machine" "LTimeMachine$Machine;", .methodLink RX11 65 yX6_start, .instanceMethod yX6_start, .selects RX6 yX6_start yX6_start, .initialized RX6, .fieldLink RX11 68 "TimeMachine$Timeline" "booted" "Z", .fieldLink RX11 72 "TimeMachine$Timeline" "now" "I", .fieldLink RX11 76 "TimeMachine$Timeline" "end" "I", .fieldLink RX11 79 "TimeMachine$Timeline" "came" "I", .fieldLink RX11 82 "TimeMachine$Timeline" "missed" "Z", .fieldLink RX11 85 "TimeMachine$Timeline" "copies" "I", .fieldLink RX11 88 "TimeMachine$Timeline" "spacing" "I", .methodLink RX11 91 yX11_keepCopy, .instanceMethod yX11_keepCopy, .selects RX11 yX11_keepCopy yX11_keepCopy, .initialized RX11] ++ (u_ws RX11 TX11 16 ++ (ow_dm_X6_start ++ (ow_dm_X11_keepCopy ++ []))))
theorem gd_dm_X11_start : ∀ w ∈ ow_dm_X11_start, (w.onTables && w.keeps) = true ∨ ∃ ty, w = Cond.arrayClass ty := List.forall_mem_cons.mpr ⟨good_of_word rfl, List.forall_mem_append.mpr ⟨fun w h => good_of_word (List.all_eq_true.mp (by decide +kernel) w h), List.forall_mem_append.mpr ⟨gu_X11, List.forall_mem_append.mpr ⟨gd_dm_X6_start, List.forall_mem_append.mpr ⟨gd_dm_X11_keepCopy, fun _ h => nomatch h⟩⟩⟩⟩⟩
theorem hi_dm_X11_start_X11 : ∀ w ∈ u_ws RX11 TX11 16, w ∈ ow_dm_X11_start := fun w h => List.mem_cons_of_mem _ (List.mem_append_right _ (List.mem_append_left _ h))
theorem gi_dm_X11_start_0 : GoodIn ow_dm_X11_start (wsV RX11 65 RX6 yX6_start ow_dm_X6_start) := goodIn_app (goodIn_of _ (by decide +kernel)) (fun w h => ⟨List.mem_cons_of_mem _ (List.mem_append_right _ (List.mem_append_right _ (List.mem_append_left _ h))), gd_dm_X6_start w h⟩)
theorem gi_dm_X11_start_1 : GoodIn ow_dm_X11_start (wsV RX11 91 RX11 yX11_keepCopy ow_dm_X11_keepCopy) := goodIn_app (goodIn_of _ (by decide +kernel)) (fun w h => ⟨List.mem_cons_of_mem _ (List.mem_append_right _ (List.mem_append_right _ (List.mem_append_right _ (List.mem_append_left _ h)))), gd_dm_X11_keepCopy w h⟩)
def dj_X11_start_2 (p : Program) (l : Launch) (e : Env) (s : State) (m : MethodId) (args : Array Value) (below : List Frame) (meth : Method) (c : Code) (Q : State → Prop) (A : Nat → Prop) (dC : Nat → ClassId) (dI : Nat → Nat → Nat) (a : Nat → Nat) (ac : Nat → ClassId) (g : Int32 → Int32 → (St × Rw × (St × (St × (St × (St)))) × (St) × (St) × (Nat → St) × (Nat → St) × (Nat → St × (St))) → Option (St × Rw × (St × (St × (St × (St)))) × (St) × (St) × (Nat → St) × (Nat → St) × (Nat → St × (St)))) (r : St × Rw × (St × (St × (St × (St)))) × (St) × (St) × (Nat → St) × (Nat → St) × (Nat → St × (St))) : Prop := ∀ (x2 : Int32) (x3 : Int32) (s0 : St × Rw × (St × (St × (St × (St)))) × (St) × (St) × (Nat → St) × (Nat → St) × (Nat → St × (St))) (H : Heap) (locs : List Loc) (ls : Array Slot), g x2 x3 s0 = some r → va_P (dC, dI) vwCl (dw_X11 a ac s0) H → va_D A (dw_X11 a ac s0) → va_S A s.heap H locs → lv_has ls 4 [(0, .ref (a 0)), (1, .ref (a 38)), (2, .int x2), (3, .int x3)] → W p l e (headSpec ow_dm_X11_start ({ frames := 4, cells := 0, slots := 0, locals := 103 })).room s m args below meth c H locs 0 0 Q (F0 m 2 ls [])
def dj_X11_start_0 (p : Program) (l : Launch) (e : Env) (s : State) (m : MethodId) (args : Array Value) (below : List Frame) (meth : Method) (c : Code) (Q : State → Prop) (A : Nat → Prop) (dC : Nat → ClassId) (dI : Nat → Nat → Nat) (a : Nat → Nat) (ac : Nat → ClassId) (g : Int32 → (St × Rw × (St × (St × (St × (St)))) × (St) × (St) × (Nat → St) × (Nat → St) × (Nat → St × (St))) → Option (St × Rw × (St × (St × (St × (St)))) × (St) × (St) × (Nat → St) × (Nat → St) × (Nat → St × (St)))) (r : St × Rw × (St × (St × (St × (St)))) × (St) × (St) × (Nat → St) × (Nat → St) × (Nat → St × (St))) : Prop := ∀ (v1 : Int32) (s0 : St × Rw × (St × (St × (St × (St)))) × (St) × (St) × (Nat → St) × (Nat → St) × (Nat → St × (St))) (H : Heap) (locs : List Loc) (ls : Array Slot), g v1 s0 = some r → va_P (dC, dI) vwCl (dw_X11 a ac s0) H → va_D A (dw_X11 a ac s0) → va_S A s.heap H locs → lv_has ls 4 [(0, .ref (a 0)), (1, .ref (a 38)), (2, .int v1)] → W p l e (headSpec ow_dm_X11_start ({ frames := 4, cells := 0, slots := 0, locals := 103 })).room s m args below meth c H locs 0 0 Q (F0 m 0 ls [])
set_option maxHeartbeats 40000000 in
set_option maxRecDepth 100000 in
theorem dB_X11_start_2 {p : Program} {l : Launch} {e : Env} {s : State} {m : MethodId} {args : Array Value} {below : List Frame} {meth : Method} {c : Code} {Q : State → Prop} {A : Nat → Prop} {dC : Nat → ClassId} {dI : Nat → Nat → Nat} {a : Nat → Nat} {ac : Nat → ClassId} {n : Nat} {r : St × Rw × (St × (St × (St × (St)))) × (St) × (St) × (Nat → St) × (Nat → St) × (Nat → St × (St))} (C : nd_C p l s m args c A (dC, dI) cX11_start 4 RX11 ow_dm_X11_start (dk_X11 ac)) (K : nd_Kv p l e (headSpec ow_dm_X11_start ({ frames := 4, cells := 0, slots := 0, locals := 103 })).room s m args below meth c Q A (dC, dI) cX11_start (St × Rw × (St × (St × (St × (St)))) × (St) × (St) × (Nat → St) × (Nat → St) × (Nat → St × (St))) (dw_X11 a ac) r) {g2 : Int32 → Int32 → (St × Rw × (St × (St × (St × (St)))) × (St) × (St) × (Nat → St) × (Nat → St) × (Nat → St × (St))) → Option (St × Rw × (St × (St × (St × (St)))) × (St) × (St) × (Nat → St) × (Nat → St) × (Nat → St × (St)))} (J2 : dj_X11_start_2 p l e s m args below meth c Q A dC dI a ac g2 r) : dj_X11_start_2 p l e s m args below meth c Q A dC dI a ac (dF_X11_start_2 n g2) r := by
  obtain ⟨hlt, hx, hb, hml, hown, hts, hN, hA, hK⟩ := id C
  intro x2 x3 s0 H locs ls h hP hD hS hl
  unfold dF_X11_start_2 at h
  refine lv_iload_n hx hb dX11_start_2 rfl (lv_at hl 3 rfl) ?_
  refine lv_aload_n hx hb dX11_start_3 rfl (lv_at hl 0 rfl) ?_
  refine va_get (D := (dC, dI)) (ci := 12) (v := .ref (a 37)) (C := RX11) (T := TX11) (N := 16) hx hb hts hi_dm_X11_start_X11 hown hK hP 0 rfl rfl 0 (by decide) (hts (.fieldLink RX11 11 "TimeMachine$Timeline" "programs" "[LTimeMachine$Program;") (List.mem_of_getElem? (i := 1) rfl)) (fun _ h9 => h9) rfl dX11_start_4 ?_
  refine va_alen (v := 4) hx hb hK hP 37 30 rfl rfl (show Int32.ofNat 4 = 4 by decide) dX11_start_7 ?_
  refine lv_icmp_ge (tgt := 26) hx hb dX11_start_8 (by decide) (fun c1 => ?_) (fun c1 => ?_)
  · have h := nd_pos h c1
    refine lv_aload_n hx hb dX11_start_26 rfl (lv_at hl 0 rfl) ?_
    refine va_get (D := (dC, dI)) (ci := 12) (v := .ref (a 7)) (C := RX11) (T := TX11) (N := 16) hx hb hts hi_dm_X11_start_X11 hown hK hP 0 rfl rfl 3 (by decide) (hts (.fieldLink RX11 30 "TimeMachine$Timeline" "machine" "LTimeMachine$Machine;") (List.mem_of_getElem? (i := 2) rfl)) (fun _ h9 => h9) rfl dX11_start_27 ?_
    refine lv_aload_n hx hb dX11_start_30 rfl (lv_at hl 0 rfl) ?_
    refine va_get (D := (dC, dI)) (ci := 12) (v := .ref (a 37)) (C := RX11) (T := TX11) (N := 16) hx hb hts hi_dm_X11_start_X11 hown hK hP 0 rfl rfl 0 (by decide) (hts (.fieldLink RX11 11 "TimeMachine$Timeline" "programs" "[LTimeMachine$Program;") (List.mem_of_getElem? (i := 1) rfl)) (fun _ h9 => h9) rfl dX11_start_31 ?_
    refine lv_iload_n hx hb dX11_start_34 rfl (lv_at hl 2 rfl) ?_
    obtain ⟨i2, h⟩ := nd_ck_e h
    refine va_aldq (i := x2) hx hb hK hP 37 30 rfl rfl i2 dX11_start_35 ?_
    cases hrj3 : s0.2.1 0 (Int32.toNatClampNeg x2) with
    | none =>
      have h := nd_mN h hrj3
      refine W.eq (g2 := F0 m 36 ls [.null, .ref (a 7)]) (by first | rfl | (show F0 m _ ls (va_rf (Option.map (fun j => a (0 + j * 5 + 41)) (s0.2.1 0 (Int32.toNatClampNeg x2))) :: _) = _; rw [hrj3]; rfl)) ?_
      exact nomatch h
    | some j3 =>
      have h := nd_mS h hrj3
      refine W.eq (g2 := F0 m 36 ls [.ref (a (0 + j3 * 5 + 41)), .ref (a 7)]) (by first | rfl | (show F0 m _ ls (va_rf (Option.map (fun j => a (0 + j * 5 + 41)) (s0.2.1 0 (Int32.toNatClampNeg x2))) :: _) = _; rw [hrj3]; rfl)) ?_
      obtain ⟨l4, h⟩ := nd_lt_e h
      obtain ⟨s6, hq, h⟩ := nd_b1_e h
      have hPc := dp_wX11_X6p_4 l4 hP
      have hDc := dd_wX11_X6p_4 l4 hD
      have hKc := dy_wX11_X6p_4 l4 hK
      have hFc := nd_rs hDc hS hA
      have hzA : ∀ q : Nat, H.size ≤ q → A q := fun q h => hA q (Nat.le_trans hS.1 h)
      refine nd_cVv (As := [.ref (a (0 + j3 * 5 + 41))]) (rest := []) (w' := dw_X6p (fun k => a (if k < 20 then k - 0 + 7 else k - 20 + j3 * 5 + 41)) (fun k => ac (if k < 20 then k - 0 + 7 else k - 20 + j3 * 5 + 41)) s6) ⟨hx, hb, hml, hown, hts⟩ (fun sz => dm_X6_start l hlt dC dI (fun k => a (if k < 20 then k - 0 + 7 else k - 20 + j3 * 5 + 41)) (fun k => ac (if k < 20 then k - 0 + 7 else k - 20 + j3 * 5 + 41)) n  (nd_st0, s0.2.2.1.2.2, (s0.2.2.2.2.2.1 j3)) hq sz) (cwV 1 hts gi_dm_X11_start_0 rfl rfl rfl (by decide +kernel) ⟨Nat.le_of_ble_eq_true rfl, Nat.le_of_ble_eq_true rfl⟩) hPc hDc hKc hS hA hN (va_recv hKc hPc (ci := 7) (q0 := 0) rfl rfl) rfl hl.1 rfl (Nat.le_of_ble_eq_true rfl) dX11_start_36 (fun H locs hP1 hD1 hk1 hS => ?_)
      obtain ⟨hP, hD⟩ := dn_wX11_X6p_4 l4 hP hD hzA hk1 hP1 hD1
      obtain ⟨s8, es8, h⟩ := nd_let_e h
      have hP : va_P (dC, dI) vwCl (dw_X11 a ac s8) H := by rw [es8]; exact hP
      have hD : va_D A (dw_X11 a ac s8) := by rw [es8]; exact hD
      refine lv_aload_n hx hb dX11_start_39 rfl (lv_at hl 0 rfl) ?_
      refine lv_iconst (v := 1) hx hb dX11_start_40 (by decide) ?_
      refine va_put (D := (dC, dI)) (ci := 12) (v := .int 1) (ty := .boolean) (C := RX11) (T := TX11) (N := 16) hx hb hts hi_dm_X11_start_X11 tyX11 tyX11_ok nmX11 hown hK hP hD hS 0 rfl rfl 6 (by decide) (hts (.fieldLink RX11 68 "TimeMachine$Timeline" "booted" "Z") (List.mem_of_getElem? (i := 7) rfl)) (fun _ h9 => h9) rfl (by decide +kernel) (by first | rfl | decide) rfl (Nat.le_of_ble_eq_true rfl) dX11_start_41 (fun H locs hP hD hS => ?_)
      obtain ⟨s9, es9, h⟩ := nd_let_e h
      have hP : va_P (dC, dI) vwCl (dw_X11 a ac s9) H := by rw [es9]; exact hP
      have hD : va_D A (dw_X11 a ac s9) := by rw [es9]; exact hD
      refine lv_aload_n hx hb dX11_start_44 rfl (lv_at hl 0 rfl) ?_
      refine lv_iconst (v := 0) hx hb dX11_start_45 (by decide) ?_
      refine va_put (D := (dC, dI)) (ci := 12) (v := .int 0) (ty := .int) (C := RX11) (T := TX11) (N := 16) hx hb hts hi_dm_X11_start_X11 tyX11 tyX11_ok nmX11 hown hK hP hD hS 0 rfl rfl 11 (by decide) (hts (.fieldLink RX11 72 "TimeMachine$Timeline" "now" "I") (List.mem_of_getElem? (i := 8) rfl)) (fun _ h9 => h9) rfl (by decide +kernel) rfl rfl (Nat.le_of_ble_eq_true rfl) dX11_start_46 (fun H locs hP hD hS => ?_)
      obtain ⟨s10, es10, h⟩ := nd_let_e h
      have hP : va_P (dC, dI) vwCl (dw_X11 a ac s10) H := by rw [es10]; exact hP
      have hD : va_D A (dw_X11 a ac s10) := by rw [es10]; exact hD
      refine lv_aload_n hx hb dX11_start_49 rfl (lv_at hl 0 rfl) ?_
      refine lv_iconst (v := 0) hx hb dX11_start_50 (by decide) ?_
      refine va_put (D := (dC, dI)) (ci := 12) (v := .int 0) (ty := .int) (C := RX11) (T := TX11) (N := 16) hx hb hts hi_dm_X11_start_X11 tyX11 tyX11_ok nmX11 hown hK hP hD hS 0 rfl rfl 12 (by decide) (hts (.fieldLink RX11 76 "TimeMachine$Timeline" "end" "I") (List.mem_of_getElem? (i := 9) rfl)) (fun _ h9 => h9) rfl (by decide +kernel) rfl rfl (Nat.le_of_ble_eq_true rfl) dX11_start_51 (fun H locs hP hD hS => ?_)
      obtain ⟨s11, es11, h⟩ := nd_let_e h
      have hP : va_P (dC, dI) vwCl (dw_X11 a ac s11) H := by rw [es11]; exact hP
      have hD : va_D A (dw_X11 a ac s11) := by rw [es11]; exact hD
      refine lv_aload_n hx hb dX11_start_54 rfl (lv_at hl 0 rfl) ?_
      refine lv_iconst (v := 0) hx hb dX11_start_55 (by decide) ?_
      refine va_put (D := (dC, dI)) (ci := 12) (v := .int 0) (ty := .int) (C := RX11) (T := TX11) (N := 16) hx hb hts hi_dm_X11_start_X11 tyX11 tyX11_ok nmX11 hown hK hP hD hS 0 rfl rfl 13 (by decide) (hts (.fieldLink RX11 79 "TimeMachine$Timeline" "came" "I") (List.mem_of_getElem? (i := 10) rfl)) (fun _ h9 => h9) rfl (by decide +kernel) rfl rfl (Nat.le_of_ble_eq_true rfl) dX11_start_56 (fun H locs hP hD hS => ?_)
      obtain ⟨s12, es12, h⟩ := nd_let_e h
      have hP : va_P (dC, dI) vwCl (dw_X11 a ac s12) H := by rw [es12]; exact hP
      have hD : va_D A (dw_X11 a ac s12) := by rw [es12]; exact hD
      refine lv_aload_n hx hb dX11_start_59 rfl (lv_at hl 0 rfl) ?_
      refine lv_iconst (v := 0) hx hb dX11_start_60 (by decide) ?_
      refine va_put (D := (dC, dI)) (ci := 12) (v := .int 0) (ty := .boolean) (C := RX11) (T := TX11) (N := 16) hx hb hts hi_dm_X11_start_X11 tyX11 tyX11_ok nmX11 hown hK hP hD hS 0 rfl rfl 14 (by decide) (hts (.fieldLink RX11 82 "TimeMachine$Timeline" "missed" "Z") (List.mem_of_getElem? (i := 11) rfl)) (fun _ h9 => h9) rfl (by decide +kernel) (by first | rfl | decide) rfl (Nat.le_of_ble_eq_true rfl) dX11_start_61 (fun H locs hP hD hS => ?_)
      obtain ⟨s13, es13, h⟩ := nd_let_e h
      have hP : va_P (dC, dI) vwCl (dw_X11 a ac s13) H := by rw [es13]; exact hP
      have hD : va_D A (dw_X11 a ac s13) := by rw [es13]; exact hD
      refine lv_aload_n hx hb dX11_start_64 rfl (lv_at hl 0 rfl) ?_
      refine lv_iconst (v := 0) hx hb dX11_start_65 (by decide) ?_
      refine va_put (D := (dC, dI)) (ci := 12) (v := .int 0) (ty := .int) (C := RX11) (T := TX11) (N := 16) hx hb hts hi_dm_X11_start_X11 tyX11 tyX11_ok nmX11 hown hK hP hD hS 0 rfl rfl 9 (by decide) (hts (.fieldLink RX11 85 "TimeMachine$Timeline" "copies" "I") (List.mem_of_getElem? (i := 12) rfl)) (fun _ h9 => h9) rfl (by decide +kernel) rfl rfl (Nat.le_of_ble_eq_true rfl) dX11_start_66 (fun H locs hP hD hS => ?_)
      obtain ⟨s14, es14, h⟩ := nd_let_e h
      have hP : va_P (dC, dI) vwCl (dw_X11 a ac s14) H := by rw [es14]; exact hP
      have hD : va_D A (dw_X11 a ac s14) := by rw [es14]; exact hD
      refine lv_aload_n hx hb dX11_start_69 rfl (lv_at hl 0 rfl) ?_
      refine lv_sipush (v := 256) hx hb dX11_start_70 (by decide) ?_
      refine va_put (D := (dC, dI)) (ci := 12) (v := .int 256) (ty := .int) (C := RX11) (T := TX11) (N := 16) hx hb hts hi_dm_X11_start_X11 tyX11 tyX11_ok nmX11 hown hK hP hD hS 0 rfl rfl 10 (by decide) (hts (.fieldLink RX11 88 "TimeMachine$Timeline" "spacing" "I") (List.mem_of_getElem? (i := 13) rfl)) (fun _ h9 => h9) rfl (by decide +kernel) rfl rfl (Nat.le_of_ble_eq_true rfl) dX11_start_73 (fun H locs hP hD hS => ?_)
      obtain ⟨s15, es15, h⟩ := nd_let_e h
      have hP : va_P (dC, dI) vwCl (dw_X11 a ac s15) H := by rw [es15]; exact hP
      have hD : va_D A (dw_X11 a ac s15) := by rw [es15]; exact hD
      refine lv_aload_n hx hb dX11_start_76 rfl (lv_at hl 0 rfl) ?_
      obtain ⟨s17, hq, h⟩ := nd_b1_e h
      have hPc := hP
      have hDc := hD
      have hKc := hK
      have hFc := nd_rs hD hS hA
      refine nd_cVv (As := []) (rest := []) (w' := dw_X11 a ac s17) ⟨hx, hb, hml, hown, hts⟩ (fun sz => dm_X11_keepCopy l hlt dC dI a ac n  s15 hq sz) (cwV 0 hts gi_dm_X11_start_1 rfl rfl rfl (by decide +kernel) ⟨Nat.le_of_ble_eq_true rfl, Nat.le_of_ble_eq_true rfl⟩) hPc hDc hKc hS hA hN (va_recv hKc hPc (ci := 12) (q0 := 0) rfl rfl) rfl hl.1 rfl (Nat.le_of_ble_eq_true rfl) dX11_start_77 (fun H locs hP1 hD1 hk1 hS => ?_)
      have hP := hP1
      have hD := hD1.weaken (fun k q _ h => hFc q.1 h)
      exact K _ _ _ _ _ dX11_start_80 (Option.some.inj h).symm hP hD hS
  · have h := nd_neg h c1
    refine lv_aload_n hx hb dX11_start_11 rfl (lv_at hl 0 rfl) ?_
    refine va_get (D := (dC, dI)) (ci := 12) (v := .ref (a 37)) (C := RX11) (T := TX11) (N := 16) hx hb hts hi_dm_X11_start_X11 hown hK hP 0 rfl rfl 0 (by decide) (hts (.fieldLink RX11 11 "TimeMachine$Timeline" "programs" "[LTimeMachine$Program;") (List.mem_of_getElem? (i := 1) rfl)) (fun _ h9 => h9) rfl dX11_start_12 ?_
    refine lv_iload_n hx hb dX11_start_15 rfl (lv_at hl 3 rfl) ?_
    refine lv_aload_n hx hb dX11_start_16 rfl (lv_at hl 1 rfl) ?_
    refine lv_iload_n hx hb dX11_start_17 rfl (lv_at hl 3 rfl) ?_
    obtain ⟨i19, h⟩ := nd_ck_e h
    refine va_aldq (i := x3) hx hb hK hP 38 31 rfl rfl i19 dX11_start_18 ?_
    cases hrj20 : s0.2.1 1 (Int32.toNatClampNeg x3) with
    | none =>
      have h := nd_mN h hrj20
      refine W.eq (g2 := F0 m 19 ls [.null, .int x3, .ref (a 37)]) (by first | rfl | (show F0 m _ ls (va_rf (Option.map (fun j => a (0 + j * 5 + 41)) (s0.2.1 1 (Int32.toNatClampNeg x3))) :: _) = _; rw [hrj20]; rfl)) ?_
      obtain ⟨i21, h⟩ := nd_ck_e h
      refine va_astqN (i := x3) hx hb hK hP hD hS 37 30 rfl rfl i21 dX11_start_19 (fun H locs hP hD hS => ?_)
      have hP : va_P (dC, dI) vwCl ((dw_X11 a ac s0).set 37 (a 37, .inl (ac 37, 4, .inr (.inr (.inr (.inr (va_up (fun i => Option.map (fun j => a (0 + j * 5 + 41)) (s0.2.1 0 i)) (Int32.toNatClampNeg x3) (Option.map (fun j => a (0 + j * 5 + 41)) none)))))))) H := hP
      have hD : va_D A ((dw_X11 a ac s0).set 37 (a 37, .inl (ac 37, 4, .inr (.inr (.inr (.inr (va_up (fun i => Option.map (fun j => a (0 + j * 5 + 41)) (s0.2.1 0 i)) (Int32.toNatClampNeg x3) (Option.map (fun j => a (0 + j * 5 + 41)) none)))))))) := hD
      rw [nd_up] at hP hD
      obtain ⟨s22, es22, h⟩ := nd_let_e h
      have hP : va_P (dC, dI) vwCl (dw_X11 a ac s22) H := by rw [es22]; exact hP
      have hD : va_D A (dw_X11 a ac s22) := by rw [es22]; exact hD
      obtain ⟨z23, ez23, h⟩ := nd_let_e h
      refine lv_iinc (v := z23) (lv' := [(3, .int z23), (0, .ref (a 0)), (1, .ref (a 38)), (2, .int x2)]) hx hb dX11_start_20 hl (k := 3) rfl (by rw [ez23]) (by decide) rfl (fun ls hl => ?_)
      refine lv_goto (tgt := 2) hx hb dX11_start_23 (by decide) ?_
      exact (J2) (x2) (z23) s22 _ _ _ h hP hD hS (lv_sub hl [1, 2, 3, 0] rfl)
    | some j20 =>
      have h := nd_mS h hrj20
      refine W.eq (g2 := F0 m 19 ls [.ref (a (0 + j20 * 5 + 41)), .int x3, .ref (a 37)]) (by first | rfl | (show F0 m _ ls (va_rf (Option.map (fun j => a (0 + j * 5 + 41)) (s0.2.1 1 (Int32.toNatClampNeg x3))) :: _) = _; rw [hrj20]; rfl)) ?_
      obtain ⟨i24, h⟩ := nd_ck_e h
      obtain ⟨l25, h⟩ := nd_lt_e h
      obtain ⟨qk, vs, hqk⟩ := dv_X11_P8 (a := a) (ac := ac) (σ := s0) l25
      refine va_astq (i := x3) (r := (RX8, TX8, 10)) hx hb hK hP hD hS 37 30 qk 9 rfl rfl hqk rfl i24 dX11_start_19 (fun H locs hP hD hS => ?_)
      have hP : va_P (dC, dI) vwCl ((dw_X11 a ac s0).set 37 (a 37, .inl (ac 37, 4, .inr (.inr (.inr (.inr (va_up (fun i => Option.map (fun j => a (0 + j * 5 + 41)) (s0.2.1 0 i)) (Int32.toNatClampNeg x3) (Option.map (fun j => a (0 + j * 5 + 41)) (some j20))))))))) H := hP
      have hD : va_D A ((dw_X11 a ac s0).set 37 (a 37, .inl (ac 37, 4, .inr (.inr (.inr (.inr (va_up (fun i => Option.map (fun j => a (0 + j * 5 + 41)) (s0.2.1 0 i)) (Int32.toNatClampNeg x3) (Option.map (fun j => a (0 + j * 5 + 41)) (some j20))))))))) := hD
      rw [nd_up] at hP hD
      obtain ⟨s26, es26, h⟩ := nd_let_e h
      have hP : va_P (dC, dI) vwCl (dw_X11 a ac s26) H := by rw [es26]; exact hP
      have hD : va_D A (dw_X11 a ac s26) := by rw [es26]; exact hD
      obtain ⟨z27, ez27, h⟩ := nd_let_e h
      refine lv_iinc (v := z27) (lv' := [(3, .int z27), (0, .ref (a 0)), (1, .ref (a 38)), (2, .int x2)]) hx hb dX11_start_20 hl (k := 3) rfl (by rw [ez27]) (by decide) rfl (fun ls hl => ?_)
      refine lv_goto (tgt := 2) hx hb dX11_start_23 (by decide) ?_
      exact (J2) (x2) (z27) s26 _ _ _ h hP hD hS (lv_sub hl [1, 2, 3, 0] rfl)
set_option maxHeartbeats 40000000 in
set_option maxRecDepth 100000 in
theorem db_X11_start_2 {p : Program} {l : Launch} {e : Env} {s : State} {m : MethodId} {args : Array Value} {below : List Frame} {meth : Method} {c : Code} {Q : State → Prop} {A : Nat → Prop} {dC : Nat → ClassId} {dI : Nat → Nat → Nat} {a : Nat → Nat} {ac : Nat → ClassId} {n : Nat} {r : St × Rw × (St × (St × (St × (St)))) × (St) × (St) × (Nat → St) × (Nat → St) × (Nat → St × (St))} (C : nd_C p l s m args c A (dC, dI) cX11_start 4 RX11 ow_dm_X11_start (dk_X11 ac)) (K : nd_Kv p l e (headSpec ow_dm_X11_start ({ frames := 4, cells := 0, slots := 0, locals := 103 })).room s m args below meth c Q A (dC, dI) cX11_start (St × Rw × (St × (St × (St × (St)))) × (St) × (St) × (Nat → St) × (Nat → St) × (Nat → St × (St))) (dw_X11 a ac) r) (k : Nat) : dj_X11_start_2 p l e s m args below meth c Q A dC dI a ac (df_X11_start_2 n k) r := by
  induction k with
  | zero => intro x2 x3 s0 H locs ls h; exact nomatch (show (none : Option (St × Rw × (St × (St × (St × (St)))) × (St) × (St) × (Nat → St) × (Nat → St) × (Nat → St × (St)))) = some r from h)
  | succ k ih => exact dB_X11_start_2 C K ih
set_option maxHeartbeats 40000000 in
set_option maxRecDepth 100000 in
theorem db_X11_start_0 {p : Program} {l : Launch} {e : Env} {s : State} {m : MethodId} {args : Array Value} {below : List Frame} {meth : Method} {c : Code} {Q : State → Prop} {A : Nat → Prop} {dC : Nat → ClassId} {dI : Nat → Nat → Nat} {a : Nat → Nat} {ac : Nat → ClassId} {n : Nat} {r : St × Rw × (St × (St × (St × (St)))) × (St) × (St) × (Nat → St) × (Nat → St) × (Nat → St × (St))} (C : nd_C p l s m args c A (dC, dI) cX11_start 4 RX11 ow_dm_X11_start (dk_X11 ac)) (K : nd_Kv p l e (headSpec ow_dm_X11_start ({ frames := 4, cells := 0, slots := 0, locals := 103 })).room s m args below meth c Q A (dC, dI) cX11_start (St × Rw × (St × (St × (St × (St)))) × (St) × (St) × (Nat → St) × (Nat → St) × (Nat → St × (St))) (dw_X11 a ac) r) : dj_X11_start_0 p l e s m args below meth c Q A dC dI a ac (df_X11_start_0 n) r := by
  obtain ⟨hlt, hx, hb, hml, hown, hts, hN, hA, hK⟩ := id C
  intro v1 s0 H locs ls h hP hD hS hl
  unfold df_X11_start_0 at h
  refine lv_iconst (v := 0) hx hb dX11_start_0 (by decide) ?_
  refine lv_istore_n (lv' := [(3, .int 0), (0, .ref (a 0)), (1, .ref (a 38)), (2, .int v1)]) hx hb dX11_start_1 rfl hl (by decide) rfl (fun ls hl => ?_)
  exact (db_X11_start_2 C K n) (v1) (0) s0 _ _ _ h hP hD hS (lv_sub hl [1, 2, 3, 0] rfl)
set_option maxHeartbeats 40000000 in
set_option maxRecDepth 100000 in
theorem dm_X11_start (l : Launch) (hlt : l.stackTraces = false) (dC : Nat → ClassId) (dI : Nat → Nat → Nat) (a : Nat → Nat) (ac : Nat → ClassId) (n : Nat) (v1 : Int32) (s0 : St × Rw × (St × (St × (St × (St)))) × (St) × (St) × (Nat → St) × (Nat → St) × (Nat → St × (St))) {r : St × Rw × (St × (St × (St × (St)))) × (St) × (St) × (Nat → St) × (Nat → St) × (Nat → St × (St))} (h : df_X11_start n v1 s0 = some r) (sz : Nat) : Met l yX11_start ow_dm_X11_start ({ frames := 4, cells := 0, slots := 0, locals := 103 }) (va_Pc [.ref (a 0), .ref (a 38), .int v1] (fun U => U.heap.size = sz ∧ va_P (dC, dI) vwCl (dw_X11 a ac s0) U.heap ∧ va_K (dC, dI) vwCl (dk_X11 ac) U ∧ va_D (fun _ => True) (dw_X11 a ac s0) ∧ nv_E (va_A (dw_X11 a ac s0) sz) U)) (va_Qv (fun _ => True) (fun (_ : Unit) t => va_P (dC, dI) vwCl (dw_X11 a ac r) t.heap ∧ va_K (dC, dI) vwCl (dk_X11 ac) t ∧ va_D (va_A (dw_X11 a ac s0) sz) (dw_X11 a ac r)) (va_A (dw_X11 a ac s0) sz)) 0 0 (va_A (dw_X11 a ac s0) sz) := by
  refine Met.ofW (cc := cX11_start) (maxL := 4) (ret := none) (by decide) rfl ?_
  intro p e s m args below meth c s₁ B hml hv
  obtain ⟨rfl, hsz, hP, hK, hD0, hN⟩ := hv
  have hx := B.exec
  have hb := B.bytes
  have hr := B.returns
  have hts := atoms_spec (ws := ow_dm_X11_start) B.pre
  have hown : s.vm.findClass RX11 = some m.cls := findClass_of_methodNamed B.named
  have hlocks := B.notSynchronized
  subst hsz
  have hD := hD0.self (sz := s.heap.size)
  generalize hAe : va_A (dw_X11 a ac s0) s.heap.size = A at hD hN ⊢
  have hA : ∀ q : Nat, s.heap.size ≤ q → A q := fun q h => by rw [← hAe]; exact Or.inr h
  have hl := lv_entry ([.ref (a 0), .ref (a 38), .int v1]) (n := 4) (Nat.le_of_ble_eq_true rfl)
  rw [lg_entry_eq]
  generalize (lg_sl ([.ref (a 0), .ref (a 38), .int v1]) ++ List.replicate (4 - (lg_sl ([.ref (a 0), .ref (a 38), .int v1])).length) Slot.unset).toArray = ls at hl ⊢
  have hl : lv_has ls 4 [(0, .ref (a 0)), (1, .ref (a 38)), (2, .int v1)] := hl
  exact db_X11_start_0 (dC := dC) (dI := dI) (a := a) (ac := ac) (n := n) (r := r) ⟨hlt, hx, hb, hml, hown, hts, hN, hA, hK⟩ (fun pc τ H locs ls d er hP hD hS => by subst er; exact W.vret hx hb hr (fun t ht hW => ⟨⟨(), rfl, trivial, by rw [ht]; exact hP, va_K.moved hW.alike hK, hD⟩, hS.F ht⟩) hS.2.2 d) v1 s0 _ _ _ h hP hD va_S.rf (lv_sub hl [0, 1, 2] rfl)
set_option maxHeartbeats 40000000 in
set_option maxRecDepth 100000 in
theorem de_wX11_X3c_5 {a : Nat → Nat} {ac : Nat → ClassId} {τ : St} : ([dw_X3c (fun k => a (k + 27)) (fun k => ac (k + 27)) (τ)] : List va_W).flatten = dw_X3c (fun k => a (k + 27)) (fun k => ac (k + 27)) τ := by
  first
  | (simp only [List.flatten_cons, List.flatten_nil, List.append_nil]; done)
  | (simp only [List.flatten_cons, List.flatten_nil, List.append_nil]; rfl)
set_option maxHeartbeats 40000000 in
set_option maxRecDepth 100000 in
theorem dp_wX11_X3c_5 {D : va_G} {H : Heap} {a : Nat → Nat} {ac : Nat → ClassId} {σ : St × Rw × (St × (St × (St × (St)))) × (St) × (St) × (Nat → St) × (Nat → St) × (Nat → St × (St))} (h : va_P D vwCl (dw_X11 a ac σ) H) : va_P D vwCl (dw_X3c (fun k => a (k + 27)) (fun k => ac (k + 27)) σ.2.2.2.1) H := by
  have h2 := nd_vp (segs := dg_X11 a ac σ) (ix := [5]) (old := [dw_X3c (fun k => a (k + 27)) (fun k => ac (k + 27)) (σ.2.2.2.1)]) h (nd_co rfl rfl)
  have e := de_wX11_X3c_5 (a := a) (ac := ac) (τ := σ.2.2.2.1)
  exact e ▸ h2
set_option maxHeartbeats 40000000 in
set_option maxRecDepth 100000 in
theorem dd_wX11_X3c_5 {A : Nat → Prop} {a : Nat → Nat} {ac : Nat → ClassId} {σ : St × Rw × (St × (St × (St × (St)))) × (St) × (St) × (Nat → St) × (Nat → St) × (Nat → St × (St))} (h : va_D A (dw_X11 a ac σ)) : va_D A (dw_X3c (fun k => a (k + 27)) (fun k => ac (k + 27)) σ.2.2.2.1) := by
  have h2 := nd_vd (segs := dg_X11 a ac σ) (ix := [5]) (old := [dw_X3c (fun k => a (k + 27)) (fun k => ac (k + 27)) (σ.2.2.2.1)]) h (nd_co rfl rfl) (by decide)
  have e := de_wX11_X3c_5 (a := a) (ac := ac) (τ := σ.2.2.2.1)
  exact e ▸ h2
set_option maxHeartbeats 40000000 in
set_option maxRecDepth 100000 in
theorem dy_wX11_X3c_5 {D : va_G} {U : State} {ac : Nat → ClassId} (h : va_K D vwCl (dk_X11 ac) U) : va_K D vwCl (dk_X3c (fun k => ac (k + 27))) U := (h.sub [22, 23, 24, 25] rfl)
set_option maxHeartbeats 40000000 in
set_option maxRecDepth 100000 in
theorem dn_wX11_X3c_5 {A0 : Nat → Prop} {D : va_G} {H H1 : Heap} {a : Nat → Nat} {ac : Nat → ClassId} {σ : St × Rw × (St × (St × (St × (St)))) × (St) × (St) × (Nat → St) × (Nat → St) × (Nat → St × (St))} {τ : St} (hP : va_P D vwCl (dw_X11 a ac σ) H) (hD : va_D A0 (dw_X11 a ac σ)) (hA : ∀ q : Nat, H.size ≤ q → A0 q) (hk : ∀ q : Nat, q < H.size → ¬ va_A (dw_X3c (fun k => a (k + 27)) (fun k => ac (k + 27)) σ.2.2.2.1) H.size q → H1[q]? = H[q]?) (h1 : va_P D vwCl (dw_X3c (fun k => a (k + 27)) (fun k => ac (k + 27)) τ) H1) (h2 : va_D (va_A (dw_X3c (fun k => a (k + 27)) (fun k => ac (k + 27)) σ.2.2.2.1) H.size) (dw_X3c (fun k => a (k + 27)) (fun k => ac (k + 27)) τ)) : va_P D vwCl (dw_X11 a ac (σ.1, (σ.2.1, (σ.2.2.1, (τ, σ.2.2.2.2))))) H1 ∧ va_D A0 (dw_X11 a ac (σ.1, (σ.2.1, (σ.2.2.1, (τ, σ.2.2.2.2))))) := by
  have eo := de_wX11_X3c_5 (a := a) (ac := ac) (τ := σ.2.2.2.1)
  have en := de_wX11_X3c_5 (a := a) (ac := ac) (τ := τ)
  have h := nd_vn (segs := dg_X11 a ac σ) (ix := [5]) (old := [dw_X3c (fun k => a (k + 27)) (fun k => ac (k + 27)) (σ.2.2.2.1)]) (new := [dw_X3c (fun k => a (k + 27)) (fun k => ac (k + 27)) (τ)]) hP hD (nd_co rfl rfl) rfl (fun q z y => hk q z (fun w => y (eo ▸ w))) (en ▸ h1)
  have ee : nd_sets (dg_X11 a ac σ) [5] [dw_X3c (fun k => a (k + 27)) (fun k => ac (k + 27)) (τ)] = dg_X11 a ac (σ.1, (σ.2.1, (σ.2.2.1, (τ, σ.2.2.2.2)))) := rfl
  have hz : va_P D vwCl (dg_X11 a ac (σ.1, (σ.2.1, (σ.2.2.1, (τ, σ.2.2.2.2))))).flatten H1 := by rw [← ee]; exact h
  exact ⟨hz, nd_Da hD dA_X11⟩
set_option maxHeartbeats 40000000 in
set_option maxRecDepth 100000 in
theorem de_wX11_X3c_7 {a : Nat → Nat} {ac : Nat → ClassId} {τ : St} : ([dw_X3c (fun k => a (k + 32)) (fun k => ac (k + 32)) (τ)] : List va_W).flatten = dw_X3c (fun k => a (k + 32)) (fun k => ac (k + 32)) τ := by
  first
  | (simp only [List.flatten_cons, List.flatten_nil, List.append_nil]; done)
  | (simp only [List.flatten_cons, List.flatten_nil, List.append_nil]; rfl)
set_option maxHeartbeats 40000000 in
set_option maxRecDepth 100000 in
theorem dp_wX11_X3c_7 {D : va_G} {H : Heap} {a : Nat → Nat} {ac : Nat → ClassId} {σ : St × Rw × (St × (St × (St × (St)))) × (St) × (St) × (Nat → St) × (Nat → St) × (Nat → St × (St))} (h : va_P D vwCl (dw_X11 a ac σ) H) : va_P D vwCl (dw_X3c (fun k => a (k + 32)) (fun k => ac (k + 32)) σ.2.2.2.2.1) H := by
  have h2 := nd_vp (segs := dg_X11 a ac σ) (ix := [6]) (old := [dw_X3c (fun k => a (k + 32)) (fun k => ac (k + 32)) (σ.2.2.2.2.1)]) h (nd_co rfl rfl)
  have e := de_wX11_X3c_7 (a := a) (ac := ac) (τ := σ.2.2.2.2.1)
  exact e ▸ h2
set_option maxHeartbeats 40000000 in
set_option maxRecDepth 100000 in
theorem dd_wX11_X3c_7 {A : Nat → Prop} {a : Nat → Nat} {ac : Nat → ClassId} {σ : St × Rw × (St × (St × (St × (St)))) × (St) × (St) × (Nat → St) × (Nat → St) × (Nat → St × (St))} (h : va_D A (dw_X11 a ac σ)) : va_D A (dw_X3c (fun k => a (k + 32)) (fun k => ac (k + 32)) σ.2.2.2.2.1) := by
  have h2 := nd_vd (segs := dg_X11 a ac σ) (ix := [6]) (old := [dw_X3c (fun k => a (k + 32)) (fun k => ac (k + 32)) (σ.2.2.2.2.1)]) h (nd_co rfl rfl) (by decide)
  have e := de_wX11_X3c_7 (a := a) (ac := ac) (τ := σ.2.2.2.2.1)
  exact e ▸ h2
set_option maxHeartbeats 40000000 in
set_option maxRecDepth 100000 in
theorem dy_wX11_X3c_7 {D : va_G} {U : State} {ac : Nat → ClassId} (h : va_K D vwCl (dk_X11 ac) U) : va_K D vwCl (dk_X3c (fun k => ac (k + 32))) U := (h.sub [26, 27, 28, 29] rfl)
set_option maxHeartbeats 40000000 in
set_option maxRecDepth 100000 in
theorem dn_wX11_X3c_7 {A0 : Nat → Prop} {D : va_G} {H H1 : Heap} {a : Nat → Nat} {ac : Nat → ClassId} {σ : St × Rw × (St × (St × (St × (St)))) × (St) × (St) × (Nat → St) × (Nat → St) × (Nat → St × (St))} {τ : St} (hP : va_P D vwCl (dw_X11 a ac σ) H) (hD : va_D A0 (dw_X11 a ac σ)) (hA : ∀ q : Nat, H.size ≤ q → A0 q) (hk : ∀ q : Nat, q < H.size → ¬ va_A (dw_X3c (fun k => a (k + 32)) (fun k => ac (k + 32)) σ.2.2.2.2.1) H.size q → H1[q]? = H[q]?) (h1 : va_P D vwCl (dw_X3c (fun k => a (k + 32)) (fun k => ac (k + 32)) τ) H1) (h2 : va_D (va_A (dw_X3c (fun k => a (k + 32)) (fun k => ac (k + 32)) σ.2.2.2.2.1) H.size) (dw_X3c (fun k => a (k + 32)) (fun k => ac (k + 32)) τ)) : va_P D vwCl (dw_X11 a ac (σ.1, (σ.2.1, (σ.2.2.1, (σ.2.2.2.1, (τ, σ.2.2.2.2.2)))))) H1 ∧ va_D A0 (dw_X11 a ac (σ.1, (σ.2.1, (σ.2.2.1, (σ.2.2.2.1, (τ, σ.2.2.2.2.2)))))) := by
  have eo := de_wX11_X3c_7 (a := a) (ac := ac) (τ := σ.2.2.2.2.1)
  have en := de_wX11_X3c_7 (a := a) (ac := ac) (τ := τ)
  have h := nd_vn (segs := dg_X11 a ac σ) (ix := [6]) (old := [dw_X3c (fun k => a (k + 32)) (fun k => ac (k + 32)) (σ.2.2.2.2.1)]) (new := [dw_X3c (fun k => a (k + 32)) (fun k => ac (k + 32)) (τ)]) hP hD (nd_co rfl rfl) rfl (fun q z y => hk q z (fun w => y (eo ▸ w))) (en ▸ h1)
  have ee : nd_sets (dg_X11 a ac σ) [6] [dw_X3c (fun k => a (k + 32)) (fun k => ac (k + 32)) (τ)] = dg_X11 a ac (σ.1, (σ.2.1, (σ.2.2.1, (σ.2.2.2.1, (τ, σ.2.2.2.2.2))))) := rfl
  have hz : va_P D vwCl (dg_X11 a ac (σ.1, (σ.2.1, (σ.2.2.1, (σ.2.2.2.1, (τ, σ.2.2.2.2.2)))))).flatten H1 := by rw [← ee]; exact h
  exact ⟨hz, nd_Da hD dA_X11⟩
def ow_dm_X11_startWithout : List Cond := .code yX11_startWithout cX11_startWithout 3 none :: ([.fieldLink RX11 20 "TimeMachine$Timeline" "events" "LTimeMachine$Events;", .methodLink RX11 55 yX3_clear, .instanceMethod yX3_clear, .selects RX3 yX3_clear yX3_clear, .initialized RX3, .methodLink RX11 58 yX11_start, .instanceMethod yX11_start, .selects RX11 yX11_start yX11_start, .initialized RX11] ++ (u_ws RX11 TX11 16 ++ (ow_dm_X3_clear ++ (ow_dm_X11_start ++ []))))
theorem gd_dm_X11_startWithout : ∀ w ∈ ow_dm_X11_startWithout, (w.onTables && w.keeps) = true ∨ ∃ ty, w = Cond.arrayClass ty := List.forall_mem_cons.mpr ⟨good_of_word rfl, List.forall_mem_append.mpr ⟨fun w h => good_of_word (List.all_eq_true.mp (by decide +kernel) w h), List.forall_mem_append.mpr ⟨gu_X11, List.forall_mem_append.mpr ⟨gd_dm_X3_clear, List.forall_mem_append.mpr ⟨gd_dm_X11_start, fun _ h => nomatch h⟩⟩⟩⟩⟩
theorem hi_dm_X11_startWithout_X11 : ∀ w ∈ u_ws RX11 TX11 16, w ∈ ow_dm_X11_startWithout := fun w h => List.mem_cons_of_mem _ (List.mem_append_right _ (List.mem_append_left _ h))
theorem gi_dm_X11_startWithout_0 : GoodIn ow_dm_X11_startWithout (wsV RX11 55 RX3 yX3_clear ow_dm_X3_clear) := goodIn_app (goodIn_of _ (by decide +kernel)) (fun w h => ⟨List.mem_cons_of_mem _ (List.mem_append_right _ (List.mem_append_right _ (List.mem_append_left _ h))), gd_dm_X3_clear w h⟩)
theorem gi_dm_X11_startWithout_1 : GoodIn ow_dm_X11_startWithout (wsV RX11 58 RX11 yX11_start ow_dm_X11_start) := goodIn_app (goodIn_of _ (by decide +kernel)) (fun w h => ⟨List.mem_cons_of_mem _ (List.mem_append_right _ (List.mem_append_right _ (List.mem_append_right _ (List.mem_append_left _ h)))), gd_dm_X11_start w h⟩)
def dj_X11_startWithout_0 (p : Program) (l : Launch) (e : Env) (s : State) (m : MethodId) (args : Array Value) (below : List Frame) (meth : Method) (c : Code) (Q : State → Prop) (A : Nat → Prop) (dC : Nat → ClassId) (dI : Nat → Nat → Nat) (a : Nat → Nat) (ac : Nat → ClassId) (g : Int32 → (St × Rw × (St × (St × (St × (St)))) × (St) × (St) × (Nat → St) × (Nat → St) × (Nat → St × (St))) → Option (St × Rw × (St × (St × (St × (St)))) × (St) × (St) × (Nat → St) × (Nat → St) × (Nat → St × (St)))) (r : St × Rw × (St × (St × (St × (St)))) × (St) × (St) × (Nat → St) × (Nat → St) × (Nat → St × (St))) : Prop := ∀ (v1 : Int32) (s0 : St × Rw × (St × (St × (St × (St)))) × (St) × (St) × (Nat → St) × (Nat → St) × (Nat → St × (St))) (H : Heap) (locs : List Loc) (ls : Array Slot), g v1 s0 = some r → va_P (dC, dI) vwCl (dw_X11 a ac s0) H → va_D A (dw_X11 a ac s0) → va_S A s.heap H locs → lv_has ls 3 [(0, .ref (a 0)), (1, .ref (a 38)), (2, .int v1)] → W p l e (headSpec ow_dm_X11_startWithout ({ frames := 5, cells := 0, slots := 0, locals := 126 })).room s m args below meth c H locs 0 0 Q (F0 m 0 ls [])
set_option maxHeartbeats 40000000 in
set_option maxRecDepth 100000 in
theorem db_X11_startWithout_0 {p : Program} {l : Launch} {e : Env} {s : State} {m : MethodId} {args : Array Value} {below : List Frame} {meth : Method} {c : Code} {Q : State → Prop} {A : Nat → Prop} {dC : Nat → ClassId} {dI : Nat → Nat → Nat} {a : Nat → Nat} {ac : Nat → ClassId} {n : Nat} {r : St × Rw × (St × (St × (St × (St)))) × (St) × (St) × (Nat → St) × (Nat → St) × (Nat → St × (St))} (C : nd_C p l s m args c A (dC, dI) cX11_startWithout 3 RX11 ow_dm_X11_startWithout (dk_X11 ac)) (K : nd_Kv p l e (headSpec ow_dm_X11_startWithout ({ frames := 5, cells := 0, slots := 0, locals := 126 })).room s m args below meth c Q A (dC, dI) cX11_startWithout (St × Rw × (St × (St × (St × (St)))) × (St) × (St) × (Nat → St) × (Nat → St) × (Nat → St × (St))) (dw_X11 a ac) r) : dj_X11_startWithout_0 p l e s m args below meth c Q A dC dI a ac (df_X11_startWithout_0 n) r := by
  obtain ⟨hlt, hx, hb, hml, hown, hts, hN, hA, hK⟩ := id C
  intro v1 s0 H locs ls h hP hD hS hl
  unfold df_X11_startWithout_0 at h
  refine lv_aload_n hx hb dX11_startWithout_0 rfl (lv_at hl 0 rfl) ?_
  by_cases o1 : sO s0.1 0 = some 27
  · have h := nd_pos h o1
    refine va_get (D := (dC, dI)) (ci := 12) (v := .ref (a 27)) (C := RX11) (T := TX11) (N := 16) hx hb hts hi_dm_X11_startWithout_X11 hown hK hP 0 rfl rfl 1 (by decide) (hts (.fieldLink RX11 20 "TimeMachine$Timeline" "events" "LTimeMachine$Events;") (List.mem_of_getElem? (i := 1) rfl)) (fun _ h9 => h9) (congrArg (fun z => some (va_rf (Option.map a z))) o1) dX11_startWithout_1 ?_
    obtain ⟨s3, hq, h⟩ := nd_b1_e h
    have hPc := dp_wX11_X3c_5 hP
    have hDc := dd_wX11_X3c_5 hD
    have hKc := dy_wX11_X3c_5 hK
    have hFc := nd_rs hDc hS hA
    have hzA : ∀ q : Nat, H.size ≤ q → A q := fun q h => hA q (Nat.le_trans hS.1 h)
    refine nd_cVv (As := []) (rest := []) (w' := dw_X3c (fun k => a (k + 27)) (fun k => ac (k + 27)) s3) ⟨hx, hb, hml, hown, hts⟩ (fun sz => dm_X3_clear l hlt dC dI (fun k => a (k + 27)) (fun k => ac (k + 27)) n  s0.2.2.2.1 hq sz) (cwV 0 hts gi_dm_X11_startWithout_0 rfl rfl rfl (by decide +kernel) ⟨Nat.le_of_ble_eq_true rfl, Nat.le_of_ble_eq_true rfl⟩) hPc hDc hKc hS hA hN (va_recv hKc hPc (ci := 4) (q0 := 0) rfl rfl) rfl hl.1 rfl (Nat.le_of_ble_eq_true rfl) dX11_startWithout_4 (fun H locs hP1 hD1 hk1 hS => ?_)
    obtain ⟨hP, hD⟩ := dn_wX11_X3c_5 hP hD hzA hk1 hP1 hD1
    obtain ⟨s5, es5, h⟩ := nd_let_e h
    have hP : va_P (dC, dI) vwCl (dw_X11 a ac s5) H := by rw [es5]; exact hP
    have hD : va_D A (dw_X11 a ac s5) := by rw [es5]; exact hD
    have o1 : sO s5.1 0 = some 27 := by rw [es5]; exact o1
    refine lv_aload_n hx hb dX11_startWithout_7 rfl (lv_at hl 0 rfl) ?_
    refine lv_aload_n hx hb dX11_startWithout_8 rfl (lv_at hl 1 rfl) ?_
    refine lv_iload_n hx hb dX11_startWithout_9 rfl (lv_at hl 2 rfl) ?_
    obtain ⟨s7, hq, h⟩ := nd_b1_e h
    have hPc := hP
    have hDc := hD
    have hKc := hK
    have hFc := nd_rs hD hS hA
    refine nd_cVv (As := [.ref (a 38), .int v1]) (rest := []) (w' := dw_X11 a ac s7) ⟨hx, hb, hml, hown, hts⟩ (fun sz => dm_X11_start l hlt dC dI a ac n (v1) s5 hq sz) (cwV 2 hts gi_dm_X11_startWithout_1 rfl rfl rfl (by decide +kernel) ⟨Nat.le_of_ble_eq_true rfl, Nat.le_of_ble_eq_true rfl⟩) hPc hDc hKc hS hA hN (va_recv hKc hPc (ci := 12) (q0 := 0) rfl rfl) rfl hl.1 rfl (Nat.le_of_ble_eq_true rfl) dX11_startWithout_10 (fun H locs hP1 hD1 hk1 hS => ?_)
    have hP := hP1
    have hD := hD1.weaken (fun k q _ h => hFc q.1 h)
    exact K _ _ _ _ _ dX11_startWithout_13 (Option.some.inj h).symm hP hD hS
  have h := nd_neg h o1
  by_cases o9 : sO s0.1 0 = some 32
  · have h := nd_pos h o9
    refine va_get (D := (dC, dI)) (ci := 12) (v := .ref (a 32)) (C := RX11) (T := TX11) (N := 16) hx hb hts hi_dm_X11_startWithout_X11 hown hK hP 0 rfl rfl 1 (by decide) (hts (.fieldLink RX11 20 "TimeMachine$Timeline" "events" "LTimeMachine$Events;") (List.mem_of_getElem? (i := 1) rfl)) (fun _ h9 => h9) (congrArg (fun z => some (va_rf (Option.map a z))) o9) dX11_startWithout_1 ?_
    obtain ⟨s11, hq, h⟩ := nd_b1_e h
    have hPc := dp_wX11_X3c_7 hP
    have hDc := dd_wX11_X3c_7 hD
    have hKc := dy_wX11_X3c_7 hK
    have hFc := nd_rs hDc hS hA
    have hzA : ∀ q : Nat, H.size ≤ q → A q := fun q h => hA q (Nat.le_trans hS.1 h)
    refine nd_cVv (As := []) (rest := []) (w' := dw_X3c (fun k => a (k + 32)) (fun k => ac (k + 32)) s11) ⟨hx, hb, hml, hown, hts⟩ (fun sz => dm_X3_clear l hlt dC dI (fun k => a (k + 32)) (fun k => ac (k + 32)) n  s0.2.2.2.2.1 hq sz) (cwV 0 hts gi_dm_X11_startWithout_0 rfl rfl rfl (by decide +kernel) ⟨Nat.le_of_ble_eq_true rfl, Nat.le_of_ble_eq_true rfl⟩) hPc hDc hKc hS hA hN (va_recv hKc hPc (ci := 4) (q0 := 0) rfl rfl) rfl hl.1 rfl (Nat.le_of_ble_eq_true rfl) dX11_startWithout_4 (fun H locs hP1 hD1 hk1 hS => ?_)
    obtain ⟨hP, hD⟩ := dn_wX11_X3c_7 hP hD hzA hk1 hP1 hD1
    obtain ⟨s13, es13, h⟩ := nd_let_e h
    have hP : va_P (dC, dI) vwCl (dw_X11 a ac s13) H := by rw [es13]; exact hP
    have hD : va_D A (dw_X11 a ac s13) := by rw [es13]; exact hD
    have o9 : sO s13.1 0 = some 32 := by rw [es13]; exact o9
    refine lv_aload_n hx hb dX11_startWithout_7 rfl (lv_at hl 0 rfl) ?_
    refine lv_aload_n hx hb dX11_startWithout_8 rfl (lv_at hl 1 rfl) ?_
    refine lv_iload_n hx hb dX11_startWithout_9 rfl (lv_at hl 2 rfl) ?_
    obtain ⟨s15, hq, h⟩ := nd_b1_e h
    have hPc := hP
    have hDc := hD
    have hKc := hK
    have hFc := nd_rs hD hS hA
    refine nd_cVv (As := [.ref (a 38), .int v1]) (rest := []) (w' := dw_X11 a ac s15) ⟨hx, hb, hml, hown, hts⟩ (fun sz => dm_X11_start l hlt dC dI a ac n (v1) s13 hq sz) (cwV 2 hts gi_dm_X11_startWithout_1 rfl rfl rfl (by decide +kernel) ⟨Nat.le_of_ble_eq_true rfl, Nat.le_of_ble_eq_true rfl⟩) hPc hDc hKc hS hA hN (va_recv hKc hPc (ci := 12) (q0 := 0) rfl rfl) rfl hl.1 rfl (Nat.le_of_ble_eq_true rfl) dX11_startWithout_10 (fun H locs hP1 hD1 hk1 hS => ?_)
    have hP := hP1
    have hD := hD1.weaken (fun k q _ h => hFc q.1 h)
    exact K _ _ _ _ _ dX11_startWithout_13 (Option.some.inj h).symm hP hD hS
  have h := nd_neg h o9
  exact nomatch h
set_option maxHeartbeats 40000000 in
set_option maxRecDepth 100000 in
theorem dm_X11_startWithout (l : Launch) (hlt : l.stackTraces = false) (dC : Nat → ClassId) (dI : Nat → Nat → Nat) (a : Nat → Nat) (ac : Nat → ClassId) (n : Nat) (v1 : Int32) (s0 : St × Rw × (St × (St × (St × (St)))) × (St) × (St) × (Nat → St) × (Nat → St) × (Nat → St × (St))) {r : St × Rw × (St × (St × (St × (St)))) × (St) × (St) × (Nat → St) × (Nat → St) × (Nat → St × (St))} (h : df_X11_startWithout n v1 s0 = some r) (sz : Nat) : Met l yX11_startWithout ow_dm_X11_startWithout ({ frames := 5, cells := 0, slots := 0, locals := 126 }) (va_Pc [.ref (a 0), .ref (a 38), .int v1] (fun U => U.heap.size = sz ∧ va_P (dC, dI) vwCl (dw_X11 a ac s0) U.heap ∧ va_K (dC, dI) vwCl (dk_X11 ac) U ∧ va_D (fun _ => True) (dw_X11 a ac s0) ∧ nv_E (va_A (dw_X11 a ac s0) sz) U)) (va_Qv (fun _ => True) (fun (_ : Unit) t => va_P (dC, dI) vwCl (dw_X11 a ac r) t.heap ∧ va_K (dC, dI) vwCl (dk_X11 ac) t ∧ va_D (va_A (dw_X11 a ac s0) sz) (dw_X11 a ac r)) (va_A (dw_X11 a ac s0) sz)) 0 0 (va_A (dw_X11 a ac s0) sz) := by
  refine Met.ofW (cc := cX11_startWithout) (maxL := 3) (ret := none) (by decide) rfl ?_
  intro p e s m args below meth c s₁ B hml hv
  obtain ⟨rfl, hsz, hP, hK, hD0, hN⟩ := hv
  have hx := B.exec
  have hb := B.bytes
  have hr := B.returns
  have hts := atoms_spec (ws := ow_dm_X11_startWithout) B.pre
  have hown : s.vm.findClass RX11 = some m.cls := findClass_of_methodNamed B.named
  have hlocks := B.notSynchronized
  subst hsz
  have hD := hD0.self (sz := s.heap.size)
  generalize hAe : va_A (dw_X11 a ac s0) s.heap.size = A at hD hN ⊢
  have hA : ∀ q : Nat, s.heap.size ≤ q → A q := fun q h => by rw [← hAe]; exact Or.inr h
  have hl := lv_entry ([.ref (a 0), .ref (a 38), .int v1]) (n := 3) (Nat.le_of_ble_eq_true rfl)
  rw [lg_entry_eq]
  generalize (lg_sl ([.ref (a 0), .ref (a 38), .int v1]) ++ List.replicate (3 - (lg_sl ([.ref (a 0), .ref (a 38), .int v1])).length) Slot.unset).toArray = ls at hl ⊢
  have hl : lv_has ls 3 [(0, .ref (a 0)), (1, .ref (a 38)), (2, .int v1)] := hl
  exact db_X11_startWithout_0 (dC := dC) (dI := dI) (a := a) (ac := ac) (n := n) (r := r) ⟨hlt, hx, hb, hml, hown, hts, hN, hA, hK⟩ (fun pc τ H locs ls d er hP hD hS => by subst er; exact W.vret hx hb hr (fun t ht hW => ⟨⟨(), rfl, trivial, by rw [ht]; exact hP, va_K.moved hW.alike hK, hD⟩, hS.F ht⟩) hS.2.2 d) v1 s0 _ _ _ h hP hD va_S.rf (lv_sub hl [0, 1, 2] rfl)
def ow_dm_X11_takeScheduled : List Cond := .code yX11_takeScheduled cX11_takeScheduled 2 none :: ([.fieldLink RX11 20 "TimeMachine$Timeline" "events" "LTimeMachine$Events;", .fieldLink RX11 116 "TimeMachine$Events" "recorded" "I", .fieldLink RX11 137 "TimeMachine$Events" "total" "I", .fieldLink RX11 76 "TimeMachine$Timeline" "end" "I", .methodLink RX11 119 yX3_isAt, .instanceMethod yX3_isAt, .selects RX3 yX3_isAt yX3_isAt, .initialized RX3, .fieldLink RX11 39 "TimeMachine$Timeline" "kernel" "LTimeMachine$Kernel;", .fieldLink RX11 123 "TimeMachine$Events" "kind" "[I", .fieldLink RX11 126 "TimeMachine$Events" "a" "[J", .fieldLink RX11 130 "TimeMachine$Events" "b" "[I", .methodLink RX11 133 yX5_come, .instanceMethod yX5_come, .selects RX5 yX5_come yX5_come, .initialized RX5, .fieldLink RX11 82 "TimeMachine$Timeline" "missed" "Z", .fieldLink RX11 79 "TimeMachine$Timeline" "came" "I"] ++ (u_ws RX11 TX11 16 ++ (u_ws RX3 TX3 11 ++ (ow_dm_X3_isAt ++ (ow_dm_X5_come ++ [])))))
theorem gd_dm_X11_takeScheduled : ∀ w ∈ ow_dm_X11_takeScheduled, (w.onTables && w.keeps) = true ∨ ∃ ty, w = Cond.arrayClass ty := List.forall_mem_cons.mpr ⟨good_of_word rfl, List.forall_mem_append.mpr ⟨fun w h => good_of_word (List.all_eq_true.mp (by decide +kernel) w h), List.forall_mem_append.mpr ⟨gu_X11, List.forall_mem_append.mpr ⟨gu_X3, List.forall_mem_append.mpr ⟨gd_dm_X3_isAt, List.forall_mem_append.mpr ⟨gd_dm_X5_come, fun _ h => nomatch h⟩⟩⟩⟩⟩⟩
theorem hi_dm_X11_takeScheduled_X11 : ∀ w ∈ u_ws RX11 TX11 16, w ∈ ow_dm_X11_takeScheduled := fun w h => List.mem_cons_of_mem _ (List.mem_append_right _ (List.mem_append_left _ h))
theorem hi_dm_X11_takeScheduled_X3 : ∀ w ∈ u_ws RX3 TX3 11, w ∈ ow_dm_X11_takeScheduled := fun w h => List.mem_cons_of_mem _ (List.mem_append_right _ (List.mem_append_right _ (List.mem_append_left _ h)))
theorem gi_dm_X11_takeScheduled_0 : GoodIn ow_dm_X11_takeScheduled (wsV RX11 119 RX3 yX3_isAt ow_dm_X3_isAt) := goodIn_app (goodIn_of _ (by decide +kernel)) (fun w h => ⟨List.mem_cons_of_mem _ (List.mem_append_right _ (List.mem_append_right _ (List.mem_append_right _ (List.mem_append_left _ h)))), gd_dm_X3_isAt w h⟩)
theorem gi_dm_X11_takeScheduled_1 : GoodIn ow_dm_X11_takeScheduled (wsV RX11 133 RX5 yX5_come ow_dm_X5_come) := goodIn_app (goodIn_of _ (by decide +kernel)) (fun w h => ⟨List.mem_cons_of_mem _ (List.mem_append_right _ (List.mem_append_right _ (List.mem_append_right _ (List.mem_append_right _ (List.mem_append_left _ h))))), gd_dm_X5_come w h⟩)
def dj_X11_takeScheduled_131 (p : Program) (l : Launch) (e : Env) (s : State) (m : MethodId) (args : Array Value) (below : List Frame) (meth : Method) (c : Code) (Q : State → Prop) (A : Nat → Prop) (dC : Nat → ClassId) (dI : Nat → Nat → Nat) (a : Nat → Nat) (ac : Nat → ClassId) (g : (St × Rw × (St × (St × (St × (St)))) × (St) × (St) × (Nat → St) × (Nat → St) × (Nat → St × (St))) → Option (St × Rw × (St × (St × (St × (St)))) × (St) × (St) × (Nat → St) × (Nat → St) × (Nat → St × (St)))) (r : St × Rw × (St × (St × (St × (St)))) × (St) × (St) × (Nat → St) × (Nat → St) × (Nat → St × (St))) : Prop := ∀ (s0 : St × Rw × (St × (St × (St × (St)))) × (St) × (St) × (Nat → St) × (Nat → St) × (Nat → St × (St))) (H : Heap) (locs : List Loc) (ls : Array Slot), g s0 = some r → va_P (dC, dI) vwCl (dw_X11 a ac s0) H → va_D A (dw_X11 a ac s0) → va_S A s.heap H locs → lv_has ls 2 [] → W p l e (headSpec ow_dm_X11_takeScheduled ({ frames := 4, cells := 0, slots := 0, locals := 95 })).room s m args below meth c H locs 0 0 Q (F0 m 131 ls [])
def dj_X11_takeScheduled_128 (p : Program) (l : Launch) (e : Env) (s : State) (m : MethodId) (args : Array Value) (below : List Frame) (meth : Method) (c : Code) (Q : State → Prop) (A : Nat → Prop) (dC : Nat → ClassId) (dI : Nat → Nat → Nat) (a : Nat → Nat) (ac : Nat → ClassId) (g : (St × Rw × (St × (St × (St × (St)))) × (St) × (St) × (Nat → St) × (Nat → St) × (Nat → St × (St))) → Option (St × Rw × (St × (St × (St × (St)))) × (St) × (St) × (Nat → St) × (Nat → St) × (Nat → St × (St)))) (r : St × Rw × (St × (St × (St × (St)))) × (St) × (St) × (Nat → St) × (Nat → St) × (Nat → St × (St))) : Prop := ∀ (s0 : St × Rw × (St × (St × (St × (St)))) × (St) × (St) × (Nat → St) × (Nat → St) × (Nat → St × (St))) (H : Heap) (locs : List Loc) (ls : Array Slot), g s0 = some r → va_P (dC, dI) vwCl (dw_X11 a ac s0) H → va_D A (dw_X11 a ac s0) → va_S A s.heap H locs → lv_has ls 2 [(0, .ref (a 0))] → W p l e (headSpec ow_dm_X11_takeScheduled ({ frames := 4, cells := 0, slots := 0, locals := 95 })).room s m args below meth c H locs 0 0 Q (F0 m 128 ls [])
def dj_X11_takeScheduled_0 (p : Program) (l : Launch) (e : Env) (s : State) (m : MethodId) (args : Array Value) (below : List Frame) (meth : Method) (c : Code) (Q : State → Prop) (A : Nat → Prop) (dC : Nat → ClassId) (dI : Nat → Nat → Nat) (a : Nat → Nat) (ac : Nat → ClassId) (g : (St × Rw × (St × (St × (St × (St)))) × (St) × (St) × (Nat → St) × (Nat → St) × (Nat → St × (St))) → Option (St × Rw × (St × (St × (St × (St)))) × (St) × (St) × (Nat → St) × (Nat → St) × (Nat → St × (St)))) (r : St × Rw × (St × (St × (St × (St)))) × (St) × (St) × (Nat → St) × (Nat → St) × (Nat → St × (St))) : Prop := ∀ (s0 : St × Rw × (St × (St × (St × (St)))) × (St) × (St) × (Nat → St) × (Nat → St) × (Nat → St × (St))) (H : Heap) (locs : List Loc) (ls : Array Slot), g s0 = some r → va_P (dC, dI) vwCl (dw_X11 a ac s0) H → va_D A (dw_X11 a ac s0) → va_S A s.heap H locs → lv_has ls 2 [(0, .ref (a 0))] → W p l e (headSpec ow_dm_X11_takeScheduled ({ frames := 4, cells := 0, slots := 0, locals := 95 })).room s m args below meth c H locs 0 0 Q (F0 m 0 ls [])
set_option maxHeartbeats 40000000 in
set_option maxRecDepth 100000 in
theorem db_X11_takeScheduled_131 {p : Program} {l : Launch} {e : Env} {s : State} {m : MethodId} {args : Array Value} {below : List Frame} {meth : Method} {c : Code} {Q : State → Prop} {A : Nat → Prop} {dC : Nat → ClassId} {dI : Nat → Nat → Nat} {a : Nat → Nat} {ac : Nat → ClassId} {n : Nat} {r : St × Rw × (St × (St × (St × (St)))) × (St) × (St) × (Nat → St) × (Nat → St) × (Nat → St × (St))} (C : nd_C p l s m args c A (dC, dI) cX11_takeScheduled 2 RX11 ow_dm_X11_takeScheduled (dk_X11 ac)) (K : nd_Kv p l e (headSpec ow_dm_X11_takeScheduled ({ frames := 4, cells := 0, slots := 0, locals := 95 })).room s m args below meth c Q A (dC, dI) cX11_takeScheduled (St × Rw × (St × (St × (St × (St)))) × (St) × (St) × (Nat → St) × (Nat → St) × (Nat → St × (St))) (dw_X11 a ac) r) : dj_X11_takeScheduled_131 p l e s m args below meth c Q A dC dI a ac (df_X11_takeScheduled_131 n) r := by
  obtain ⟨hlt, hx, hb, hml, hown, hts, hN, hA, hK⟩ := id C
  intro s0 H locs ls h hP hD hS hl
  unfold df_X11_takeScheduled_131 at h
  exact K _ _ _ _ _ dX11_takeScheduled_131 (Option.some.inj h).symm hP hD hS
set_option maxHeartbeats 40000000 in
set_option maxRecDepth 100000 in
theorem db_X11_takeScheduled_128 {p : Program} {l : Launch} {e : Env} {s : State} {m : MethodId} {args : Array Value} {below : List Frame} {meth : Method} {c : Code} {Q : State → Prop} {A : Nat → Prop} {dC : Nat → ClassId} {dI : Nat → Nat → Nat} {a : Nat → Nat} {ac : Nat → ClassId} {n : Nat} {r : St × Rw × (St × (St × (St × (St)))) × (St) × (St) × (Nat → St) × (Nat → St) × (Nat → St × (St))} (C : nd_C p l s m args c A (dC, dI) cX11_takeScheduled 2 RX11 ow_dm_X11_takeScheduled (dk_X11 ac)) (K : nd_Kv p l e (headSpec ow_dm_X11_takeScheduled ({ frames := 4, cells := 0, slots := 0, locals := 95 })).room s m args below meth c Q A (dC, dI) cX11_takeScheduled (St × Rw × (St × (St × (St × (St)))) × (St) × (St) × (Nat → St) × (Nat → St) × (Nat → St × (St))) (dw_X11 a ac) r) {g0 : (St × Rw × (St × (St × (St × (St)))) × (St) × (St) × (Nat → St) × (Nat → St) × (Nat → St × (St))) → Option (St × Rw × (St × (St × (St × (St)))) × (St) × (St) × (Nat → St) × (Nat → St) × (Nat → St × (St)))} (J0 : dj_X11_takeScheduled_0 p l e s m args below meth c Q A dC dI a ac g0 r) : dj_X11_takeScheduled_128 p l e s m args below meth c Q A dC dI a ac (df_X11_takeScheduled_128 n g0) r := by
  obtain ⟨hlt, hx, hb, hml, hown, hts, hN, hA, hK⟩ := id C
  intro s0 H locs ls h hP hD hS hl
  unfold df_X11_takeScheduled_128 at h
  refine lv_goto (tgt := 0) hx hb dX11_takeScheduled_128 (by decide) ?_
  exact (J0)  s0 _ _ _ h hP hD hS (lv_sub hl [0] rfl)
set_option maxHeartbeats 40000000 in
set_option maxRecDepth 100000 in
theorem dB_X11_takeScheduled_0 {p : Program} {l : Launch} {e : Env} {s : State} {m : MethodId} {args : Array Value} {below : List Frame} {meth : Method} {c : Code} {Q : State → Prop} {A : Nat → Prop} {dC : Nat → ClassId} {dI : Nat → Nat → Nat} {a : Nat → Nat} {ac : Nat → ClassId} {n : Nat} {r : St × Rw × (St × (St × (St × (St)))) × (St) × (St) × (Nat → St) × (Nat → St) × (Nat → St × (St))} (C : nd_C p l s m args c A (dC, dI) cX11_takeScheduled 2 RX11 ow_dm_X11_takeScheduled (dk_X11 ac)) (K : nd_Kv p l e (headSpec ow_dm_X11_takeScheduled ({ frames := 4, cells := 0, slots := 0, locals := 95 })).room s m args below meth c Q A (dC, dI) cX11_takeScheduled (St × Rw × (St × (St × (St × (St)))) × (St) × (St) × (Nat → St) × (Nat → St) × (Nat → St × (St))) (dw_X11 a ac) r) {g0 : (St × Rw × (St × (St × (St × (St)))) × (St) × (St) × (Nat → St) × (Nat → St) × (Nat → St × (St))) → Option (St × Rw × (St × (St × (St × (St)))) × (St) × (St) × (Nat → St) × (Nat → St) × (Nat → St × (St)))} (J0 : dj_X11_takeScheduled_0 p l e s m args below meth c Q A dC dI a ac g0 r) : dj_X11_takeScheduled_0 p l e s m args below meth c Q A dC dI a ac (dF_X11_takeScheduled_0 n g0) r := by
  obtain ⟨hlt, hx, hb, hml, hown, hts, hN, hA, hK⟩ := id C
  intro s0 H locs ls h hP hD hS hl
  unfold dF_X11_takeScheduled_0 at h
  refine lv_aload_n hx hb dX11_takeScheduled_0 rfl (lv_at hl 0 rfl) ?_
  by_cases o1 : sO s0.1 0 = some 27
  · have h := nd_pos h o1
    refine va_get (D := (dC, dI)) (ci := 12) (v := .ref (a 27)) (C := RX11) (T := TX11) (N := 16) hx hb hts hi_dm_X11_takeScheduled_X11 hown hK hP 0 rfl rfl 1 (by decide) (hts (.fieldLink RX11 20 "TimeMachine$Timeline" "events" "LTimeMachine$Events;") (List.mem_of_getElem? (i := 1) rfl)) (fun _ h9 => h9) (congrArg (fun z => some (va_rf (Option.map a z))) o1) dX11_takeScheduled_1 ?_
    refine va_get (D := (dC, dI)) (ci := 4) (v := .int (sI s0.2.2.2.1 0)) (C := RX3) (T := TX3) (N := 11) hx hb hts hi_dm_X11_takeScheduled_X3 hown hK hP 27 rfl rfl 4 (by decide) (hts (.fieldLink RX11 116 "TimeMachine$Events" "recorded" "I") (List.mem_of_getElem? (i := 2) rfl)) (fun _ h9 => h9) rfl dX11_takeScheduled_4 ?_
    refine lv_aload_n hx hb dX11_takeScheduled_7 rfl (lv_at hl 0 rfl) ?_
    refine va_get (D := (dC, dI)) (ci := 12) (v := .ref (a 27)) (C := RX11) (T := TX11) (N := 16) hx hb hts hi_dm_X11_takeScheduled_X11 hown hK hP 0 rfl rfl 1 (by decide) (hts (.fieldLink RX11 20 "TimeMachine$Timeline" "events" "LTimeMachine$Events;") (List.mem_of_getElem? (i := 1) rfl)) (fun _ h9 => h9) (congrArg (fun z => some (va_rf (Option.map a z))) o1) dX11_takeScheduled_8 ?_
    refine va_get (D := (dC, dI)) (ci := 4) (v := .int (sI s0.2.2.2.1 1)) (C := RX3) (T := TX3) (N := 11) hx hb hts hi_dm_X11_takeScheduled_X3 hown hK hP 27 rfl rfl 5 (by decide) (hts (.fieldLink RX11 137 "TimeMachine$Events" "total" "I") (List.mem_of_getElem? (i := 3) rfl)) (fun _ h9 => h9) rfl dX11_takeScheduled_11 ?_
    refine lv_icmp_ge (tgt := 131) hx hb dX11_takeScheduled_14 (by decide) (fun c2 => ?_) (fun c2 => ?_)
    · have h := nd_pos h c2
      exact (db_X11_takeScheduled_131 C K)  s0 _ _ _ h hP hD hS (lv_sub hl [] rfl)
    · have h := nd_neg h c2
      refine lv_aload_n hx hb dX11_takeScheduled_17 rfl (lv_at hl 0 rfl) ?_
      refine va_get (D := (dC, dI)) (ci := 12) (v := .ref (a 27)) (C := RX11) (T := TX11) (N := 16) hx hb hts hi_dm_X11_takeScheduled_X11 hown hK hP 0 rfl rfl 1 (by decide) (hts (.fieldLink RX11 20 "TimeMachine$Timeline" "events" "LTimeMachine$Events;") (List.mem_of_getElem? (i := 1) rfl)) (fun _ h9 => h9) (congrArg (fun z => some (va_rf (Option.map a z))) o1) dX11_takeScheduled_18 ?_
      refine lv_aload_n hx hb dX11_takeScheduled_21 rfl (lv_at hl 0 rfl) ?_
      refine va_get (D := (dC, dI)) (ci := 12) (v := .ref (a 27)) (C := RX11) (T := TX11) (N := 16) hx hb hts hi_dm_X11_takeScheduled_X11 hown hK hP 0 rfl rfl 1 (by decide) (hts (.fieldLink RX11 20 "TimeMachine$Timeline" "events" "LTimeMachine$Events;") (List.mem_of_getElem? (i := 1) rfl)) (fun _ h9 => h9) (congrArg (fun z => some (va_rf (Option.map a z))) o1) dX11_takeScheduled_22 ?_
      refine va_get (D := (dC, dI)) (ci := 4) (v := .int (sI s0.2.2.2.1 0)) (C := RX3) (T := TX3) (N := 11) hx hb hts hi_dm_X11_takeScheduled_X3 hown hK hP 27 rfl rfl 4 (by decide) (hts (.fieldLink RX11 116 "TimeMachine$Events" "recorded" "I") (List.mem_of_getElem? (i := 2) rfl)) (fun _ h9 => h9) rfl dX11_takeScheduled_25 ?_
      refine lv_aload_n hx hb dX11_takeScheduled_28 rfl (lv_at hl 0 rfl) ?_
      refine va_get (D := (dC, dI)) (ci := 12) (v := .int (sI s0.1 4)) (C := RX11) (T := TX11) (N := 16) hx hb hts hi_dm_X11_takeScheduled_X11 hown hK hP 0 rfl rfl 12 (by decide) (hts (.fieldLink RX11 76 "TimeMachine$Timeline" "end" "I") (List.mem_of_getElem? (i := 4) rfl)) (fun _ h9 => h9) rfl dX11_takeScheduled_29 ?_
      obtain ⟨q3, s4, hq, h⟩ := nd_b2_e h
      have hPc := dp_wX11_X3c_5 hP
      have hDc := dd_wX11_X3c_5 hD
      have hKc := dy_wX11_X3c_5 hK
      have hFc := nd_rs hDc hS hA
      have hzA : ∀ q : Nat, H.size ≤ q → A q := fun q h => hA q (Nat.le_trans hS.1 h)
      refine nd_cVi (As := [.int (sI s0.2.2.2.1 0), .int (sI s0.1 4)]) (rest := []) (q := q3) (w' := dw_X3c (fun k => a (k + 27)) (fun k => ac (k + 27)) s4) ⟨hx, hb, hml, hown, hts⟩ (fun sz => dm_X3_isAt l hlt dC dI (fun k => a (k + 27)) (fun k => ac (k + 27)) n ((sI s0.2.2.2.1 0)) ((sI s0.1 4)) s0.2.2.2.1 hq sz) (cwV 2 hts gi_dm_X11_takeScheduled_0 rfl rfl rfl (by decide +kernel) ⟨Nat.le_of_ble_eq_true rfl, Nat.le_of_ble_eq_true rfl⟩) hPc hDc hKc hS hA hN (va_recv hKc hPc (ci := 4) (q0 := 0) rfl rfl) rfl hl.1 rfl (Nat.le_of_ble_eq_true rfl) dX11_takeScheduled_32 (fun H locs hP1 hD1 hk1 hS => ?_)
      obtain ⟨hP, hD⟩ := dn_wX11_X3c_5 hP hD hzA hk1 hP1 hD1
      obtain ⟨s6, es6, h⟩ := nd_let_e h
      have hP : va_P (dC, dI) vwCl (dw_X11 a ac s6) H := by rw [es6]; exact hP
      have hD : va_D A (dw_X11 a ac s6) := by rw [es6]; exact hD
      have o1 : sO s6.1 0 = some 27 := by rw [es6]; exact o1
      refine lv_if_eq (tgt := 131) hx hb dX11_takeScheduled_35 (by decide) (fun c7 => ?_) (fun c7 => ?_)
      · have h := nd_pos h c7
        exact (db_X11_takeScheduled_131 C K)  s6 _ _ _ h hP hD hS (lv_sub hl [] rfl)
      · have h := nd_neg h c7
        refine lv_aload_n hx hb dX11_takeScheduled_38 rfl (lv_at hl 0 rfl) ?_
        refine va_get (D := (dC, dI)) (ci := 12) (v := .ref (a 27)) (C := RX11) (T := TX11) (N := 16) hx hb hts hi_dm_X11_takeScheduled_X11 hown hK hP 0 rfl rfl 1 (by decide) (hts (.fieldLink RX11 20 "TimeMachine$Timeline" "events" "LTimeMachine$Events;") (List.mem_of_getElem? (i := 1) rfl)) (fun _ h9 => h9) (congrArg (fun z => some (va_rf (Option.map a z))) o1) dX11_takeScheduled_39 ?_
        refine va_get (D := (dC, dI)) (ci := 4) (v := .int (sI s6.2.2.2.1 0)) (C := RX3) (T := TX3) (N := 11) hx hb hts hi_dm_X11_takeScheduled_X3 hown hK hP 27 rfl rfl 4 (by decide) (hts (.fieldLink RX11 116 "TimeMachine$Events" "recorded" "I") (List.mem_of_getElem? (i := 2) rfl)) (fun _ h9 => h9) rfl dX11_takeScheduled_42 ?_
        refine lv_topi (fun z8 ez8 => ?_)
        have h := nd_at h ez8
        refine lv_istore_n (lv' := [(1, .int z8), (0, .ref (a 0))]) hx hb dX11_takeScheduled_45 rfl hl (by decide) rfl (fun ls hl => ?_)
        refine lv_aload_n hx hb dX11_takeScheduled_46 rfl (lv_at hl 1 rfl) ?_
        refine va_get (D := (dC, dI)) (ci := 12) (v := .ref (a 3)) (C := RX11) (T := TX11) (N := 16) hx hb hts hi_dm_X11_takeScheduled_X11 hown hK hP 0 rfl rfl 4 (by decide) (hts (.fieldLink RX11 39 "TimeMachine$Timeline" "kernel" "LTimeMachine$Kernel;") (List.mem_of_getElem? (i := 9) rfl)) (fun _ h9 => h9) rfl dX11_takeScheduled_47 ?_
        refine lv_aload_n hx hb dX11_takeScheduled_50 rfl (lv_at hl 1 rfl) ?_
        refine va_get (D := (dC, dI)) (ci := 12) (v := .ref (a 27)) (C := RX11) (T := TX11) (N := 16) hx hb hts hi_dm_X11_takeScheduled_X11 hown hK hP 0 rfl rfl 1 (by decide) (hts (.fieldLink RX11 20 "TimeMachine$Timeline" "events" "LTimeMachine$Events;") (List.mem_of_getElem? (i := 1) rfl)) (fun _ h9 => h9) (congrArg (fun z => some (va_rf (Option.map a z))) o1) dX11_takeScheduled_51 ?_
        refine va_get (D := (dC, dI)) (ci := 4) (v := .ref (a 28)) (C := RX3) (T := TX3) (N := 11) hx hb hts hi_dm_X11_takeScheduled_X3 hown hK hP 27 rfl rfl 0 (by decide) (hts (.fieldLink RX11 123 "TimeMachine$Events" "kind" "[I") (List.mem_of_getElem? (i := 10) rfl)) (fun _ h9 => h9) rfl dX11_takeScheduled_54 ?_
        refine lv_iload_n hx hb dX11_takeScheduled_57 rfl (lv_at hl 0 rfl) ?_
        obtain ⟨i9, h⟩ := nd_ck_e h
        refine va_iald (i := z8) hx hb hK hP 28 22 rfl rfl i9 dX11_takeScheduled_58 ?_
        refine lv_aload_n hx hb dX11_takeScheduled_59 rfl (lv_at hl 1 rfl) ?_
        refine va_get (D := (dC, dI)) (ci := 12) (v := .ref (a 27)) (C := RX11) (T := TX11) (N := 16) hx hb hts hi_dm_X11_takeScheduled_X11 hown hK hP 0 rfl rfl 1 (by decide) (hts (.fieldLink RX11 20 "TimeMachine$Timeline" "events" "LTimeMachine$Events;") (List.mem_of_getElem? (i := 1) rfl)) (fun _ h9 => h9) (congrArg (fun z => some (va_rf (Option.map a z))) o1) dX11_takeScheduled_60 ?_
        refine va_get (D := (dC, dI)) (ci := 4) (v := .ref (a 30)) (C := RX3) (T := TX3) (N := 11) hx hb hts hi_dm_X11_takeScheduled_X3 hown hK hP 27 rfl rfl 2 (by decide) (hts (.fieldLink RX11 126 "TimeMachine$Events" "a" "[J") (List.mem_of_getElem? (i := 11) rfl)) (fun _ h9 => h9) rfl dX11_takeScheduled_63 ?_
        refine lv_iload_n hx hb dX11_takeScheduled_66 rfl (lv_at hl 0 rfl) ?_
        obtain ⟨i10, h⟩ := nd_ck_e h
        refine va_lald (i := z8) hx hb hK hP 30 24 rfl rfl i10 dX11_takeScheduled_67 ?_
        refine lv_aload_n hx hb dX11_takeScheduled_68 rfl (lv_at hl 1 rfl) ?_
        refine va_get (D := (dC, dI)) (ci := 12) (v := .ref (a 27)) (C := RX11) (T := TX11) (N := 16) hx hb hts hi_dm_X11_takeScheduled_X11 hown hK hP 0 rfl rfl 1 (by decide) (hts (.fieldLink RX11 20 "TimeMachine$Timeline" "events" "LTimeMachine$Events;") (List.mem_of_getElem? (i := 1) rfl)) (fun _ h9 => h9) (congrArg (fun z => some (va_rf (Option.map a z))) o1) dX11_takeScheduled_69 ?_
        refine va_get (D := (dC, dI)) (ci := 4) (v := .ref (a 31)) (C := RX3) (T := TX3) (N := 11) hx hb hts hi_dm_X11_takeScheduled_X3 hown hK hP 27 rfl rfl 3 (by decide) (hts (.fieldLink RX11 130 "TimeMachine$Events" "b" "[I") (List.mem_of_getElem? (i := 12) rfl)) (fun _ h9 => h9) rfl dX11_takeScheduled_72 ?_
        refine lv_iload_n hx hb dX11_takeScheduled_75 rfl (lv_at hl 0 rfl) ?_
        obtain ⟨i11, h⟩ := nd_ck_e h
        refine va_iald (i := z8) hx hb hK hP 31 25 rfl rfl i11 dX11_takeScheduled_76 ?_
        obtain ⟨q12, s13, hq, h⟩ := nd_b2_e h
        have hPc := dp_wX11_X5_2 hP
        have hDc := dd_wX11_X5_2 hD
        have hKc := dy_wX11_X5_2 hK
        have hFc := nd_rs hDc hS hA
        have hzA : ∀ q : Nat, H.size ≤ q → A q := fun q h => hA q (Nat.le_trans hS.1 h)
        refine nd_cVi (As := [.int (sR s6.2.2.2.1 0 (Int32.toNatClampNeg z8)), .long (sQ s6.2.2.2.1 1 (Int32.toNatClampNeg z8)), .int (sR s6.2.2.2.1 1 (Int32.toNatClampNeg z8))]) (rest := []) (q := q12) (w' := dw_X5 (fun k => a (k + 3)) (fun k => ac (k + 3)) s13) ⟨hx, hb, hml, hown, hts⟩ (fun sz => dm_X5_come l hlt dC dI (fun k => a (k + 3)) (fun k => ac (k + 3)) n ((sR s6.2.2.2.1 0 (Int32.toNatClampNeg z8))) ((sQ s6.2.2.2.1 1 (Int32.toNatClampNeg z8))) ((sR s6.2.2.2.1 1 (Int32.toNatClampNeg z8))) s6.2.2.1 hq sz) (cwV 3 hts gi_dm_X11_takeScheduled_1 rfl rfl rfl (by decide +kernel) ⟨Nat.le_of_ble_eq_true rfl, Nat.le_of_ble_eq_true rfl⟩) hPc hDc hKc hS hA hN (va_recv hKc hPc (ci := 6) (q0 := 0) rfl rfl) rfl hl.1 rfl (Nat.le_of_ble_eq_true rfl) dX11_takeScheduled_77 (fun H locs hP1 hD1 hk1 hS => ?_)
        obtain ⟨hP, hD⟩ := dn_wX11_X5_2 hP hD hzA hk1 hP1 hD1
        obtain ⟨s15, es15, h⟩ := nd_let_e h
        have hP : va_P (dC, dI) vwCl (dw_X11 a ac s15) H := by rw [es15]; exact hP
        have hD : va_D A (dw_X11 a ac s15) := by rw [es15]; exact hD
        have o1 : sO s15.1 0 = some 27 := by rw [es15]; exact o1
        refine lv_if_eq (tgt := 109) hx hb dX11_takeScheduled_80 (by decide) (fun c16 => ?_) (fun c16 => ?_)
        · have h := nd_pos h c16
          refine lv_aload_n hx hb dX11_takeScheduled_109 rfl (lv_at hl 1 rfl) ?_
          refine va_get (D := (dC, dI)) (ci := 12) (v := .ref (a 27)) (C := RX11) (T := TX11) (N := 16) hx hb hts hi_dm_X11_takeScheduled_X11 hown hK hP 0 rfl rfl 1 (by decide) (hts (.fieldLink RX11 20 "TimeMachine$Timeline" "events" "LTimeMachine$Events;") (List.mem_of_getElem? (i := 1) rfl)) (fun _ h9 => h9) (congrArg (fun z => some (va_rf (Option.map a z))) o1) dX11_takeScheduled_110 ?_
          refine lv_aload_n hx hb dX11_takeScheduled_113 rfl (lv_at hl 1 rfl) ?_
          refine va_get (D := (dC, dI)) (ci := 12) (v := .ref (a 27)) (C := RX11) (T := TX11) (N := 16) hx hb hts hi_dm_X11_takeScheduled_X11 hown hK hP 0 rfl rfl 1 (by decide) (hts (.fieldLink RX11 20 "TimeMachine$Timeline" "events" "LTimeMachine$Events;") (List.mem_of_getElem? (i := 1) rfl)) (fun _ h9 => h9) (congrArg (fun z => some (va_rf (Option.map a z))) o1) dX11_takeScheduled_114 ?_
          refine va_get (D := (dC, dI)) (ci := 4) (v := .int (sI s15.2.2.2.1 0)) (C := RX3) (T := TX3) (N := 11) hx hb hts hi_dm_X11_takeScheduled_X3 hown hK hP 27 rfl rfl 4 (by decide) (hts (.fieldLink RX11 116 "TimeMachine$Events" "recorded" "I") (List.mem_of_getElem? (i := 2) rfl)) (fun _ h9 => h9) rfl dX11_takeScheduled_117 ?_
          refine va_put (D := (dC, dI)) (ci := 4) (v := .int (sI s15.2.2.2.1 0)) (ty := .int) (C := RX3) (T := TX3) (N := 11) hx hb hts hi_dm_X11_takeScheduled_X3 tyX3 tyX3_ok nmX3 hown hK hP hD hS 27 rfl rfl 5 (by decide) (hts (.fieldLink RX11 137 "TimeMachine$Events" "total" "I") (List.mem_of_getElem? (i := 3) rfl)) (fun _ h9 => h9) rfl (by decide +kernel) rfl rfl (Nat.le_of_ble_eq_true rfl) dX11_takeScheduled_120 (fun H locs hP hD hS => ?_)
          obtain ⟨s17, es17, h⟩ := nd_let_e h
          have hP : va_P (dC, dI) vwCl (dw_X11 a ac s17) H := by rw [es17]; exact hP
          have hD : va_D A (dw_X11 a ac s17) := by rw [es17]; exact hD
          have o1 : sO s17.1 0 = some 27 := by rw [es17]; exact o1
          refine lv_aload_n hx hb dX11_takeScheduled_123 rfl (lv_at hl 1 rfl) ?_
          refine lv_iconst (v := 1) hx hb dX11_takeScheduled_124 (by decide) ?_
          refine va_put (D := (dC, dI)) (ci := 12) (v := .int 1) (ty := .boolean) (C := RX11) (T := TX11) (N := 16) hx hb hts hi_dm_X11_takeScheduled_X11 tyX11 tyX11_ok nmX11 hown hK hP hD hS 0 rfl rfl 14 (by decide) (hts (.fieldLink RX11 82 "TimeMachine$Timeline" "missed" "Z") (List.mem_of_getElem? (i := 17) rfl)) (fun _ h9 => h9) rfl (by decide +kernel) (by first | rfl | decide) rfl (Nat.le_of_ble_eq_true rfl) dX11_takeScheduled_125 (fun H locs hP hD hS => ?_)
          obtain ⟨s18, es18, h⟩ := nd_let_e h
          have hP : va_P (dC, dI) vwCl (dw_X11 a ac s18) H := by rw [es18]; exact hP
          have hD : va_D A (dw_X11 a ac s18) := by rw [es18]; exact hD
          have o1 : sO s18.1 0 = some 27 := by rw [es18]; exact o1
          exact (db_X11_takeScheduled_128 C K J0)  s18 _ _ _ h hP hD hS (lv_sub hl [1] rfl)
        · have h := nd_neg h c16
          refine lv_aload_n hx hb dX11_takeScheduled_83 rfl (lv_at hl 1 rfl) ?_
          refine va_get (D := (dC, dI)) (ci := 12) (v := .ref (a 27)) (C := RX11) (T := TX11) (N := 16) hx hb hts hi_dm_X11_takeScheduled_X11 hown hK hP 0 rfl rfl 1 (by decide) (hts (.fieldLink RX11 20 "TimeMachine$Timeline" "events" "LTimeMachine$Events;") (List.mem_of_getElem? (i := 1) rfl)) (fun _ h9 => h9) (congrArg (fun z => some (va_rf (Option.map a z))) o1) dX11_takeScheduled_84 ?_
          refine lv_dup hx hb dX11_takeScheduled_87 rfl ?_
          refine va_get (D := (dC, dI)) (ci := 4) (v := .int (sI s15.2.2.2.1 0)) (C := RX3) (T := TX3) (N := 11) hx hb hts hi_dm_X11_takeScheduled_X3 hown hK hP 27 rfl rfl 4 (by decide) (hts (.fieldLink RX11 116 "TimeMachine$Events" "recorded" "I") (List.mem_of_getElem? (i := 2) rfl)) (fun _ h9 => h9) rfl dX11_takeScheduled_88 ?_
          refine lv_iconst (v := 1) hx hb dX11_takeScheduled_91 (by decide) ?_
          refine lv_iadd hx hb dX11_takeScheduled_92 ?_
          refine va_put (D := (dC, dI)) (ci := 4) (v := .int ((sI s15.2.2.2.1 0) + 1)) (ty := .int) (C := RX3) (T := TX3) (N := 11) hx hb hts hi_dm_X11_takeScheduled_X3 tyX3 tyX3_ok nmX3 hown hK hP hD hS 27 rfl rfl 4 (by decide) (hts (.fieldLink RX11 116 "TimeMachine$Events" "recorded" "I") (List.mem_of_getElem? (i := 2) rfl)) (fun _ h9 => h9) rfl (by decide +kernel) rfl rfl (Nat.le_of_ble_eq_true rfl) dX11_takeScheduled_93 (fun H locs hP hD hS => ?_)
          obtain ⟨s19, es19, h⟩ := nd_let_e h
          have hP : va_P (dC, dI) vwCl (dw_X11 a ac s19) H := by rw [es19]; exact hP
          have hD : va_D A (dw_X11 a ac s19) := by rw [es19]; exact hD
          have o1 : sO s19.1 0 = some 27 := by rw [es19]; exact o1
          refine lv_aload_n hx hb dX11_takeScheduled_96 rfl (lv_at hl 1 rfl) ?_
          refine lv_dup hx hb dX11_takeScheduled_97 rfl ?_
          refine va_get (D := (dC, dI)) (ci := 12) (v := .int (sI s19.1 5)) (C := RX11) (T := TX11) (N := 16) hx hb hts hi_dm_X11_takeScheduled_X11 hown hK hP 0 rfl rfl 13 (by decide) (hts (.fieldLink RX11 79 "TimeMachine$Timeline" "came" "I") (List.mem_of_getElem? (i := 18) rfl)) (fun _ h9 => h9) rfl dX11_takeScheduled_98 ?_
          refine lv_iconst (v := 1) hx hb dX11_takeScheduled_101 (by decide) ?_
          refine lv_iadd hx hb dX11_takeScheduled_102 ?_
          refine va_put (D := (dC, dI)) (ci := 12) (v := .int ((sI s19.1 5) + 1)) (ty := .int) (C := RX11) (T := TX11) (N := 16) hx hb hts hi_dm_X11_takeScheduled_X11 tyX11 tyX11_ok nmX11 hown hK hP hD hS 0 rfl rfl 13 (by decide) (hts (.fieldLink RX11 79 "TimeMachine$Timeline" "came" "I") (List.mem_of_getElem? (i := 18) rfl)) (fun _ h9 => h9) rfl (by decide +kernel) rfl rfl (Nat.le_of_ble_eq_true rfl) dX11_takeScheduled_103 (fun H locs hP hD hS => ?_)
          obtain ⟨s20, es20, h⟩ := nd_let_e h
          have hP : va_P (dC, dI) vwCl (dw_X11 a ac s20) H := by rw [es20]; exact hP
          have hD : va_D A (dw_X11 a ac s20) := by rw [es20]; exact hD
          have o1 : sO s20.1 0 = some 27 := by rw [es20]; exact o1
          refine lv_goto (tgt := 128) hx hb dX11_takeScheduled_106 (by decide) ?_
          exact (db_X11_takeScheduled_128 C K J0)  s20 _ _ _ h hP hD hS (lv_sub hl [1] rfl)
  have h := nd_neg h o1
  by_cases o21 : sO s0.1 0 = some 32
  · have h := nd_pos h o21
    refine va_get (D := (dC, dI)) (ci := 12) (v := .ref (a 32)) (C := RX11) (T := TX11) (N := 16) hx hb hts hi_dm_X11_takeScheduled_X11 hown hK hP 0 rfl rfl 1 (by decide) (hts (.fieldLink RX11 20 "TimeMachine$Timeline" "events" "LTimeMachine$Events;") (List.mem_of_getElem? (i := 1) rfl)) (fun _ h9 => h9) (congrArg (fun z => some (va_rf (Option.map a z))) o21) dX11_takeScheduled_1 ?_
    refine va_get (D := (dC, dI)) (ci := 4) (v := .int (sI s0.2.2.2.2.1 0)) (C := RX3) (T := TX3) (N := 11) hx hb hts hi_dm_X11_takeScheduled_X3 hown hK hP 32 rfl rfl 4 (by decide) (hts (.fieldLink RX11 116 "TimeMachine$Events" "recorded" "I") (List.mem_of_getElem? (i := 2) rfl)) (fun _ h9 => h9) rfl dX11_takeScheduled_4 ?_
    refine lv_aload_n hx hb dX11_takeScheduled_7 rfl (lv_at hl 0 rfl) ?_
    refine va_get (D := (dC, dI)) (ci := 12) (v := .ref (a 32)) (C := RX11) (T := TX11) (N := 16) hx hb hts hi_dm_X11_takeScheduled_X11 hown hK hP 0 rfl rfl 1 (by decide) (hts (.fieldLink RX11 20 "TimeMachine$Timeline" "events" "LTimeMachine$Events;") (List.mem_of_getElem? (i := 1) rfl)) (fun _ h9 => h9) (congrArg (fun z => some (va_rf (Option.map a z))) o21) dX11_takeScheduled_8 ?_
    refine va_get (D := (dC, dI)) (ci := 4) (v := .int (sI s0.2.2.2.2.1 1)) (C := RX3) (T := TX3) (N := 11) hx hb hts hi_dm_X11_takeScheduled_X3 hown hK hP 32 rfl rfl 5 (by decide) (hts (.fieldLink RX11 137 "TimeMachine$Events" "total" "I") (List.mem_of_getElem? (i := 3) rfl)) (fun _ h9 => h9) rfl dX11_takeScheduled_11 ?_
    refine lv_icmp_ge (tgt := 131) hx hb dX11_takeScheduled_14 (by decide) (fun c22 => ?_) (fun c22 => ?_)
    · have h := nd_pos h c22
      exact (db_X11_takeScheduled_131 C K)  s0 _ _ _ h hP hD hS (lv_sub hl [] rfl)
    · have h := nd_neg h c22
      refine lv_aload_n hx hb dX11_takeScheduled_17 rfl (lv_at hl 0 rfl) ?_
      refine va_get (D := (dC, dI)) (ci := 12) (v := .ref (a 32)) (C := RX11) (T := TX11) (N := 16) hx hb hts hi_dm_X11_takeScheduled_X11 hown hK hP 0 rfl rfl 1 (by decide) (hts (.fieldLink RX11 20 "TimeMachine$Timeline" "events" "LTimeMachine$Events;") (List.mem_of_getElem? (i := 1) rfl)) (fun _ h9 => h9) (congrArg (fun z => some (va_rf (Option.map a z))) o21) dX11_takeScheduled_18 ?_
      refine lv_aload_n hx hb dX11_takeScheduled_21 rfl (lv_at hl 0 rfl) ?_
      refine va_get (D := (dC, dI)) (ci := 12) (v := .ref (a 32)) (C := RX11) (T := TX11) (N := 16) hx hb hts hi_dm_X11_takeScheduled_X11 hown hK hP 0 rfl rfl 1 (by decide) (hts (.fieldLink RX11 20 "TimeMachine$Timeline" "events" "LTimeMachine$Events;") (List.mem_of_getElem? (i := 1) rfl)) (fun _ h9 => h9) (congrArg (fun z => some (va_rf (Option.map a z))) o21) dX11_takeScheduled_22 ?_
      refine va_get (D := (dC, dI)) (ci := 4) (v := .int (sI s0.2.2.2.2.1 0)) (C := RX3) (T := TX3) (N := 11) hx hb hts hi_dm_X11_takeScheduled_X3 hown hK hP 32 rfl rfl 4 (by decide) (hts (.fieldLink RX11 116 "TimeMachine$Events" "recorded" "I") (List.mem_of_getElem? (i := 2) rfl)) (fun _ h9 => h9) rfl dX11_takeScheduled_25 ?_
      refine lv_aload_n hx hb dX11_takeScheduled_28 rfl (lv_at hl 0 rfl) ?_
      refine va_get (D := (dC, dI)) (ci := 12) (v := .int (sI s0.1 4)) (C := RX11) (T := TX11) (N := 16) hx hb hts hi_dm_X11_takeScheduled_X11 hown hK hP 0 rfl rfl 12 (by decide) (hts (.fieldLink RX11 76 "TimeMachine$Timeline" "end" "I") (List.mem_of_getElem? (i := 4) rfl)) (fun _ h9 => h9) rfl dX11_takeScheduled_29 ?_
      obtain ⟨q23, s24, hq, h⟩ := nd_b2_e h
      have hPc := dp_wX11_X3c_7 hP
      have hDc := dd_wX11_X3c_7 hD
      have hKc := dy_wX11_X3c_7 hK
      have hFc := nd_rs hDc hS hA
      have hzA : ∀ q : Nat, H.size ≤ q → A q := fun q h => hA q (Nat.le_trans hS.1 h)
      refine nd_cVi (As := [.int (sI s0.2.2.2.2.1 0), .int (sI s0.1 4)]) (rest := []) (q := q23) (w' := dw_X3c (fun k => a (k + 32)) (fun k => ac (k + 32)) s24) ⟨hx, hb, hml, hown, hts⟩ (fun sz => dm_X3_isAt l hlt dC dI (fun k => a (k + 32)) (fun k => ac (k + 32)) n ((sI s0.2.2.2.2.1 0)) ((sI s0.1 4)) s0.2.2.2.2.1 hq sz) (cwV 2 hts gi_dm_X11_takeScheduled_0 rfl rfl rfl (by decide +kernel) ⟨Nat.le_of_ble_eq_true rfl, Nat.le_of_ble_eq_true rfl⟩) hPc hDc hKc hS hA hN (va_recv hKc hPc (ci := 4) (q0 := 0) rfl rfl) rfl hl.1 rfl (Nat.le_of_ble_eq_true rfl) dX11_takeScheduled_32 (fun H locs hP1 hD1 hk1 hS => ?_)
      obtain ⟨hP, hD⟩ := dn_wX11_X3c_7 hP hD hzA hk1 hP1 hD1
      obtain ⟨s26, es26, h⟩ := nd_let_e h
      have hP : va_P (dC, dI) vwCl (dw_X11 a ac s26) H := by rw [es26]; exact hP
      have hD : va_D A (dw_X11 a ac s26) := by rw [es26]; exact hD
      have o21 : sO s26.1 0 = some 32 := by rw [es26]; exact o21
      refine lv_if_eq (tgt := 131) hx hb dX11_takeScheduled_35 (by decide) (fun c27 => ?_) (fun c27 => ?_)
      · have h := nd_pos h c27
        exact (db_X11_takeScheduled_131 C K)  s26 _ _ _ h hP hD hS (lv_sub hl [] rfl)
      · have h := nd_neg h c27
        refine lv_aload_n hx hb dX11_takeScheduled_38 rfl (lv_at hl 0 rfl) ?_
        refine va_get (D := (dC, dI)) (ci := 12) (v := .ref (a 32)) (C := RX11) (T := TX11) (N := 16) hx hb hts hi_dm_X11_takeScheduled_X11 hown hK hP 0 rfl rfl 1 (by decide) (hts (.fieldLink RX11 20 "TimeMachine$Timeline" "events" "LTimeMachine$Events;") (List.mem_of_getElem? (i := 1) rfl)) (fun _ h9 => h9) (congrArg (fun z => some (va_rf (Option.map a z))) o21) dX11_takeScheduled_39 ?_
        refine va_get (D := (dC, dI)) (ci := 4) (v := .int (sI s26.2.2.2.2.1 0)) (C := RX3) (T := TX3) (N := 11) hx hb hts hi_dm_X11_takeScheduled_X3 hown hK hP 32 rfl rfl 4 (by decide) (hts (.fieldLink RX11 116 "TimeMachine$Events" "recorded" "I") (List.mem_of_getElem? (i := 2) rfl)) (fun _ h9 => h9) rfl dX11_takeScheduled_42 ?_
        refine lv_topi (fun z28 ez28 => ?_)
        have h := nd_at h ez28
        refine lv_istore_n (lv' := [(1, .int z28), (0, .ref (a 0))]) hx hb dX11_takeScheduled_45 rfl hl (by decide) rfl (fun ls hl => ?_)
        refine lv_aload_n hx hb dX11_takeScheduled_46 rfl (lv_at hl 1 rfl) ?_
        refine va_get (D := (dC, dI)) (ci := 12) (v := .ref (a 3)) (C := RX11) (T := TX11) (N := 16) hx hb hts hi_dm_X11_takeScheduled_X11 hown hK hP 0 rfl rfl 4 (by decide) (hts (.fieldLink RX11 39 "TimeMachine$Timeline" "kernel" "LTimeMachine$Kernel;") (List.mem_of_getElem? (i := 9) rfl)) (fun _ h9 => h9) rfl dX11_takeScheduled_47 ?_
        refine lv_aload_n hx hb dX11_takeScheduled_50 rfl (lv_at hl 1 rfl) ?_
        refine va_get (D := (dC, dI)) (ci := 12) (v := .ref (a 32)) (C := RX11) (T := TX11) (N := 16) hx hb hts hi_dm_X11_takeScheduled_X11 hown hK hP 0 rfl rfl 1 (by decide) (hts (.fieldLink RX11 20 "TimeMachine$Timeline" "events" "LTimeMachine$Events;") (List.mem_of_getElem? (i := 1) rfl)) (fun _ h9 => h9) (congrArg (fun z => some (va_rf (Option.map a z))) o21) dX11_takeScheduled_51 ?_
        refine va_get (D := (dC, dI)) (ci := 4) (v := .ref (a 33)) (C := RX3) (T := TX3) (N := 11) hx hb hts hi_dm_X11_takeScheduled_X3 hown hK hP 32 rfl rfl 0 (by decide) (hts (.fieldLink RX11 123 "TimeMachine$Events" "kind" "[I") (List.mem_of_getElem? (i := 10) rfl)) (fun _ h9 => h9) rfl dX11_takeScheduled_54 ?_
        refine lv_iload_n hx hb dX11_takeScheduled_57 rfl (lv_at hl 0 rfl) ?_
        obtain ⟨i29, h⟩ := nd_ck_e h
        refine va_iald (i := z28) hx hb hK hP 33 26 rfl rfl i29 dX11_takeScheduled_58 ?_
        refine lv_aload_n hx hb dX11_takeScheduled_59 rfl (lv_at hl 1 rfl) ?_
        refine va_get (D := (dC, dI)) (ci := 12) (v := .ref (a 32)) (C := RX11) (T := TX11) (N := 16) hx hb hts hi_dm_X11_takeScheduled_X11 hown hK hP 0 rfl rfl 1 (by decide) (hts (.fieldLink RX11 20 "TimeMachine$Timeline" "events" "LTimeMachine$Events;") (List.mem_of_getElem? (i := 1) rfl)) (fun _ h9 => h9) (congrArg (fun z => some (va_rf (Option.map a z))) o21) dX11_takeScheduled_60 ?_
        refine va_get (D := (dC, dI)) (ci := 4) (v := .ref (a 35)) (C := RX3) (T := TX3) (N := 11) hx hb hts hi_dm_X11_takeScheduled_X3 hown hK hP 32 rfl rfl 2 (by decide) (hts (.fieldLink RX11 126 "TimeMachine$Events" "a" "[J") (List.mem_of_getElem? (i := 11) rfl)) (fun _ h9 => h9) rfl dX11_takeScheduled_63 ?_
        refine lv_iload_n hx hb dX11_takeScheduled_66 rfl (lv_at hl 0 rfl) ?_
        obtain ⟨i30, h⟩ := nd_ck_e h
        refine va_lald (i := z28) hx hb hK hP 35 28 rfl rfl i30 dX11_takeScheduled_67 ?_
        refine lv_aload_n hx hb dX11_takeScheduled_68 rfl (lv_at hl 1 rfl) ?_
        refine va_get (D := (dC, dI)) (ci := 12) (v := .ref (a 32)) (C := RX11) (T := TX11) (N := 16) hx hb hts hi_dm_X11_takeScheduled_X11 hown hK hP 0 rfl rfl 1 (by decide) (hts (.fieldLink RX11 20 "TimeMachine$Timeline" "events" "LTimeMachine$Events;") (List.mem_of_getElem? (i := 1) rfl)) (fun _ h9 => h9) (congrArg (fun z => some (va_rf (Option.map a z))) o21) dX11_takeScheduled_69 ?_
        refine va_get (D := (dC, dI)) (ci := 4) (v := .ref (a 36)) (C := RX3) (T := TX3) (N := 11) hx hb hts hi_dm_X11_takeScheduled_X3 hown hK hP 32 rfl rfl 3 (by decide) (hts (.fieldLink RX11 130 "TimeMachine$Events" "b" "[I") (List.mem_of_getElem? (i := 12) rfl)) (fun _ h9 => h9) rfl dX11_takeScheduled_72 ?_
        refine lv_iload_n hx hb dX11_takeScheduled_75 rfl (lv_at hl 0 rfl) ?_
        obtain ⟨i31, h⟩ := nd_ck_e h
        refine va_iald (i := z28) hx hb hK hP 36 29 rfl rfl i31 dX11_takeScheduled_76 ?_
        obtain ⟨q32, s33, hq, h⟩ := nd_b2_e h
        have hPc := dp_wX11_X5_2 hP
        have hDc := dd_wX11_X5_2 hD
        have hKc := dy_wX11_X5_2 hK
        have hFc := nd_rs hDc hS hA
        have hzA : ∀ q : Nat, H.size ≤ q → A q := fun q h => hA q (Nat.le_trans hS.1 h)
        refine nd_cVi (As := [.int (sR s26.2.2.2.2.1 0 (Int32.toNatClampNeg z28)), .long (sQ s26.2.2.2.2.1 1 (Int32.toNatClampNeg z28)), .int (sR s26.2.2.2.2.1 1 (Int32.toNatClampNeg z28))]) (rest := []) (q := q32) (w' := dw_X5 (fun k => a (k + 3)) (fun k => ac (k + 3)) s33) ⟨hx, hb, hml, hown, hts⟩ (fun sz => dm_X5_come l hlt dC dI (fun k => a (k + 3)) (fun k => ac (k + 3)) n ((sR s26.2.2.2.2.1 0 (Int32.toNatClampNeg z28))) ((sQ s26.2.2.2.2.1 1 (Int32.toNatClampNeg z28))) ((sR s26.2.2.2.2.1 1 (Int32.toNatClampNeg z28))) s26.2.2.1 hq sz) (cwV 3 hts gi_dm_X11_takeScheduled_1 rfl rfl rfl (by decide +kernel) ⟨Nat.le_of_ble_eq_true rfl, Nat.le_of_ble_eq_true rfl⟩) hPc hDc hKc hS hA hN (va_recv hKc hPc (ci := 6) (q0 := 0) rfl rfl) rfl hl.1 rfl (Nat.le_of_ble_eq_true rfl) dX11_takeScheduled_77 (fun H locs hP1 hD1 hk1 hS => ?_)
        obtain ⟨hP, hD⟩ := dn_wX11_X5_2 hP hD hzA hk1 hP1 hD1
        obtain ⟨s35, es35, h⟩ := nd_let_e h
        have hP : va_P (dC, dI) vwCl (dw_X11 a ac s35) H := by rw [es35]; exact hP
        have hD : va_D A (dw_X11 a ac s35) := by rw [es35]; exact hD
        have o21 : sO s35.1 0 = some 32 := by rw [es35]; exact o21
        refine lv_if_eq (tgt := 109) hx hb dX11_takeScheduled_80 (by decide) (fun c36 => ?_) (fun c36 => ?_)
        · have h := nd_pos h c36
          refine lv_aload_n hx hb dX11_takeScheduled_109 rfl (lv_at hl 1 rfl) ?_
          refine va_get (D := (dC, dI)) (ci := 12) (v := .ref (a 32)) (C := RX11) (T := TX11) (N := 16) hx hb hts hi_dm_X11_takeScheduled_X11 hown hK hP 0 rfl rfl 1 (by decide) (hts (.fieldLink RX11 20 "TimeMachine$Timeline" "events" "LTimeMachine$Events;") (List.mem_of_getElem? (i := 1) rfl)) (fun _ h9 => h9) (congrArg (fun z => some (va_rf (Option.map a z))) o21) dX11_takeScheduled_110 ?_
          refine lv_aload_n hx hb dX11_takeScheduled_113 rfl (lv_at hl 1 rfl) ?_
          refine va_get (D := (dC, dI)) (ci := 12) (v := .ref (a 32)) (C := RX11) (T := TX11) (N := 16) hx hb hts hi_dm_X11_takeScheduled_X11 hown hK hP 0 rfl rfl 1 (by decide) (hts (.fieldLink RX11 20 "TimeMachine$Timeline" "events" "LTimeMachine$Events;") (List.mem_of_getElem? (i := 1) rfl)) (fun _ h9 => h9) (congrArg (fun z => some (va_rf (Option.map a z))) o21) dX11_takeScheduled_114 ?_
          refine va_get (D := (dC, dI)) (ci := 4) (v := .int (sI s35.2.2.2.2.1 0)) (C := RX3) (T := TX3) (N := 11) hx hb hts hi_dm_X11_takeScheduled_X3 hown hK hP 32 rfl rfl 4 (by decide) (hts (.fieldLink RX11 116 "TimeMachine$Events" "recorded" "I") (List.mem_of_getElem? (i := 2) rfl)) (fun _ h9 => h9) rfl dX11_takeScheduled_117 ?_
          refine va_put (D := (dC, dI)) (ci := 4) (v := .int (sI s35.2.2.2.2.1 0)) (ty := .int) (C := RX3) (T := TX3) (N := 11) hx hb hts hi_dm_X11_takeScheduled_X3 tyX3 tyX3_ok nmX3 hown hK hP hD hS 32 rfl rfl 5 (by decide) (hts (.fieldLink RX11 137 "TimeMachine$Events" "total" "I") (List.mem_of_getElem? (i := 3) rfl)) (fun _ h9 => h9) rfl (by decide +kernel) rfl rfl (Nat.le_of_ble_eq_true rfl) dX11_takeScheduled_120 (fun H locs hP hD hS => ?_)
          obtain ⟨s37, es37, h⟩ := nd_let_e h
          have hP : va_P (dC, dI) vwCl (dw_X11 a ac s37) H := by rw [es37]; exact hP
          have hD : va_D A (dw_X11 a ac s37) := by rw [es37]; exact hD
          have o21 : sO s37.1 0 = some 32 := by rw [es37]; exact o21
          refine lv_aload_n hx hb dX11_takeScheduled_123 rfl (lv_at hl 1 rfl) ?_
          refine lv_iconst (v := 1) hx hb dX11_takeScheduled_124 (by decide) ?_
          refine va_put (D := (dC, dI)) (ci := 12) (v := .int 1) (ty := .boolean) (C := RX11) (T := TX11) (N := 16) hx hb hts hi_dm_X11_takeScheduled_X11 tyX11 tyX11_ok nmX11 hown hK hP hD hS 0 rfl rfl 14 (by decide) (hts (.fieldLink RX11 82 "TimeMachine$Timeline" "missed" "Z") (List.mem_of_getElem? (i := 17) rfl)) (fun _ h9 => h9) rfl (by decide +kernel) (by first | rfl | decide) rfl (Nat.le_of_ble_eq_true rfl) dX11_takeScheduled_125 (fun H locs hP hD hS => ?_)
          obtain ⟨s38, es38, h⟩ := nd_let_e h
          have hP : va_P (dC, dI) vwCl (dw_X11 a ac s38) H := by rw [es38]; exact hP
          have hD : va_D A (dw_X11 a ac s38) := by rw [es38]; exact hD
          have o21 : sO s38.1 0 = some 32 := by rw [es38]; exact o21
          exact (db_X11_takeScheduled_128 C K J0)  s38 _ _ _ h hP hD hS (lv_sub hl [1] rfl)
        · have h := nd_neg h c36
          refine lv_aload_n hx hb dX11_takeScheduled_83 rfl (lv_at hl 1 rfl) ?_
          refine va_get (D := (dC, dI)) (ci := 12) (v := .ref (a 32)) (C := RX11) (T := TX11) (N := 16) hx hb hts hi_dm_X11_takeScheduled_X11 hown hK hP 0 rfl rfl 1 (by decide) (hts (.fieldLink RX11 20 "TimeMachine$Timeline" "events" "LTimeMachine$Events;") (List.mem_of_getElem? (i := 1) rfl)) (fun _ h9 => h9) (congrArg (fun z => some (va_rf (Option.map a z))) o21) dX11_takeScheduled_84 ?_
          refine lv_dup hx hb dX11_takeScheduled_87 rfl ?_
          refine va_get (D := (dC, dI)) (ci := 4) (v := .int (sI s35.2.2.2.2.1 0)) (C := RX3) (T := TX3) (N := 11) hx hb hts hi_dm_X11_takeScheduled_X3 hown hK hP 32 rfl rfl 4 (by decide) (hts (.fieldLink RX11 116 "TimeMachine$Events" "recorded" "I") (List.mem_of_getElem? (i := 2) rfl)) (fun _ h9 => h9) rfl dX11_takeScheduled_88 ?_
          refine lv_iconst (v := 1) hx hb dX11_takeScheduled_91 (by decide) ?_
          refine lv_iadd hx hb dX11_takeScheduled_92 ?_
          refine va_put (D := (dC, dI)) (ci := 4) (v := .int ((sI s35.2.2.2.2.1 0) + 1)) (ty := .int) (C := RX3) (T := TX3) (N := 11) hx hb hts hi_dm_X11_takeScheduled_X3 tyX3 tyX3_ok nmX3 hown hK hP hD hS 32 rfl rfl 4 (by decide) (hts (.fieldLink RX11 116 "TimeMachine$Events" "recorded" "I") (List.mem_of_getElem? (i := 2) rfl)) (fun _ h9 => h9) rfl (by decide +kernel) rfl rfl (Nat.le_of_ble_eq_true rfl) dX11_takeScheduled_93 (fun H locs hP hD hS => ?_)
          obtain ⟨s39, es39, h⟩ := nd_let_e h
          have hP : va_P (dC, dI) vwCl (dw_X11 a ac s39) H := by rw [es39]; exact hP
          have hD : va_D A (dw_X11 a ac s39) := by rw [es39]; exact hD
          have o21 : sO s39.1 0 = some 32 := by rw [es39]; exact o21
          refine lv_aload_n hx hb dX11_takeScheduled_96 rfl (lv_at hl 1 rfl) ?_
          refine lv_dup hx hb dX11_takeScheduled_97 rfl ?_
          refine va_get (D := (dC, dI)) (ci := 12) (v := .int (sI s39.1 5)) (C := RX11) (T := TX11) (N := 16) hx hb hts hi_dm_X11_takeScheduled_X11 hown hK hP 0 rfl rfl 13 (by decide) (hts (.fieldLink RX11 79 "TimeMachine$Timeline" "came" "I") (List.mem_of_getElem? (i := 18) rfl)) (fun _ h9 => h9) rfl dX11_takeScheduled_98 ?_
          refine lv_iconst (v := 1) hx hb dX11_takeScheduled_101 (by decide) ?_
          refine lv_iadd hx hb dX11_takeScheduled_102 ?_
          refine va_put (D := (dC, dI)) (ci := 12) (v := .int ((sI s39.1 5) + 1)) (ty := .int) (C := RX11) (T := TX11) (N := 16) hx hb hts hi_dm_X11_takeScheduled_X11 tyX11 tyX11_ok nmX11 hown hK hP hD hS 0 rfl rfl 13 (by decide) (hts (.fieldLink RX11 79 "TimeMachine$Timeline" "came" "I") (List.mem_of_getElem? (i := 18) rfl)) (fun _ h9 => h9) rfl (by decide +kernel) rfl rfl (Nat.le_of_ble_eq_true rfl) dX11_takeScheduled_103 (fun H locs hP hD hS => ?_)
          obtain ⟨s40, es40, h⟩ := nd_let_e h
          have hP : va_P (dC, dI) vwCl (dw_X11 a ac s40) H := by rw [es40]; exact hP
          have hD : va_D A (dw_X11 a ac s40) := by rw [es40]; exact hD
          have o21 : sO s40.1 0 = some 32 := by rw [es40]; exact o21
          refine lv_goto (tgt := 128) hx hb dX11_takeScheduled_106 (by decide) ?_
          exact (db_X11_takeScheduled_128 C K J0)  s40 _ _ _ h hP hD hS (lv_sub hl [1] rfl)
  have h := nd_neg h o21
  exact nomatch h
set_option maxHeartbeats 40000000 in
set_option maxRecDepth 100000 in
theorem db_X11_takeScheduled_0 {p : Program} {l : Launch} {e : Env} {s : State} {m : MethodId} {args : Array Value} {below : List Frame} {meth : Method} {c : Code} {Q : State → Prop} {A : Nat → Prop} {dC : Nat → ClassId} {dI : Nat → Nat → Nat} {a : Nat → Nat} {ac : Nat → ClassId} {n : Nat} {r : St × Rw × (St × (St × (St × (St)))) × (St) × (St) × (Nat → St) × (Nat → St) × (Nat → St × (St))} (C : nd_C p l s m args c A (dC, dI) cX11_takeScheduled 2 RX11 ow_dm_X11_takeScheduled (dk_X11 ac)) (K : nd_Kv p l e (headSpec ow_dm_X11_takeScheduled ({ frames := 4, cells := 0, slots := 0, locals := 95 })).room s m args below meth c Q A (dC, dI) cX11_takeScheduled (St × Rw × (St × (St × (St × (St)))) × (St) × (St) × (Nat → St) × (Nat → St) × (Nat → St × (St))) (dw_X11 a ac) r) (k : Nat) : dj_X11_takeScheduled_0 p l e s m args below meth c Q A dC dI a ac (df_X11_takeScheduled_0 n k) r := by
  induction k with
  | zero => intro s0 H locs ls h; exact nomatch (show (none : Option (St × Rw × (St × (St × (St × (St)))) × (St) × (St) × (Nat → St) × (Nat → St) × (Nat → St × (St)))) = some r from h)
  | succ k ih => exact dB_X11_takeScheduled_0 C K ih
set_option maxHeartbeats 40000000 in
set_option maxRecDepth 100000 in
theorem dm_X11_takeScheduled (l : Launch) (hlt : l.stackTraces = false) (dC : Nat → ClassId) (dI : Nat → Nat → Nat) (a : Nat → Nat) (ac : Nat → ClassId) (n : Nat) (s0 : St × Rw × (St × (St × (St × (St)))) × (St) × (St) × (Nat → St) × (Nat → St) × (Nat → St × (St))) {r : St × Rw × (St × (St × (St × (St)))) × (St) × (St) × (Nat → St) × (Nat → St) × (Nat → St × (St))} (h : df_X11_takeScheduled n s0 = some r) (sz : Nat) : Met l yX11_takeScheduled ow_dm_X11_takeScheduled ({ frames := 4, cells := 0, slots := 0, locals := 95 }) (va_Pc [.ref (a 0)] (fun U => U.heap.size = sz ∧ va_P (dC, dI) vwCl (dw_X11 a ac s0) U.heap ∧ va_K (dC, dI) vwCl (dk_X11 ac) U ∧ va_D (fun _ => True) (dw_X11 a ac s0) ∧ nv_E (va_A (dw_X11 a ac s0) sz) U)) (va_Qv (fun _ => True) (fun (_ : Unit) t => va_P (dC, dI) vwCl (dw_X11 a ac r) t.heap ∧ va_K (dC, dI) vwCl (dk_X11 ac) t ∧ va_D (va_A (dw_X11 a ac s0) sz) (dw_X11 a ac r)) (va_A (dw_X11 a ac s0) sz)) 0 0 (va_A (dw_X11 a ac s0) sz) := by
  refine Met.ofW (cc := cX11_takeScheduled) (maxL := 2) (ret := none) (by decide) rfl ?_
  intro p e s m args below meth c s₁ B hml hv
  obtain ⟨rfl, hsz, hP, hK, hD0, hN⟩ := hv
  have hx := B.exec
  have hb := B.bytes
  have hr := B.returns
  have hts := atoms_spec (ws := ow_dm_X11_takeScheduled) B.pre
  have hown : s.vm.findClass RX11 = some m.cls := findClass_of_methodNamed B.named
  have hlocks := B.notSynchronized
  subst hsz
  have hD := hD0.self (sz := s.heap.size)
  generalize hAe : va_A (dw_X11 a ac s0) s.heap.size = A at hD hN ⊢
  have hA : ∀ q : Nat, s.heap.size ≤ q → A q := fun q h => by rw [← hAe]; exact Or.inr h
  have hl := lv_entry ([.ref (a 0)]) (n := 2) (Nat.le_of_ble_eq_true rfl)
  rw [lg_entry_eq]
  generalize (lg_sl ([.ref (a 0)]) ++ List.replicate (2 - (lg_sl ([.ref (a 0)])).length) Slot.unset).toArray = ls at hl ⊢
  have hl : lv_has ls 2 [(0, .ref (a 0))] := hl
  exact db_X11_takeScheduled_0 (dC := dC) (dI := dI) (a := a) (ac := ac) (n := n) (r := r) ⟨hlt, hx, hb, hml, hown, hts, hN, hA, hK⟩ (fun pc τ H locs ls d er hP hD hS => by subst er; exact W.vret hx hb hr (fun t ht hW => ⟨⟨(), rfl, trivial, by rw [ht]; exact hP, va_K.moved hW.alike hK, hD⟩, hS.F ht⟩) hS.2.2 d) n s0 _ _ _ h hP hD va_S.rf (lv_sub hl [0] rfl)
def ow_dm_X11_startWith : List Cond := .code yX11_startWith cX11_startWith 4 none :: ([.fieldLink RX11 20 "TimeMachine$Timeline" "events" "LTimeMachine$Events;", .fieldLink RX11 24 "TimeMachine$Timeline" "spareEvents" "LTimeMachine$Events;", .methodLink RX11 58 yX11_start, .instanceMethod yX11_start, .selects RX11 yX11_start yX11_start, .initialized RX11, .methodLink RX11 62 yX11_takeScheduled, .instanceMethod yX11_takeScheduled, .selects RX11 yX11_takeScheduled yX11_takeScheduled] ++ (u_ws RX11 TX11 16 ++ (ow_dm_X11_start ++ (ow_dm_X11_takeScheduled ++ []))))
theorem gd_dm_X11_startWith : ∀ w ∈ ow_dm_X11_startWith, (w.onTables && w.keeps) = true ∨ ∃ ty, w = Cond.arrayClass ty := List.forall_mem_cons.mpr ⟨good_of_word rfl, List.forall_mem_append.mpr ⟨fun w h => good_of_word (List.all_eq_true.mp (by decide +kernel) w h), List.forall_mem_append.mpr ⟨gu_X11, List.forall_mem_append.mpr ⟨gd_dm_X11_start, List.forall_mem_append.mpr ⟨gd_dm_X11_takeScheduled, fun _ h => nomatch h⟩⟩⟩⟩⟩
theorem hi_dm_X11_startWith_X11 : ∀ w ∈ u_ws RX11 TX11 16, w ∈ ow_dm_X11_startWith := fun w h => List.mem_cons_of_mem _ (List.mem_append_right _ (List.mem_append_left _ h))
theorem gi_dm_X11_startWith_0 : GoodIn ow_dm_X11_startWith (wsV RX11 58 RX11 yX11_start ow_dm_X11_start) := goodIn_app (goodIn_of _ (by decide +kernel)) (fun w h => ⟨List.mem_cons_of_mem _ (List.mem_append_right _ (List.mem_append_right _ (List.mem_append_left _ h))), gd_dm_X11_start w h⟩)
theorem gi_dm_X11_startWith_1 : GoodIn ow_dm_X11_startWith (wsV RX11 62 RX11 yX11_takeScheduled ow_dm_X11_takeScheduled) := goodIn_app (goodIn_of _ (by decide +kernel)) (fun w h => ⟨List.mem_cons_of_mem _ (List.mem_append_right _ (List.mem_append_right _ (List.mem_append_right _ (List.mem_append_left _ h)))), gd_dm_X11_takeScheduled w h⟩)
def dj_X11_startWith_0 (p : Program) (l : Launch) (e : Env) (s : State) (m : MethodId) (args : Array Value) (below : List Frame) (meth : Method) (c : Code) (Q : State → Prop) (A : Nat → Prop) (dC : Nat → ClassId) (dI : Nat → Nat → Nat) (a : Nat → Nat) (ac : Nat → ClassId) (g : Int32 → (St × Rw × (St × (St × (St × (St)))) × (St) × (St) × (Nat → St) × (Nat → St) × (Nat → St × (St))) → Option (St × Rw × (St × (St × (St × (St)))) × (St) × (St) × (Nat → St) × (Nat → St) × (Nat → St × (St)))) (r : St × Rw × (St × (St × (St × (St)))) × (St) × (St) × (Nat → St) × (Nat → St) × (Nat → St × (St))) : Prop := ∀ (v1 : Int32) (s0 : St × Rw × (St × (St × (St × (St)))) × (St) × (St) × (Nat → St) × (Nat → St) × (Nat → St × (St))) (H : Heap) (locs : List Loc) (ls : Array Slot), g v1 s0 = some r → va_P (dC, dI) vwCl (dw_X11 a ac s0) H → va_D A (dw_X11 a ac s0) → va_S A s.heap H locs → lv_has ls 4 [(0, .ref (a 0)), (1, .ref (a 38)), (2, .int v1)] → W p l e (headSpec ow_dm_X11_startWith ({ frames := 5, cells := 0, slots := 0, locals := 126 })).room s m args below meth c H locs 0 0 Q (F0 m 0 ls [])
set_option maxHeartbeats 40000000 in
set_option maxRecDepth 100000 in
theorem db_X11_startWith_0 {p : Program} {l : Launch} {e : Env} {s : State} {m : MethodId} {args : Array Value} {below : List Frame} {meth : Method} {c : Code} {Q : State → Prop} {A : Nat → Prop} {dC : Nat → ClassId} {dI : Nat → Nat → Nat} {a : Nat → Nat} {ac : Nat → ClassId} {n : Nat} {r : St × Rw × (St × (St × (St × (St)))) × (St) × (St) × (Nat → St) × (Nat → St) × (Nat → St × (St))} (C : nd_C p l s m args c A (dC, dI) cX11_startWith 4 RX11 ow_dm_X11_startWith (dk_X11 ac)) (K : nd_Kv p l e (headSpec ow_dm_X11_startWith ({ frames := 5, cells := 0, slots := 0, locals := 126 })).room s m args below meth c Q A (dC, dI) cX11_startWith (St × Rw × (St × (St × (St × (St)))) × (St) × (St) × (Nat → St) × (Nat → St) × (Nat → St × (St))) (dw_X11 a ac) r) : dj_X11_startWith_0 p l e s m args below meth c Q A dC dI a ac (df_X11_startWith_0 n) r := by
  obtain ⟨hlt, hx, hb, hml, hown, hts, hN, hA, hK⟩ := id C
  intro v1 s0 H locs ls h hP hD hS hl
  unfold df_X11_startWith_0 at h
  refine lv_aload_n hx hb dX11_startWith_0 rfl (lv_at hl 0 rfl) ?_
  by_cases o1 : sO s0.1 0 = some 27
  · have h := nd_pos h o1
    refine va_get (D := (dC, dI)) (ci := 12) (v := .ref (a 27)) (C := RX11) (T := TX11) (N := 16) hx hb hts hi_dm_X11_startWith_X11 hown hK hP 0 rfl rfl 1 (by decide) (hts (.fieldLink RX11 20 "TimeMachine$Timeline" "events" "LTimeMachine$Events;") (List.mem_of_getElem? (i := 1) rfl)) (fun _ h9 => h9) (congrArg (fun z => some (va_rf (Option.map a z))) o1) dX11_startWith_1 ?_
    refine lv_astore_n (lv' := [(3, .ref (a 27)), (0, .ref (a 0)), (1, .ref (a 38)), (2, .int v1)]) hx hb dX11_startWith_4 rfl hl (by decide) rfl (fun ls hl => ?_)
    refine lv_aload_n hx hb dX11_startWith_5 rfl (lv_at hl 1 rfl) ?_
    refine lv_aload_n hx hb dX11_startWith_6 rfl (lv_at hl 1 rfl) ?_
    by_cases o2 : sO s0.1 1 = some 27
    · have h := nd_pos h o2
      refine va_get (D := (dC, dI)) (ci := 12) (v := .ref (a 27)) (C := RX11) (T := TX11) (N := 16) hx hb hts hi_dm_X11_startWith_X11 hown hK hP 0 rfl rfl 2 (by decide) (hts (.fieldLink RX11 24 "TimeMachine$Timeline" "spareEvents" "LTimeMachine$Events;") (List.mem_of_getElem? (i := 2) rfl)) (fun _ h9 => h9) (congrArg (fun z => some (va_rf (Option.map a z))) o2) dX11_startWith_7 ?_
      refine va_put (D := (dC, dI)) (ci := 12) (v := .ref (a 27)) (ty := .object "TimeMachine$Events") (C := RX11) (T := TX11) (N := 16) hx hb hts hi_dm_X11_startWith_X11 tyX11 tyX11_ok nmX11 hown hK hP hD hS 0 rfl rfl 1 (by decide) (hts (.fieldLink RX11 20 "TimeMachine$Timeline" "events" "LTimeMachine$Events;") (List.mem_of_getElem? (i := 1) rfl)) (fun _ h9 => h9) rfl (by decide +kernel) rfl rfl (Nat.le_of_ble_eq_true rfl) dX11_startWith_10 (fun H locs hP hD hS => ?_)
      obtain ⟨s3, es3, h⟩ := nd_let_e h
      have hP : va_P (dC, dI) vwCl (dw_X11 a ac s3) H := by rw [es3]; exact hP
      have hD : va_D A (dw_X11 a ac s3) := by rw [es3]; exact hD
      have o2 : sO s3.1 1 = some 27 := by rw [es3]; exact o2
      refine lv_aload_n hx hb dX11_startWith_13 rfl (lv_at hl 1 rfl) ?_
      refine lv_aload_n hx hb dX11_startWith_14 rfl (lv_at hl 0 rfl) ?_
      refine va_put (D := (dC, dI)) (ci := 12) (v := .ref (a 27)) (ty := .object "TimeMachine$Events") (C := RX11) (T := TX11) (N := 16) hx hb hts hi_dm_X11_startWith_X11 tyX11 tyX11_ok nmX11 hown hK hP hD hS 0 rfl rfl 2 (by decide) (hts (.fieldLink RX11 24 "TimeMachine$Timeline" "spareEvents" "LTimeMachine$Events;") (List.mem_of_getElem? (i := 2) rfl)) (fun _ h9 => h9) rfl (by decide +kernel) rfl rfl (Nat.le_of_ble_eq_true rfl) dX11_startWith_15 (fun H locs hP hD hS => ?_)
      obtain ⟨s4, es4, h⟩ := nd_let_e h
      have hP : va_P (dC, dI) vwCl (dw_X11 a ac s4) H := by rw [es4]; exact hP
      have hD : va_D A (dw_X11 a ac s4) := by rw [es4]; exact hD
      refine lv_aload_n hx hb dX11_startWith_18 rfl (lv_at hl 1 rfl) ?_
      refine lv_aload_n hx hb dX11_startWith_19 rfl (lv_at hl 2 rfl) ?_
      refine lv_iload_n hx hb dX11_startWith_20 rfl (lv_at hl 3 rfl) ?_
      obtain ⟨s6, hq, h⟩ := nd_b1_e h
      have hPc := hP
      have hDc := hD
      have hKc := hK
      have hFc := nd_rs hD hS hA
      refine nd_cVv (As := [.ref (a 38), .int v1]) (rest := []) (w' := dw_X11 a ac s6) ⟨hx, hb, hml, hown, hts⟩ (fun sz => dm_X11_start l hlt dC dI a ac n (v1) s4 hq sz) (cwV 2 hts gi_dm_X11_startWith_0 rfl rfl rfl (by decide +kernel) ⟨Nat.le_of_ble_eq_true rfl, Nat.le_of_ble_eq_true rfl⟩) hPc hDc hKc hS hA hN (va_recv hKc hPc (ci := 12) (q0 := 0) rfl rfl) rfl hl.1 rfl (Nat.le_of_ble_eq_true rfl) dX11_startWith_21 (fun H locs hP1 hD1 hk1 hS => ?_)
      have hP := hP1
      have hD := hD1.weaken (fun k q _ h => hFc q.1 h)
      refine lv_aload_n hx hb dX11_startWith_24 rfl (lv_at hl 1 rfl) ?_
      obtain ⟨s9, hq, h⟩ := nd_b1_e h
      have hPc := hP
      have hDc := hD
      have hKc := hK
      have hFc := nd_rs hD hS hA
      refine nd_cVv (As := []) (rest := []) (w' := dw_X11 a ac s9) ⟨hx, hb, hml, hown, hts⟩ (fun sz => dm_X11_takeScheduled l hlt dC dI a ac n  s6 hq sz) (cwV 0 hts gi_dm_X11_startWith_1 rfl rfl rfl (by decide +kernel) ⟨Nat.le_of_ble_eq_true rfl, Nat.le_of_ble_eq_true rfl⟩) hPc hDc hKc hS hA hN (va_recv hKc hPc (ci := 12) (q0 := 0) rfl rfl) rfl hl.1 rfl (Nat.le_of_ble_eq_true rfl) dX11_startWith_25 (fun H locs hP1 hD1 hk1 hS => ?_)
      have hP := hP1
      have hD := hD1.weaken (fun k q _ h => hFc q.1 h)
      exact K _ _ _ _ _ dX11_startWith_28 (Option.some.inj h).symm hP hD hS
    have h := nd_neg h o2
    by_cases o11 : sO s0.1 1 = some 32
    · have h := nd_pos h o11
      refine va_get (D := (dC, dI)) (ci := 12) (v := .ref (a 32)) (C := RX11) (T := TX11) (N := 16) hx hb hts hi_dm_X11_startWith_X11 hown hK hP 0 rfl rfl 2 (by decide) (hts (.fieldLink RX11 24 "TimeMachine$Timeline" "spareEvents" "LTimeMachine$Events;") (List.mem_of_getElem? (i := 2) rfl)) (fun _ h9 => h9) (congrArg (fun z => some (va_rf (Option.map a z))) o11) dX11_startWith_7 ?_
      refine va_put (D := (dC, dI)) (ci := 12) (v := .ref (a 32)) (ty := .object "TimeMachine$Events") (C := RX11) (T := TX11) (N := 16) hx hb hts hi_dm_X11_startWith_X11 tyX11 tyX11_ok nmX11 hown hK hP hD hS 0 rfl rfl 1 (by decide) (hts (.fieldLink RX11 20 "TimeMachine$Timeline" "events" "LTimeMachine$Events;") (List.mem_of_getElem? (i := 1) rfl)) (fun _ h9 => h9) rfl (by decide +kernel) rfl rfl (Nat.le_of_ble_eq_true rfl) dX11_startWith_10 (fun H locs hP hD hS => ?_)
      obtain ⟨s12, es12, h⟩ := nd_let_e h
      have hP : va_P (dC, dI) vwCl (dw_X11 a ac s12) H := by rw [es12]; exact hP
      have hD : va_D A (dw_X11 a ac s12) := by rw [es12]; exact hD
      have o11 : sO s12.1 1 = some 32 := by rw [es12]; exact o11
      refine lv_aload_n hx hb dX11_startWith_13 rfl (lv_at hl 1 rfl) ?_
      refine lv_aload_n hx hb dX11_startWith_14 rfl (lv_at hl 0 rfl) ?_
      refine va_put (D := (dC, dI)) (ci := 12) (v := .ref (a 27)) (ty := .object "TimeMachine$Events") (C := RX11) (T := TX11) (N := 16) hx hb hts hi_dm_X11_startWith_X11 tyX11 tyX11_ok nmX11 hown hK hP hD hS 0 rfl rfl 2 (by decide) (hts (.fieldLink RX11 24 "TimeMachine$Timeline" "spareEvents" "LTimeMachine$Events;") (List.mem_of_getElem? (i := 2) rfl)) (fun _ h9 => h9) rfl (by decide +kernel) rfl rfl (Nat.le_of_ble_eq_true rfl) dX11_startWith_15 (fun H locs hP hD hS => ?_)
      obtain ⟨s13, es13, h⟩ := nd_let_e h
      have hP : va_P (dC, dI) vwCl (dw_X11 a ac s13) H := by rw [es13]; exact hP
      have hD : va_D A (dw_X11 a ac s13) := by rw [es13]; exact hD
      refine lv_aload_n hx hb dX11_startWith_18 rfl (lv_at hl 1 rfl) ?_
      refine lv_aload_n hx hb dX11_startWith_19 rfl (lv_at hl 2 rfl) ?_
      refine lv_iload_n hx hb dX11_startWith_20 rfl (lv_at hl 3 rfl) ?_
      obtain ⟨s15, hq, h⟩ := nd_b1_e h
      have hPc := hP
      have hDc := hD
      have hKc := hK
      have hFc := nd_rs hD hS hA
      refine nd_cVv (As := [.ref (a 38), .int v1]) (rest := []) (w' := dw_X11 a ac s15) ⟨hx, hb, hml, hown, hts⟩ (fun sz => dm_X11_start l hlt dC dI a ac n (v1) s13 hq sz) (cwV 2 hts gi_dm_X11_startWith_0 rfl rfl rfl (by decide +kernel) ⟨Nat.le_of_ble_eq_true rfl, Nat.le_of_ble_eq_true rfl⟩) hPc hDc hKc hS hA hN (va_recv hKc hPc (ci := 12) (q0 := 0) rfl rfl) rfl hl.1 rfl (Nat.le_of_ble_eq_true rfl) dX11_startWith_21 (fun H locs hP1 hD1 hk1 hS => ?_)
      have hP := hP1
      have hD := hD1.weaken (fun k q _ h => hFc q.1 h)
      refine lv_aload_n hx hb dX11_startWith_24 rfl (lv_at hl 1 rfl) ?_
      obtain ⟨s18, hq, h⟩ := nd_b1_e h
      have hPc := hP
      have hDc := hD
      have hKc := hK
      have hFc := nd_rs hD hS hA
      refine nd_cVv (As := []) (rest := []) (w' := dw_X11 a ac s18) ⟨hx, hb, hml, hown, hts⟩ (fun sz => dm_X11_takeScheduled l hlt dC dI a ac n  s15 hq sz) (cwV 0 hts gi_dm_X11_startWith_1 rfl rfl rfl (by decide +kernel) ⟨Nat.le_of_ble_eq_true rfl, Nat.le_of_ble_eq_true rfl⟩) hPc hDc hKc hS hA hN (va_recv hKc hPc (ci := 12) (q0 := 0) rfl rfl) rfl hl.1 rfl (Nat.le_of_ble_eq_true rfl) dX11_startWith_25 (fun H locs hP1 hD1 hk1 hS => ?_)
      have hP := hP1
      have hD := hD1.weaken (fun k q _ h => hFc q.1 h)
      exact K _ _ _ _ _ dX11_startWith_28 (Option.some.inj h).symm hP hD hS
    have h := nd_neg h o11
    exact nomatch h
  have h := nd_neg h o1
  by_cases o20 : sO s0.1 0 = some 32
  · have h := nd_pos h o20
    refine va_get (D := (dC, dI)) (ci := 12) (v := .ref (a 32)) (C := RX11) (T := TX11) (N := 16) hx hb hts hi_dm_X11_startWith_X11 hown hK hP 0 rfl rfl 1 (by decide) (hts (.fieldLink RX11 20 "TimeMachine$Timeline" "events" "LTimeMachine$Events;") (List.mem_of_getElem? (i := 1) rfl)) (fun _ h9 => h9) (congrArg (fun z => some (va_rf (Option.map a z))) o20) dX11_startWith_1 ?_
    refine lv_astore_n (lv' := [(3, .ref (a 32)), (0, .ref (a 0)), (1, .ref (a 38)), (2, .int v1)]) hx hb dX11_startWith_4 rfl hl (by decide) rfl (fun ls hl => ?_)
    refine lv_aload_n hx hb dX11_startWith_5 rfl (lv_at hl 1 rfl) ?_
    refine lv_aload_n hx hb dX11_startWith_6 rfl (lv_at hl 1 rfl) ?_
    by_cases o21 : sO s0.1 1 = some 27
    · have h := nd_pos h o21
      refine va_get (D := (dC, dI)) (ci := 12) (v := .ref (a 27)) (C := RX11) (T := TX11) (N := 16) hx hb hts hi_dm_X11_startWith_X11 hown hK hP 0 rfl rfl 2 (by decide) (hts (.fieldLink RX11 24 "TimeMachine$Timeline" "spareEvents" "LTimeMachine$Events;") (List.mem_of_getElem? (i := 2) rfl)) (fun _ h9 => h9) (congrArg (fun z => some (va_rf (Option.map a z))) o21) dX11_startWith_7 ?_
      refine va_put (D := (dC, dI)) (ci := 12) (v := .ref (a 27)) (ty := .object "TimeMachine$Events") (C := RX11) (T := TX11) (N := 16) hx hb hts hi_dm_X11_startWith_X11 tyX11 tyX11_ok nmX11 hown hK hP hD hS 0 rfl rfl 1 (by decide) (hts (.fieldLink RX11 20 "TimeMachine$Timeline" "events" "LTimeMachine$Events;") (List.mem_of_getElem? (i := 1) rfl)) (fun _ h9 => h9) rfl (by decide +kernel) rfl rfl (Nat.le_of_ble_eq_true rfl) dX11_startWith_10 (fun H locs hP hD hS => ?_)
      obtain ⟨s22, es22, h⟩ := nd_let_e h
      have hP : va_P (dC, dI) vwCl (dw_X11 a ac s22) H := by rw [es22]; exact hP
      have hD : va_D A (dw_X11 a ac s22) := by rw [es22]; exact hD
      have o21 : sO s22.1 1 = some 27 := by rw [es22]; exact o21
      refine lv_aload_n hx hb dX11_startWith_13 rfl (lv_at hl 1 rfl) ?_
      refine lv_aload_n hx hb dX11_startWith_14 rfl (lv_at hl 0 rfl) ?_
      refine va_put (D := (dC, dI)) (ci := 12) (v := .ref (a 32)) (ty := .object "TimeMachine$Events") (C := RX11) (T := TX11) (N := 16) hx hb hts hi_dm_X11_startWith_X11 tyX11 tyX11_ok nmX11 hown hK hP hD hS 0 rfl rfl 2 (by decide) (hts (.fieldLink RX11 24 "TimeMachine$Timeline" "spareEvents" "LTimeMachine$Events;") (List.mem_of_getElem? (i := 2) rfl)) (fun _ h9 => h9) rfl (by decide +kernel) rfl rfl (Nat.le_of_ble_eq_true rfl) dX11_startWith_15 (fun H locs hP hD hS => ?_)
      obtain ⟨s23, es23, h⟩ := nd_let_e h
      have hP : va_P (dC, dI) vwCl (dw_X11 a ac s23) H := by rw [es23]; exact hP
      have hD : va_D A (dw_X11 a ac s23) := by rw [es23]; exact hD
      refine lv_aload_n hx hb dX11_startWith_18 rfl (lv_at hl 1 rfl) ?_
      refine lv_aload_n hx hb dX11_startWith_19 rfl (lv_at hl 2 rfl) ?_
      refine lv_iload_n hx hb dX11_startWith_20 rfl (lv_at hl 3 rfl) ?_
      obtain ⟨s25, hq, h⟩ := nd_b1_e h
      have hPc := hP
      have hDc := hD
      have hKc := hK
      have hFc := nd_rs hD hS hA
      refine nd_cVv (As := [.ref (a 38), .int v1]) (rest := []) (w' := dw_X11 a ac s25) ⟨hx, hb, hml, hown, hts⟩ (fun sz => dm_X11_start l hlt dC dI a ac n (v1) s23 hq sz) (cwV 2 hts gi_dm_X11_startWith_0 rfl rfl rfl (by decide +kernel) ⟨Nat.le_of_ble_eq_true rfl, Nat.le_of_ble_eq_true rfl⟩) hPc hDc hKc hS hA hN (va_recv hKc hPc (ci := 12) (q0 := 0) rfl rfl) rfl hl.1 rfl (Nat.le_of_ble_eq_true rfl) dX11_startWith_21 (fun H locs hP1 hD1 hk1 hS => ?_)
      have hP := hP1
      have hD := hD1.weaken (fun k q _ h => hFc q.1 h)
      refine lv_aload_n hx hb dX11_startWith_24 rfl (lv_at hl 1 rfl) ?_
      obtain ⟨s28, hq, h⟩ := nd_b1_e h
      have hPc := hP
      have hDc := hD
      have hKc := hK
      have hFc := nd_rs hD hS hA
      refine nd_cVv (As := []) (rest := []) (w' := dw_X11 a ac s28) ⟨hx, hb, hml, hown, hts⟩ (fun sz => dm_X11_takeScheduled l hlt dC dI a ac n  s25 hq sz) (cwV 0 hts gi_dm_X11_startWith_1 rfl rfl rfl (by decide +kernel) ⟨Nat.le_of_ble_eq_true rfl, Nat.le_of_ble_eq_true rfl⟩) hPc hDc hKc hS hA hN (va_recv hKc hPc (ci := 12) (q0 := 0) rfl rfl) rfl hl.1 rfl (Nat.le_of_ble_eq_true rfl) dX11_startWith_25 (fun H locs hP1 hD1 hk1 hS => ?_)
      have hP := hP1
      have hD := hD1.weaken (fun k q _ h => hFc q.1 h)
      exact K _ _ _ _ _ dX11_startWith_28 (Option.some.inj h).symm hP hD hS
    have h := nd_neg h o21
    by_cases o30 : sO s0.1 1 = some 32
    · have h := nd_pos h o30
      refine va_get (D := (dC, dI)) (ci := 12) (v := .ref (a 32)) (C := RX11) (T := TX11) (N := 16) hx hb hts hi_dm_X11_startWith_X11 hown hK hP 0 rfl rfl 2 (by decide) (hts (.fieldLink RX11 24 "TimeMachine$Timeline" "spareEvents" "LTimeMachine$Events;") (List.mem_of_getElem? (i := 2) rfl)) (fun _ h9 => h9) (congrArg (fun z => some (va_rf (Option.map a z))) o30) dX11_startWith_7 ?_
      refine va_put (D := (dC, dI)) (ci := 12) (v := .ref (a 32)) (ty := .object "TimeMachine$Events") (C := RX11) (T := TX11) (N := 16) hx hb hts hi_dm_X11_startWith_X11 tyX11 tyX11_ok nmX11 hown hK hP hD hS 0 rfl rfl 1 (by decide) (hts (.fieldLink RX11 20 "TimeMachine$Timeline" "events" "LTimeMachine$Events;") (List.mem_of_getElem? (i := 1) rfl)) (fun _ h9 => h9) rfl (by decide +kernel) rfl rfl (Nat.le_of_ble_eq_true rfl) dX11_startWith_10 (fun H locs hP hD hS => ?_)
      obtain ⟨s31, es31, h⟩ := nd_let_e h
      have hP : va_P (dC, dI) vwCl (dw_X11 a ac s31) H := by rw [es31]; exact hP
      have hD : va_D A (dw_X11 a ac s31) := by rw [es31]; exact hD
      have o30 : sO s31.1 1 = some 32 := by rw [es31]; exact o30
      refine lv_aload_n hx hb dX11_startWith_13 rfl (lv_at hl 1 rfl) ?_
      refine lv_aload_n hx hb dX11_startWith_14 rfl (lv_at hl 0 rfl) ?_
      refine va_put (D := (dC, dI)) (ci := 12) (v := .ref (a 32)) (ty := .object "TimeMachine$Events") (C := RX11) (T := TX11) (N := 16) hx hb hts hi_dm_X11_startWith_X11 tyX11 tyX11_ok nmX11 hown hK hP hD hS 0 rfl rfl 2 (by decide) (hts (.fieldLink RX11 24 "TimeMachine$Timeline" "spareEvents" "LTimeMachine$Events;") (List.mem_of_getElem? (i := 2) rfl)) (fun _ h9 => h9) rfl (by decide +kernel) rfl rfl (Nat.le_of_ble_eq_true rfl) dX11_startWith_15 (fun H locs hP hD hS => ?_)
      obtain ⟨s32, es32, h⟩ := nd_let_e h
      have hP : va_P (dC, dI) vwCl (dw_X11 a ac s32) H := by rw [es32]; exact hP
      have hD : va_D A (dw_X11 a ac s32) := by rw [es32]; exact hD
      refine lv_aload_n hx hb dX11_startWith_18 rfl (lv_at hl 1 rfl) ?_
      refine lv_aload_n hx hb dX11_startWith_19 rfl (lv_at hl 2 rfl) ?_
      refine lv_iload_n hx hb dX11_startWith_20 rfl (lv_at hl 3 rfl) ?_
      obtain ⟨s34, hq, h⟩ := nd_b1_e h
      have hPc := hP
      have hDc := hD
      have hKc := hK
      have hFc := nd_rs hD hS hA
      refine nd_cVv (As := [.ref (a 38), .int v1]) (rest := []) (w' := dw_X11 a ac s34) ⟨hx, hb, hml, hown, hts⟩ (fun sz => dm_X11_start l hlt dC dI a ac n (v1) s32 hq sz) (cwV 2 hts gi_dm_X11_startWith_0 rfl rfl rfl (by decide +kernel) ⟨Nat.le_of_ble_eq_true rfl, Nat.le_of_ble_eq_true rfl⟩) hPc hDc hKc hS hA hN (va_recv hKc hPc (ci := 12) (q0 := 0) rfl rfl) rfl hl.1 rfl (Nat.le_of_ble_eq_true rfl) dX11_startWith_21 (fun H locs hP1 hD1 hk1 hS => ?_)
      have hP := hP1
      have hD := hD1.weaken (fun k q _ h => hFc q.1 h)
      refine lv_aload_n hx hb dX11_startWith_24 rfl (lv_at hl 1 rfl) ?_
      obtain ⟨s37, hq, h⟩ := nd_b1_e h
      have hPc := hP
      have hDc := hD
      have hKc := hK
      have hFc := nd_rs hD hS hA
      refine nd_cVv (As := []) (rest := []) (w' := dw_X11 a ac s37) ⟨hx, hb, hml, hown, hts⟩ (fun sz => dm_X11_takeScheduled l hlt dC dI a ac n  s34 hq sz) (cwV 0 hts gi_dm_X11_startWith_1 rfl rfl rfl (by decide +kernel) ⟨Nat.le_of_ble_eq_true rfl, Nat.le_of_ble_eq_true rfl⟩) hPc hDc hKc hS hA hN (va_recv hKc hPc (ci := 12) (q0 := 0) rfl rfl) rfl hl.1 rfl (Nat.le_of_ble_eq_true rfl) dX11_startWith_25 (fun H locs hP1 hD1 hk1 hS => ?_)
      have hP := hP1
      have hD := hD1.weaken (fun k q _ h => hFc q.1 h)
      exact K _ _ _ _ _ dX11_startWith_28 (Option.some.inj h).symm hP hD hS
    have h := nd_neg h o30
    exact nomatch h
  have h := nd_neg h o20
  exact nomatch h
set_option maxHeartbeats 40000000 in
set_option maxRecDepth 100000 in
theorem dm_X11_startWith (l : Launch) (hlt : l.stackTraces = false) (dC : Nat → ClassId) (dI : Nat → Nat → Nat) (a : Nat → Nat) (ac : Nat → ClassId) (n : Nat) (v1 : Int32) (s0 : St × Rw × (St × (St × (St × (St)))) × (St) × (St) × (Nat → St) × (Nat → St) × (Nat → St × (St))) {r : St × Rw × (St × (St × (St × (St)))) × (St) × (St) × (Nat → St) × (Nat → St) × (Nat → St × (St))} (h : df_X11_startWith n v1 s0 = some r) (sz : Nat) : Met l yX11_startWith ow_dm_X11_startWith ({ frames := 5, cells := 0, slots := 0, locals := 126 }) (va_Pc [.ref (a 0), .ref (a 38), .int v1] (fun U => U.heap.size = sz ∧ va_P (dC, dI) vwCl (dw_X11 a ac s0) U.heap ∧ va_K (dC, dI) vwCl (dk_X11 ac) U ∧ va_D (fun _ => True) (dw_X11 a ac s0) ∧ nv_E (va_A (dw_X11 a ac s0) sz) U)) (va_Qv (fun _ => True) (fun (_ : Unit) t => va_P (dC, dI) vwCl (dw_X11 a ac r) t.heap ∧ va_K (dC, dI) vwCl (dk_X11 ac) t ∧ va_D (va_A (dw_X11 a ac s0) sz) (dw_X11 a ac r)) (va_A (dw_X11 a ac s0) sz)) 0 0 (va_A (dw_X11 a ac s0) sz) := by
  refine Met.ofW (cc := cX11_startWith) (maxL := 4) (ret := none) (by decide) rfl ?_
  intro p e s m args below meth c s₁ B hml hv
  obtain ⟨rfl, hsz, hP, hK, hD0, hN⟩ := hv
  have hx := B.exec
  have hb := B.bytes
  have hr := B.returns
  have hts := atoms_spec (ws := ow_dm_X11_startWith) B.pre
  have hown : s.vm.findClass RX11 = some m.cls := findClass_of_methodNamed B.named
  have hlocks := B.notSynchronized
  subst hsz
  have hD := hD0.self (sz := s.heap.size)
  generalize hAe : va_A (dw_X11 a ac s0) s.heap.size = A at hD hN ⊢
  have hA : ∀ q : Nat, s.heap.size ≤ q → A q := fun q h => by rw [← hAe]; exact Or.inr h
  have hl := lv_entry ([.ref (a 0), .ref (a 38), .int v1]) (n := 4) (Nat.le_of_ble_eq_true rfl)
  rw [lg_entry_eq]
  generalize (lg_sl ([.ref (a 0), .ref (a 38), .int v1]) ++ List.replicate (4 - (lg_sl ([.ref (a 0), .ref (a 38), .int v1])).length) Slot.unset).toArray = ls at hl ⊢
  have hl : lv_has ls 4 [(0, .ref (a 0)), (1, .ref (a 38)), (2, .int v1)] := hl
  exact db_X11_startWith_0 (dC := dC) (dI := dI) (a := a) (ac := ac) (n := n) (r := r) ⟨hlt, hx, hb, hml, hown, hts, hN, hA, hK⟩ (fun pc τ H locs ls d er hP hD hS => by subst er; exact W.vret hx hb hr (fun t ht hW => ⟨⟨(), rfl, trivial, by rw [ht]; exact hP, va_K.moved hW.alike hK, hD⟩, hS.F ht⟩) hS.2.2 d) v1 s0 _ _ _ h hP hD va_S.rf (lv_sub hl [0, 1, 2] rfl)
def ow_dm_X11_thinOut : List Cond := .code yX11_thinOut cX11_thinOut 3 none :: ([.fieldLink RX11 85 "TimeMachine$Timeline" "copies" "I", .fieldLink RX11 88 "TimeMachine$Timeline" "spacing" "I", .fieldLink RX11 48 "TimeMachine$Timeline" "copy" "[LTimeMachine$Machine;", .fieldLink RX11 52 "TimeMachine$Timeline" "copyAt" "[I"] ++ (u_ws RX11 TX11 16 ++ []))
theorem gd_dm_X11_thinOut : ∀ w ∈ ow_dm_X11_thinOut, (w.onTables && w.keeps) = true ∨ ∃ ty, w = Cond.arrayClass ty := List.forall_mem_cons.mpr ⟨good_of_word rfl, List.forall_mem_append.mpr ⟨fun w h => good_of_word (List.all_eq_true.mp (by decide +kernel) w h), List.forall_mem_append.mpr ⟨gu_X11, fun _ h => nomatch h⟩⟩⟩
theorem hi_dm_X11_thinOut_X11 : ∀ w ∈ u_ws RX11 TX11 16, w ∈ ow_dm_X11_thinOut := fun w h => List.mem_cons_of_mem _ (List.mem_append_right _ (List.mem_append_left _ h))
def dj_X11_thinOut_2 (p : Program) (l : Launch) (e : Env) (s : State) (m : MethodId) (args : Array Value) (below : List Frame) (meth : Method) (c : Code) (Q : State → Prop) (A : Nat → Prop) (dC : Nat → ClassId) (dI : Nat → Nat → Nat) (a : Nat → Nat) (ac : Nat → ClassId) (g : Int32 → (St × Rw × (St × (St × (St × (St)))) × (St) × (St) × (Nat → St) × (Nat → St) × (Nat → St × (St))) → Option (St × Rw × (St × (St × (St × (St)))) × (St) × (St) × (Nat → St) × (Nat → St) × (Nat → St × (St)))) (r : St × Rw × (St × (St × (St × (St)))) × (St) × (St) × (Nat → St) × (Nat → St) × (Nat → St × (St))) : Prop := ∀ (x1 : Int32) (s0 : St × Rw × (St × (St × (St × (St)))) × (St) × (St) × (Nat → St) × (Nat → St) × (Nat → St × (St))) (H : Heap) (locs : List Loc) (ls : Array Slot), g x1 s0 = some r → va_P (dC, dI) vwCl (dw_X11 a ac s0) H → va_D A (dw_X11 a ac s0) → va_S A s.heap H locs → lv_has ls 3 [(0, .ref (a 0)), (1, .int x1)] → W p l e (headSpec ow_dm_X11_thinOut ({ frames := 0, cells := 0, slots := 0, locals := 0 })).room s m args below meth c H locs 0 0 Q (F0 m 2 ls [])
def dj_X11_thinOut_0 (p : Program) (l : Launch) (e : Env) (s : State) (m : MethodId) (args : Array Value) (below : List Frame) (meth : Method) (c : Code) (Q : State → Prop) (A : Nat → Prop) (dC : Nat → ClassId) (dI : Nat → Nat → Nat) (a : Nat → Nat) (ac : Nat → ClassId) (g : (St × Rw × (St × (St × (St × (St)))) × (St) × (St) × (Nat → St) × (Nat → St) × (Nat → St × (St))) → Option (St × Rw × (St × (St × (St × (St)))) × (St) × (St) × (Nat → St) × (Nat → St) × (Nat → St × (St)))) (r : St × Rw × (St × (St × (St × (St)))) × (St) × (St) × (Nat → St) × (Nat → St) × (Nat → St × (St))) : Prop := ∀ (s0 : St × Rw × (St × (St × (St × (St)))) × (St) × (St) × (Nat → St) × (Nat → St) × (Nat → St × (St))) (H : Heap) (locs : List Loc) (ls : Array Slot), g s0 = some r → va_P (dC, dI) vwCl (dw_X11 a ac s0) H → va_D A (dw_X11 a ac s0) → va_S A s.heap H locs → lv_has ls 3 [(0, .ref (a 0))] → W p l e (headSpec ow_dm_X11_thinOut ({ frames := 0, cells := 0, slots := 0, locals := 0 })).room s m args below meth c H locs 0 0 Q (F0 m 0 ls [])
