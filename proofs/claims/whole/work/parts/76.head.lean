theorem pqk_6 {x b r o : va_W} : (((x ++ b) ++ r) ++ o).Perm ((o ++ x) ++ (b ++ r)) := by
  rw [List.append_assoc x b r, List.append_assoc o x (b ++ r)]
  exact List.perm_append_comm
set_option maxHeartbeats 40000000 in
set_option maxRecDepth 100000 in
theorem law_head {p : Program} {l : Launch} {e : Env} {s : State} {m : MethodId} {below : List Frame} {meth : Method} {c : Code} {Q : State → Prop} {A : Nat → Prop} {b : Nat} (hlt : l.stackTraces = false) (hx : p.tables.exec = Jvm.exec) (hb : c.code = code) (hml : c.maxLocals = 8) (hown : s.vm.findClass RL = some m.cls) (hts : ∀ w ∈ lw_tbl, w.before #[Value.ref b] s = true) (dC : Nat → ClassId) (dI : Nat → Nat → Nat) (hN : nv_E dI A s) (hA : ∀ q : Nat, s.heap.size ≤ q → A q) (hK : va_K (dC, dI) vwCl [] s) {ls : Array Slot} (hl : lv_has ls 8 [(0, .ref b)]) (kk : ∀ (ao : Nat) (co : ClassId) (a a2 : Nat → Nat) (ac acB ac2 : Nat → ClassId) (v y y2 : Nat) (A2 : Nat → Nat → Nat) (H : Heap) (locs : List Loc) (ls : Array Slot), va_K (dC, dI) vwCl (dk_LW co ac acB ac2) s → va_P (dC, dI) vwCl (dw_LW ao co a a2 ac acB ac2 v (gS12 y y2 A2) (16, 0, nd_st0) (gS19, fun _ => none) (fun _ => 0)) H → va_D A (dw_LW ao co a a2 ac acB ac2 v (gS12 y y2 A2) (16, 0, nd_st0) (gS19, fun _ => none) (fun _ => 0)) → va_S A s.heap H locs → lv_has ls 8 [(4, .int (nI (6 * 0))), (3, .ref ao), (2, .ref (a2 0)), (1, .ref (a 0)), (0, .ref b)] → W p l e room_1 s m #[Value.ref b] below meth c H locs 455 2511899 Q (F0 m 23 ls [])) : W p l e room_1 s m #[Value.ref b] below meth c s.heap [] 0 0 Q (F0 m 0 ls []) := by
  have hP : va_P (dC, dI) vwCl [] s.heap := nv_P0
  have hD : va_D A [] := nv_D0
  have hS : va_S A s.heap s.heap [] := va_S.rf
  refine va_new (ci := 13) (fs := [.null, .int 0, .int 0, .null, .null, .null, .null, .null, .null, .null, .int 0, .null]) (C := RX12) (T := TX12) (N := 12) hx hb hts zi_X12 tyX12 tyX12_ok hown (hts (.classLink RL 8 RX12) zw_4587) (hts (.instantiable RX12 12) zw_3937) (hts (.initialized RX12) zw_3013) hK hP hD hS hA rfl nf_X12 (by decide +kernel) (by decide +kernel) dL_law_0 (fun q1 H hP hD hS => ?_)
  refine W.widen (k := 1) (n := 12) (by decide +kernel) (by decide +kernel) ?_
  refine lv_dup hx hb dL_law_3 rfl ?_
  have hPc : va_P (dC, dI) vwCl [(q1, .inr (13, [.null, .int 0, .int 0, .null, .null, .null, .null, .null, .null, .null, .int 0, .null]))] H := nd_pr hP
  have hDc : va_D A [(q1, .inr (13, [.null, .int 0, .int 0, .null, .null, .null, .null, .null, .null, .null, .int 0, .null]))] := nd_dr hD
  have hKc : va_K (dC, dI) vwCl [] s := ⟨hK.1, fun k q h => by simp at h⟩
  have hFc := nd_rs hDc hS hA
  have hzA : ∀ q : Nat, H.size ≤ q → A q := fun q h => hA q (Nat.le_trans hS.1 h)
  refine va_callv (va_runI (As := []) (rest := [.ref q1]) ⟨hx, hb, hml, hown, hts⟩ (k_X12_init l hlt dC dI q1 H.size) (cwI 0 hts gl_k_X12_init rfl rfl rfl (hts (.initialized RX12) zw_3013) (hts (.methodLink RL 48 yX12_init) zw_4588) (hts (.instanceMethod yX12_init) zw_4589) rfl (by decide +kernel) ⟨Nat.le_of_ble_eq_true rfl, Nat.le_of_ble_eq_true rfl⟩) ⟨fun a U g mk q => by obtain ⟨q0, q1, qP, qK, qD, qN⟩ := q; exact ⟨q0, q1, qP, va_K.moved (u := U) (U := U.calling g mk a) (Vm.Alike.refl U.vm) qK, qD, nv_same rfl rfl qN⟩, fun U hU hW => ⟨rfl, by rw [hU], by rw [hU]; exact hPc, va_K.moved hW.alike hKc, hDc.weaken (fun _ _ _ _ => trivial), nv_call hS hFc hU hW hN⟩⟩ rfl rfl hl.1 rfl (lv_room (Nat.le_of_ble_eq_true rfl)) dL_law_4 ⟨by decide +kernel, by decide +kernel⟩) hS (fun q _ h => hFc q h) hFc (fun u t H1 locs ht hvm hw hB hz1 hk1 hS => ?_)
  obtain ⟨a, ac, acB, v, y, y2, A2, e1, hP1, hK1, hK4, hD1⟩ := hB
  rw [ht] at hP1
  have hK12 : va_K (dC, dI) vwCl (dk_X12 ac) s := va_K.moved hvm.symm hK1
  have hK4 : va_K (dC, dI) vwCl (dk_J4 acB) s := va_K.moved hvm.symm hK4
  obtain ⟨hP2, hD2, -⟩ := nd_stepR hP hD hk1 hP1 hD1
  have hD := hD2.weaken (fun k q _ h => nd_rq hD hzA q.1 h)
  have hP := hP2
  generalize H1 = H at hP hS ⊢
  have hP : va_P (dC, dI) vwCl (dw_X12 a ac (gS12 y y2 A2) ++ dw_SB (fun _ => a 9999) acB v (16, 0, nd_st0)) H := hP
  have hD : va_D A (dw_X12 a ac (gS12 y y2 A2) ++ dw_SB (fun _ => a 9999) acB v (16, 0, nd_st0)) := hD
  obtain ⟨W1, hW1⟩ : ∃ W1 : va_W, W1 = (dw_X12 a ac (gS12 y y2 A2) ++ dw_SB (fun _ => a 9999) acB v (16, 0, nd_st0)) := ⟨_, rfl⟩
  rw [← hW1] at hP hD
  refine W.widen (k := 357) (n := 1805587) (by decide +kernel) (by decide +kernel) ?_
  refine lv_astore_n (lv' := [(1, .ref q1), (0, .ref b)]) hx hb dL_law_7 rfl hl (by decide) rfl (fun ls hl => ?_)
  refine va_new (ci := 20) (fs := [.int 0, .null, .int 0, .int 0, .null, .null, .null, .null, .null, .null, .null, .null, .null, .null, .null, .null, .null, .int 0, .int 0, .int 0, .int 0, .int 0, .int 0, .int 0, .int 0, .int 0, .null, .null, .null, .null, .null, .null, .null, .null, .null, .int 0]) (C := RX19) (T := TX19) (N := 36) hx hb hts zi_X19 tyX19 tyX19_ok hown (hts (.classLink RL 49 RX19) zw_4590) (hts (.instantiable RX19 36) zw_3944) (hts (.initialized RX19) zw_2606) hK hP hD hS hA rfl nf_X19 (by decide +kernel) (by decide +kernel) dL_law_8 (fun q2 H hP hD hS => ?_)
  refine W.widen (k := 358) (n := 1805623) (by decide +kernel) (by decide +kernel) ?_
  refine lv_dup hx hb dL_law_11 rfl ?_
  have hPc : va_P (dC, dI) vwCl [(q2, .inr (20, [.int 0, .null, .int 0, .int 0, .null, .null, .null, .null, .null, .null, .null, .null, .null, .null, .null, .null, .null, .int 0, .int 0, .int 0, .int 0, .int 0, .int 0, .int 0, .int 0, .int 0, .null, .null, .null, .null, .null, .null, .null, .null, .null, .int 0]))] H := nd_pr hP
  have hDc : va_D A [(q2, .inr (20, [.int 0, .null, .int 0, .int 0, .null, .null, .null, .null, .null, .null, .null, .null, .null, .null, .null, .null, .null, .int 0, .int 0, .int 0, .int 0, .int 0, .int 0, .int 0, .int 0, .int 0, .null, .null, .null, .null, .null, .null, .null, .null, .null, .int 0]))] := nd_dr hD
  have hKc : va_K (dC, dI) vwCl [] s := ⟨hK.1, fun k q h => by simp at h⟩
  have hFc := nd_rs hDc hS hA
  have hzA : ∀ q : Nat, H.size ≤ q → A q := fun q h => hA q (Nat.le_trans hS.1 h)
  refine va_callv (va_runI (As := []) (rest := [.ref q2]) ⟨hx, hb, hml, hown, hts⟩ (k_X19_init l hlt dC dI q2 H.size) (cwI 0 hts gl_k_X19_init rfl rfl rfl (hts (.initialized RX19) zw_2606) (hts (.methodLink RL 51 yX19_init) zw_4591) (hts (.instanceMethod yX19_init) zw_4592) rfl (by decide +kernel) ⟨Nat.le_of_ble_eq_true rfl, Nat.le_of_ble_eq_true rfl⟩) ⟨fun a U g mk q => by obtain ⟨q0, q1, qP, qK, qD, qN⟩ := q; exact ⟨q0, q1, qP, va_K.moved (u := U) (U := U.calling g mk a) (Vm.Alike.refl U.vm) qK, qD, nv_same rfl rfl qN⟩, fun U hU hW => ⟨rfl, by rw [hU], by rw [hU]; exact hPc, va_K.moved hW.alike hKc, hDc.weaken (fun _ _ _ _ => trivial), nv_call hS hFc hU hW hN⟩⟩ rfl rfl hl.1 rfl (lv_room (Nat.le_of_ble_eq_true rfl)) dL_law_12 ⟨by decide +kernel, by decide +kernel⟩) hS (fun q _ h => hFc q h) hFc (fun u t H1 locs ht hvm hw hB hz1 hk1 hS => ?_)
  have hB0 := hB
  clear hB
  refine Exists.elim hB0 (fun r_q1 hB1 => ?_)
  clear hB0
  refine Exists.elim hB1 (fun r_y2 hB2 => ?_)
  clear hB1
  refine Exists.elim hB2 (fun r_q3 hB3 => ?_)
  clear hB2
  refine Exists.elim hB3 (fun r_y4 hB4 => ?_)
  clear hB3
  refine Exists.elim hB4 (fun r_q5 hB5 => ?_)
  clear hB4
  refine Exists.elim hB5 (fun r_y6 hB6 => ?_)
  clear hB5
  refine Exists.elim hB6 (fun r_q7 hB7 => ?_)
  clear hB6
  refine Exists.elim hB7 (fun r_y8 hB8 => ?_)
  clear hB7
  refine Exists.elim hB8 (fun r_q9 hB9 => ?_)
  clear hB8
  refine Exists.elim hB9 (fun r_y10 hB10 => ?_)
  clear hB9
  refine Exists.elim hB10 (fun r_q11 hB11 => ?_)
  clear hB10
  refine Exists.elim hB11 (fun r_y12 hB12 => ?_)
  clear hB11
  refine Exists.elim hB12 (fun r_q13 hB13 => ?_)
  clear hB12
  refine Exists.elim hB13 (fun r_y14 hB14 => ?_)
  clear hB13
  refine Exists.elim hB14 (fun r_q15 hB15 => ?_)
  clear hB14
  refine Exists.elim hB15 (fun r_y16 hB16 => ?_)
  clear hB15
  refine Exists.elim hB16 (fun r_q17 hB17 => ?_)
  clear hB16
  refine Exists.elim hB17 (fun r_q18 hB18 => ?_)
  clear hB17
  refine Exists.elim hB18 (fun r_y19 hB19 => ?_)
  clear hB18
  refine Exists.elim hB19 (fun r_q20 hB20 => ?_)
  clear hB19
  refine Exists.elim hB20 (fun r_y21 hB21 => ?_)
  clear hB20
  refine Exists.elim hB21 (fun r_q22 hB22 => ?_)
  clear hB21
  refine Exists.elim hB22 (fun r_y23 hB23 => ?_)
  clear hB22
  refine Exists.elim hB23 (fun r_q24 hB24 => ?_)
  clear hB23
  refine Exists.elim hB24 (fun r_y25 hB25 => ?_)
  clear hB24
  refine Exists.elim hB25 (fun r_q26 hB26 => ?_)
  clear hB25
  refine Exists.elim hB26 (fun r_y27 hB27 => ?_)
  clear hB26
  refine Exists.elim hB27 (fun r_q29 hB28 => ?_)
  clear hB27
  refine Exists.elim hB28 (fun r_q30 hB29 => ?_)
  clear hB28
  refine Exists.elim hB29 (fun r_y31 hB30 => ?_)
  clear hB29
  refine Exists.elim hB30 (fun r_q32 hB31 => ?_)
  clear hB30
  refine Exists.elim hB31 (fun r_y33 hB32 => ?_)
  clear hB31
  refine Exists.elim hB32 (fun r_q34 hB33 => ?_)
  clear hB32
  refine Exists.elim hB33 (fun r_y35 hB34 => ?_)
  clear hB33
  refine Exists.elim hB34 (fun r_q36 hB35 => ?_)
  clear hB34
  refine Exists.elim hB35 (fun r_y37 hB36 => ?_)
  clear hB35
  refine Exists.elim hB36 (fun r_q38 hB37 => ?_)
  clear hB36
  refine Exists.elim hB37 (fun r_y39 hB38 => ?_)
  clear hB37
  refine Exists.elim hB38 (fun r_q40 hB39 => ?_)
  clear hB38
  refine Exists.elim hB39 (fun r_y41 hB40 => ?_)
  clear hB39
  refine Exists.elim hB40 (fun r_q42 hB41 => ?_)
  clear hB40
  refine Exists.elim hB41 (fun r_y43 hB42 => ?_)
  clear hB41
  refine Exists.elim hB42 (fun r_q44 hB43 => ?_)
  clear hB42
  refine Exists.elim hB43 (fun r_y45 hB44 => ?_)
  clear hB43
  refine Exists.elim hB44 (fun r_q46 hB45 => ?_)
  clear hB44
  refine Exists.elim hB45 (fun r_y47 hB46 => ?_)
  clear hB45
  refine Exists.elim hB46 (fun r_q48 hB47 => ?_)
  clear hB46
  refine Exists.elim hB47 (fun r_y49 hB48 => ?_)
  clear hB47
  refine Exists.elim hB48 (fun r_q54 hB49 => ?_)
  clear hB48
  refine Exists.elim hB49 (fun r_q55 hB50 => ?_)
  clear hB49
  refine Exists.elim hB50 (fun r_y56 hB51 => ?_)
  clear hB50
  refine Exists.elim hB51 (fun r_q57 hB52 => ?_)
  clear hB51
  refine Exists.elim hB52 (fun r_y58 hB53 => ?_)
  clear hB52
  refine Exists.elim hB53 (fun r_q59 hB54 => ?_)
  clear hB53
  refine Exists.elim hB54 (fun r_y60 hB55 => ?_)
  clear hB54
  refine Exists.elim hB55 (fun r_q61 hB56 => ?_)
  clear hB55
  refine Exists.elim hB56 (fun r_y62 hB57 => ?_)
  clear hB56
  refine Exists.elim hB57 (fun r_q63 hB58 => ?_)
  clear hB57
  refine Exists.elim hB58 (fun r_y64 hB59 => ?_)
  clear hB58
  refine Exists.elim hB59 (fun r_q65 hB60 => ?_)
  clear hB59
  refine Exists.elim hB60 (fun r_y66 hB61 => ?_)
  clear hB60
  refine Exists.elim hB61 (fun r_q67 hB62 => ?_)
  clear hB61
  refine Exists.elim hB62 (fun r_y68 hB63 => ?_)
  clear hB62
  refine Exists.elim hB63 (fun r_q69 hB64 => ?_)
  clear hB63
  refine Exists.elim hB64 (fun r_y70 hB65 => ?_)
  clear hB64
  refine Exists.elim hB65 (fun r_q71 hB66 => ?_)
  clear hB65
  refine Exists.elim hB66 (fun r_y72 hB67 => ?_)
  clear hB66
  refine Exists.elim hB67 (fun r_q73 hB68 => ?_)
  clear hB67
  refine Exists.elim hB68 (fun r_y74 hB69 => ?_)
  clear hB68
  refine Exists.elim hB69 (fun r_q75 hB70 => ?_)
  clear hB69
  refine Exists.elim hB70 (fun r_y76 hB71 => ?_)
  clear hB70
  refine Exists.elim hB71 (fun r_q77 hB72 => ?_)
  clear hB71
  refine Exists.elim hB72 (fun r_y78 hB73 => ?_)
  clear hB72
  refine Exists.elim hB73 (fun r_q79 hB74 => ?_)
  clear hB73
  refine Exists.elim hB74 (fun r_y80 hB75 => ?_)
  clear hB74
  refine Exists.elim hB75 (fun r_q81 hB76 => ?_)
  clear hB75
  refine Exists.elim hB76 (fun r_y82 hB77 => ?_)
  clear hB76
  refine Exists.elim hB77 (fun r_q83 hB78 => ?_)
  clear hB77
  refine Exists.elim hB78 (fun r_y84 hB79 => ?_)
  clear hB78
  refine Exists.elim hB79 (fun r_q85 hB80 => ?_)
  clear hB79
  refine Exists.elim hB80 (fun r_y86 hB81 => ?_)
  clear hB80
  refine Exists.elim hB81 (fun r_q87 hB82 => ?_)
  clear hB81
  refine Exists.elim hB82 (fun r_y88 hB83 => ?_)
  clear hB82
  refine Exists.elim hB83 (fun r_q89 hB84 => ?_)
  clear hB83
  refine Exists.elim hB84 (fun r_y90 hB85 => ?_)
  clear hB84
  refine Exists.elim hB85 (fun r_q91 hB86 => ?_)
  clear hB85
  refine Exists.elim hB86 (fun r_y92 hB87 => ?_)
  clear hB86
  refine Exists.elim hB87 (fun r_q93 hB88 => ?_)
  clear hB87
  refine Exists.elim hB88 (fun r_y94 hB89 => ?_)
  clear hB88
  refine Exists.elim hB89 (fun r_q95 hB90 => ?_)
  clear hB89
  refine Exists.elim hB90 (fun r_y96 hB91 => ?_)
  clear hB90
  refine Exists.elim hB91 (fun r_q97 hB92 => ?_)
  clear hB91
  refine Exists.elim hB92 (fun r_y98 hB93 => ?_)
  clear hB92
  refine Exists.elim hB93 (fun r_q99 hB94 => ?_)
  clear hB93
  refine Exists.elim hB94 (fun r_y100 hB95 => ?_)
  clear hB94
  refine Exists.elim hB95 (fun r_q101 hB96 => ?_)
  clear hB95
  refine Exists.elim hB96 (fun r_y102 hB97 => ?_)
  clear hB96
  refine Exists.elim hB97 (fun r_q103 hB98 => ?_)
  clear hB97
  refine Exists.elim hB98 (fun r_y104 hB99 => ?_)
  clear hB98
  refine Exists.elim hB99 (fun r_q105 hB100 => ?_)
  clear hB99
  refine Exists.elim hB100 (fun r_y106 hB101 => ?_)
  clear hB100
  refine Exists.elim hB101 (fun r_q107 hB102 => ?_)
  clear hB101
  refine Exists.elim hB102 (fun r_y108 hB103 => ?_)
  clear hB102
  refine Exists.elim hB103 (fun r_q109 hB104 => ?_)
  clear hB103
  refine Exists.elim hB104 (fun r_y110 hB105 => ?_)
  clear hB104
  refine Exists.elim hB105 (fun r_q111 hB106 => ?_)
  clear hB105
  refine Exists.elim hB106 (fun r_y112 hB107 => ?_)
  clear hB106
  refine Exists.elim hB107 (fun r_q113 hB108 => ?_)
  clear hB107
  refine Exists.elim hB108 (fun r_y114 hB109 => ?_)
  clear hB108
  refine Exists.elim hB109 (fun r_q115 hB110 => ?_)
  clear hB109
  refine Exists.elim hB110 (fun r_y116 hB111 => ?_)
  clear hB110
  refine Exists.elim hB111 (fun r_q117 hB112 => ?_)
  clear hB111
  refine Exists.elim hB112 (fun r_y118 hB113 => ?_)
  clear hB112
  refine Exists.elim hB113 (fun r_q119 hB114 => ?_)
  clear hB113
  refine Exists.elim hB114 (fun r_y120 hB115 => ?_)
  clear hB114
  refine Exists.elim hB115 (fun r_q121 hB116 => ?_)
  clear hB115
  refine Exists.elim hB116 (fun r_y122 hB117 => ?_)
  clear hB116
  refine Exists.elim hB117 (fun r_q123 hB118 => ?_)
  clear hB117
  refine Exists.elim hB118 (fun r_y124 hB119 => ?_)
  clear hB118
  refine Exists.elim hB119 (fun r_q126 hB120 => ?_)
  clear hB119
  refine Exists.elim hB120 (fun r_q127 hB121 => ?_)
  clear hB120
  refine Exists.elim hB121 (fun r_y128 hB122 => ?_)
  clear hB121
  refine Exists.elim hB122 (fun r_q129 hB123 => ?_)
  clear hB122
  refine Exists.elim hB123 (fun r_y130 hB124 => ?_)
  clear hB123
  refine Exists.elim hB124 (fun r_q131 hB125 => ?_)
  clear hB124
  refine Exists.elim hB125 (fun r_y132 hB126 => ?_)
  clear hB125
  refine Exists.elim hB126 (fun r_q133 hB127 => ?_)
  clear hB126
  refine Exists.elim hB127 (fun r_y134 hB128 => ?_)
  clear hB127
  refine Exists.elim hB128 (fun r_q135 hB129 => ?_)
  clear hB128
  refine Exists.elim hB129 (fun r_y136 hB130 => ?_)
  clear hB129
  refine Exists.elim hB130 (fun r_q137 hB131 => ?_)
  clear hB130
  refine Exists.elim hB131 (fun r_y138 hB132 => ?_)
  clear hB131
  refine Exists.elim hB132 (fun r_q139 hB133 => ?_)
  clear hB132
  refine Exists.elim hB133 (fun r_y140 hB134 => ?_)
  clear hB133
  refine Exists.elim hB134 (fun r_q141 hB135 => ?_)
  clear hB134
  refine Exists.elim hB135 (fun r_y142 hB136 => ?_)
  clear hB135
  refine Exists.elim hB136 (fun r_q143 hB137 => ?_)
  clear hB136
  refine Exists.elim hB137 (fun r_y144 hB138 => ?_)
  clear hB137
  refine Exists.elim hB138 (fun r_q145 hB139 => ?_)
  clear hB138
  refine Exists.elim hB139 (fun r_y146 hB140 => ?_)
  clear hB139
  refine Exists.elim hB140 (fun r_q147 hB141 => ?_)
  clear hB140
  refine Exists.elim hB141 (fun r_y148 hB142 => ?_)
  clear hB141
  refine Exists.elim hB142 (fun r_q149 hB143 => ?_)
  clear hB142
  refine Exists.elim hB143 (fun r_y150 hB144 => ?_)
  clear hB143
  refine Exists.elim hB144 (fun r_q151 hB145 => ?_)
  clear hB144
  refine Exists.elim hB145 (fun r_y152 hB146 => ?_)
  clear hB145
  refine Exists.elim hB146 (fun r_q153 hB147 => ?_)
  clear hB146
  refine Exists.elim hB147 (fun r_y154 hB148 => ?_)
  clear hB147
  refine Exists.elim hB148 (fun r_q155 hB149 => ?_)
  clear hB148
  refine Exists.elim hB149 (fun r_y156 hB150 => ?_)
  clear hB149
  refine Exists.elim hB150 (fun r_q157 hB151 => ?_)
  clear hB150
  refine Exists.elim hB151 (fun r_y158 hB152 => ?_)
  clear hB151
  refine Exists.elim hB152 (fun r_q160 hB153 => ?_)
  clear hB152
  refine Exists.elim hB153 (fun r_q161 hB154 => ?_)
  clear hB153
  refine Exists.elim hB154 (fun r_y162 hB155 => ?_)
  clear hB154
  refine Exists.elim hB155 (fun r_q163 hB156 => ?_)
  clear hB155
  refine Exists.elim hB156 (fun r_y164 hB157 => ?_)
  clear hB156
  refine Exists.elim hB157 (fun r_q165 hB158 => ?_)
  clear hB157
  refine Exists.elim hB158 (fun r_y166 hB159 => ?_)
  clear hB158
  refine Exists.elim hB159 (fun r_q167 hB160 => ?_)
  clear hB159
  refine Exists.elim hB160 (fun r_y168 hB161 => ?_)
  clear hB160
  refine Exists.elim hB161 (fun r_q169 hB162 => ?_)
  clear hB161
  refine Exists.elim hB162 (fun r_y170 hB163 => ?_)
  clear hB162
  refine Exists.elim hB163 (fun r_q172 hB164 => ?_)
  clear hB163
  refine Exists.elim hB164 (fun r_q173 hB165 => ?_)
  clear hB164
  refine Exists.elim hB165 (fun r_y174 hB166 => ?_)
  clear hB165
  refine Exists.elim hB166 (fun r_q175 hB167 => ?_)
  clear hB166
  refine Exists.elim hB167 (fun r_y176 hB168 => ?_)
  clear hB167
  refine Exists.elim hB168 (fun r_q179 hB169 => ?_)
  clear hB168
  refine Exists.elim hB169 (fun r_y180 hB170 => ?_)
  clear hB169
  refine Exists.elim hB170 (fun r_q181 hB171 => ?_)
  clear hB170
  refine Exists.elim hB171 (fun r_y182 hB172 => ?_)
  clear hB171
  refine Exists.elim hB172 (fun r_q183 hB173 => ?_)
  clear hB172
  refine Exists.elim hB173 (fun r_y184 hB174 => ?_)
  clear hB173
  refine Exists.elim hB174 (fun r_q185 hB175 => ?_)
  clear hB174
  refine Exists.elim hB175 (fun r_y186 hB176 => ?_)
  clear hB175
  refine Exists.elim hB176 (fun r_q187 hB177 => ?_)
  clear hB176
  refine Exists.elim hB177 (fun r_y188 hB178 => ?_)
  clear hB177
  refine Exists.elim hB178 (fun r_q189 hB179 => ?_)
  clear hB178
  refine Exists.elim hB179 (fun r_y190 hB180 => ?_)
  clear hB179
  refine Exists.elim hB180 (fun r_q191 hB181 => ?_)
  clear hB180
  refine Exists.elim hB181 (fun r_y192 hB182 => ?_)
  clear hB181
  refine Exists.elim hB182 (fun r_q193 hB183 => ?_)
  clear hB182
  refine Exists.elim hB183 (fun r_y194 hB184 => ?_)
  clear hB183
  refine Exists.elim hB184 (fun r_q195 hB185 => ?_)
  clear hB184
  refine Exists.elim hB185 (fun r_y196 hB186 => ?_)
  clear hB185
  have hP1 := hB186.1
  have hK1 := hB186.2.1
  have hD1 := hB186.2.2
  clear hB186
  rw [ht] at hP1
  have hK1 := va_K.moved hvm.symm hK1
  have hP1 := g19_P hP1
  have hD1 := g19_D hD1
  have hK19 := g19_K hK1
  obtain ⟨a2, ac2, e2, hP1, hD1, hK19⟩ := g9_x _ _ g19_0 hP1 hD1 hK19
  obtain ⟨hP2, hD2, -⟩ := nd_stepR hP hD hk1 hP1 hD1
  have hD := hD2.weaken (fun k q _ h => nd_rq hD hzA q.1 h)
  have hP := hP2
  generalize H1 = H at hP hS ⊢
  refine W.widen (k := 454) (n := 2511898) (by decide +kernel) (by decide +kernel) ?_
  refine lv_astore_n (lv' := [(2, .ref q2), (1, .ref q1), (0, .ref b)]) hx hb dL_law_15 rfl hl (by decide) rfl (fun ls hl => ?_)
  refine lv_iconst (v := 1) hx hb dL_law_16 (by decide) ?_
  refine va_newa (atype := .long) (ty := .long) (N' := 1) (a0 := (1, .inr (.inl (fun _ => 0)))) hx hb (hts (.arrayClass .long) zw_4306) rfl hK hP hD hS hA (fun cA => vp_cell_l cA 1 (fun _ => 0)) (by decide +kernel) (by decide +kernel) (by decide +kernel) (by decide +kernel) (by decide +kernel) dL_law_17 (fun ao co H hK hP hD hS => ?_)
  refine W.widen (k := 455) (n := 2511899) (by decide +kernel) (by decide +kernel) ?_
  refine lv_astore_n (lv' := [(3, .ref ao), (2, .ref q2), (1, .ref q1), (0, .ref b)]) hx hb dL_law_19 rfl hl (by decide) rfl (fun ls hl => ?_)
  refine lv_iconst (v := 0) hx hb dL_law_20 (by decide) ?_
  refine lv_istore (lv' := [(4, .int 0), (3, .ref ao), (2, .ref q2), (1, .ref q1), (0, .ref b)]) hx hb dL_law_21 hl (by decide) rfl (fun ls hl => ?_)
  rw [hW1] at hP hD
  have hPz := hP
  have hDz := hD
  have hSz := hS
  have hlz := hl
  subst e1
  subst e2
  have hKo : va_K (dC, dI) vwCl [(co, .long)] s := hK
  exact kk ao co a a2 ac acB ac2 v y y2 A2 H locs ls ((hKo.app hK12).app (hK4.app hK19)) (nd_permP pqk_6 hPz) (nd_permD pqk_6 hDz) hSz hlz
set_option maxHeartbeats 40000000 in
set_option maxRecDepth 100000 in
theorem whole_start {p : Program} {e : Env} {s : State} {m : MethodId} {below : List Frame} {meth : Method} {c : Code} (l : Launch) (hlt : l.stackTraces = false) {b L : Nat} {xs : Nat → Int32} (hL : L ≤ 3072) (C0 : lw_At p s m meth c b L xs) : W p l e room_1 s m #[Value.ref b] below meth c s.heap [] 0 0 (lw_Z below #[Value.ref b] s) (entryFrame m ([Value.ref b] : List Value).toArray 8) := by
  obtain ⟨hx, hb, hr, hml, hown0, hts, hX, hbl, hlocks, hgv⟩ := id C0
  have hown : s.vm.findClass RL = some m.cls := hown0
  obtain ⟨dC, dI, hKc, hH, hDe⟩ := nv_begin hgv hts
  have hK : va_K (dC, dI) vwCl [] s := ⟨hKc, fun k q h => by simp at h⟩
  have hl := lv_entry ([.ref b]) (n := 8) (Nat.le_of_ble_eq_true rfl)
  rw [lg_entry_eq]
  generalize (lg_sl ([.ref b]) ++ List.replicate (8 - (lg_sl ([.ref b])).length) Slot.unset).toArray = ls at hl ⊢
  have hl : lv_has ls 8 [(0, .ref b)] := hl
  refine law_head (A := fun q : Nat => s.heap.size ≤ q) hlt hx hb hml hown hts dC dI hH.1 (fun _ h => h) hK hl (fun ao co a a2 ac acB ac2 v y y2 A2 H locs ls hK hP hD hS hl => ?_)
  exact law_loop (n := 70001) (c0 := 455) (s0 := 2511899) ⟨hlt, hx, hb, hml, hown, hts, hH, fun _ h => h, hDe, hK, hX, hbl, fun h => absurd hbl (Nat.not_lt.mpr h)⟩ (by decide) hL hr hlocks (by decide) (by decide) 513 0 rfl (Nat.zero_le _) v (gS12 y y2 A2) (16, 0, nd_st0) (gS19, fun _ => none) (fun _ => 0) 455 2511899 H locs ls (jg_0 70001 y y2 A2) bw_0 (by decide) (by rw [tp_0]; decide) hP hD hS hl
