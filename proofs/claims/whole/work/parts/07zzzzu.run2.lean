/-- ticks of a run, in both -/
theorem jm_run (n : Nat) (hn : 70000 < n) {vn n0 : Nat} {Q : St} {Nb : Nat → Nat} {pos : Nat → Nat → Nat} (hn0 : n0 ≤ 60000) : ∀ (r g g' many : Nat) (t : S11) (τ : S19) (V : St) (N T e c : Nat) (lo : Nat → Nat), many + r = n0 → r < g → r + 1 < g' → jK n t τ vn Q V N T e c lo Nb pos → sI t.1 6 = nI 0 → sI τ.1 7 = nI 0 → ∃ (q : Nat) (t' : S11) (τ' : S19) (V' : St) (N' T' e' c' : Nat) (lo' : Nat → Nat), df_X11_ticks_21 n g (nI n0) (nI many) t = some (nI q, t') ∧ df_X19_run_75 n g' (nI n0) (nI many) τ = some (nI q, τ') ∧ jK n t' τ' vn Q V' N' T' e' c' lo' Nb pos ∧ sI t'.1 7 = sI τ'.1 7 ∧ kC2 t t' ∧ kR2 τ τ' := fun r => by
  induction r with
  | zero =>
    intro g g' many t τ V N T e c lo hm hg hg' h h6 h7
    obtain ⟨g1, rfl⟩ : ∃ g1 : Nat, g = g1 + 1 := ⟨g - 1, by omega⟩
    obtain ⟨g2, rfl⟩ : ∃ g2 : Nat, g' = g2 + 1 := ⟨g' - 1, by omega⟩
    have le : nI n0 ≤ nI many := by rw [nI_leI (by omega) (by omega)]; omega
    refine ⟨n0, (pI t.1 7 0, t.2), τ, V, N, T, e, c, lo, ?_, ?_, h, h7.symm, ⟨rfl, fun _ => rfl, fun _ _ => rfl, rfl⟩, kR2_r τ⟩
    · show dF_X11_ticks_21 n (df_X11_ticks_21 n g1) (nI n0) (nI many) t = _
      unfold dF_X11_ticks_21
      rw [if_pos le, nb_let]
    · show dF_X19_run_75 n (df_X19_run_75 n g2) (nI n0) (nI many) τ = _
      unfold dF_X19_run_75 df_X19_run_237
      rw [if_pos le, show many = n0 by omega]
  | succ r ih =>
    intro g g' many t τ V N T e c lo hm hg hg' h h6 h7
    obtain ⟨g1, rfl⟩ : ∃ g1 : Nat, g = g1 + 1 := ⟨g - 1, by omega⟩
    obtain ⟨g2, rfl⟩ : ∃ g2 : Nat, g' = g2 + 1 + 1 := ⟨g' - 2, by omega⟩
    have le : ¬ nI n0 ≤ nI many := fun z => by rw [nI_leI (by omega) (by omega)] at z; omega
    obtain ⟨hJ, hB⟩ := id h
    obtain ⟨x1, x2, x3⟩ := jM_x hJ
    obtain ⟨hI, hL, hev, hv, ⟨g4, g5, g6⟩, hk, hX, h10, h14, hS, h11⟩ := id hJ
    have hce : c ≤ e := hI.2.2.2.2.1
    have he : e ≤ 60000 := hL.2.2.2.2.2
    have c3 : sI t.1 3 = nI c := hI.2.2.2.2.2.1
    have cur : sI t.2.2.1.2.2.1 3 = sI τ.2.2.1.2.1 1 := x1.2.2.2.2.1.1
    have wai : sI t.2.2.1.2.2.1 2 = nI (cW (sR τ.2.2.1.2.1 1)) := x1.2.2.2.1
    have okp : okP (sI τ.2.2.1.2.1 1) := x1.2.2.2.2.1.2.1
    -- the reference ends, with a reason
    have rend : ∀ (g : Nat) (m : Nat) (y : Int32) (τ1 : S19), ¬ sI τ1.1 7 = 0 → df_X19_run_75 n (g + 1) (nI n0) (nI m) τ1 = some (nI m, τ1) := fun g m y τ1 hy => by
      show dF_X19_run_75 n (df_X19_run_75 n g) (nI n0) (nI m) τ1 = _
      unfold dF_X19_run_75 df_X19_run_237
      rw [if_neg hy]
      by_cases z : nI n0 ≤ nI m
      · rw [if_pos z]
      · rw [if_neg z]
    -- it stops
    have stop : ∀ y : Nat, 1 ≤ y → y < 8 → df_X11_stops n t = some (nI y, t) → df_X19_run_75 n (g2 + 1 + 1) (nI n0) (nI many) τ = df_X19_run_139 n (df_X19_run_75 n (g2 + 1)) (nI n0) (nI many) (pI τ.1 7 (nI y), τ.2) → ∃ (q : Nat) (t' : S11) (τ' : S19) (V' : St) (N' T' e' c' : Nat) (lo' : Nat → Nat), df_X11_ticks_21 n (g1 + 1) (nI n0) (nI many) t = some (nI q, t') ∧ df_X19_run_75 n (g2 + 1 + 1) (nI n0) (nI many) τ = some (nI q, τ') ∧ jK n t' τ' vn Q V' N' T' e' c' lo' Nb pos ∧ sI t'.1 7 = sI τ'.1 7 ∧ kC2 t t' ∧ kR2 τ τ' := fun y y1 y8 a b => by
      have yn : ¬ nI y = (0 : Int32) := fun z => by have z : nI y = nI 0 := z; rw [nI_eq (by omega) (by omega)] at z; omega
      refine ⟨many, (pI t.1 7 (nI y), t.2), (pI τ.1 7 (nI y), τ.2), V, N, T, e, c, lo, ?_, ?_, h, rfl, ⟨rfl, fun _ => rfl, fun _ _ => rfl, rfl⟩, ⟨fun j hj => ?_, fun _ _ => rfl, fun _ => rfl, rfl, rfl⟩⟩
      · show dF_X11_ticks_21 n (df_X11_ticks_21 n g1) (nI n0) (nI many) t = _
        unfold dF_X11_ticks_21
        rw [if_neg le, a, nb_b2, nb_let, if_neg (show ¬ sI (pI t.1 7 (nI y)) 7 = 0 from yn)]
      · rw [b]
        unfold df_X19_run_139
        rw [if_neg (show ¬ sI (pI τ.1 7 (nI y)) 7 ≤ 0 from fun z => by have z : nI y ≤ nI 0 := z; rw [nI_leI (by omega) (by omega)] at z; omega)]
        exact rend g2 many (nI y) _ yn
      · show sI (pI τ.1 7 _) j = _
        rw [nb_II, if_neg (by omega)]
    have rt0 : dF_X19_run_75 n (df_X19_run_75 n (g2 + 1)) (nI n0) (nI many) τ = if sI τ.1 5 = 60000 then nd_let (pI τ.1 7 4, τ.2) (fun s50 => df_X19_run_139 n (df_X19_run_75 n (g2 + 1)) (nI n0) (nI many) s50) else nd_b2 (df_X16_count n 2 τ.2.2.1.2) (fun q19 s20 => nd_let (τ.1, (τ.2.1, ((τ.2.2.1.1, s20), τ.2.2.2))) (fun s22 => if lg_cmp q19 (-1) = 0 then nd_b2 (df_X16_isWaiting n s22.2.2.1.2) (fun q44 s45 => nd_let (s22.1, (s22.2.1, ((s22.2.2.1.1, s45), s22.2.2.2))) (fun s47 => if q44 = 0 then df_X19_run_136 n (df_X19_run_75 n (g2 + 1)) (nI n0) (nI many) 2 s47 else df_X19_run_136 n (df_X19_run_75 n (g2 + 1)) (nI n0) (nI many) 1 s47)) else df_X19_run_139 n (df_X19_run_75 n (g2 + 1)) (nI n0) (nI many) s22)) := by
      unfold dF_X19_run_75
      rw [if_neg le, if_pos (show sI τ.1 7 = 0 from h7)]
    have ct2 : df_X16_count n 2 τ.2.2.1.2 = some ((sI τ.2.2.1.2.1 1).toInt64, τ.2.2.1.2) := (sg_ct85 n (by omega) (w := 2) (by omega) (by omega) (by omega) τ.2.2.1.2).trans rfl
    by_cases c6 : c = 60000
    · refine stop 4 (by omega) (by omega) ?_ ?_
      · unfold df_X11_stops df_X11_stops_0
        rw [c3, if_neg (show ¬ nI c < (60000 : Int32) from fun z => by have z : nI c < nI 60000 := z; rw [nI_ltI (by omega) (by omega)] at z; omega)]
        rfl
      · refine Eq.trans rt0 ?_
        rw [if_pos (show sI τ.1 5 = 60000 by rw [g5, c6]; rfl), nb_let]
        rfl
    · have c6l : nI c < (60000 : Int32) := (show nI c < nI 60000 by rw [nI_ltI (by omega) (by omega)]; omega)
      have c6n : ¬ sI τ.1 5 = 60000 := fun z => by rw [g5] at z; have z : nI c = nI 60000 := z; rw [nI_eq (by omega) (by omega)] at z; exact c6 z
      rcases okp with om | ⟨a, a16, ea⟩
      · have lm : lg_cmp (-nI 1 : Int32).toInt64 (-1) = (0 : Int32) := by decide
        by_cases w : 0 < cW (sR τ.2.2.1.2.1 1)
        · refine stop 1 (by omega) (by omega) ?_ ?_
          · unfold df_X11_stops df_X11_stops_0 df_X11_stops_38
            have cw16 : cW (sR τ.2.2.1.2.1 1) ≤ 16 := cN_le _ _
            rw [c3, if_pos c6l, cur, om, if_pos (show (-nI 1 : Int32) < 0 by decide), wai, if_neg (show ¬ nI (cW (sR τ.2.2.1.2.1 1)) ≤ (0 : Int32) from fun z => by have z : nI (cW (sR τ.2.2.1.2.1 1)) ≤ nI 0 := z; rw [nm_nle0 (by omega)] at z; omega)]
            rfl
          · refine Eq.trans rt0 ?_
            unfold df_X19_run_136
            rw [if_neg c6n, ct2, nb_b2, nb_let, om, if_pos lm]
            dsimp only
            rw [sg_wait n (by omega), nb_b2, if_pos w, nb_let, if_neg (show ¬ nI 1 = (0 : Int32) by decide), nb_let]
            rfl
        · refine stop 2 (by omega) (by omega) ?_ ?_
          · unfold df_X11_stops df_X11_stops_0 df_X11_stops_38
            rw [c3, if_pos c6l, cur, om, if_pos (show (-nI 1 : Int32) < 0 by decide), wai, if_pos (show nI (cW (sR τ.2.2.1.2.1 1)) ≤ (0 : Int32) by rw [show cW (sR τ.2.2.1.2.1 1) = 0 by omega]; decide)]
            rfl
          · refine Eq.trans rt0 ?_
            unfold df_X19_run_136
            rw [if_neg c6n, ct2, nb_b2, nb_let, om, if_pos lm]
            dsimp only
            rw [sg_wait n (by omega), nb_b2, if_neg w, nb_let, if_pos (show nI 0 = (0 : Int32) from rfl), nb_let]
            rfl
      · -- it goes on
        have cn : ¬ sI t.2.2.1.2.2.1 3 = -nI 1 := by rw [cur, ea]; exact nk_ne (by omega)
        have ln : ¬ lg_cmp (nI a).toInt64 (-1) = (0 : Int32) := fun z => by
          have z := (lcE _ _).mp z
          have z := congrArg Int64.toInt z
          rw [to_64, nI_toInt (by omega), show (-1 : Int64).toInt = -1 by decide] at z
          omega
        have st0 : df_X11_stops n t = some (nI 0, t) := by
          unfold df_X11_stops df_X11_stops_0
          rw [c3, if_pos c6l, cur, ea, if_neg (dn_3 (by omega))]
          rfl
        obtain ⟨K, Y, m1, m2, m3, m4⟩ := rm_all n (by omega) (t := (pI t.1 7 (nI 0), t.2)) (τ := τ) x1 x2 x3 (by omega) c3 hB
        obtain ⟨w, al, t2, τa, τ2, V', N', T', e', lo', b1, b2, b3, b4, b5, b6, b7, b8, b9, bK, bY⟩ := jm_tick n hn (t := stK (pI t.1 7 (nI 0), t.2) K) (τ := stY τ Y) hJ (by omega) cn h6
        have bK : t2.2.2.2.2.2.2.1 = K := bK
        have bY : τ2.2.2.1.1 = Y := bY
        obtain ⟨y1, y2, y3⟩ := jM_x b5
        have row2 : t2.2.1 2 = t.2.1 2 := b7.2.2.1 2 (by omega)
        have c3' : sI t2.1 3 = nI (c + 1) := b5.1.2.2.2.2.2.1
        have hB2 : bRk n (t2.2.1 2) t2.2.2.2.2.2.2.1 τ2.2.2.1.1 Nb pos := by rw [row2, bK, bY]; exact m3
        obtain ⟨K2, Y2, d1, d2, d3⟩ := ht_all n (t := t2) (τ := τ2) (B := 512 * (c + 1)) (c := c + 1) (N := Nb) (pos := pos) y1 y2 y3 (by omega) c3' 8 0 n n t2.2.2.2.2.2.2.1 τ2.2.2.1.1 (by omega) (by omega) (by omega) hB2 (fun k j hk e => by rw [row2] at e; rw [bK, bY]; exact m4 k j hk e)
        -- both sides up to the reason
        have k1 : nI many + 1 = nI (many + 1) := nI_add ..
        have k2 : nI many + Int32.ofInt 1 = nI (many + 1) := nI_add ..
        have goR : ∃ x4 : Int32, (x4 = 0 ↔ al = nI 0) ∧ df_X19_run_75 n (g2 + 1 + 1) (nI n0) (nI many) τ = df_X19_run_199 n (df_X19_run_75 n (g2 + 1)) (nI n0) (nI (many + 1)) x4 τ2 := by
          have r0 : df_X19_run_75 n (g2 + 1 + 1) (nI n0) (nI many) τ = df_X19_run_139 n (df_X19_run_75 n (g2 + 1)) (nI n0) (nI many) τ := by
            refine Eq.trans rt0 ?_
            rw [if_neg c6n, ct2, nb_b2, nb_let, ea, if_neg ln]
          rw [r0]
          unfold df_X19_run_139
          rw [if_pos (show sI τ.1 7 ≤ 0 by rw [h7]; decide), m2, nb_b1, b2, nb_b2, b3, show nI c + 1 = nI (c + 1) from nI_add .., nb_let, nb_let, k2]
          dsimp only
          rcases b4 with ⟨u1, u2, u3, u4⟩ | ⟨u1, u2⟩
          · refine ⟨1, ⟨fun z => absurd z (by decide), fun z => by rw [u3] at z; exact absurd z (by decide)⟩, ?_⟩
            rw [show sI (pI τa.1 5 (nI (c + 1))) 5 = nI (c + 1) from rfl, show sI (pI τa.1 5 (nI (c + 1))) 6 = nI e from u1, if_pos (show nI (c + 1) ≤ nI e by rw [nI_leI (by omega) (by omega)]; omega), u4]
          · refine ⟨al, Iff.rfl, ?_⟩
            rw [show sI (pI τa.1 5 (nI (c + 1))) 5 = nI (c + 1) from rfl, show sI (pI τa.1 5 (nI (c + 1))) 6 = nI c from u1, if_neg (show ¬ nI (c + 1) ≤ nI c from fun z => by rw [nI_leI (by omega) (by omega)] at z; omega), nb_let, u2, nb_b2]
        obtain ⟨x4, x4a, goR⟩ := goR
        have goC : df_X11_ticks_21 n (g1 + 1) (nI n0) (nI many) t = if sI t2.1 6 = 0 then nd_b2 (df_X11_hit n t2) (fun q16 s17 => df_X11_ticks_69 n (df_X11_ticks_21 n g1) (nI n0) (nI many) q16 s17) else df_X11_ticks_69 n (df_X11_ticks_21 n g1) (nI n0) (nI many) 5 t2 := by
          show dF_X11_ticks_21 n (df_X11_ticks_21 n g1) (nI n0) (nI many) t = _
          unfold dF_X11_ticks_21
          rw [if_neg le, st0, nb_b2, nb_let, if_pos (show sI (pI t.1 7 (nI 0)) 7 = 0 from rfl), m1, nb_b1, b1, nb_b1]
        -- the frames
        have fC : kC2 t t2 := b7
        have fR : kR2 τ τ2 := b8
        -- what is behind the reason
        have fin : ∀ (y : Nat) (t3 : S11) (τ3 : S19), y < 100 → t3.1 = t2.1 → t3.2.1 = t2.2.1 → t3.2.2.1 = t2.2.2.1 → t3.2.2.2.1 = t2.2.2.2.1 → t3.2.2.2.2.1 = t2.2.2.2.2.1 → t3.2.2.2.2.2.1 = t2.2.2.2.2.2.1 → t3.2.2.2.2.2.2.2 = t2.2.2.2.2.2.2.2 → τ3 = stY τ2 τ3.2.2.1.1 → bRk n (t3.2.1 2) t3.2.2.2.2.2.2.1 τ3.2.2.1.1 Nb pos → df_X11_ticks_21 n (g1 + 1) (nI n0) (nI many) t = df_X11_ticks_69 n (df_X11_ticks_21 n g1) (nI n0) (nI many) (nI y) t3 → df_X19_run_75 n (g2 + 1 + 1) (nI n0) (nI many) τ = df_X19_run_231 n (df_X19_run_75 n (g2 + 1)) (nI n0) (nI (many + 1)) (nI y) τ3 → ∃ (q : Nat) (t' : S11) (τ' : S19) (V' : St) (N' T' e' c' : Nat) (lo' : Nat → Nat), df_X11_ticks_21 n (g1 + 1) (nI n0) (nI many) t = some (nI q, t') ∧ df_X19_run_75 n (g2 + 1 + 1) (nI n0) (nI many) τ = some (nI q, τ') ∧ jK n t' τ' vn Q V' N' T' e' c' lo' Nb pos ∧ sI t'.1 7 = sI τ'.1 7 ∧ kC2 t t' ∧ kR2 τ τ' := fun y t3 τ3 y1 e1 e2 e3 e4 e5 e6' e7 eτ hb eC eR => by
          have et : t3 = stK t2 t3.2.2.2.2.2.2.1 := by
            show t3 = (t2.1, (t2.2.1, (t2.2.2.1, (t2.2.2.2.1, (t2.2.2.2.2.1, (t2.2.2.2.2.2.1, (t3.2.2.2.2.2.2.1, t2.2.2.2.2.2.2.2)))))))
            rw [← e1, ← e2, ← e3, ← e4, ← e5, ← e6', ← e7]
          generalize t3.2.2.2.2.2.2.1 = K3 at et hb
          generalize τ3.2.2.1.1 = Y3 at eτ hb
          subst et eτ
          have jk3 : jK n (pI (pI t2.1 7 (nI y)) 6 (nI 0), (stK t2 K3).2) (pI τ2.1 7 (nI y), (stY τ2 Y3).2) vn Q V' N' T' e' (c + 1) lo' Nb pos := ⟨b5, hb⟩
          rw [eC, eR]
          unfold df_X11_ticks_69 df_X19_run_231
          rw [nb_let, nb_let, nb_let]
          have fC3 : kC2 t2 (pI (pI t2.1 7 (nI y)) 6 (nI 0), (stK t2 K3).2) := ⟨rfl, fun _ => rfl, fun _ _ => rfl, rfl⟩
          have fR3 : kR2 τ2 (pI τ2.1 7 (nI y), (stY τ2 Y3).2) := ⟨fun j hj => by
            show sI (pI τ2.1 7 _) j = _
            rw [nb_II, if_neg (by omega)], fun _ _ => rfl, fun _ => rfl, rfl, rfl⟩
          by_cases y0 : y = 0
          · subst y0
            obtain ⟨q, t', τ', V2, N2, T2, e2', c2, lo2, i1, i2, i3, i4, i5, i6⟩ := ih g1 (g2 + 1) (many + 1) (pI (pI t2.1 7 (nI 0)) 6 (nI 0), (stK t2 K3).2) (pI τ2.1 7 (nI 0), (stY τ2 Y3).2) V' N' T' e' (c + 1) lo' (by omega) (by omega) (by omega) jk3 rfl rfl
            refine ⟨q, t', τ', V2, N2, T2, e2', c2, lo2, ?_, i2, i3, i4, kC2_t fC (kC2_t fC3 i5), kR2_t fR (kR2_t fR3 i6)⟩
            show (if sI (pI (pI t2.1 7 (nI 0)) 6 0) 7 = 0 then _ else _) = _
            rw [if_pos (show sI (pI (pI t2.1 7 (nI 0)) 6 0) 7 = 0 from rfl), k2]
            exact i1
          · have yn : ¬ nI y = (0 : Int32) := fun z => by have z : nI y = nI 0 := z; rw [nI_eq (by omega) (by omega)] at z; exact y0 z
            refine ⟨many + 1, (pI (pI t2.1 7 (nI y)) 6 (nI 0), (stK t2 K3).2), (pI τ2.1 7 (nI y), (stY τ2 Y3).2), V', N', T', e', c + 1, lo', ?_, rend g2 (many + 1) (nI y) _ yn, jk3, rfl, kC2_t fC fC3, kR2_t fR fR3⟩
            show (if sI (pI (pI t2.1 7 (nI y)) 6 0) 7 = 0 then _ else _) = _
            rw [if_neg (show ¬ sI (pI (pI t2.1 7 (nI y)) 6 0) 7 = 0 from yn), k1]
            rfl
        have hb2 : bRk n (t2.2.1 2) K2 Y2 Nb pos := d1
        rcases b6 with ⟨u1, u2⟩ | ⟨u1, u2⟩
        · have xn : ¬ x4 = 0 := fun z => by rw [x4a.mp z] at u1; exact absurd u1 (by decide)
          rcases d3 with ⟨v1, v2⟩ | ⟨q, q8, v1, v2⟩
          · have v1 : df_X11_hit n t2 = some (nI 0, stK t2 K2) := v1
            have v2 : df_X19_hit n τ2 = some (-1, stY τ2 Y2) := v2
            refine fin 0 (stK t2 K2) (stY τ2 Y2) (by omega) rfl rfl rfl rfl rfl rfl rfl rfl hb2 ?_ ?_
            · rw [goC, if_pos (show sI t2.1 6 = 0 from u2), v1, nb_b2]
            · rw [goR]
              unfold df_X19_run_199
              rw [v2, nb_b2, if_neg xn, if_pos (show (-1 : Int32) < 0 by decide)]
              rfl
          · have v1 : df_X11_hit n t2 = some (nI (3 + 8 * q), stK t2 K2) := v1
            have v2 : df_X19_hit n τ2 = some (nI q, stY τ2 Y2) := v2
            refine fin (3 + 8 * q) (stK t2 K2) (stY τ2 Y2) (by omega) rfl rfl rfl rfl rfl rfl rfl rfl hb2 ?_ ?_
            · rw [goC, if_pos (show sI t2.1 6 = 0 from u2), v1, nb_b2]
            · rw [goR]
              unfold df_X19_run_199
              rw [v2, nb_b2, if_neg xn, if_neg (dn_3 (by omega)), show (3 : Int32) + 8 * nI q = nI (3 + 8 * q) by rw [show (8 : Int32) * nI q = nI (8 * q) from pk_mul ..]; exact nI_add ..]
        · have xz : x4 = 0 := x4a.mpr u1
          have hb3 : bRk n (t2.2.1 2) t2.2.2.2.2.2.2.1 Y2 Nb pos := bRk_y hB2 d2
          have goC' : df_X11_ticks_21 n (g1 + 1) (nI n0) (nI many) t = df_X11_ticks_69 n (df_X11_ticks_21 n g1) (nI n0) (nI many) (nI 5) t2 := by
            rw [goC, if_neg (show ¬ sI t2.1 6 = 0 by rw [u2]; decide)]
            rfl
          rcases d3 with ⟨v1, v2⟩ | ⟨q, q8, v1, v2⟩
          · have v2 : df_X19_hit n τ2 = some (-1, stY τ2 Y2) := v2
            refine fin 5 t2 (stY τ2 Y2) (by omega) rfl rfl rfl rfl rfl rfl rfl rfl hb3 goC' ?_
            rw [goR]
            unfold df_X19_run_199
            rw [v2, nb_b2, if_pos xz]
            rfl
          · have v2 : df_X19_hit n τ2 = some (nI q, stY τ2 Y2) := v2
            refine fin 5 t2 (stY τ2 Y2) (by omega) rfl rfl rfl rfl rfl rfl rfl rfl hb3 goC' ?_
            rw [goR]
            unfold df_X19_run_199
            rw [v2, nb_b2, if_pos xz]
            rfl
