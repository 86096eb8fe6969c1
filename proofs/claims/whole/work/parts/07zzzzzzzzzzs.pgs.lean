/-- bytes and lines of a program, in both -/
theorem PG_J {Ds : Nat → Dt} {Zs : Nat → Nat} {BY : Nat → Int32} {lv : Nat → Nat} {nS : Nat} {ad sz Ls : Nat → Nat} (had : ∀ s : Nat, s < nS → ad s = adN Zs (ofs Ds Zs BY lv) (lay Ds Zs BY lv nS).1 s ∧ sz s = szN (Ds s) (BY s) (lv s) (ofs Ds Zs BY lv s)) (hsz : szA (lay Ds Zs BY lv nS) ≤ 32768) {sn : Nat} (hsn : sn ≤ 8194) {sg : Nat → Nat} {SW R2 R3 : Nat → Int32} (rows : ∀ i : Nat, i < sn → SW (8 * i + 2) = nI (ad (sg i)) ∧ SW (8 * i + 3) = nI (sz (sg i)) ∧ SW (8 * i) = nI (Ls (sg i)) ∧ sg i < nS ∧ mu Ds (sg i) = i) (hrow : ∀ s : Nat, s < nS → 0 < sz s → mu Ds s < sn ∧ sg (mu Ds s) = s) (hLs : ∀ s : Nat, s < nS → Ls s ≤ 40000) {BB : Nat → List Int32} (hBB : ∀ s : Nat, s < nS → (BB s).length ≤ sz s ∧ ad s + sz s ≤ 32768) {P : St} {g0 : Nat → Int32} (p0 : sI P 0 = nI (lay Ds Zs BY lv nS).1) (p1 : sI P 1 = nI (bsN (lay Ds Zs BY lv nS).1)) (p2 : sI P 2 = nI (szA (lay Ds Zs BY lv nS))) (p5 : sI P 5 = nI (dsS SW R2 R3 sn).1) (r2 : sR P 2 = (dsS SW R2 R3 sn).2.1) (r3 : sR P 3 = (dsS SW R2 R3 sn).2.2) (r0 : sR P 0 = imC (nd_fl 32768 (vp_nar .byte 0) g0) ad BB nS) (fm : Nat) (OU : Nat → Int32) : ∀ i : Nat, i < szA (lay Ds Zs BY lv nS) → ∃ z l : Nat, z < 256 ∧ l < 2 ^ 22 ∧ sR P 0 i = vp_nar .byte ((nI z).toInt8.toInt32) ∧ rmR (zrL OU fm (szA (lay Ds Zs BY lv nS))) fm ad BB sz Ls nS (fm + i) = nI (l * 256 + z) ∧ ∀ n : Nat, 40000 < n → df_X8_lineOf n (nI i) P = some (nI l, P) := fun i hi => by
  obtain ⟨L1, L2, L3⟩ := lie had
  have hb := bsN_l (lay Ds Zs BY lv nS).1
  have tz : (lay Ds Zs BY lv nS).1 ≤ szA (lay Ds Zs BY lv nS) := by
    unfold szA
    split <;> omega
  have bz : bsN (lay Ds Zs BY lv nS).1 ≤ 33792 := by
    unfold bsN
    omega
  have f00 : nd_fl 32768 (vp_nar .byte 0) g0 i = vp_nar .byte 0 := if_pos (by omega)
  have z00 : zrL OU fm (szA (lay Ds Zs BY lv nS)) (fm + i) = 0 := if_pos (by omega)
  have hcn := dsS_l (SW := SW) (R2 := R2) (R3 := R3) sn
  by_cases gap : i < (lay Ds Zs BY lv nS).1 ∨ bsN (lay Ds Zs BY lv nS).1 ≤ i
  · obtain ⟨s, hs, hin⟩ := L3 i hi gap
    have hin' : ad s ≤ i ∧ i < ad s + sz s := hin
    have ls1 := hLs s hs
    have uq : ∀ t : Nat, t < nS → ad t ≤ i → i < ad t + sz t → t = s := fun t ht h1 h2 => L2 t s i ht hs ⟨h1, h2⟩ hin
    have eC : sR P 0 i = if ad s ≤ i ∧ i < ad s + (BB s).length then btI ((BB s).getD (i - ad s) 0) else vp_nar .byte 0 := by
      rw [r0, imC_i nS hs (fun t ht h1 h2 => uq t ht h1 (by have := (hBB t ht).1; omega)), f00]
    have eR := rmR_i (OU0 := zrL OU fm (szA (lay Ds Zs BY lv nS))) (fm := fm) (Ls := Ls) hin' nS hs (fun t ht => ⟨(hBB t ht).1, uq t ht⟩)
    rw [z00] at eR
    have lin : ∀ n : Nat, 40000 < n → df_X8_lineOf n (nI i) P = some (nI (Ls s), P) := fun n hn => by
      obtain ⟨m1, m2⟩ := hrow s hs (by omega)
      obtain ⟨q2, q3, q0, q4, q5⟩ := rows (mu Ds s) m1
      rw [m2] at q2 q3 q0
      have pos : ¬ SW (8 * mu Ds s + 3) ≤ 0 := by
        rw [q3]
        exact znle (b := 0) (by omega) (by have := (hBB s hs).2; omega)
      obtain ⟨k1, k2, k3⟩ := ds_e (SW := SW) (R2 := R2) (R3 := R3) sn (mu Ds s) m1 pos
      obtain ⟨e, he⟩ := inv_ex (fun i => (dsS SW R2 R3 i).1) (fun i => by rcases dsS_s (SW := SW) (R2 := R2) (R3 := R3) (i := i) with w | w; exact Or.inl w.1; exact Or.inr w.1) rfl sn
      have ent : ∀ k : Nat, k < (dsS SW R2 R3 sn).1 → e k < sn ∧ (dsS SW R2 R3 (e k)).1 = k ∧ ¬ SW (8 * e k + 3) ≤ 0 := fun k hk => by
        obtain ⟨g1, g2, g3⟩ := he k hk
        have g2 : (dsS SW R2 R3 (e k)).1 = k := g2
        have g3 : (dsS SW R2 R3 (e k + 1)).1 = k + 1 := g3
        refine ⟨g1, g2, ?_⟩
        rcases dsS_s (SW := SW) (R2 := R2) (R3 := R3) (i := e k) with w | w
        · omega
        · exact w.2
      have rw1 : ∀ k : Nat, k < (dsS SW R2 R3 sn).1 → sR P 2 k = nI (ad (sg (e k))) ∧ ad (sg (e k)) ≤ 65536 ∧ sR P 3 k = nI (Ls (sg (e k))) := fun k hk => by
        obtain ⟨g1, g2, g3⟩ := ent k hk
        obtain ⟨j1, j2, j3⟩ := ds_e (SW := SW) (R2 := R2) (R3 := R3) sn (e k) g1 g3
        rw [g2] at j2 j3
        obtain ⟨v2, v3, v0, v4, v5⟩ := rows (e k) g1
        rw [r2, r3, j2, j3, v2, v0]
        exact ⟨rfl, by have := (hBB (sg (e k)) v4).2; omega, rfl⟩
      have pk : ad (sg (e (dsS SW R2 R3 (mu Ds s)).1)) = ad s := by
        obtain ⟨w1, w2, w3⟩ := rw1 _ k1
        rw [r2, k2, q2] at w1
        exact ((nI_eq (by have := (hBB s hs).2; omega) (by omega)).mp w1).symm
      have lk : nI (Ls (sg (e (dsS SW R2 R3 (mu Ds s)).1))) = nI (Ls s) := by
        obtain ⟨w1, w2, w3⟩ := rw1 _ k1
        rw [r3, k3, q0] at w3
        exact w3.symm
      have l34 := ln_34 (n := n) (P := P) (cnt := (dsS SW R2 R3 sn).1) (i := i) (κ := (dsS SW R2 R3 (mu Ds s)).1) (pl := fun k => ad (sg (e k))) (ln := fun k => Ls (sg (e k))) p5 (by omega) rw1 (by omega) k1 (by show ad (sg (e _)) ≤ i; rw [pk]; exact hin'.1) (fun k hk hne hle => by
        show ad (sg (e k)) < ad (sg (e _))
        rw [pk]
        have hle : ad (sg (e k)) ≤ i := hle
        refine Nat.lt_of_not_le (fun w => hne ?_)
        obtain ⟨g1, g2, g3⟩ := ent k hk
        obtain ⟨v2, v3, v0, v4, v5⟩ := rows (e k) g1
        have spos : 0 < sz (sg (e k)) := by
          refine Nat.pos_of_ne_zero (fun w0 => g3 ?_)
          rw [v3, w0]
          decide
        have same := L2 (sg (e k)) s (ad (sg (e k))) v4 hs ⟨Nat.le_refl _, by omega⟩ ⟨w, by omega⟩
        rw [same] at v5
        rw [← g2, v5]) (dsS SW R2 R3 sn).1 0 n none (by omega) (by omega) (Or.inl ⟨rfl, Nat.zero_le _⟩)
      have l34 : df_X8_lineOf_34 n n (nI i) (-1) 0 P = some (nI (Ls s), P) := l34.trans (by rw [lk])
      unfold df_X8_lineOf df_X8_lineOf_0 df_X8_lineOf_30
      rw [if_neg (show ¬ nI i < 0 from znl (b := 0) (Nat.zero_le _) (by omega)), p2, if_neg (znle hi (by omega)), p0]
      rcases gap with w | w
      · rw [if_pos (zlt w (by omega))]
        exact l34
      · rw [if_neg (znl (show (lay Ds Zs BY lv nS).1 ≤ i by omega) (by omega)), p1, if_pos (zle w (by omega))]
        exact l34
    by_cases y : i < ad s + (BB s).length
    · obtain ⟨z, z1, z2, z3⟩ := byte_J (x := (BB s).getD (i - ad s) 0) (l := Ls s) (by omega)
      rw [if_pos y, z3] at eR
      rw [if_pos ⟨hin'.1, y⟩, z2] at eC
      exact ⟨z, Ls s, z1, by omega, eC, eR, lin⟩
    · obtain ⟨z2, z3⟩ := byte_Z (l := Ls s) (by omega)
      rw [if_neg y, z3] at eR
      rw [if_neg (fun w => y w.2), z2] at eC
      exact ⟨0, Ls s, by omega, by omega, eC, eR, lin⟩
  · have no : ∀ t : Nat, t < nS → ¬ (ad t ≤ i ∧ i < ad t + sz t) := fun t ht w => gap (L1 t i ht w)
    have eC : sR P 0 i = vp_nar .byte 0 := by
      rw [r0, imC_o nS (fun t ht w => no t ht ⟨w.1, by have := (hBB t ht).1; omega⟩), f00]
    have eR : rmR (zrL OU fm (szA (lay Ds Zs BY lv nS))) fm ad BB sz Ls nS (fm + i) = 0 := (rmR_o nS (fun t ht => ⟨(hBB t ht).1, no t ht⟩)).trans z00
    refine ⟨0, 0, by omega, by omega, eC.trans (by decide), eR, fun n hn => ?_⟩
    unfold df_X8_lineOf df_X8_lineOf_0 df_X8_lineOf_28
    rw [if_neg (show ¬ nI i < 0 from znl (b := 0) (Nat.zero_le _) (by omega)), p2, if_neg (znle hi (by omega)), p0, if_neg (znl (show (lay Ds Zs BY lv nS).1 ≤ i by omega) (by omega)), p1, if_neg (znle (show i < bsN (lay Ds Zs BY lv nS).1 by omega) (by omega))]
    rfl
