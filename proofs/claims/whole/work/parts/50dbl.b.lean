theorem RS_in (S : St) (w : Int32) : pI (pI (pI (pI S 3 w) 0 0) 2 0) 1 0 = RS S [] 0 0 w (sI S 4) (sI S 5) (sI S 6) (sI S 7) := by
  have e1 : (fun j : Nat => if j = 1 then (0 : Int32) else if j = 2 then 0 else if j = 0 then 0 else if j = 3 then w else S.1 j) = inRS S [] 0 0 w (sI S 4) (sI S 5) (sI S 6) (sI S 7) := by
    funext j
    unfold inRS
    by_cases c0 : j = 0
    · subst c0; rfl
    · by_cases c1 : j = 1
      · subst c1; rfl
      · by_cases c2 : j = 2
        · subst c2; rfl
        · rw [if_neg c1, if_neg c2, if_neg c0, if_neg c0, if_neg c1, if_neg c2]
          by_cases c3 : j = 3
          · rw [if_pos c3, if_pos c3]
          · rw [if_neg c3, if_neg c3]
            by_cases c4 : j = 4
            · subst c4; rfl
            · by_cases c5 : j = 5
              · subst c5; rfl
              · by_cases c6 : j = 6
                · subst c6; rfl
                · by_cases c7 : j = 7
                  · subst c7; rfl
                  · rw [if_neg c4, if_neg c5, if_neg c6, if_neg c7]
  have e2 : (fun j : Nat => if j = 0 then rwS S [] else S.2.2.1 j) = S.2.2.1 := by
    funext j
    by_cases c : j = 0
    · rw [if_pos c, c]
      funext k
      exact if_neg (Nat.not_lt_zero k)
    · rw [if_neg c]
  show ((fun j : Nat => if j = 1 then (0 : Int32) else if j = 2 then 0 else if j = 0 then 0 else if j = 3 then w else S.1 j), S.2.1, S.2.2.1, S.2.2.2) = (inRS S [] 0 0 w (sI S 4) (sI S 5) (sI S 6) (sI S 7), S.2.1, (fun j : Nat => if j = 0 then rwS S [] else S.2.2.1 j), S.2.2.2)
  rw [e1, e2]
theorem al_L {n : Nat} {B : St} {w d0 a0 b0 f0 : Int32} (hn : 30 < n) (hg : ∀ r : Nat, r < 32 → sR B 1 r = rgT r) : ∀ i : Nat, i < 66 → MKp i w → ∃ (k : Nat) (d a b f : Int32), df_X18_longOne n (RS B [] 0 0 w d0 a0 b0 f0) = some (RS B (txL (fun c => tvA c w) i w) k 1 w d a b f)
  | 0, _, hm => rtx_0 hn hg hm
  | 1, _, hm => rtx_1 hn hg hm
  | 2, _, hm => rtx_2 hn hg hm
  | 3, _, hm => rtx_3 hn hg hm
  | 4, _, hm => rtx_4 hn hg hm
  | 5, _, hm => rtx_5 hn hg hm
  | 6, _, hm => rtx_6 hn hg hm
  | 7, _, hm => rtx_7 hn hg hm
  | 8, _, hm => rtx_8 hn hg hm
  | 9, _, hm => rtx_9 hn hg hm
  | 10, _, hm => rtx_10 hn hg hm
  | 11, _, hm => rtx_11 hn hg hm
  | 12, _, hm => rtx_12 hn hg hm
  | 13, _, hm => rtx_13 hn hg hm
  | 14, _, hm => rtx_14 hn hg hm
  | 15, _, hm => rtx_15 hn hg hm
  | 16, _, hm => rtx_16 hn hg hm
  | 17, _, hm => rtx_17 hn hg hm
  | 18, _, hm => rtx_18 hn hg hm
  | 19, _, hm => rtx_19 hn hg hm
  | 20, _, hm => rtx_20 hn hg hm
  | 21, _, hm => rtx_21 hn hg hm
  | 22, _, hm => rtx_22 hn hg hm
  | 23, _, hm => rtx_23 hn hg hm
  | 24, _, hm => rtx_24 hn hg hm
  | 25, _, hm => rtx_25 hn hg hm
  | 26, _, hm => rtx_26 hn hg hm
  | 27, _, hm => rtx_27 hn hg hm
  | 28, _, hm => rtx_28 hn hg hm
  | 29, _, hm => rtx_29 hn hg hm
  | 30, _, hm => rtx_30 hn hg hm
  | 31, _, hm => rtx_31 hn hg hm
  | 32, _, hm => rtx_32 hn hg hm
  | 33, _, hm => rtx_33 hn hg hm
  | 34, _, hm => rtx_34 hn hg hm
  | 35, _, hm => rtx_35 hn hg hm
  | 36, _, hm => rtx_36 hn hg hm
  | 37, _, hm => rtx_37 hn hg hm
  | 38, _, hm => rtx_38 hn hg hm
  | 39, _, hm => rtx_39 hn hg hm
  | 40, _, hm => rtx_40 hn hg hm
  | 41, _, hm => rtx_41 hn hg hm
  | 42, _, hm => rtx_42 hn hg hm
  | 43, _, hm => rtx_43 hn hg hm
  | 44, _, hm => rtx_44 hn hg hm
  | 45, _, hm => rtx_45 hn hg hm
  | 46, _, hm => rtx_46 hn hg hm
  | 47, _, hm => rtx_47 hn hg hm
  | 48, _, hm => rtx_48 hn hg hm
  | 49, _, hm => rtx_49 hn hg hm
  | 50, _, hm => rtx_50 hn hg hm
  | 51, _, hm => rtx_51 hn hg hm
  | 52, _, hm => rtx_52 hn hg hm
  | 53, _, hm => rtx_53 hn hg hm
  | 54, _, hm => rtx_54 hn hg hm
  | 55, _, hm => rtx_55 hn hg hm
  | 56, _, hm => rtx_56 hn hg hm
  | 57, _, hm => rtx_57 hn hg hm
  | 58, _, hm => rtx_58 hn hg hm
  | 59, _, hm => rtx_59 hn hg hm
  | 60, _, hm => rtx_60 hn hg hm
  | 61, _, hm => rtx_61 hn hg hm
  | 62, _, hm => rtx_62 hn hg hm
  | 63, _, hm => rtx_63 hn hg hm
  | 64, _, hm => rtx_64 hn hg hm
  | 65, _, hm => rtx_65 hn hg hm
  | (k + 66), h, _ => absurd h (by omega)
theorem al_first {n : Nat} {B : St} {w a0 b0 : Int32} (hn : 30 < n) (hg : ∀ r : Nat, r < 32 → sR B 1 r = rgT r) : ∀ j : Nat, j < 3 → MKp (66 + j) w → (∀ t : Nat, t < 66 + j → ¬ MKp t w) → ∃ (k : Nat) (d a b f : Int32), df_X18_first n (RS B [] 0 0 w (fpt w 7 5) a0 b0 (fpt w 13 3)) = some (RS B (txL (fun c => tvA c w) (66 + j) w) k 1 w d a b f)
  | 0, _, hm, _ => rtx_66 hn hg hm
  | 1, _, hm, _ => rtx_67 hn hg hm
  | 2, _, hm, _ => rtx_68 hn hg hm
  | (k + 3), h, _, _ => absurd h (by omega)
theorem al_second {n : Nat} {B : St} {w a0 b0 : Int32} (hn : 30 < n) (hg : ∀ r : Nat, r < 32 → sR B 1 r = rgT r) : ∀ j : Nat, j < 16 → MKp (69 + j) w → (∀ t : Nat, t < 69 + j → ¬ MKp t w) → ∃ (k : Nat) (d a b f : Int32), df_X18_second n (RS B [] 0 0 w (fpt w 7 5) a0 b0 (fpt w 13 3)) = some (RS B (txL (fun c => tvA c w) (69 + j) w) k 1 w d a b f)
  | 0, _, hm, _ => rtx_69 hn hg hm
  | 1, _, hm, hf => rtx_70 hn hg hm (fun z => hf 69 (by decide) (mkpI (show w &&& nI 4294967295 = nI 1 by rw [z]; decide) (by decide +kernel) (by decide +kernel) (by rw [show strL (ko_f 69) = [] from by decide +kernel]; rfl)))
  | 2, _, hm, _ => rtx_71 hn hg hm
  | 3, _, hm, _ => rtx_72 hn hg hm
  | 4, _, hm, _ => rtx_73 hn hg hm
  | 5, _, hm, _ => rtx_74 hn hg hm
  | 6, _, hm, _ => rtx_75 hn hg hm
  | 7, _, hm, _ => rtx_76 hn hg hm
  | 8, _, hm, _ => rtx_77 hn hg hm
  | 9, _, hm, _ => rtx_78 hn hg hm
  | 10, _, hm, _ => rtx_79 hn hg hm
  | 11, _, hm, _ => rtx_80 hn hg hm
  | 12, _, hm, _ => rtx_81 hn hg hm
  | 13, _, hm, _ => rtx_82 hn hg hm
  | 14, _, hm, _ => rtx_83 hn hg hm
  | 15, _, hm, _ => rtx_84 hn hg hm
  | (k + 16), h, _, _ => absurd h (by omega)
theorem al_third {n : Nat} {B : St} {w a0 b0 : Int32} (hn : 30 < n) (hg : ∀ r : Nat, r < 32 → sR B 1 r = rgT r) : ∀ j : Nat, j < 8 → MKp (85 + j) w → (∀ t : Nat, t < 85 + j → ¬ MKp t w) → ∃ (k : Nat) (d a b f : Int32), df_X18_third n (RS B [] 0 0 w (fpt w 7 5) a0 b0 (fpt w 13 3)) = some (RS B (txL (fun c => tvA c w) (85 + j) w) k 1 w d a b f)
  | 0, _, hm, _ => rtx_85 hn hg hm
  | 1, _, hm, _ => rtx_86 hn hg hm
  | 2, _, hm, _ => rtx_87 hn hg hm
  | 3, _, hm, _ => rtx_88 hn hg hm
  | 4, _, hm, _ => rtx_89 hn hg hm
  | 5, _, hm, _ => rtx_90 hn hg hm
  | 6, _, hm, _ => rtx_91 hn hg hm
  | 7, _, hm, _ => rtx_92 hn hg hm
  | (k + 8), h, _, _ => absurd h (by omega)
theorem kb_3 : ∀ i : Fin 93, ko_b i.1 &&& nI 3 = nI (if i.1 < 66 then 3 else if i.1 < 69 then 0 else if i.1 < 85 then 1 else 2) ∧ kmT i.1 &&& 3 = 3 := by decide +kernel
theorem un_0 {n : Nat} {S : St} {w : Int32} (y : Int32) : df_X18_understand_15 n y (pI S 3 w) = if y = 0 then (if w &&& 3 = 0 then (nd_b1 (df_X18_first n (RS S [] 0 0 w (fpt w 7 5) (sI S 5) (sI S 6) (fpt w 13 3))) (fun s => df_X18_understand_101 n y s)) else (if w &&& 3 = 1 then (nd_b1 (df_X18_second n (RS S [] 0 0 w (fpt w 7 5) (sI S 5) (sI S 6) (fpt w 13 3))) (fun s => df_X18_understand_101 n y s)) else (nd_b1 (df_X18_third n (RS S [] 0 0 w (fpt w 7 5) (sI S 5) (sI S 6) (fpt w 13 3))) (fun s => df_X18_understand_101 n y s)))) else (nd_b1 (df_X18_longOne n (RS S [] 0 0 w (fpt w 7 5) (sI S 5) (sI S 6) (fpt w 13 3))) (fun s => df_X18_understand_101 n y s)) := by
  unfold df_X18_understand_15
  rw [nb_let, nb_let, nb_let, RS_in, show df_X18_part n 7 5 (RS S _ _ _ w _ _ _ _) = some (fpt w 7 5, _) from pt_S (q := 7) (m := 5) (by decide), nb_b2, nb_let, RS_w4, show df_X18_part n 13 3 (RS S _ _ _ w _ _ _ _) = some (fpt w 13 3, _) from pt_S (q := 13) (m := 3) (by decide), nb_b2, nb_let, RS_w7, RS_3]
theorem un_e {n : Nat} {B : St} {L : List Nat} {k : Nat} {w d a b f y : Int32} : df_X18_understand_101 n y (RS B L k 1 w d a b f) = some (RS B L k 1 w d a b f) := by
  unfold df_X18_understand_101
  rw [RS_2, if_neg (by decide)]
theorem un_y {n : Nat} {S : St} {w : Int32} {i : Nat} (hn : 30 < n) (hg : ∀ r : Nat, r < 32 → sR S 1 r = rgT r) (hi : i < 93) (hm : MKp i w) (hf : ∀ t : Nat, t < i → ¬ MKp t w) : ∃ (k l : Nat) (d a b f : Int32), df_X18_understand n (pI S 3 w) = some (RS S (txL (fun c => tvA c w) i w) k l w d a b f) := by
  have k3 := kb_3 ⟨i, hi⟩
  have e3 : w &&& nI 3 = nI (if i < 66 then 3 else if i < 69 then 0 else if i < 85 then 1 else 2) := (sub_3 hm.2 k3.2).trans k3.1
  unfold df_X18_understand df_X18_understand_0
  rw [show sI (pI S 3 w) 3 = w from rfl]
  by_cases c1 : i < 66
  · rw [if_pos c1] at e3
    obtain ⟨k, d, a, b, f, r⟩ := al_L (d0 := fpt w 7 5) (a0 := sI S 5) (b0 := sI S 6) (f0 := fpt w 13 3) hn hg i c1 hm
    exact ⟨k, 1, d, a, b, f, by rw [if_pos (show w &&& (3 : Int32) = 3 from e3), un_0, if_neg (by decide), r, nb_b1, un_e]⟩
  · rw [if_neg c1] at e3
    by_cases c2 : i < 69
    · rw [if_pos c2] at e3
      have e3 : w &&& (3 : Int32) = 0 := e3
      obtain ⟨j, rfl⟩ : ∃ j : Nat, i = 66 + j := ⟨i - 66, by omega⟩
      obtain ⟨k, d, a, b, f, r⟩ := al_first (a0 := sI S 5) (b0 := sI S 6) hn hg j (by omega) hm hf
      exact ⟨k, 1, d, a, b, f, by rw [e3, if_neg (by decide), un_0, if_pos rfl, e3, if_pos rfl, r, nb_b1, un_e]⟩
    · rw [if_neg c2] at e3
      by_cases c3 : i < 85
      · rw [if_pos c3] at e3
        have e3 : w &&& (3 : Int32) = 1 := e3
        obtain ⟨j, rfl⟩ : ∃ j : Nat, i = 69 + j := ⟨i - 69, by omega⟩
        obtain ⟨k, d, a, b, f, r⟩ := al_second (a0 := sI S 5) (b0 := sI S 6) hn hg j (by omega) hm hf
        exact ⟨k, 1, d, a, b, f, by rw [e3, if_neg (by decide), un_0, if_pos rfl, e3, if_neg (by decide), if_pos rfl, r, nb_b1, un_e]⟩
      · rw [if_neg c3] at e3
        have e3 : w &&& (3 : Int32) = 2 := e3
        obtain ⟨j, rfl⟩ : ∃ j : Nat, i = 85 + j := ⟨i - 85, by omega⟩
        obtain ⟨k, d, a, b, f, r⟩ := al_third (a0 := sI S 5) (b0 := sI S 6) hn hg j (by omega) hm hf
        exact ⟨k, 1, d, a, b, f, by rw [e3, if_neg (by decide), un_0, if_pos rfl, e3, if_neg (by decide), if_neg (by decide), r, nb_b1, un_e]⟩
def uwL (y : Int32) (A : Nat) : List Nat := (if y = 3 then [46, 119, 111, 114, 100, 32] else [46, 104, 97, 108, 102, 32]) ++ dgL A
theorem un_w {n : Nat} {B : St} {w d a b f : Int32} {A : Nat} (hn : 20 < n) (hA : A < 2 ^ 32) (ew : w = nI A) : (∃ k : Nat, df_X18_understand_101 n 1 (RS B [] 0 0 w d a b f) = some (RS B (uwL 3 A) k 0 w d a b f)) ∧ (∃ k : Nat, df_X18_understand_101 n 0 (RS B [] 0 0 w d a b f) = some (RS B (uwL 0 A) k 0 w d a b f)) := by
  have hn10 : 10 < n := by omega
  have v : (w.toInt64 &&& 4294967295).toInt = (A : Int) := by
    rw [ew, nm_pl hA]
    exact Int64.toInt_ofNat_of_lt (by omega)
  unfold df_X18_understand_101 df_X18_understand_123
  rw [RS_2, if_pos (by rfl), if_neg (by decide), if_pos (by rfl), if_pos (by rfl), sw_431416637230 hn10 (by (try simp only [List.length_append, List.length_cons, List.length_nil, nxl_0, nxl_s]); omega), nb_b1, nx_S (by decide) (by (try simp only [List.length_append, List.length_cons, List.length_nil, nxl_0, nxl_s]); omega), nb_b1, RS_3, di_S hn v (by omega) (by (try simp only [List.length_append, List.length_cons, List.length_nil, nxl_0, nxl_s]); omega), nb_b1, sw_439904987182 hn10 (by (try simp only [List.length_append, List.length_cons, List.length_nil, nxl_0, nxl_s]); omega), nb_b1, nx_S (by decide) (by (try simp only [List.length_append, List.length_cons, List.length_nil, nxl_0, nxl_s]); omega), nb_b1, RS_3, di_S hn v (by omega) (by (try simp only [List.length_append, List.length_cons, List.length_nil, nxl_0, nxl_s]); omega), nb_b1]
  exact ⟨⟨_, rfl⟩, ⟨_, rfl⟩⟩
theorem un_n {n : Nat} {S : St} {w : Int32} {A : Nat} (hn : 30 < n) (hA : A < 2 ^ 32) (ew : w = nI A) (hs : w &&& (3 : Int32) = 3 ∨ w &&& nI 4294901760 = nI 0) (h : ∀ t : Nat, t < 93 → ¬ MKp t w) : ∃ (k l : Nat) (d a b f : Int32), df_X18_understand n (pI S 3 w) = some (RS S (uwL (w &&& 3) A) k l w d a b f) := by
  unfold df_X18_understand df_X18_understand_0
  rw [show sI (pI S 3 w) 3 = w from rfl]
  by_cases c : w &&& (3 : Int32) = 3
  · obtain ⟨k, r⟩ := (un_w (B := S) (d := fpt w 7 5) (a := fpt w 15 5) (b := fpt w 20 5) (f := fpt w 12 3) (n := n) (by omega) hA ew).1
    exact ⟨k, 0, _, _, _, _, by rw [if_pos c, un_0, if_neg (by decide), np_long h, nb_b1, r, c]⟩
  · have hs := hs.resolve_left c
    obtain ⟨F, hF, f3⟩ := pt_n (w := w) (k := 13) (m := 3) (by decide) (by decide)
    have hF : F < 8 := hF
    obtain ⟨D, hD, eD⟩ := pt_n (w := w) (k := 7) (m := 5) (by decide) (by decide)
    have hD : D < 32 := hD
    obtain ⟨Z, hZ, eZ⟩ := pt_n (w := w) (k := 2) (m := 5) (by decide) (by decide)
    have hZ : Z < 32 := hZ
    have u3 : ∀ y : Int32, ¬ y = 3 → uwL y A = uwL 0 A := fun y hy => by
      unfold uwL
      rw [if_neg hy, if_neg (by decide)]
    have q3 : w &&& (3 : Int32) = nI (A % 4) := by rw [ew]; exact nm_m3 hA
    by_cases c0 : w &&& (3 : Int32) = 0
    · obtain ⟨k, r⟩ := (un_w (B := S) (d := nI D) (a := sI S 5) (b := sI S 6) (f := nI F) (n := n) (by omega) hA ew).2
      exact ⟨k, 0, _, _, _, _, by rw [u3 _ c, if_neg c, un_0, if_pos rfl, if_pos c0, f3, eD, nq_first hs c0 h hF f3 hD eD, nb_b1, r]⟩
    · by_cases c1 : w &&& (3 : Int32) = 1
      · obtain ⟨k, r⟩ := (un_w (B := S) (d := nI D) (a := sI S 5) (b := sI S 6) (f := nI F) (n := n) (by omega) hA ew).2
        exact ⟨k, 0, _, _, _, _, by rw [u3 _ c, if_neg c, un_0, if_pos rfl, if_neg c0, if_pos c1, f3, eD, nq_second hs c1 h hF f3 hD eD, nb_b1, r]⟩
      · have c2 : w &&& nI 3 = nI 2 := by
          have q3' : w &&& nI 3 = nI (A % 4) := q3
          have : A % 4 = 2 := by
            have l : A % 4 < 4 := Nat.mod_lt _ (by decide)
            obtain z | z | z | z : A % 4 = 0 ∨ A % 4 = 1 ∨ A % 4 = 2 ∨ A % 4 = 3 := by omega
            · exact absurd (q3.trans (by rw [z]; rfl)) c0
            · exact absurd (q3.trans (by rw [z]; rfl)) c1
            · exact z
            · exact absurd (q3.trans (by rw [z]; rfl)) c
          rw [q3', this]
        obtain ⟨k, r⟩ := (un_w (B := S) (d := nI D) (a := sI S 5) (b := nI Z) (f := nI F) (n := n) (by omega) hA ew).2
        exact ⟨k, 0, _, _, _, _, by rw [u3 _ c, if_neg c, un_0, if_pos rfl, if_neg c0, if_neg c1, f3, eD, nq_third hZ eZ hs c2 h hF f3 hD eD, nb_b1, r]⟩
theorem st_w : strL 15 = [46, 119, 111, 114, 100, 32] ∧ strL 16 = [46, 104, 97, 108, 102, 32] ∧ ks_n 15 = 6 ∧ ks_n 16 = 6 := by decide +kernel
theorem sp_69 {n : Nat} {τ : Sb} {w : Int32} {A q : Nat} {Q : List Nat} (hn : 20 < n) (hA : A < 2 ^ 32) (ew : w = nI A) (hq : q < 190) (hk : ks_n q = 6) (hQ : strL q = Q) (lQ : Q.length = 6) (h : BL τ []) : ∃ τ' : Sb, df_X7_spell_69 n w q τ = some τ' ∧ BL τ' (Q ++ dgL A) := by
  have q10 := l10
  have v : (w.toInt64 &&& 4294967295).toInt = (A : Int) := by
    rw [ew, nm_pl hA]
    exact Int64.toInt_ofNat_of_lt (by omega)
  obtain ⟨τ1, a1, a2⟩ := ap_S (n := n) (i := q) h hq (by show 0 + _ ≤ 34; omega)
  rw [List.nil_append, hQ] at a2
  have t1 := lq_1 v q10.1 (by omega)
  have t2 := lm_1 t1 q10.1 (by omega)
  have t3 := ls_1 v t2 (by omega) (by omega)
  have nmv : ∀ k : Nat, k < 2 ^ 31 → nI k ≠ Int32.minValue := fun k hk z => by
    have z := congrArg Int32.toInt z
    rw [nI_toInt hk] at z
    have : Int32.minValue.toInt = -2147483648 := by decide
    omega
  have e1 : ((w.toInt64 &&& 4294967295) - (w.toInt64 &&& 4294967295) / 10 * 10).toInt32 = nI (A % 10) := by
    rw [l3_1 t3 (by omega)]
    congr 1
    omega
  have e2 : ((w.toInt64 &&& 4294967295) / 10).toInt32 = nI (A / 10) := l3_1 t1 (by omega)
  unfold df_X7_spell_69 df_X7_spell_99
  rw [a1, nb_b1, nb_let, e1, e2]
  have d1 : decI (nI (A % 10)) = [48 + A % 10] := by rw [de_p (by omega), dg_0 (by omega)]
  by_cases c : A ≤ 9
  · obtain ⟨τ2, b1, b2⟩ := ap_I (n := n) (v := nI (A % 10)) hn a2 (nmv _ (by omega)) (by rw [d1, lQ]; show 6 + 1 ≤ 34; decide)
    refine ⟨τ2, ?_, ?_⟩
    · rw [if_pos (by rw [lcD, v, q10.2.2.2.1]; omega), b1, nb_b1]
    · rw [d1] at b2
      rw [dg_0 (show A < 10 by omega)]
      rw [Nat.mod_eq_of_lt (show A < 10 by omega)] at b2
      exact b2
  · have d2 : decI (nI (A / 10)) = dgL (A / 10) := de_p (by omega)
    have l2 : (dgL (A / 10)).length ≤ 10 := dg_l10 (by omega)
    obtain ⟨τ2, b1, b2⟩ := ap_I (n := n) (v := nI (A / 10)) hn a2 (nmv _ (by omega)) (by rw [d2, lQ]; omega)
    rw [d2] at b2
    obtain ⟨τ3, b3, b4⟩ := ap_I (n := n) (v := nI (A % 10)) hn b2 (nmv _ (by omega)) (by rw [d1, List.length_append, lQ]; show 6 + _ + 1 ≤ 34; omega)
    refine ⟨τ3, ?_, ?_⟩
    · rw [if_neg (by rw [lcD, v, q10.2.2.2.1]; omega), b1, nb_b1, b3, nb_b1]
    · rw [d1, List.append_assoc, ← dg_s (by omega) (by omega)] at b4
      exact b4
theorem lst_1 {p : Nat → Prop} : ∀ m : Nat, (∀ t : Nat, t < m → ¬ p t) ∨ ∃ i : Nat, i < m ∧ p i ∧ ∀ t : Nat, t < i → ¬ p t := fun m => by
  induction m with
  | zero => exact Or.inl (fun t h => absurd h (Nat.not_lt_zero t))
  | succ m ih =>
    rcases ih with h | ⟨i, h1, h2, h3⟩
    · by_cases c : p m
      · exact Or.inr ⟨m, Nat.lt_succ_self m, c, h⟩
      · refine Or.inl (fun t ht => ?_)
        by_cases e : t = m
        · rw [e]; exact c
        · exact h t (by omega)
    · exact Or.inr ⟨i, Nat.lt_succ_of_lt h1, h2, h3⟩
theorem st_x (i : Nat) : ∀ x ∈ strL i, x < 128 := fun x hx => by
  obtain ⟨j, hj, e⟩ := List.getElem_of_mem hx
  have h := st_l (i := i) (j := j) (by rw [← st_n]; exact hj)
  rw [List.getD_eq_getElem?_getD, List.getElem?_eq_getElem hj, Option.getD_some, e] at h
  exact h
theorem rg_x : ∀ r : Fin 32, ∀ x ∈ regL r.1, x < 128 := by decide +kernel
theorem op_x {n : Nat} {w : Int32} {c : Nat} {v : Int32} (h : OKv n w c v) : ∀ x ∈ oper c v, x < 128 := fun x hx => by
  unfold oper at hx
  by_cases c1 : c < 65
  · rw [if_pos c1] at hx
    unfold sepL at hx
    split at hx
    · exact st_x _ x hx
    · split at hx
      · exact st_x _ x hx
      · exact st_x _ x hx
  · rw [if_neg c1] at hx
    have q := (h.2 (by omega)).2
    by_cases c2 : 97 ≤ c
    · rw [if_pos c2] at hx
      obtain ⟨r, hr, e⟩ := q.1 c2
      rw [e, nI_clamp (by omega)] at hx
      exact rg_x ⟨r, hr⟩ x hx
    · rw [if_neg c2] at hx
      rcases List.mem_append.mp hx with z | z
      · split at z
        · split at z
          · exact st_x _ x z
          · exact st_x _ x z
        · exact st_x _ x z
      · exact de_x (q.2 (by omega)) x z
theorem wrT_x {n : Nat} {w : Int32} {V : Nat → Int32} : ∀ F : List Nat, (∀ c ∈ F, OKv n w c (V c)) → ∀ x ∈ wrT V F, x < 128 := fun F => by
  induction F with
  | nil => intro _ x hx; exact absurd hx List.not_mem_nil
  | cons c r ih =>
    intro h x hx
    have hx : x ∈ oper c (V c) ++ wrT V r := hx
    rcases List.mem_append.mp hx with z | z
    · exact op_x (h c (List.mem_cons_self ..)) x z
    · exact ih (fun c' hc' => h c' (List.mem_cons_of_mem _ hc')) x z
theorem txL_x (w : Int32) {i : Nat} (hi : i < 93) : ∀ x ∈ txL (fun c => tvA c w) i w, x < 128 := fun x hx => by
  obtain ⟨-, -, -, -, -, k6⟩ := km_1 ⟨i, hi⟩
  have hO : ∀ c ∈ strL (ko_f i), OKv 131 w c (tvA c w) := fun c hc => ok_v (by omega) w (by
    have := List.all_eq_true.mp k6 c hc
    rcases (Bool.or_eq_true _ _).mp this with z | z
    · exact Or.inl (of_decide_eq_true z)
    · exact Or.inr (of_decide_eq_true z))
  unfold txL at hx
  rcases List.mem_append.mp hx with z | z
  · exact st_x _ x z
  · rcases List.mem_append.mp z with z | z
    · unfold sfxL at z
      split at z
      · split at z
        · exact absurd z List.not_mem_nil
        · split at z
          · exact st_x _ x z
          · split at z
            · exact st_x _ x z
            · exact st_x _ x z
      · exact absurd z List.not_mem_nil
    · rcases List.mem_append.mp z with z | z
      · split at z
        · rcases List.mem_cons.mp z with e | e
          · rw [e]; decide
          · exact absurd e List.not_mem_nil
        · exact absurd z List.not_mem_nil
      · exact wrT_x _ hO x z
/-- every word has one text: the reference's letters and the class's -/
theorem text_1 (w : Int32) (hs : w &&& (3 : Int32) = 3 ∨ w &&& nI 4294901760 = nI 0) : ∃ T : List Nat, (∀ (n : Nat) (S : St), 30 < n → (∀ r : Nat, r < 32 → sR S 1 r = rgT r) → ∃ (k l : Nat) (d a b f : Int32), df_X18_understand n (pI S 3 w) = some (RS S T k l w d a b f)) ∧ (∀ (n : Nat) (τ : Sb), 130 < n → BL τ [] → ∃ τ' : Sb, df_X7_spell n w τ = some τ' ∧ BL τ' T) ∧ (∀ x ∈ T, x < 128) := by
  rcases lst_1 (p := fun i => MKp i w) 93 with h | ⟨i, hi, hm, hf⟩
  · obtain ⟨A, hA, ew⟩ := nI_ex w
    refine ⟨uwL (w &&& 3) A, fun n S hn _ => un_n hn hA ew hs h, fun n τ hn hb => ?_, fun x hx => ?_⟩
    rotate_left
    · unfold uwL at hx
      rcases List.mem_append.mp hx with z | z
      · have q : ∀ y ∈ (if w &&& (3 : Int32) = 3 then [46, 119, 111, 114, 100, 32] else [46, 104, 97, 108, 102, 32]), y < 128 := by split <;> decide
        exact q x z
      · have := (dg_x 10 A x z).2
        omega
    have s1 : df_X7_spell n w τ = df_X7_spell_69 n w (if (w &&& 3 : Int32) = 3 then 15 else 16) τ := sp_n (n := n) (by omega) h 128 0 n rfl (by omega)
    rw [s1]
    unfold uwL
    by_cases c : (w &&& 3 : Int32) = 3
    · rw [if_pos c, if_pos c]
      exact sp_69 (by omega) hA ew (by decide) st_w.2.2.1 st_w.1 rfl hb
    · rw [if_neg c, if_neg c]
      exact sp_69 (by omega) hA ew (by decide) st_w.2.2.2 st_w.2.1 rfl hb
  · refine ⟨txL (fun c => tvA c w) i w, fun n S hn hg => un_y hn hg hi hm hf, fun n τ hn hb => ?_, txL_x w hi⟩
    obtain ⟨-, -, -, -, -, k6⟩ := km_1 ⟨i, hi⟩
    have hO : ∀ c ∈ strL (ko_f i), OKv n w c (tvA c w) := fun c hc => ok_v (by omega) w (by
      have := List.all_eq_true.mp k6 c hc
      rcases (Bool.or_eq_true _ _).mp this with z | z
      · exact Or.inl (of_decide_eq_true z)
      · exact Or.inr (of_decide_eq_true z))
    obtain ⟨τ', b1, b2⟩ := wr_1 (n := n) (V := fun c => tvA c w) (by omega) hi hO hb
    refine ⟨τ', ?_, b2⟩
    show df_X7_spell_2 n n w (nI 0) τ = _
    rw [sp_y (by omega) hi hm i 0 n (Nat.zero_add i) (by omega) (fun t _ h2 => hf t h2), b1, nb_b1]

/-- the builder between two calls -/
def BW (τ : Sb) : Prop := ∃ N : Nat, sI τ.2.2 0 = 0 ∧ sI τ.2.2 2 = nI N ∧ N ≤ τ.1 ∧ (τ.1 = 16 ∨ τ.1 = 34) ∧ ∀ j : Nat, fits .byte (.int (sR τ.2.2 0 j)) = true
theorem BL_W {τ : Sb} {T : List Nat} (h : BL τ T) : BW τ := ⟨T.length, h.1.1, h.1.2.1, h.1.2.2.1, h.1.2.2.2.1.elim (fun z => Or.inl z.1) Or.inr, h.1.2.2.2.2⟩
theorem BL_34 {τ : Sb} {T : List Nat} (h : BL τ T) : T.length ≤ 34 := by
  have a := h.1.2.2.1
  rcases h.1.2.2.2.1 with z | z
  · have := z.1; omega
  · omega
theorem slen_1 {n : Nat} {τ : Sb} (h : BW τ) : ∃ σ1 : St, df_J4_setLength_d00df n τ.1 0 τ.2.2 = some σ1 ∧ BL (τ.1, (0, σ1)) [] := by
  obtain ⟨N, c0, c2, cN, cm, cf⟩ := h
  have hN : N ≤ 34 := by omega
  have ez : df_J5_ensureCapacityInternal_d00df_z n τ.1 0 τ.2.2 = some τ.2.2 := by
    unfold df_J5_ensureCapacityInternal_d00df_z df_J5_ensureCapacityInternal_d00df_z_0 df_J5_ensureCapacityInternal_d00df_z_38
    rw [nb_let, nb_let, c0]
    rcases cm with e | e
    · rw [e, if_pos (by decide)]
    · rw [e, if_pos (by decide)]
  have bl : ∀ S : St, sI S 0 = 0 → (∀ j : Nat, sR S 0 j = sR τ.2.2 0 j) → BL (τ.1, (0, pI S 2 0)) [] := fun S h0 hr => by
    refine ⟨⟨h0, rfl, Nat.zero_le _, ?_, fun j => ?_⟩, fun j hj => absurd hj (Nat.not_lt_zero j)⟩
    · rcases cm with e | e
      · exact Or.inl ⟨e, rfl⟩
      · exact Or.inr e
    · show fits .byte (.int (sR S 0 j)) = true
      rw [hr j]
      exact cf j
  unfold df_J4_setLength_d00df df_J4_setLength_d00df_0 df_J5_setLength_d00df df_J5_setLength_d00df_0 df_J5_setLength_d00df_76
  rw [if_pos (by decide), ez, nb_b1, c2, if_pos (show (0 : Int32) ≤ nI N from (nI_leI (a := 0) (by omega) (by omega)).mpr (Nat.zero_le _))]
  by_cases z : nI N ≤ 0
  · rw [if_pos z]
    exact ⟨_, rfl, bl τ.2.2 c0 (fun _ => rfl)⟩
  · rw [if_neg z]
    exact ⟨_, rfl, bl (pI τ.2.2 1 1) c0 (fun _ => rfl)⟩
theorem chr_2 : ∀ k : Fin 128, ((nI k.1 &&& 255 : Int32).toUInt32.toUInt16.toUInt32.toInt32) = nI k.1 := by decide +kernel
theorem nz_c : ∀ k : Fin 128, ∀ (α : Type) (x : Option α), nd_z .char (nI k.1) x = x := fun k α x => if_pos (by
  have h : ∀ k : Fin 128, vp_nar .char (nI k.1) = nI k.1 := by decide +kernel
  exact h k)
theorem chA_1 {n c : Nat} {τ : Sb} {T : List Nat} (h : BL τ T) (hx : ∀ x ∈ T, x < 128) (hc : c < T.length) : df_J4_charAt_5068e n τ.1 (nI c) τ.2.2 = some (nI (T.getD c 0), τ.2.2) := by
  have h34 := BL_34 h
  obtain ⟨⟨c0, c2, cN, cm, cf⟩, cr⟩ := h
  have x8 : T.getD c 0 < 128 := by
    rw [List.getD_eq_getElem?_getD, List.getElem?_eq_getElem hc, Option.getD_some]
    exact hx _ (List.getElem_mem hc)
  have m34 : τ.1 ≤ 34 := by omega
  have e1 : ((Int32.ofNat τ.1 : Int32) >>> ((0 : Int32) &&& 31)) = nI τ.1 := by
    rcases cm with e | e
    · rw [e.1]; decide
    · rw [e]; decide
  unfold df_J4_charAt_5068e df_J4_charAt_5068e_0 df_J5_charAt_5068e df_J5_charAt_5068e_0 df_J0_checkIndex_df160 df_J0_checkIndex_df160_0 df_J3_checkIndex_8e157 df_J3_checkIndex_8e157_0
  rw [nb_let, nb_let, nb_let, c0, c2, e1, if_neg (show ¬ nI τ.1 < nI T.length from fun z => by rw [nI_ltI (by omega) (by omega)] at z; omega), if_neg (show ¬ nI c < 0 from znl (b := 0) (Nat.zero_le _) (by omega)), if_pos (show nI c < nI T.length from (nI_ltI (by omega) (by omega)).mpr hc), nb_b2, nb_b1, if_pos rfl, nm_ck (by omega) (by omega), nI_clamp (by omega), cr c hc, chr_2 ⟨_, x8⟩, nz_c ⟨_, x8⟩, nb_b2, nz_c ⟨_, x8⟩]
theorem lenA_1 {n : Nat} {τ : Sb} {T : List Nat} (h : BL τ T) : df_J4_length_8abf5 n τ.1 τ.2.2 = some (nI T.length, τ.2.2) := by
  unfold df_J4_length_8abf5 df_J4_length_8abf5_0 df_J5_length_8abf5 df_J5_length_8abf5_0
  rw [nb_b2, h.1.2.1]
/-- what both do with a word: the class's end of text, the reference's read and letter -/
theorem tend_1 {n : Nat} {w c : Int32} {τ : Sb} {S : St} {σ : S12} (hn : 130 < n) (hs : w &&& (3 : Int32) = 3 ∨ w &&& nI 4294901760 = nI 0) (hg : ∀ r : Nat, r < 32 → sR S 1 r = rgT r) (hb : BW τ) (hc : ¬ c < 0) : ∃ (v : Int32) (τ' : Sb) (m : Int32) (S' : St), df_X12_text_94 n c w σ τ = some (v, (σ, τ')) ∧ BW τ' ∧ df_X18_understand n (pI S 3 w) = some S' ∧ sI S' 0 = m ∧ sR S' 1 = sR S 1 ∧ ((¬ c < m ∧ v = -1) ∨ (c < m ∧ df_X18_letter n c S' = some (v, S'))) := by
  obtain ⟨T, hR, hC, hx⟩ := text_1 w hs
  obtain ⟨σ1, a1, a2⟩ := slen_1 (n := n) hb
  obtain ⟨τ2, b1, b2⟩ := hC n (τ.1, (0, σ1)) hn a2
  obtain ⟨k, l, d, a, b, f, r1⟩ := hR n S (by omega) hg
  have l34 := BL_34 b2
  obtain ⟨q, hq, eq⟩ := nI_ex c
  unfold df_X12_text_94
  rw [a1, nb_b1, b1, nb_b1, lenA_1 b2, nb_b2]
  by_cases z : c < nI T.length
  · have hq1 : q < 2 ^ 31 := by
      rw [eq, lz_0 hq] at hc
      omega
    have hq2 : q < T.length := by
      rw [eq, nI_ltI hq1 (by omega)] at z
      exact z
    refine ⟨nI (T.getD q 0), τ2, nI T.length, _, ?_, BL_W b2, r1, rfl, rfl, Or.inr ⟨z, ?_⟩⟩
    · rw [if_neg (show ¬ nI T.length ≤ c from fun y => by rw [eq, nI_leI (by omega) hq1] at y; omega), eq, chA_1 b2 hx hq2, nb_b2]
    · unfold df_X18_letter df_X18_letter_0
      rw [eq, nm_ck (show q < 64 by omega) (by omega), nI_clamp (by omega), RS_r0]
      show some ((if q < T.length then nI (T.getD q 0) else sR S 0 q), _) = _
      rw [if_pos hq2]
  · refine ⟨-1, τ2, nI T.length, _, ?_, BL_W b2, r1, rfl, rfl, Or.inl ⟨z, rfl⟩⟩
    rw [if_pos (Int32.not_lt.mp z)]

theorem ma_47 {X : St × St} {p A : Nat} (c : ma X p A 4 = true) : ma X p A 7 = true := by
  unfold ma mb at c ⊢
  rw [Bool.and_eq_true, Bool.and_eq_true, decide_eq_true_eq, decide_eq_true_eq, decide_eq_true_eq] at c ⊢
  refine ⟨c.1, c.2.1, fun z => c.2.2 ?_⟩
  generalize (sR X.1 17 (64 * p + A / 1024)).toNatClampNeg = r at z ⊢
  rw [show r &&& 4 = (r &&& 7) &&& 4 by rw [Nat.and_assoc]; rfl, z, Nat.zero_and]
theorem pk_4 (n : Nat) {M X : St × St} (h : rK M X) {p A : Nat} (hp : p < 16) (c : ma X p A 4 = true) : A < 65536 ∧ df_X16_peek n (nI p) (nI A) X = some (bw (wd4 X p A) (8 * (A % 4)), X) ∧ df_X6_halfAt n (nI p) (nI A) M = some (hw (wd4 X p A) (8 * (A / 2 % 2 * 2)), M) := by
  obtain ⟨hA, f, hf, e⟩ := ma_ex h hp c
  obtain ⟨r1, r2, -⟩ := nk_rd n h hp hA hf e
  refine ⟨hA, ?_, r2⟩
  rcases nb_peekIn n hp hA M X (rK_e h) with ⟨k1, -⟩ | ⟨v, -, k2, k3⟩
  · have m7 := (nk_may n h hp (A := A) (by omega) (q := 7) (by omega)).1
    rw [ma_47 c] at m7
    have k1 : df_X6_may n (nI p) (nI A) (nI 7) M = some (0, M) := k1
    rw [m7] at k1
    exact absurd (show bI true = (0 : Int32) from congrArg Prod.fst (Option.some.inj k1)) (by decide)
  · rw [k2] at r1
    rw [k3, show v = bw (wd4 X p A) (8 * (A % 4)) from congrArg Prod.fst (Option.some.inj r1)]
theorem shl_o (a b : Int32) : (a ||| (b <<< nI 8)) <<< nI 16 = (a <<< nI 16) ||| (b <<< nI 24) := by
  (apply gb_ext; apply all32; simp (disch := decide) only [gb_or, gb_and, gb_xor, gb_shl, gb_shr, gb_ush, gb_n, gb_m, gb_hi, Nat.reduceAdd, Nat.reduceSub, Nat.reduceLT, Nat.reduceLeDiff, Nat.testBit, Nat.reduceShiftRight, Nat.reduceBNe, Nat.reduceAnd, Nat.one_and_eq_mod_two, Nat.reduceMod, decide_true, decide_false, Bool.and_true, Bool.true_and, Bool.and_false, Bool.false_and, Bool.or_false, Bool.false_or, Bool.or_true, Bool.true_or, Bool.not_true, Bool.not_false, Bool.xor_true, Bool.xor_false, Bool.true_xor, Bool.false_xor, if_true, if_false, ↓reduceIte, and_self, bne_self_eq_false, Bool.or_self, Bool.and_self, Bool.not_not])
/-- the word of memory that an instruction at A is: both find it, or neither -/
theorem ins_1 (n : Nat) {M X : St × St} (h : rK M X) {p A : Nat} (hp : p < 16) (hA : A < 2 ^ 32) (he : A % 2 = 0) : (df_X6_may n (nI p) (nI A) 4 M = some (0, M) ∧ df_X16_instruction n (nI p) (nI A) X = some (-1, X)) ∨ ∃ H : Int32, df_X6_may n (nI p) (nI A) 4 M = some (1, M) ∧ df_X6_halfAt n (nI p) (nI A) M = some (H, M) ∧ H &&& nI 4294901760 = nI 0 ∧ ((¬ H &&& 3 = 3 ∧ df_X16_instruction n (nI p) (nI A) X = some (H.toInt64, X)) ∨ (H &&& 3 = 3 ∧ df_X6_may n (nI p) (nI A + 2) 4 M = some (0, M) ∧ df_X16_instruction n (nI p) (nI A) X = some (-1, X)) ∨ (H &&& 3 = 3 ∧ df_X6_may n (nI p) (nI A + 2) 4 M = some (1, M) ∧ ∃ G : Int32, df_X6_halfAt n (nI p) (nI A + 2) M = some (G, M) ∧ df_X16_instruction n (nI p) (nI A) X = some ((H ||| (G <<< ((16 : Int32) &&& 31))).toInt64 &&& 4294967295, X))) := by
  have n1 : ¬ bI true = (0 : Int32) := by decide
  have a1 : nI A + 1 = nI (A + 1) := nI_add A 1
  have a2 : nI A + 2 = nI (A + 2) := nI_add A 2
  have a3 : nI A + 3 = nI (A + 3) := nI_add A 3
  have m0 := nk_may n h hp hA (q := 4) (by omega)
  have m1 := (nk_may n h hp (A := A + 1) (by omega) (q := 4) (by omega)).2
  rw [ma_even X he] at m1
  have m0a : df_X6_may n (nI p) (nI A) 4 M = some (bI (ma X p A 4), M) := m0.1
  have m0b : df_X16_may n (nI p) (nI A) 4 X = some (bI (ma X p A 4), X) := m0.2
  have m1 : df_X16_may n (nI p) (nI (A + 1)) 4 X = some (bI (ma X p A 4), X) := m1
  cases c : ma X p A 4 with
  | false =>
    rw [c] at m0a m0b
    refine Or.inl ⟨m0a, ?_⟩
    unfold df_X16_instruction df_X16_instruction_0 df_X16_instruction_22
    rw [m0b, nb_b2, if_pos (by decide)]
  | true =>
    obtain ⟨lA, p0, hH⟩ := pk_4 n h hp c
    have p1 := (pk_4 n h hp (A := A + 1) (by rw [ma_even X he]; exact c)).2.1
    rw [wd_n 1 (by omega)] at p1
    rw [c] at m0a m0b m1
    have z15 : bw (wd4 X p A) (8 * (A % 4)) ||| (bw (wd4 X p A) (8 * ((A + 1) % 4)) <<< ((8 : Int32) &&& 31)) = hw (wd4 X p A) (8 * (A / 2 % 2 * 2)) := by
      rw [show ((8 : Int32) &&& 31) = nI 8 from by decide]
      exact lb_h he
    refine Or.inr ⟨hw (wd4 X p A) (8 * (A / 2 % 2 * 2)), m0a, hH, ?_, ?_⟩
    · unfold hw
      generalize ((wd4 X p A).toUInt32 >>> ((nI (8 * (A / 2 % 2 * 2))).toUInt32 &&& Int32.toUInt32 (nI 31))).toInt32 = y
      (apply gb_ext; apply all32; simp (disch := decide) only [gb_or, gb_and, gb_xor, gb_shl, gb_shr, gb_ush, gb_n, gb_m, gb_hi, Nat.reduceAdd, Nat.reduceSub, Nat.reduceLT, Nat.reduceLeDiff, Nat.testBit, Nat.reduceShiftRight, Nat.reduceBNe, Nat.reduceAnd, Nat.one_and_eq_mod_two, Nat.reduceMod, decide_true, decide_false, Bool.and_true, Bool.true_and, Bool.and_false, Bool.false_and, Bool.or_false, Bool.false_or, Bool.or_true, Bool.true_or, Bool.not_true, Bool.not_false, Bool.xor_true, Bool.xor_false, Bool.true_xor, Bool.false_xor, if_true, if_false, ↓reduceIte, and_self, bne_self_eq_false, Bool.or_self, Bool.and_self, Bool.not_not])
    · by_cases c3 : hw (wd4 X p A) (8 * (A / 2 % 2 * 2)) &&& 3 = 3
      · have q0 := nk_may n h hp (A := A + 2) (by omega) (q := 4) (by omega)
        have q1 := (nk_may n h hp (A := A + 3) (by omega) (q := 4) (by omega)).2
        rw [show A + 3 = A + 2 + 1 from rfl, ma_even X (by omega)] at q1
        have q0a : df_X6_may n (nI p) (nI (A + 2)) 4 M = some (bI (ma X p (A + 2) 4), M) := q0.1
        have q0b : df_X16_may n (nI p) (nI (A + 2)) 4 X = some (bI (ma X p (A + 2) 4), X) := q0.2
        have q1 : df_X16_may n (nI p) (nI (A + 3)) 4 X = some (bI (ma X p (A + 2) 4), X) := q1
        refine Or.inr ?_
        cases d : ma X p (A + 2) 4 with
        | false =>
          rw [d] at q0a q0b
          refine Or.inl ⟨c3, by rw [a2]; exact q0a, ?_⟩
          unfold df_X16_instruction df_X16_instruction_0 df_X16_instruction_79
          rw [m0b, nb_b2, if_neg n1, a1, m1, nb_b2, if_neg n1, p0, nb_b2, p1, nb_b2, nb_let, z15, if_pos c3, a2, q0b, nb_b2, if_pos (by decide)]
        | true =>
          obtain ⟨lB, r0, hG⟩ := pk_4 n h hp d
          have r1 := (pk_4 n h hp (A := A + 2 + 1) (by rw [ma_even X (by omega)]; exact d)).2.1
          rw [wd_n (A := A + 2) 1 (by omega)] at r1
          rw [d] at q0a q0b q1
          have r1 : df_X16_peek n (nI p) (nI (A + 3)) X = some (bw (wd4 X p (A + 2)) (8 * ((A + 2 + 1) % 4)), X) := r1
          refine Or.inr ⟨c3, by rw [a2]; exact q0a, _, by rw [a2]; exact hG, ?_⟩
          unfold df_X16_instruction df_X16_instruction_0 df_X16_plain df_X16_plain_0
          rw [m0b, nb_b2, if_neg n1, a1, m1, nb_b2, if_neg n1, p0, nb_b2, p1, nb_b2, nb_let, z15, if_pos c3, a2, q0b, nb_b2, if_neg n1, a3, q1, nb_b2, if_neg n1, r0, nb_b2, r1, nb_b2, nb_b2, show ((16 : Int32) &&& 31) = nI 16 from by decide, show ((24 : Int32) &&& 31) = nI 24 from by decide, Int32.or_assoc, ← shl_o, lb_h (by omega)]
      · refine Or.inl ⟨c3, ?_⟩
        unfold df_X16_instruction df_X16_instruction_0
        rw [m0b, nb_b2, if_neg n1, a1, m1, nb_b2, if_neg n1, p0, nb_b2, p1, nb_b2, nb_let, z15, if_neg c3]
theorem i64_b (w : Int32) : w.toInt64.toInt32 = w ∧ (w.toInt64 &&& 4294967295).toInt32 = w := by
  refine ⟨Int32.toInt32_toInt64 w, ?_⟩
  obtain ⟨A, hA, rfl⟩ := nI_ex w
  rw [nm_pl hA]
  exact Int64.toInt32_ofNat'
theorem rd_s {n : Nat} {S : St} {w : Int32} (hs : w &&& (3 : Int32) = 3 ∨ w &&& nI 4294901760 = nI 0) {S' : St} (h : df_X18_understand n (pI S 3 w) = some S') : df_X18_read n w S = some (sI S' 0, S') := by
  unfold df_X18_read df_X18_read_0 df_X18_read_17
  by_cases c : w &&& (3 : Int32) = 3
  · rw [if_pos c, nb_let, h, nb_b1]
  · have e : w &&& (65535 : Int32) = w := by
      have hs := hs.resolve_left c
      have e2 : (w &&& nI 65535) ||| (w &&& nI 4294901760) = w := by
        (apply gb_ext; apply all32; simp (disch := decide) only [gb_or, gb_and, gb_xor, gb_shl, gb_shr, gb_ush, gb_n, gb_m, gb_hi, Nat.reduceAdd, Nat.reduceSub, Nat.reduceLT, Nat.reduceLeDiff, Nat.testBit, Nat.reduceShiftRight, Nat.reduceBNe, Nat.reduceAnd, Nat.one_and_eq_mod_two, Nat.reduceMod, decide_true, decide_false, Bool.and_true, Bool.true_and, Bool.and_false, Bool.false_and, Bool.or_false, Bool.false_or, Bool.or_true, Bool.true_or, Bool.not_true, Bool.not_false, Bool.xor_true, Bool.xor_false, Bool.true_xor, Bool.false_xor, if_true, if_false, ↓reduceIte, and_self, bne_self_eq_false, Bool.or_self, Bool.and_self, Bool.not_not])
      rw [hs] at e2
      have e3 : (w &&& nI 65535) ||| nI 0 = w &&& nI 65535 := by
        (apply gb_ext; apply all32; simp (disch := decide) only [gb_or, gb_and, gb_xor, gb_shl, gb_shr, gb_ush, gb_n, gb_m, gb_hi, Nat.reduceAdd, Nat.reduceSub, Nat.reduceLT, Nat.reduceLeDiff, Nat.testBit, Nat.reduceShiftRight, Nat.reduceBNe, Nat.reduceAnd, Nat.one_and_eq_mod_two, Nat.reduceMod, decide_true, decide_false, Bool.and_true, Bool.true_and, Bool.and_false, Bool.false_and, Bool.or_false, Bool.false_or, Bool.or_true, Bool.true_or, Bool.not_true, Bool.not_false, Bool.xor_true, Bool.xor_false, Bool.true_xor, Bool.false_xor, if_true, if_false, ↓reduceIte, and_self, bne_self_eq_false, Bool.or_self, Bool.and_self, Bool.not_not])
      rw [e3] at e2
      exact e2
    rw [if_neg c, e, nb_let, h, nb_b1]

/-- a word in both: the class's end of text and the reference's -/
theorem txw_1 {n : Nat} {w c : Int32} {β : Sb} {σ : S12} {τ' : S19} {q : Int64} (hn : 130 < n) (hs : w &&& (3 : Int32) = 3 ∨ w &&& nI 4294901760 = nI 0) (hg : ∀ r : Nat, r < 32 → sR τ'.2.2.2.2 1 r = rgT r) (hb : BW β) (hq : (0 : Int32) ≤ lg_cmp q 0) (hw : q.toInt32 = w) : ∃ (v : Int32) (β' : Sb) (S' : St), (if c < 0 then some ((-1 : Int32), (σ, β)) else df_X12_text_94 n c w σ β) = some (v, (σ, β')) ∧ BW β' ∧ sR S' 1 = sR τ'.2.2.2.2 1 ∧ (if 0 ≤ ((lg_cmp q 0) : Int32) then (nd_b2 (df_X18_read n (q.toInt32) τ'.2.2.2.2) (fun (q15 : Int32) (s16 : St) => nd_let ((τ'.1, (τ'.2.1, (τ'.2.2.1, (τ'.2.2.2.1, s16))))) (fun (s18 : S19) => if c < 0 then (df_X19_text_70 n s18) else (if c < q15 then (nd_b2 (df_X18_letter n c s18.2.2.2.2) (fun (q21 : Int32) (s22 : St) => nd_let ((s18.1, (s18.2.1, (s18.2.2.1, (s18.2.2.2.1, s22))))) (fun (s24 : S19) => df_X19_text_82 n q21 s24))) else (df_X19_text_70 n s18))))) else (some (((-1) : Int32), τ'))) = some (v, (τ'.1, (τ'.2.1, (τ'.2.2.1, (τ'.2.2.2.1, S'))))) := by
  by_cases z : c < 0
  · obtain ⟨v, β', m, S', -, -, e2, e3, e4, -⟩ := tend_1 (c := 0) (σ := σ) hn hs hg hb (by decide)
    refine ⟨-1, β, S', if_pos z, hb, e4, ?_⟩
    rw [if_pos hq, hw, rd_s hs e2, nb_b2, nb_let, if_pos z]
    rfl
  · obtain ⟨v, β', m, S', e1, hb', e2, e3, e4, e5⟩ := tend_1 (c := c) (σ := σ) hn hs hg hb z
    refine ⟨v, β', S', by rw [if_neg z]; exact e1, hb', e4, ?_⟩
    rw [if_pos hq, hw, rd_s hs e2, nb_b2, nb_let, if_neg z, e3]
    rcases e5 with ⟨a, rfl⟩ | ⟨a, b⟩
    · rw [if_neg a]
      rfl
    · rw [if_pos a]
      show nd_b2 (df_X18_letter n c S') _ = _
      rw [b]
      rfl
theorem lgn_h {H : Int32} (h : H &&& nI 4294901760 = nI 0) : (0 : Int32) ≤ lg_cmp H.toInt64 0 := by
  have e : H = H &&& nI 65535 := by
    have e2 : (H &&& nI 65535) ||| (H &&& nI 4294901760) = H := by
      (apply gb_ext; apply all32; simp (disch := decide) only [gb_or, gb_and, gb_xor, gb_shl, gb_shr, gb_ush, gb_n, gb_m, gb_hi, Nat.reduceAdd, Nat.reduceSub, Nat.reduceLT, Nat.reduceLeDiff, Nat.testBit, Nat.reduceShiftRight, Nat.reduceBNe, Nat.reduceAnd, Nat.one_and_eq_mod_two, Nat.reduceMod, decide_true, decide_false, Bool.and_true, Bool.true_and, Bool.and_false, Bool.false_and, Bool.or_false, Bool.false_or, Bool.or_true, Bool.true_or, Bool.not_true, Bool.not_false, Bool.xor_true, Bool.xor_false, Bool.true_xor, Bool.false_xor, if_true, if_false, ↓reduceIte, and_self, bne_self_eq_false, Bool.or_self, Bool.and_self, Bool.not_not])
    rw [h] at e2
    have e3 : (H &&& nI 65535) ||| nI 0 = H &&& nI 65535 := by
      (apply gb_ext; apply all32; simp (disch := decide) only [gb_or, gb_and, gb_xor, gb_shl, gb_shr, gb_ush, gb_n, gb_m, gb_hi, Nat.reduceAdd, Nat.reduceSub, Nat.reduceLT, Nat.reduceLeDiff, Nat.testBit, Nat.reduceShiftRight, Nat.reduceBNe, Nat.reduceAnd, Nat.one_and_eq_mod_two, Nat.reduceMod, decide_true, decide_false, Bool.and_true, Bool.true_and, Bool.and_false, Bool.false_and, Bool.or_false, Bool.false_or, Bool.or_true, Bool.true_or, Bool.not_true, Bool.not_false, Bool.xor_true, Bool.xor_false, Bool.true_xor, Bool.false_xor, if_true, if_false, ↓reduceIte, and_self, bne_self_eq_false, Bool.or_self, Bool.and_self, Bool.not_not])
    rw [e3] at e2
    exact e2.symm
  obtain ⟨A, hA, rfl⟩ := nI_ex H
  rw [e, nm_m65535 hA]
  refine (lcB _ _).mpr ?_
  have k : A % 65536 < 2 ^ 31 := by omega
  rw [Int32.toInt_toInt64, nI_toInt k]
  exact Int.natCast_nonneg _
theorem lgn_w (w : Int32) : (0 : Int32) ≤ lg_cmp (w.toInt64 &&& 4294967295) 0 := by
  obtain ⟨A, hA, rfl⟩ := nI_ex w
  rw [nm_pl hA]
  refine (lcB _ _).mpr ?_
  show (0 : Int) ≤ (Int64.ofNat A).toInt
  rw [Int64.toInt_ofNat_of_lt (by omega)]
  exact Int.natCast_nonneg _
theorem w3_or {H G : Int32} (h : H &&& (3 : Int32) = 3) : (H ||| (G <<< ((16 : Int32) &&& 31))) &&& (3 : Int32) = 3 := by
  have e : (H ||| (G <<< nI 16)) &&& nI 3 = H &&& nI 3 := by
    (apply gb_ext; apply all32; simp (disch := decide) only [gb_or, gb_and, gb_xor, gb_shl, gb_shr, gb_ush, gb_n, gb_m, gb_hi, Nat.reduceAdd, Nat.reduceSub, Nat.reduceLT, Nat.reduceLeDiff, Nat.testBit, Nat.reduceShiftRight, Nat.reduceBNe, Nat.reduceAnd, Nat.one_and_eq_mod_two, Nat.reduceMod, decide_true, decide_false, Bool.and_true, Bool.true_and, Bool.and_false, Bool.false_and, Bool.or_false, Bool.false_or, Bool.or_true, Bool.true_or, Bool.not_true, Bool.not_false, Bool.xor_true, Bool.xor_false, Bool.true_xor, Bool.false_xor, if_true, if_false, ↓reduceIte, and_self, bne_self_eq_false, Bool.or_self, Bool.and_self, Bool.not_not])
  have e1 : ((16 : Int32) &&& 31) = nI 16 := by decide
  rw [e1]
  exact e.trans h
set_option maxHeartbeats 4000000 in
theorem jc_text (n T L : Nat) (hn : 70000 < n) (p a c : Int32) (σ : S12) (τ : S19) (β : Sb) (h : jA n (tl σ) τ) (hg : ∀ r : Nat, r < 32 → sR τ.2.2.2.2 1 r = rgT r) (hb : BW β) : ∃ (v : Int32) (β' : Sb) (τ1 : S19) (S' : St), df_X12_text n T L β p a c σ = some (v, (σ, β')) ∧ df_X19_text n p a c τ = some (v, (τ1.1, (τ1.2.1, (τ1.2.2.1, (τ1.2.2.2.1, S'))))) ∧ jA n (tl σ) τ1 ∧ kR τ τ1 ∧ sR S' 1 = sR τ1.2.2.2.2 1 ∧ BW β' := by
  have n130 : 130 < n := Nat.lt_trans (by decide) hn
  have n1 : ¬ nI 1 = (0 : Int32) := by decide
  have n1' : ¬ (1 : Int32) = 0 := by decide
  have n0 : nI 0 = (0 : Int32) := rfl
  obtain ⟨P, hP, rfl⟩ := nI_ex p
  obtain ⟨A, hA, rfl⟩ := nI_ex a
  have i15 : df_X19_in n (nI P).toInt64 0 15 () = some (if P ≤ 15 then nI 1 else nI 0, ()) := in_b n (b := 15) hP (by omega) rfl
  have ev : nI A &&& (1 : Int32) = nI (A % 2) := nm_m1 hA
  rcases jc_shows n hn h with ⟨h1, h2, h3⟩ | ⟨vn, Q, V, N, T', e, cc, lo, τ', h1, h2, h3, h4, h5, h6, h7, h8⟩
  · refine ⟨-1, β, (pI τ.1 0 0, τ.2), τ.2.2.2.2, ?_, ?_, jA_0 h 0, kR_0 τ 0, rfl, hb⟩
    · unfold df_X12_text df_X12_text_0 df_X12_text_34
      rw [it_0 n T L h1, nb_b2, if_pos rfl]
    · unfold df_X19_text df_X19_text_0 df_X19_text_26
      rw [h2, nb_b2, if_pos n0]
  · have hg' : ∀ r : Nat, r < 32 → sR τ'.2.2.2.2 1 r = rgT r := fun r hr => by
      rw [show τ'.2.2.2.2 = τ.2.2.2.2 from congrArg Prod.snd h7.2.2.2.2.2]
      exact hg r hr
    by_cases y : P < 16
    · by_cases o : A % 2 = 0
      · have ne1 : ¬ nI (A % 2) = (1 : Int32) := by rw [o]; decide
        have e0 : nI (A % 2) = (0 : Int32) := by rw [o]; rfl
        -- the reference up to its word
        have r0 : ∀ q : Int64, df_X16_instruction n (nI P) (nI A) τ'.2.2.1.2 = some (q, τ'.2.2.1.2) → df_X19_text n (nI P) (nI A) c τ = (if 0 ≤ ((lg_cmp q 0) : Int32) then (nd_b2 (df_X18_read n (q.toInt32) τ'.2.2.2.2) (fun (q15 : Int32) (s16 : St) => nd_let ((τ'.1, (τ'.2.1, (τ'.2.2.1, (τ'.2.2.2.1, s16))))) (fun (s18 : S19) => if c < 0 then (df_X19_text_70 n s18) else (if c < q15 then (nd_b2 (df_X18_letter n c s18.2.2.2.2) (fun (q21 : Int32) (s22 : St) => nd_let ((s18.1, (s18.2.1, (s18.2.2.1, (s18.2.2.2.1, s22))))) (fun (s24 : S19) => df_X19_text_82 n q21 s24))) else (df_X19_text_70 n s18))))) else (some (((-1) : Int32), τ'))) := fun q hq => by
          unfold df_X19_text df_X19_text_0
          rw [h2, nb_b2, if_neg n1, i15, nb_b2, if_pos (show P ≤ 15 by omega), if_neg n1, ev, if_neg ne1, hq, nb_b2, nb_let]
        rcases ins_1 n h5.1 y hA o with ⟨k1, k2⟩ | ⟨H, k1, k2, k3, ⟨c3, k4⟩ | ⟨c3, k4, k5⟩ | ⟨c3, k4, G, k5, k6⟩⟩
        · refine ⟨-1, β, τ', τ'.2.2.2.2, ?_, ?_, h8, h7, rfl, hb⟩
          · have k1 : df_X6_may n (nI P) (nI A) 4 σ.2.2.2.2.2.1.2.2 = some (0, σ.2.2.2.2.2.1.2.2) := k1
            unfold df_X12_text df_X12_text_0 df_X12_text_34
            rw [it_1 n T L h1 hP, nb_b2, if_pos y, if_neg n1, ev, e0]
            by_cases z : c < 0
            · rw [if_pos z]
            · rw [if_neg z, if_pos rfl, k1, nb_b2, nb_let, if_pos rfl]
          · rw [r0 _ k2, if_neg (by decide)]
        · obtain ⟨v, β', S', e1, e2, e3, e4⟩ := txw_1 (n := n) (w := H) (c := c) (σ := σ) (τ' := τ') (q := H.toInt64) n130 (Or.inr k3) hg' hb (lgn_h k3) (i64_b H).1
          refine ⟨v, β', τ', S', ?_, (r0 _ k4).trans e4, h8, h7, e3, e2⟩
          have k1 : df_X6_may n (nI P) (nI A) 4 σ.2.2.2.2.2.1.2.2 = some (1, σ.2.2.2.2.2.1.2.2) := k1
          have k2 : df_X6_halfAt n (nI P) (nI A) σ.2.2.2.2.2.1.2.2 = some (H, σ.2.2.2.2.2.1.2.2) := k2
          unfold df_X12_text df_X12_text_0 df_X12_text_34
          rw [it_1 n T L h1 hP, nb_b2, if_pos y, if_neg n1, ev, e0]
          by_cases z : c < 0
          · rw [if_pos z] at e1 ⊢
            exact e1
          · rw [if_neg z] at e1 ⊢
            rw [if_pos rfl, k1, nb_b2, nb_let, if_neg n1', k2, nb_b2, nb_let, if_neg c3]
            exact e1
        · refine ⟨-1, β, τ', τ'.2.2.2.2, ?_, ?_, h8, h7, rfl, hb⟩
          · have k1 : df_X6_may n (nI P) (nI A) 4 σ.2.2.2.2.2.1.2.2 = some (1, σ.2.2.2.2.2.1.2.2) := k1
            have k2 : df_X6_halfAt n (nI P) (nI A) σ.2.2.2.2.2.1.2.2 = some (H, σ.2.2.2.2.2.1.2.2) := k2
            have k4 : df_X6_may n (nI P) (nI A + 2) 4 σ.2.2.2.2.2.1.2.2 = some (0, σ.2.2.2.2.2.1.2.2) := k4
            unfold df_X12_text df_X12_text_0 df_X12_text_34
            rw [it_1 n T L h1 hP, nb_b2, if_pos y, if_neg n1, ev, e0]
            by_cases z : c < 0
            · rw [if_pos z]
            · rw [if_neg z, if_pos rfl, k1, nb_b2, nb_let, if_neg n1', k2, nb_b2, nb_let, if_pos c3, k4, nb_b2, nb_let, if_pos rfl]
          · rw [r0 _ k5, if_neg (by decide)]
        · obtain ⟨v, β', S', e1, e2, e3, e4⟩ := txw_1 (n := n) (w := H ||| (G <<< ((16 : Int32) &&& 31))) (c := c) (σ := σ) (τ' := τ') (q := (H ||| (G <<< ((16 : Int32) &&& 31))).toInt64 &&& 4294967295) n130 (Or.inl (w3_or c3)) hg' hb (lgn_w _) (i64_b _).2
          refine ⟨v, β', τ', S', ?_, (r0 _ k6).trans e4, h8, h7, e3, e2⟩
          have k1 : df_X6_may n (nI P) (nI A) 4 σ.2.2.2.2.2.1.2.2 = some (1, σ.2.2.2.2.2.1.2.2) := k1
          have k2 : df_X6_halfAt n (nI P) (nI A) σ.2.2.2.2.2.1.2.2 = some (H, σ.2.2.2.2.2.1.2.2) := k2
          have k4 : df_X6_may n (nI P) (nI A + 2) 4 σ.2.2.2.2.2.1.2.2 = some (1, σ.2.2.2.2.2.1.2.2) := k4
          have k5 : df_X6_halfAt n (nI P) (nI A + 2) σ.2.2.2.2.2.1.2.2 = some (G, σ.2.2.2.2.2.1.2.2) := k5
          unfold df_X12_text df_X12_text_0 df_X12_text_34
          rw [it_1 n T L h1 hP, nb_b2, if_pos y, if_neg n1, ev, e0]
          by_cases z : c < 0
          · rw [if_pos z] at e1 ⊢
            exact e1
          · rw [if_neg z] at e1 ⊢
            rw [if_pos rfl, k1, nb_b2, nb_let, if_neg n1', k2, nb_b2, nb_let, if_pos c3, k4, nb_b2, nb_let, if_neg n1', k5, nb_b2, nb_let, nb_let]
            exact e1
      · have o1 : A % 2 = 1 := by omega
        refine ⟨-1, β, τ', τ'.2.2.2.2, ?_, ?_, h8, h7, rfl, hb⟩
        · unfold df_X12_text df_X12_text_0 df_X12_text_34
          rw [it_1 n T L h1 hP, nb_b2, if_pos y, if_neg n1, ev, o1, if_neg n1]
          split <;> rfl
        · unfold df_X19_text df_X19_text_0 df_X19_text_26
          rw [h2, nb_b2, if_neg n1, i15, nb_b2, if_pos (show P ≤ 15 by omega), if_neg n1, ev, o1, if_pos (show nI 1 = (1 : Int32) from rfl)]
    · refine ⟨-1, β, τ', τ'.2.2.2.2, ?_, ?_, h8, h7, rfl, hb⟩
      · unfold df_X12_text df_X12_text_0 df_X12_text_34
        rw [it_1 n T L h1 hP, nb_b2, if_neg y, if_pos n0]
      · unfold df_X19_text df_X19_text_0 df_X19_text_26
        rw [h2, nb_b2, if_neg n1, i15, nb_b2, if_neg (show ¬ P ≤ 15 by omega), if_pos n0]
theorem jj_text (n T L : Nat) (hn : 70000 < n) (p a c : Int32) {σ : S12} {τ : S19} {x : Lb} {β : Sb} (h : JJ n σ (τ, x)) (hb : BW β) : ∃ (v : Int32) (β' : Sb) (τ' : S19), df_X12_text n T L β p a c σ = some (v, (σ, β')) ∧ df_X19_text n p a c τ = some (v, τ') ∧ JJ n σ (τ', x) ∧ BW β' := by
  obtain ⟨v, β', τ1, S', a1, a2, a3, a4, a5, a6⟩ := jc_text n T L hn p a c σ τ β h.2.2.2.2.1 h.2.2.2.2.2.2.2.2.2.1 hb
  refine ⟨v, β', _, a1, a2, ?_, a6⟩
  obtain ⟨b1, b2, b3, b4, b5, b6, b7, b8, b9⟩ := JJ_R h a3 a4
  refine ⟨b1, b2, b3, b4, b5, b6, b7, b8, b9.1, fun k hk => ?_, b9.2.2⟩
  show sR S' 1 k = rgT k
  rw [a5]
  exact b9.2.1 k hk

/-- all that a call can end with is so -/
def okQ {β : Type} (Z : β → Prop) (x : Option β) : Prop := ∀ r : β, x = some r → Z r
theorem oq_0 {β : Type} (Z : β → Prop) : okQ Z none := fun r h => nomatch h
theorem oq_s {β : Type} {Z : β → Prop} {r : β} (h : Z r) : okQ Z (some r) := fun q e => by
  cases e
  exact h
theorem oq_i {β : Type} {Z : β → Prop} {c : Prop} {x y : Option β} {dc : Decidable c} (h1 : okQ Z x) (h2 : okQ Z y) : okQ Z (@ite (Option β) c dc x y) := by
  by_cases z : c
  · rw [if_pos z]; exact h1
  · rw [if_neg z]; exact h2
theorem oq_l {α β : Type} {Z : β → Prop} {a : α} {k : α → Option β} (h : okQ Z (k a)) : okQ Z (nd_let a k) := h
theorem oq_ck {β : Type} {Z : β → Prop} {i : Int32} {m : Nat} {x : Option β} (h : okQ Z x) : okQ Z (nd_ck i m x) := by
  unfold nd_ck
  exact oq_i h (oq_0 Z)
theorem oq_z {β : Type} {Z : β → Prop} {ty : FieldType} {v : Int32} {x : Option β} (h : okQ Z x) : okQ Z (nd_z ty v x) := by
  unfold nd_z
  exact oq_i h (oq_0 Z)
theorem oq_f {β : Type} {Z : β → Prop} {ty : FieldType} {v : Int32} {x : Option β} (h : okQ Z x) : okQ Z (nd_f ty v x) := by
  unfold nd_f
  exact oq_i h (oq_0 Z)
theorem oq_o {β : Type} {Z : β → Prop} {o : Option Nat} {m : Nat} {x : Option β} (h : okQ Z x) : okQ Z (nd_o o m x) := by
  unfold nd_o
  exact oq_i h (oq_0 Z)
theorem oq_lt {β : Type} {Z : β → Prop} {j m : Nat} {x : Option β} (h : okQ Z x) : okQ Z (nd_lt j m x) := by
  unfold nd_lt
  exact oq_i h (oq_0 Z)
theorem oq_m {β : Type} {Z : β → Prop} {o : Option Nat} {x : Option β} {k : Nat → Option β} (h1 : okQ Z x) (h2 : ∀ j : Nat, okQ Z (k j)) : okQ Z (nd_m o x k) := by
  unfold nd_m
  cases o with
  | none => exact h1
  | some j => exact h2 j
theorem oq_b1 {α β : Type} {Z : β → Prop} {x : Option α} {k : α → Option β} (h : ∀ a : α, okQ Z (k a)) : okQ Z (nd_b1 x k) := by
  unfold nd_b1
  cases x with
  | none => exact oq_0 Z
  | some a => exact h a
theorem oq_b2 {α γ β : Type} {Z : β → Prop} {x : Option (α × γ)} {k : α → γ → Option β} (h : ∀ (a : α) (b : γ), okQ Z (k a b)) : okQ Z (nd_b2 x k) := by
  unfold nd_b2
  cases x with
  | none => exact oq_0 Z
  | some a => exact h a.1 a.2
theorem oq_x1 {α β : Type} {Z : β → Prop} {Y : α → Prop} {x : Option α} {k : α → Option β} (g : okQ Y x) (h : ∀ a : α, Y a → okQ Z (k a)) : okQ Z (nd_b1 x k) := by
  unfold nd_b1
  cases x with
  | none => exact oq_0 Z
  | some a => exact h a (g a rfl)
theorem oq_x2 {α γ β : Type} {Z : β → Prop} {Y : α × γ → Prop} {x : Option (α × γ)} {k : α → γ → Option β} (g : okQ Y x) (h : ∀ (a : α) (b : γ), Y (a, b) → okQ Z (k a b)) : okQ Z (nd_b2 x k) := by
  unfold nd_b2
  cases x with
  | none => exact oq_0 Z
  | some a => exact h a.1 a.2 (g a rfl)
/-- the class's state behind a call that may throw -/
def lw_st {α : Type} (r : (α × S12) ⊕ (String × S12)) : S12 := match r with
  | .inl z => z.2
  | .inr z => z.2
def lw_sv (r : S12 ⊕ (String × S12)) : S12 := match r with
  | .inl z => z
  | .inr z => z.2
def lw_ia {α : Type} (r : α ⊕ (String × S12)) : Prop := match r with
  | .inl _ => True
  | .inr z => z.1 = "java/lang/IllegalArgumentException"
def tz2 {α : Type} (g : Nat) (r : α × S12) : Prop := tp r.2 ≤ g
def tz1 (g : Nat) (r : S12) : Prop := tp r ≤ g
def tzs {α : Type} (g : Nat) (r : (α × S12) ⊕ (String × S12)) : Prop := tp (lw_st r) ≤ g
def tzv (g : Nat) (r : S12 ⊕ (String × S12)) : Prop := tp (lw_sv r) ≤ g
theorem tu_df_X12_isUsedProgram_30 (n : Nat) (T : Nat) (L : Nat) {g : Nat}  (s0 : S12) (hs0 : tp s0 ≤ g) : okQ (tz2 g) (df_X12_isUsedProgram_30 n T L s0) := by
  unfold df_X12_isUsedProgram_30
  (repeat' (first | with_reducible exact oq_0 _ | with_reducible refine oq_i ?_ ?_ | with_reducible refine oq_l ?_ | with_reducible refine oq_ck ?_ | with_reducible refine oq_z ?_ | with_reducible refine oq_o ?_ | with_reducible refine oq_f ?_ | with_reducible refine oq_lt ?_ | with_reducible refine oq_m ?_ (fun _ => ?_) | with_reducible refine oq_b2 (fun _ _ => ?_) | with_reducible refine oq_b1 (fun _ => ?_) | with_reducible refine oq_s ?_ | assumption))
theorem tu_dF_X12_isUsedProgram_2 (n : Nat) (T : Nat) (L : Nat) {g : Nat} {g2 : Nat → Int32 → (S12) → Option (Int32 × (S12))} (hg2 : ∀ (a0 : Nat) (a1 : Int32) (s : S12), tp s ≤ g → okQ (tz2 g) (g2 a0 a1 s)) (x1 : Nat) (x2 : Int32) (s0 : S12) (hs0 : tp s0 ≤ g) : okQ (tz2 g) (dF_X12_isUsedProgram_2 n T L g2 x1 x2 s0) := by
  unfold dF_X12_isUsedProgram_2
  (repeat' (first | with_reducible exact oq_0 _ | with_reducible refine oq_i ?_ ?_ | with_reducible refine oq_l ?_ | with_reducible refine oq_ck ?_ | with_reducible refine oq_z ?_ | with_reducible refine oq_o ?_ | with_reducible refine oq_f ?_ | with_reducible refine oq_lt ?_ | with_reducible refine oq_m ?_ (fun _ => ?_) | with_reducible refine tu_df_X12_isUsedProgram_30 _ _ _   _ ?_ | with_reducible refine oq_x2 (tu_df_X12_isUsedProgram_30 (g := g) _ _ _   _ ?_) (fun _ s hs => ?_) | with_reducible refine hg2 _ _ _ ?_ | with_reducible refine oq_b2 (fun _ _ => ?_) | with_reducible refine oq_b1 (fun _ => ?_) | with_reducible refine oq_s ?_ | assumption))
theorem tu_df_X12_isUsedProgram_2 (n : Nat) (T : Nat) (L : Nat) {g : Nat} : ∀ (k : Nat) (a0 : Nat) (a1 : Int32) (s : S12), tp s ≤ g → okQ (tz2 g) (df_X12_isUsedProgram_2 n T L k a0 a1 s) := fun k => by
  induction k with
  | zero => exact fun a0 a1 s hs => oq_0 _
  | succ k ih => exact fun a0 a1 s hs => tu_dF_X12_isUsedProgram_2 n T L ih a0 a1 s hs
theorem tu_df_X12_isUsedProgram_0 (n : Nat) (T : Nat) (L : Nat) {g : Nat} (v0 : Nat) (s0 : S12) (hs0 : tp s0 ≤ g) : okQ (tz2 g) (df_X12_isUsedProgram_0 n T L v0 s0) := by
  unfold df_X12_isUsedProgram_0
  (repeat' (first | with_reducible exact oq_0 _ | with_reducible refine oq_i ?_ ?_ | with_reducible refine oq_l ?_ | with_reducible refine oq_ck ?_ | with_reducible refine oq_z ?_ | with_reducible refine oq_o ?_ | with_reducible refine oq_f ?_ | with_reducible refine oq_lt ?_ | with_reducible refine oq_m ?_ (fun _ => ?_) | with_reducible refine tu_df_X12_isUsedProgram_2 _ _ _ _ _ _ _ ?_ | with_reducible refine oq_x2 (tu_df_X12_isUsedProgram_2 (g := g) _ _ _ _ _ _ _ ?_) (fun _ s hs => ?_) | with_reducible refine oq_b2 (fun _ _ => ?_) | with_reducible refine oq_b1 (fun _ => ?_) | with_reducible refine oq_s ?_ | assumption))
theorem tu_df_X12_isUsedProgram (n : Nat) (T : Nat) (L : Nat) {g : Nat} (v0 : Nat) (s0 : S12) (hs0 : tp s0 ≤ g) : okQ (tz2 g) (df_X12_isUsedProgram n T L v0 s0) := by
  unfold df_X12_isUsedProgram
  (repeat' (first | with_reducible exact oq_0 _ | with_reducible refine oq_i ?_ ?_ | with_reducible refine oq_l ?_ | with_reducible refine oq_ck ?_ | with_reducible refine oq_z ?_ | with_reducible refine oq_o ?_ | with_reducible refine oq_f ?_ | with_reducible refine oq_lt ?_ | with_reducible refine oq_m ?_ (fun _ => ?_) | with_reducible refine tu_df_X12_isUsedProgram_0 _ _ _  _ _ ?_ | with_reducible refine oq_x2 (tu_df_X12_isUsedProgram_0 (g := g) _ _ _  _ _ ?_) (fun _ s hs => ?_) | with_reducible refine oq_b2 (fun _ _ => ?_) | with_reducible refine oq_b1 (fun _ => ?_) | with_reducible refine oq_s ?_ | assumption))
theorem tu_df_X12_unusedProgram_32 (n : Nat) (T : Nat) (L : Nat) {g : Nat} (x1 : Int32) (s0 : S12) (hs0 : tp s0 ≤ g) : okQ (tz2 g) (df_X12_unusedProgram_32 n T L x1 s0) := by
  unfold df_X12_unusedProgram_32
  (repeat' (first | with_reducible exact oq_0 _ | with_reducible refine oq_i ?_ ?_ | with_reducible refine oq_l ?_ | with_reducible refine oq_ck ?_ | with_reducible refine oq_z ?_ | with_reducible refine oq_o ?_ | with_reducible refine oq_f ?_ | with_reducible refine oq_lt ?_ | with_reducible refine oq_m ?_ (fun _ => ?_) | with_reducible refine oq_b2 (fun _ _ => ?_) | with_reducible refine oq_b1 (fun _ => ?_) | with_reducible refine oq_s ?_ | assumption))
theorem tu_dF_X12_unusedProgram_2 (n : Nat) (T : Nat) (L : Nat) {g : Nat} {g2 : Int32 → (S12) → Option (Option Nat × (S12))} (hg2 : ∀ (a0 : Int32) (s : S12), tp s ≤ g → okQ (tz2 g) (g2 a0 s)) (x1 : Int32) (s0 : S12) (hs0 : tp s0 ≤ g) : okQ (tz2 g) (dF_X12_unusedProgram_2 n T L g2 x1 s0) := by
  unfold dF_X12_unusedProgram_2
  (repeat' (first | with_reducible exact oq_0 _ | with_reducible refine oq_i ?_ ?_ | with_reducible refine oq_l ?_ | with_reducible refine oq_ck ?_ | with_reducible refine oq_z ?_ | with_reducible refine oq_o ?_ | with_reducible refine oq_f ?_ | with_reducible refine oq_lt ?_ | with_reducible refine oq_m ?_ (fun _ => ?_) | with_reducible refine tu_df_X12_unusedProgram_32 _ _ _  _ _ ?_ | with_reducible refine oq_x2 (tu_df_X12_unusedProgram_32 (g := g) _ _ _  _ _ ?_) (fun _ s hs => ?_) | with_reducible refine tu_df_X12_isUsedProgram _ _ _  _ _ ?_ | with_reducible refine oq_x2 (tu_df_X12_isUsedProgram (g := g) _ _ _  _ _ ?_) (fun _ s hs => ?_) | with_reducible refine hg2 _ _ ?_ | with_reducible refine oq_b2 (fun _ _ => ?_) | with_reducible refine oq_b1 (fun _ => ?_) | with_reducible refine oq_s ?_ | assumption))
theorem tu_df_X12_unusedProgram_2 (n : Nat) (T : Nat) (L : Nat) {g : Nat} : ∀ (k : Nat) (a0 : Int32) (s : S12), tp s ≤ g → okQ (tz2 g) (df_X12_unusedProgram_2 n T L k a0 s) := fun k => by
  induction k with
  | zero => exact fun a0 s hs => oq_0 _
  | succ k ih => exact fun a0 s hs => tu_dF_X12_unusedProgram_2 n T L ih a0 s hs
theorem tu_df_X12_unusedProgram_0 (n : Nat) (T : Nat) (L : Nat) {g : Nat}  (s0 : S12) (hs0 : tp s0 ≤ g) : okQ (tz2 g) (df_X12_unusedProgram_0 n T L s0) := by
  unfold df_X12_unusedProgram_0
  (repeat' (first | with_reducible exact oq_0 _ | with_reducible refine oq_i ?_ ?_ | with_reducible refine oq_l ?_ | with_reducible refine oq_ck ?_ | with_reducible refine oq_z ?_ | with_reducible refine oq_o ?_ | with_reducible refine oq_f ?_ | with_reducible refine oq_lt ?_ | with_reducible refine oq_m ?_ (fun _ => ?_) | with_reducible refine tu_df_X12_unusedProgram_2 _ _ _ _ _ _ ?_ | with_reducible refine oq_x2 (tu_df_X12_unusedProgram_2 (g := g) _ _ _ _ _ _ ?_) (fun _ s hs => ?_) | with_reducible refine oq_b2 (fun _ _ => ?_) | with_reducible refine oq_b1 (fun _ => ?_) | with_reducible refine oq_s ?_ | assumption))
theorem tu_df_X12_unusedProgram (n : Nat) (T : Nat) (L : Nat) {g : Nat}  (s0 : S12) (hs0 : tp s0 ≤ g) : okQ (tz2 g) (df_X12_unusedProgram n T L s0) := by
  unfold df_X12_unusedProgram
  (repeat' (first | with_reducible exact oq_0 _ | with_reducible refine oq_i ?_ ?_ | with_reducible refine oq_l ?_ | with_reducible refine oq_ck ?_ | with_reducible refine oq_z ?_ | with_reducible refine oq_o ?_ | with_reducible refine oq_f ?_ | with_reducible refine oq_lt ?_ | with_reducible refine oq_m ?_ (fun _ => ?_) | with_reducible refine tu_df_X12_unusedProgram_0 _ _ _   _ ?_ | with_reducible refine oq_x2 (tu_df_X12_unusedProgram_0 (g := g) _ _ _   _ ?_) (fun _ s hs => ?_) | with_reducible refine oq_b2 (fun _ _ => ?_) | with_reducible refine oq_b1 (fun _ => ?_) | with_reducible refine oq_s ?_ | assumption))
theorem tu_df_X12_useTape_0 (n : Nat) (T : Nat) (L : Nat) {g : Nat} (s0 : S12) (hs0 : tp s0 ≤ g) : okQ (tz2 g) (df_X12_useTape_0 n T L s0) := by
  unfold df_X12_useTape_0
  refine oq_s ?_
  exact Nat.zero_le _
theorem tu_df_X12_useTape (n : Nat) (T : Nat) (L : Nat) {g : Nat}  (s0 : S12) (hs0 : tp s0 ≤ g) : okQ (tz2 g) (df_X12_useTape n T L s0) := by
  unfold df_X12_useTape
  (repeat' (first | with_reducible exact oq_0 _ | with_reducible refine oq_i ?_ ?_ | with_reducible refine oq_l ?_ | with_reducible refine oq_ck ?_ | with_reducible refine oq_z ?_ | with_reducible refine oq_o ?_ | with_reducible refine oq_f ?_ | with_reducible refine oq_lt ?_ | with_reducible refine oq_m ?_ (fun _ => ?_) | with_reducible refine tu_df_X12_useTape_0 _ _ _   _ ?_ | with_reducible refine oq_x2 (tu_df_X12_useTape_0 (g := g) _ _ _   _ ?_) (fun _ s hs => ?_) | with_reducible refine oq_b2 (fun _ _ => ?_) | with_reducible refine oq_b1 (fun _ => ?_) | with_reducible refine oq_s ?_ | assumption))
theorem tu_df_X12_programOf_19 (n : Nat) (T : Nat) (L : Nat) {g : Nat} (y0 : Option Nat) (s0 : S12) (hs0 : tp s0 ≤ g) : okQ (tz2 g) (df_X12_programOf_19 n T L y0 s0) := by
  unfold df_X12_programOf_19
  (repeat' (first | with_reducible exact oq_0 _ | with_reducible refine oq_i ?_ ?_ | with_reducible refine oq_l ?_ | with_reducible refine oq_ck ?_ | with_reducible refine oq_z ?_ | with_reducible refine oq_o ?_ | with_reducible refine oq_f ?_ | with_reducible refine oq_lt ?_ | with_reducible refine oq_m ?_ (fun _ => ?_) | with_reducible refine oq_b2 (fun _ _ => ?_) | with_reducible refine oq_b1 (fun _ => ?_) | with_reducible refine oq_s ?_ | assumption))
theorem tu_df_X12_programOf_9 (n : Nat) (T : Nat) (L : Nat) {g : Nat}  (s0 : S12) (hs0 : tp s0 ≤ g) : okQ (tz2 g) (df_X12_programOf_9 n T L s0) := by
  unfold df_X12_programOf_9
  (repeat' (first | with_reducible exact oq_0 _ | with_reducible refine oq_i ?_ ?_ | with_reducible refine oq_l ?_ | with_reducible refine oq_ck ?_ | with_reducible refine oq_z ?_ | with_reducible refine oq_o ?_ | with_reducible refine oq_f ?_ | with_reducible refine oq_lt ?_ | with_reducible refine oq_m ?_ (fun _ => ?_) | with_reducible refine tu_df_X12_programOf_19 _ _ _  _ _ ?_ | with_reducible refine oq_x2 (tu_df_X12_programOf_19 (g := g) _ _ _  _ _ ?_) (fun _ s hs => ?_) | with_reducible refine oq_b2 (fun _ _ => ?_) | with_reducible refine oq_b1 (fun _ => ?_) | with_reducible refine oq_s ?_ | assumption))
theorem tu_df_X12_programOf_0 (n : Nat) (T : Nat) (L : Nat) {g : Nat} (v0 : Int32) (s0 : S12) (hs0 : tp s0 ≤ g) : okQ (tz2 g) (df_X12_programOf_0 n T L v0 s0) := by
  unfold df_X12_programOf_0
  (repeat' (first | with_reducible exact oq_0 _ | with_reducible refine oq_i ?_ ?_ | with_reducible refine oq_l ?_ | with_reducible refine oq_ck ?_ | with_reducible refine oq_z ?_ | with_reducible refine oq_o ?_ | with_reducible refine oq_f ?_ | with_reducible refine oq_lt ?_ | with_reducible refine oq_m ?_ (fun _ => ?_) | with_reducible refine tu_df_X12_programOf_9 _ _ _   _ ?_ | with_reducible refine oq_x2 (tu_df_X12_programOf_9 (g := g) _ _ _   _ ?_) (fun _ s hs => ?_) | with_reducible refine tu_df_X12_programOf_19 _ _ _  _ _ ?_ | with_reducible refine oq_x2 (tu_df_X12_programOf_19 (g := g) _ _ _  _ _ ?_) (fun _ s hs => ?_) | with_reducible refine oq_b2 (fun _ _ => ?_) | with_reducible refine oq_b1 (fun _ => ?_) | with_reducible refine oq_s ?_ | assumption))
theorem tu_df_X12_programOf (n : Nat) (T : Nat) (L : Nat) {g : Nat} (v0 : Int32) (s0 : S12) (hs0 : tp s0 ≤ g) : okQ (tz2 g) (df_X12_programOf n T L v0 s0) := by
  unfold df_X12_programOf
  (repeat' (first | with_reducible exact oq_0 _ | with_reducible refine oq_i ?_ ?_ | with_reducible refine oq_l ?_ | with_reducible refine oq_ck ?_ | with_reducible refine oq_z ?_ | with_reducible refine oq_o ?_ | with_reducible refine oq_f ?_ | with_reducible refine oq_lt ?_ | with_reducible refine oq_m ?_ (fun _ => ?_) | with_reducible refine tu_df_X12_programOf_0 _ _ _  _ _ ?_ | with_reducible refine oq_x2 (tu_df_X12_programOf_0 (g := g) _ _ _  _ _ ?_) (fun _ s hs => ?_) | with_reducible refine oq_b2 (fun _ _ => ?_) | with_reducible refine oq_b1 (fun _ => ?_) | with_reducible refine oq_s ?_ | assumption))
theorem tu_df_X12_program_0 (n : Nat) (T : Nat) (L : Nat) {g : Nat} (v0 : Int32) (v1 : Int32) (s0 : S12) (hs0 : tp s0 ≤ g) : okQ (tz2 g) (df_X12_program_0 n T L v0 v1 s0) := by
  unfold df_X12_program_0
  (repeat' (first | with_reducible exact oq_0 _ | with_reducible refine oq_i ?_ ?_ | with_reducible refine oq_l ?_ | with_reducible refine oq_ck ?_ | with_reducible refine oq_z ?_ | with_reducible refine oq_o ?_ | with_reducible refine oq_f ?_ | with_reducible refine oq_lt ?_ | with_reducible refine oq_m ?_ (fun _ => ?_) | with_reducible refine tu_df_X12_programOf _ _ _  _ _ ?_ | with_reducible refine oq_x2 (tu_df_X12_programOf (g := g) _ _ _  _ _ ?_) (fun _ s hs => ?_) | with_reducible refine oq_b2 (fun _ _ => ?_) | with_reducible refine oq_b1 (fun _ => ?_) | with_reducible refine oq_s ?_ | assumption))
theorem tu_df_X12_program (n : Nat) (T : Nat) (L : Nat) {g : Nat} (v0 : Int32) (v1 : Int32) (s0 : S12) (hs0 : tp s0 ≤ g) : okQ (tz2 g) (df_X12_program n T L v0 v1 s0) := by
  unfold df_X12_program
  (repeat' (first | with_reducible exact oq_0 _ | with_reducible refine oq_i ?_ ?_ | with_reducible refine oq_l ?_ | with_reducible refine oq_ck ?_ | with_reducible refine oq_z ?_ | with_reducible refine oq_o ?_ | with_reducible refine oq_f ?_ | with_reducible refine oq_lt ?_ | with_reducible refine oq_m ?_ (fun _ => ?_) | with_reducible refine tu_df_X12_program_0 _ _ _  _ _ _ ?_ | with_reducible refine oq_x2 (tu_df_X12_program_0 (g := g) _ _ _  _ _ _ ?_) (fun _ s hs => ?_) | with_reducible refine oq_b2 (fun _ _ => ?_) | with_reducible refine oq_b1 (fun _ => ?_) | with_reducible refine oq_s ?_ | assumption))
theorem tu_df_X12_image_36 (n : Nat) (T : Nat) (L : Nat) {g : Nat} (y0 : Int32) (s0 : S12) (hs0 : tp s0 ≤ g) : okQ (tz2 g) (df_X12_image_36 n T L y0 s0) := by
  unfold df_X12_image_36
  (repeat' (first | with_reducible exact oq_0 _ | with_reducible refine oq_i ?_ ?_ | with_reducible refine oq_l ?_ | with_reducible refine oq_ck ?_ | with_reducible refine oq_z ?_ | with_reducible refine oq_o ?_ | with_reducible refine oq_f ?_ | with_reducible refine oq_lt ?_ | with_reducible refine oq_m ?_ (fun _ => ?_) | with_reducible refine oq_b2 (fun _ _ => ?_) | with_reducible refine oq_b1 (fun _ => ?_) | with_reducible refine oq_s ?_ | assumption))
theorem tu_df_X12_image_22 (n : Nat) (T : Nat) (L : Nat) {g : Nat}  (s0 : S12) (hs0 : tp s0 ≤ g) : okQ (tz2 g) (df_X12_image_22 n T L s0) := by
  unfold df_X12_image_22
  (repeat' (first | with_reducible exact oq_0 _ | with_reducible refine oq_i ?_ ?_ | with_reducible refine oq_l ?_ | with_reducible refine oq_ck ?_ | with_reducible refine oq_z ?_ | with_reducible refine oq_o ?_ | with_reducible refine oq_f ?_ | with_reducible refine oq_lt ?_ | with_reducible refine oq_m ?_ (fun _ => ?_) | with_reducible refine tu_df_X12_image_36 _ _ _  _ _ ?_ | with_reducible refine oq_x2 (tu_df_X12_image_36 (g := g) _ _ _  _ _ ?_) (fun _ s hs => ?_) | with_reducible refine oq_b2 (fun _ _ => ?_) | with_reducible refine oq_b1 (fun _ => ?_) | with_reducible refine oq_s ?_ | assumption))
theorem tu_df_X12_image_0 (n : Nat) (T : Nat) (L : Nat) {g : Nat} (v0 : Int32) (v1 : Int32) (s0 : S12) (hs0 : tp s0 ≤ g) : okQ (tz2 g) (df_X12_image_0 n T L v0 v1 s0) := by
  unfold df_X12_image_0
  (repeat' (first | with_reducible exact oq_0 _ | with_reducible refine oq_i ?_ ?_ | with_reducible refine oq_l ?_ | with_reducible refine oq_ck ?_ | with_reducible refine oq_z ?_ | with_reducible refine oq_o ?_ | with_reducible refine oq_f ?_ | with_reducible refine oq_lt ?_ | with_reducible refine oq_m ?_ (fun _ => ?_) | with_reducible refine tu_df_X12_programOf _ _ _  _ _ ?_ | with_reducible refine oq_x2 (tu_df_X12_programOf (g := g) _ _ _  _ _ ?_) (fun _ s hs => ?_) | with_reducible refine tu_df_X12_image_22 _ _ _   _ ?_ | with_reducible refine oq_x2 (tu_df_X12_image_22 (g := g) _ _ _   _ ?_) (fun _ s hs => ?_) | with_reducible refine tu_df_X12_image_36 _ _ _  _ _ ?_ | with_reducible refine oq_x2 (tu_df_X12_image_36 (g := g) _ _ _  _ _ ?_) (fun _ s hs => ?_) | with_reducible refine oq_b2 (fun _ _ => ?_) | with_reducible refine oq_b1 (fun _ => ?_) | with_reducible refine oq_s ?_ | assumption))
theorem tu_df_X12_image (n : Nat) (T : Nat) (L : Nat) {g : Nat} (v0 : Int32) (v1 : Int32) (s0 : S12) (hs0 : tp s0 ≤ g) : okQ (tz2 g) (df_X12_image n T L v0 v1 s0) := by
  unfold df_X12_image
  (repeat' (first | with_reducible exact oq_0 _ | with_reducible refine oq_i ?_ ?_ | with_reducible refine oq_l ?_ | with_reducible refine oq_ck ?_ | with_reducible refine oq_z ?_ | with_reducible refine oq_o ?_ | with_reducible refine oq_f ?_ | with_reducible refine oq_lt ?_ | with_reducible refine oq_m ?_ (fun _ => ?_) | with_reducible refine tu_df_X12_image_0 _ _ _  _ _ _ ?_ | with_reducible refine oq_x2 (tu_df_X12_image_0 (g := g) _ _ _  _ _ _ ?_) (fun _ s hs => ?_) | with_reducible refine oq_b2 (fun _ _ => ?_) | with_reducible refine oq_b1 (fun _ => ?_) | with_reducible refine oq_s ?_ | assumption))
theorem tu_df_X12_label_32 (n : Nat) (T : Nat) (L : Nat) {g : Nat} (y0 : Int32) (s0 : S12) (hs0 : tp s0 ≤ g) : okQ (tz2 g) (df_X12_label_32 n T L y0 s0) := by
  unfold df_X12_label_32
  (repeat' (first | with_reducible exact oq_0 _ | with_reducible refine oq_i ?_ ?_ | with_reducible refine oq_l ?_ | with_reducible refine oq_ck ?_ | with_reducible refine oq_z ?_ | with_reducible refine oq_o ?_ | with_reducible refine oq_f ?_ | with_reducible refine oq_lt ?_ | with_reducible refine oq_m ?_ (fun _ => ?_) | with_reducible refine oq_b2 (fun _ _ => ?_) | with_reducible refine oq_b1 (fun _ => ?_) | with_reducible refine oq_s ?_ | assumption))
theorem tu_df_X12_label_22 (n : Nat) (T : Nat) (L : Nat) {g : Nat}  (s0 : S12) (hs0 : tp s0 ≤ g) : okQ (tz2 g) (df_X12_label_22 n T L s0) := by
  unfold df_X12_label_22
  (repeat' (first | with_reducible exact oq_0 _ | with_reducible refine oq_i ?_ ?_ | with_reducible refine oq_l ?_ | with_reducible refine oq_ck ?_ | with_reducible refine oq_z ?_ | with_reducible refine oq_o ?_ | with_reducible refine oq_f ?_ | with_reducible refine oq_lt ?_ | with_reducible refine oq_m ?_ (fun _ => ?_) | with_reducible refine tu_df_X12_label_32 _ _ _  _ _ ?_ | with_reducible refine oq_x2 (tu_df_X12_label_32 (g := g) _ _ _  _ _ ?_) (fun _ s hs => ?_) | with_reducible refine oq_b2 (fun _ _ => ?_) | with_reducible refine oq_b1 (fun _ => ?_) | with_reducible refine oq_s ?_ | assumption))
theorem tu_df_X12_label_0 (n : Nat) (T : Nat) (L : Nat) {g : Nat} (v0 : Int32) (v1 : Int32) (s0 : S12) (hs0 : tp s0 ≤ g) : okQ (tz2 g) (df_X12_label_0 n T L v0 v1 s0) := by
  unfold df_X12_label_0
  (repeat' (first | with_reducible exact oq_0 _ | with_reducible refine oq_i ?_ ?_ | with_reducible refine oq_l ?_ | with_reducible refine oq_ck ?_ | with_reducible refine oq_z ?_ | with_reducible refine oq_o ?_ | with_reducible refine oq_f ?_ | with_reducible refine oq_lt ?_ | with_reducible refine oq_m ?_ (fun _ => ?_) | with_reducible refine tu_df_X12_programOf _ _ _  _ _ ?_ | with_reducible refine oq_x2 (tu_df_X12_programOf (g := g) _ _ _  _ _ ?_) (fun _ s hs => ?_) | with_reducible refine tu_df_X12_label_22 _ _ _   _ ?_ | with_reducible refine oq_x2 (tu_df_X12_label_22 (g := g) _ _ _   _ ?_) (fun _ s hs => ?_) | with_reducible refine tu_df_X12_label_32 _ _ _  _ _ ?_ | with_reducible refine oq_x2 (tu_df_X12_label_32 (g := g) _ _ _  _ _ ?_) (fun _ s hs => ?_) | with_reducible refine oq_b2 (fun _ _ => ?_) | with_reducible refine oq_b1 (fun _ => ?_) | with_reducible refine oq_s ?_ | assumption))
theorem tu_df_X12_label (n : Nat) (T : Nat) (L : Nat) {g : Nat} (v0 : Int32) (v1 : Int32) (s0 : S12) (hs0 : tp s0 ≤ g) : okQ (tz2 g) (df_X12_label n T L v0 v1 s0) := by
  unfold df_X12_label
  (repeat' (first | with_reducible exact oq_0 _ | with_reducible refine oq_i ?_ ?_ | with_reducible refine oq_l ?_ | with_reducible refine oq_ck ?_ | with_reducible refine oq_z ?_ | with_reducible refine oq_o ?_ | with_reducible refine oq_f ?_ | with_reducible refine oq_lt ?_ | with_reducible refine oq_m ?_ (fun _ => ?_) | with_reducible refine tu_df_X12_label_0 _ _ _  _ _ _ ?_ | with_reducible refine oq_x2 (tu_df_X12_label_0 (g := g) _ _ _  _ _ _ ?_) (fun _ s hs => ?_) | with_reducible refine oq_b2 (fun _ _ => ?_) | with_reducible refine oq_b1 (fun _ => ?_) | with_reducible refine oq_s ?_ | assumption))
theorem tu_df_X12_before_19 (n : Nat) (T : Nat) (L : Nat) {g : Nat} (y0 : Int32) (s0 : S12) (hs0 : tp s0 ≤ g) : okQ (tz2 g) (df_X12_before_19 n T L y0 s0) := by
  unfold df_X12_before_19
  (repeat' (first | with_reducible exact oq_0 _ | with_reducible refine oq_i ?_ ?_ | with_reducible refine oq_l ?_ | with_reducible refine oq_ck ?_ | with_reducible refine oq_z ?_ | with_reducible refine oq_o ?_ | with_reducible refine oq_f ?_ | with_reducible refine oq_lt ?_ | with_reducible refine oq_m ?_ (fun _ => ?_) | with_reducible refine oq_b2 (fun _ _ => ?_) | with_reducible refine oq_b1 (fun _ => ?_) | with_reducible refine oq_s ?_ | assumption))
theorem tu_df_X12_before_0 (n : Nat) (T : Nat) (L : Nat) {g : Nat} (v0 : Int32) (v1 : Int32) (s0 : S12) (hs0 : tp s0 ≤ g) : okQ (tz2 g) (df_X12_before_0 n T L v0 v1 s0) := by
  unfold df_X12_before_0
  (repeat' (first | with_reducible exact oq_0 _ | with_reducible refine oq_i ?_ ?_ | with_reducible refine oq_l ?_ | with_reducible refine oq_ck ?_ | with_reducible refine oq_z ?_ | with_reducible refine oq_o ?_ | with_reducible refine oq_f ?_ | with_reducible refine oq_lt ?_ | with_reducible refine oq_m ?_ (fun _ => ?_) | with_reducible refine tu_df_X12_programOf _ _ _  _ _ ?_ | with_reducible refine oq_x2 (tu_df_X12_programOf (g := g) _ _ _  _ _ ?_) (fun _ s hs => ?_) | with_reducible refine tu_df_X12_before_19 _ _ _  _ _ ?_ | with_reducible refine oq_x2 (tu_df_X12_before_19 (g := g) _ _ _  _ _ ?_) (fun _ s hs => ?_) | with_reducible refine oq_b2 (fun _ _ => ?_) | with_reducible refine oq_b1 (fun _ => ?_) | with_reducible refine oq_s ?_ | assumption))
theorem tu_df_X12_before (n : Nat) (T : Nat) (L : Nat) {g : Nat} (v0 : Int32) (v1 : Int32) (s0 : S12) (hs0 : tp s0 ≤ g) : okQ (tz2 g) (df_X12_before n T L v0 v1 s0) := by
  unfold df_X12_before
  (repeat' (first | with_reducible exact oq_0 _ | with_reducible refine oq_i ?_ ?_ | with_reducible refine oq_l ?_ | with_reducible refine oq_ck ?_ | with_reducible refine oq_z ?_ | with_reducible refine oq_o ?_ | with_reducible refine oq_f ?_ | with_reducible refine oq_lt ?_ | with_reducible refine oq_m ?_ (fun _ => ?_) | with_reducible refine tu_df_X12_before_0 _ _ _  _ _ _ ?_ | with_reducible refine oq_x2 (tu_df_X12_before_0 (g := g) _ _ _  _ _ _ ?_) (fun _ s hs => ?_) | with_reducible refine oq_b2 (fun _ _ => ?_) | with_reducible refine oq_b1 (fun _ => ?_) | with_reducible refine oq_s ?_ | assumption))
theorem tu_df_X12_line_19 (n : Nat) (T : Nat) (L : Nat) {g : Nat} (y0 : Int32) (s0 : S12) (hs0 : tp s0 ≤ g) : okQ (tz2 g) (df_X12_line_19 n T L y0 s0) := by
  unfold df_X12_line_19
  (repeat' (first | with_reducible exact oq_0 _ | with_reducible refine oq_i ?_ ?_ | with_reducible refine oq_l ?_ | with_reducible refine oq_ck ?_ | with_reducible refine oq_z ?_ | with_reducible refine oq_o ?_ | with_reducible refine oq_f ?_ | with_reducible refine oq_lt ?_ | with_reducible refine oq_m ?_ (fun _ => ?_) | with_reducible refine oq_b2 (fun _ _ => ?_) | with_reducible refine oq_b1 (fun _ => ?_) | with_reducible refine oq_s ?_ | assumption))
theorem tu_df_X12_line_0 (n : Nat) (T : Nat) (L : Nat) {g : Nat} (v0 : Int32) (v1 : Int32) (s0 : S12) (hs0 : tp s0 ≤ g) : okQ (tz2 g) (df_X12_line_0 n T L v0 v1 s0) := by
  unfold df_X12_line_0
  (repeat' (first | with_reducible exact oq_0 _ | with_reducible refine oq_i ?_ ?_ | with_reducible refine oq_l ?_ | with_reducible refine oq_ck ?_ | with_reducible refine oq_z ?_ | with_reducible refine oq_o ?_ | with_reducible refine oq_f ?_ | with_reducible refine oq_lt ?_ | with_reducible refine oq_m ?_ (fun _ => ?_) | with_reducible refine tu_df_X12_programOf _ _ _  _ _ ?_ | with_reducible refine oq_x2 (tu_df_X12_programOf (g := g) _ _ _  _ _ ?_) (fun _ s hs => ?_) | with_reducible refine tu_df_X12_line_19 _ _ _  _ _ ?_ | with_reducible refine oq_x2 (tu_df_X12_line_19 (g := g) _ _ _  _ _ ?_) (fun _ s hs => ?_) | with_reducible refine oq_b2 (fun _ _ => ?_) | with_reducible refine oq_b1 (fun _ => ?_) | with_reducible refine oq_s ?_ | assumption))
theorem tu_df_X12_line (n : Nat) (T : Nat) (L : Nat) {g : Nat} (v0 : Int32) (v1 : Int32) (s0 : S12) (hs0 : tp s0 ≤ g) : okQ (tz2 g) (df_X12_line n T L v0 v1 s0) := by
  unfold df_X12_line
  (repeat' (first | with_reducible exact oq_0 _ | with_reducible refine oq_i ?_ ?_ | with_reducible refine oq_l ?_ | with_reducible refine oq_ck ?_ | with_reducible refine oq_z ?_ | with_reducible refine oq_o ?_ | with_reducible refine oq_f ?_ | with_reducible refine oq_lt ?_ | with_reducible refine oq_m ?_ (fun _ => ?_) | with_reducible refine tu_df_X12_line_0 _ _ _  _ _ _ ?_ | with_reducible refine oq_x2 (tu_df_X12_line_0 (g := g) _ _ _  _ _ _ ?_) (fun _ s hs => ?_) | with_reducible refine oq_b2 (fun _ _ => ?_) | with_reducible refine oq_b1 (fun _ => ?_) | with_reducible refine oq_s ?_ | assumption))
theorem tu_df_X12_boot_9 (n : Nat) (T : Nat) (L : Nat) {g : Nat}  (s0 : S12) (hs0 : tp s0 ≤ g) : okQ (tzv g) (df_X12_boot_9 n T L s0) := by
  unfold df_X12_boot_9
  (repeat' (first | with_reducible exact oq_0 _ | with_reducible refine oq_i ?_ ?_ | with_reducible refine oq_l ?_ | with_reducible refine oq_ck ?_ | with_reducible refine oq_z ?_ | with_reducible refine oq_o ?_ | with_reducible refine oq_f ?_ | with_reducible refine oq_lt ?_ | with_reducible refine oq_m ?_ (fun _ => ?_) | with_reducible refine oq_b2 (fun _ _ => ?_) | with_reducible refine oq_b1 (fun _ => ?_) | with_reducible refine oq_s ?_ | assumption))
theorem tu_df_X12_boot_0 (n : Nat) (T : Nat) (L : Nat) {g : Nat} (v0 : Int32) (s0 : S12) (hs0 : tp s0 ≤ g) : okQ (tzv g) (df_X12_boot_0 n T L v0 s0) := by
  unfold df_X12_boot_0
  (repeat' (first | with_reducible exact oq_0 _ | with_reducible refine oq_i ?_ ?_ | with_reducible refine oq_l ?_ | with_reducible refine oq_ck ?_ | with_reducible refine oq_z ?_ | with_reducible refine oq_o ?_ | with_reducible refine oq_f ?_ | with_reducible refine oq_lt ?_ | with_reducible refine oq_m ?_ (fun _ => ?_) | with_reducible refine tu_df_X12_boot_9 _ _ _   _ ?_ | with_reducible refine oq_b2 (fun _ _ => ?_) | with_reducible refine oq_b1 (fun _ => ?_) | with_reducible refine oq_s ?_ | assumption))
theorem tu_df_X12_boot (n : Nat) (T : Nat) (L : Nat) {g : Nat} (v0 : Int32) (s0 : S12) (hs0 : tp s0 ≤ g) : okQ (tzv g) (df_X12_boot n T L v0 s0) := by
  unfold df_X12_boot
  (repeat' (first | with_reducible exact oq_0 _ | with_reducible refine oq_i ?_ ?_ | with_reducible refine oq_l ?_ | with_reducible refine oq_ck ?_ | with_reducible refine oq_z ?_ | with_reducible refine oq_o ?_ | with_reducible refine oq_f ?_ | with_reducible refine oq_lt ?_ | with_reducible refine oq_m ?_ (fun _ => ?_) | with_reducible refine tu_df_X12_boot_0 _ _ _  _ _ ?_ | with_reducible refine oq_b2 (fun _ _ => ?_) | with_reducible refine oq_b1 (fun _ => ?_) | with_reducible refine oq_s ?_ | assumption))
theorem tu_df_X12_replay_9 (n : Nat) (T : Nat) (L : Nat) {g : Nat}  (s0 : S12) (hs0 : tp s0 ≤ g) : okQ (tzs g) (df_X12_replay_9 n T L s0) := by
  unfold df_X12_replay_9
  (repeat' (first | with_reducible exact oq_0 _ | with_reducible refine oq_i ?_ ?_ | with_reducible refine oq_l ?_ | with_reducible refine oq_ck ?_ | with_reducible refine oq_z ?_ | with_reducible refine oq_o ?_ | with_reducible refine oq_f ?_ | with_reducible refine oq_lt ?_ | with_reducible refine oq_m ?_ (fun _ => ?_) | with_reducible refine oq_b2 (fun _ _ => ?_) | with_reducible refine oq_b1 (fun _ => ?_) | with_reducible refine oq_s ?_ | assumption))
theorem tu_df_X12_replay_69 (n : Nat) (T : Nat) (L : Nat) {g : Nat} (x2 : Int32) (s0 : S12) (hs0 : tp s0 ≤ g) : okQ (tzs g) (df_X12_replay_69 n T L x2 s0) := by
  unfold df_X12_replay_69
  (repeat' (first | with_reducible exact oq_0 _ | with_reducible refine oq_i ?_ ?_ | with_reducible refine oq_l ?_ | with_reducible refine oq_ck ?_ | with_reducible refine oq_z ?_ | with_reducible refine oq_o ?_ | with_reducible refine oq_f ?_ | with_reducible refine oq_lt ?_ | with_reducible refine oq_m ?_ (fun _ => ?_) | with_reducible refine oq_b2 (fun _ _ => ?_) | with_reducible refine oq_b1 (fun _ => ?_) | with_reducible refine oq_s ?_ | assumption))
theorem tu_df_X12_replay_0 (n : Nat) (T : Nat) (L : Nat) {g : Nat} (v0 : Int32) (s0 : S12) (hs0 : tp s0 ≤ g) : okQ (tzs g) (df_X12_replay_0 n T L v0 s0) := by
  unfold df_X12_replay_0
  (repeat' (first | with_reducible exact oq_0 _ | with_reducible refine oq_i ?_ ?_ | with_reducible refine oq_l ?_ | with_reducible refine oq_ck ?_ | with_reducible refine oq_z ?_ | with_reducible refine oq_o ?_ | with_reducible refine oq_f ?_ | with_reducible refine oq_lt ?_ | with_reducible refine oq_m ?_ (fun _ => ?_) | with_reducible refine tu_df_X12_replay_9 _ _ _   _ ?_ | with_reducible refine tu_df_X12_useTape _ _ _   _ ?_ | with_reducible refine oq_x2 (tu_df_X12_useTape (g := g) _ _ _   _ ?_) (fun _ s hs => ?_) | with_reducible refine tu_df_X12_replay_69 _ _ _  _ _ ?_ | with_reducible refine oq_b2 (fun _ _ => ?_) | with_reducible refine oq_b1 (fun _ => ?_) | with_reducible refine oq_s ?_ | assumption))
theorem tu_df_X12_replay (n : Nat) (T : Nat) (L : Nat) {g : Nat} (v0 : Int32) (s0 : S12) (hs0 : tp s0 ≤ g) : okQ (tzs g) (df_X12_replay n T L v0 s0) := by
  unfold df_X12_replay
  (repeat' (first | with_reducible exact oq_0 _ | with_reducible refine oq_i ?_ ?_ | with_reducible refine oq_l ?_ | with_reducible refine oq_ck ?_ | with_reducible refine oq_z ?_ | with_reducible refine oq_o ?_ | with_reducible refine oq_f ?_ | with_reducible refine oq_lt ?_ | with_reducible refine oq_m ?_ (fun _ => ?_) | with_reducible refine tu_df_X12_replay_0 _ _ _  _ _ ?_ | with_reducible refine oq_b2 (fun _ _ => ?_) | with_reducible refine oq_b1 (fun _ => ?_) | with_reducible refine oq_s ?_ | assumption))
theorem tu_df_X12_outside_0 (n : Nat) (T : Nat) (L : Nat) {g : Nat} (v0 : Int32) (v1 : Int64) (v2 : Int32) (s0 : S12) (hs0 : tp s0 ≤ g) : okQ (tzs g) (df_X12_outside_0 n T L v0 v1 v2 s0) := by
  unfold df_X12_outside_0
  (repeat' (first | with_reducible exact oq_0 _ | with_reducible refine oq_i ?_ ?_ | with_reducible refine oq_l ?_ | with_reducible refine oq_ck ?_ | with_reducible refine oq_z ?_ | with_reducible refine oq_o ?_ | with_reducible refine oq_f ?_ | with_reducible refine oq_lt ?_ | with_reducible refine oq_m ?_ (fun _ => ?_) | with_reducible refine oq_b2 (fun _ _ => ?_) | with_reducible refine oq_b1 (fun _ => ?_) | with_reducible refine oq_s ?_ | assumption))
theorem tu_df_X12_outside (n : Nat) (T : Nat) (L : Nat) {g : Nat} (v0 : Int32) (v1 : Int64) (v2 : Int32) (s0 : S12) (hs0 : tp s0 ≤ g) : okQ (tzs g) (df_X12_outside n T L v0 v1 v2 s0) := by
  unfold df_X12_outside
  (repeat' (first | with_reducible exact oq_0 _ | with_reducible refine oq_i ?_ ?_ | with_reducible refine oq_l ?_ | with_reducible refine oq_ck ?_ | with_reducible refine oq_z ?_ | with_reducible refine oq_o ?_ | with_reducible refine oq_f ?_ | with_reducible refine oq_lt ?_ | with_reducible refine oq_m ?_ (fun _ => ?_) | with_reducible refine tu_df_X12_outside_0 _ _ _  _ _ _ _ ?_ | with_reducible refine oq_b2 (fun _ _ => ?_) | with_reducible refine oq_b1 (fun _ => ?_) | with_reducible refine oq_s ?_ | assumption))
theorem tu_df_X12_run_10 (n : Nat) (T : Nat) (L : Nat) {g : Nat}  (s0 : S12) (hs0 : tp s0 ≤ g) : okQ (tzs g) (df_X12_run_10 n T L s0) := by
  unfold df_X12_run_10
  (repeat' (first | with_reducible exact oq_0 _ | with_reducible refine oq_i ?_ ?_ | with_reducible refine oq_l ?_ | with_reducible refine oq_ck ?_ | with_reducible refine oq_z ?_ | with_reducible refine oq_o ?_ | with_reducible refine oq_f ?_ | with_reducible refine oq_lt ?_ | with_reducible refine oq_m ?_ (fun _ => ?_) | with_reducible refine oq_b2 (fun _ _ => ?_) | with_reducible refine oq_b1 (fun _ => ?_) | with_reducible refine oq_s ?_ | assumption))
theorem tu_df_X12_run_0 (n : Nat) (T : Nat) (L : Nat) {g : Nat} (v0 : Int32) (s0 : S12) (hs0 : tp s0 ≤ g) : okQ (tzs g) (df_X12_run_0 n T L v0 s0) := by
  unfold df_X12_run_0
  (repeat' (first | with_reducible exact oq_0 _ | with_reducible refine oq_i ?_ ?_ | with_reducible refine oq_l ?_ | with_reducible refine oq_ck ?_ | with_reducible refine oq_z ?_ | with_reducible refine oq_o ?_ | with_reducible refine oq_f ?_ | with_reducible refine oq_lt ?_ | with_reducible refine oq_m ?_ (fun _ => ?_) | with_reducible refine tu_df_X12_run_10 _ _ _   _ ?_ | with_reducible refine oq_b2 (fun _ _ => ?_) | with_reducible refine oq_b1 (fun _ => ?_) | with_reducible refine oq_s ?_ | assumption))
theorem tu_df_X12_run (n : Nat) (T : Nat) (L : Nat) {g : Nat} (v0 : Int32) (s0 : S12) (hs0 : tp s0 ≤ g) : okQ (tzs g) (df_X12_run n T L v0 s0) := by
  unfold df_X12_run
  (repeat' (first | with_reducible exact oq_0 _ | with_reducible refine oq_i ?_ ?_ | with_reducible refine oq_l ?_ | with_reducible refine oq_ck ?_ | with_reducible refine oq_z ?_ | with_reducible refine oq_o ?_ | with_reducible refine oq_f ?_ | with_reducible refine oq_lt ?_ | with_reducible refine oq_m ?_ (fun _ => ?_) | with_reducible refine tu_df_X12_run_0 _ _ _  _ _ ?_ | with_reducible refine oq_b2 (fun _ _ => ?_) | with_reducible refine oq_b1 (fun _ => ?_) | with_reducible refine oq_s ?_ | assumption))
theorem tu_df_X12_reason_0 (n : Nat) (T : Nat) (L : Nat) {g : Nat}  (s0 : S12) (hs0 : tp s0 ≤ g) : okQ (tz2 g) (df_X12_reason_0 n T L s0) := by
  unfold df_X12_reason_0
  (repeat' (first | with_reducible exact oq_0 _ | with_reducible refine oq_i ?_ ?_ | with_reducible refine oq_l ?_ | with_reducible refine oq_ck ?_ | with_reducible refine oq_z ?_ | with_reducible refine oq_o ?_ | with_reducible refine oq_f ?_ | with_reducible refine oq_lt ?_ | with_reducible refine oq_m ?_ (fun _ => ?_) | with_reducible refine oq_b2 (fun _ _ => ?_) | with_reducible refine oq_b1 (fun _ => ?_) | with_reducible refine oq_s ?_ | assumption))
theorem tu_df_X12_reason (n : Nat) (T : Nat) (L : Nat) {g : Nat}  (s0 : S12) (hs0 : tp s0 ≤ g) : okQ (tz2 g) (df_X12_reason n T L s0) := by
  unfold df_X12_reason
  (repeat' (first | with_reducible exact oq_0 _ | with_reducible refine oq_i ?_ ?_ | with_reducible refine oq_l ?_ | with_reducible refine oq_ck ?_ | with_reducible refine oq_z ?_ | with_reducible refine oq_o ?_ | with_reducible refine oq_f ?_ | with_reducible refine oq_lt ?_ | with_reducible refine oq_m ?_ (fun _ => ?_) | with_reducible refine tu_df_X12_reason_0 _ _ _   _ ?_ | with_reducible refine oq_x2 (tu_df_X12_reason_0 (g := g) _ _ _   _ ?_) (fun _ s hs => ?_) | with_reducible refine oq_b2 (fun _ _ => ?_) | with_reducible refine oq_b1 (fun _ => ?_) | with_reducible refine oq_s ?_ | assumption))
theorem tu_df_X12_go_25 (n : Nat) (T : Nat) (L : Nat) {g : Nat}  (s0 : S12) (hs0 : tp s0 ≤ g) : okQ (tzv g) (df_X12_go_25 n T L s0) := by
  unfold df_X12_go_25
  (repeat' (first | with_reducible exact oq_0 _ | with_reducible refine oq_i ?_ ?_ | with_reducible refine oq_l ?_ | with_reducible refine oq_ck ?_ | with_reducible refine oq_z ?_ | with_reducible refine oq_o ?_ | with_reducible refine oq_f ?_ | with_reducible refine oq_lt ?_ | with_reducible refine oq_m ?_ (fun _ => ?_) | with_reducible refine oq_b2 (fun _ _ => ?_) | with_reducible refine oq_b1 (fun _ => ?_) | with_reducible refine oq_s ?_ | assumption))
theorem tu_df_X12_go_0 (n : Nat) (T : Nat) (L : Nat) {g : Nat} (v0 : Int32) (s0 : S12) (hs0 : tp s0 ≤ g) : okQ (tzv g) (df_X12_go_0 n T L v0 s0) := by
  unfold df_X12_go_0
  (repeat' (first | with_reducible exact oq_0 _ | with_reducible refine oq_i ?_ ?_ | with_reducible refine oq_l ?_ | with_reducible refine oq_ck ?_ | with_reducible refine oq_z ?_ | with_reducible refine oq_o ?_ | with_reducible refine oq_f ?_ | with_reducible refine oq_lt ?_ | with_reducible refine oq_m ?_ (fun _ => ?_) | with_reducible refine tu_df_X12_go_25 _ _ _   _ ?_ | with_reducible refine oq_b2 (fun _ _ => ?_) | with_reducible refine oq_b1 (fun _ => ?_) | with_reducible refine oq_s ?_ | assumption))
theorem tu_df_X12_go (n : Nat) (T : Nat) (L : Nat) {g : Nat} (v0 : Int32) (s0 : S12) (hs0 : tp s0 ≤ g) : okQ (tzv g) (df_X12_go n T L v0 s0) := by
  unfold df_X12_go
  (repeat' (first | with_reducible exact oq_0 _ | with_reducible refine oq_i ?_ ?_ | with_reducible refine oq_l ?_ | with_reducible refine oq_ck ?_ | with_reducible refine oq_z ?_ | with_reducible refine oq_o ?_ | with_reducible refine oq_f ?_ | with_reducible refine oq_lt ?_ | with_reducible refine oq_m ?_ (fun _ => ?_) | with_reducible refine tu_df_X12_go_0 _ _ _  _ _ ?_ | with_reducible refine oq_b2 (fun _ _ => ?_) | with_reducible refine oq_b1 (fun _ => ?_) | with_reducible refine oq_s ?_ | assumption))
theorem tu_df_X12_cut_21 (n : Nat) (T : Nat) (L : Nat) {g : Nat} (y0 : Int32) (s0 : S12) (hs0 : tp s0 ≤ g) : okQ (tz2 g) (df_X12_cut_21 n T L y0 s0) := by
  unfold df_X12_cut_21
  (repeat' (first | with_reducible exact oq_0 _ | with_reducible refine oq_i ?_ ?_ | with_reducible refine oq_l ?_ | with_reducible refine oq_ck ?_ | with_reducible refine oq_z ?_ | with_reducible refine oq_o ?_ | with_reducible refine oq_f ?_ | with_reducible refine oq_lt ?_ | with_reducible refine oq_m ?_ (fun _ => ?_) | with_reducible refine oq_b2 (fun _ _ => ?_) | with_reducible refine oq_b1 (fun _ => ?_) | with_reducible refine oq_s ?_ | assumption))
theorem tu_df_X12_cut_0 (n : Nat) (T : Nat) (L : Nat) {g : Nat}  (s0 : S12) (hs0 : tp s0 ≤ g) : okQ (tz2 g) (df_X12_cut_0 n T L s0) := by
  unfold df_X12_cut_0
  (repeat' (first | with_reducible exact oq_0 _ | with_reducible refine oq_i ?_ ?_ | with_reducible refine oq_l ?_ | with_reducible refine oq_ck ?_ | with_reducible refine oq_z ?_ | with_reducible refine oq_o ?_ | with_reducible refine oq_f ?_ | with_reducible refine oq_lt ?_ | with_reducible refine oq_m ?_ (fun _ => ?_) | with_reducible refine tu_df_X12_cut_21 _ _ _  _ _ ?_ | with_reducible refine oq_x2 (tu_df_X12_cut_21 (g := g) _ _ _  _ _ ?_) (fun _ s hs => ?_) | with_reducible refine oq_b2 (fun _ _ => ?_) | with_reducible refine oq_b1 (fun _ => ?_) | with_reducible refine oq_s ?_ | assumption))
theorem tu_df_X12_cut (n : Nat) (T : Nat) (L : Nat) {g : Nat}  (s0 : S12) (hs0 : tp s0 ≤ g) : okQ (tz2 g) (df_X12_cut n T L s0) := by
  unfold df_X12_cut
  (repeat' (first | with_reducible exact oq_0 _ | with_reducible refine oq_i ?_ ?_ | with_reducible refine oq_l ?_ | with_reducible refine oq_ck ?_ | with_reducible refine oq_z ?_ | with_reducible refine oq_o ?_ | with_reducible refine oq_f ?_ | with_reducible refine oq_lt ?_ | with_reducible refine oq_m ?_ (fun _ => ?_) | with_reducible refine tu_df_X12_cut_0 _ _ _   _ ?_ | with_reducible refine oq_x2 (tu_df_X12_cut_0 (g := g) _ _ _   _ ?_) (fun _ s hs => ?_) | with_reducible refine oq_b2 (fun _ _ => ?_) | with_reducible refine oq_b1 (fun _ => ?_) | with_reducible refine oq_s ?_ | assumption))
theorem tu_dF_X12_isBreak_2 (n : Nat) (T : Nat) (L : Nat) {g : Nat} {g2 : Nat → Int32 → (S12) → Option (Int32 × (S12))} (hg2 : ∀ (a0 : Nat) (a1 : Int32) (s : S12), tp s ≤ g → okQ (tz2 g) (g2 a0 a1 s)) (x1 : Nat) (x2 : Int32) (s0 : S12) (hs0 : tp s0 ≤ g) : okQ (tz2 g) (dF_X12_isBreak_2 n T L g2 x1 x2 s0) := by
  unfold dF_X12_isBreak_2
  (repeat' (first | with_reducible exact oq_0 _ | with_reducible refine oq_i ?_ ?_ | with_reducible refine oq_l ?_ | with_reducible refine oq_ck ?_ | with_reducible refine oq_z ?_ | with_reducible refine oq_o ?_ | with_reducible refine oq_f ?_ | with_reducible refine oq_lt ?_ | with_reducible refine oq_m ?_ (fun _ => ?_) | with_reducible refine hg2 _ _ _ ?_ | with_reducible refine oq_b2 (fun _ _ => ?_) | with_reducible refine oq_b1 (fun _ => ?_) | with_reducible refine oq_s ?_ | assumption))
theorem tu_df_X12_isBreak_2 (n : Nat) (T : Nat) (L : Nat) {g : Nat} : ∀ (k : Nat) (a0 : Nat) (a1 : Int32) (s : S12), tp s ≤ g → okQ (tz2 g) (df_X12_isBreak_2 n T L k a0 a1 s) := fun k => by
  induction k with
  | zero => exact fun a0 a1 s hs => oq_0 _
  | succ k ih => exact fun a0 a1 s hs => tu_dF_X12_isBreak_2 n T L ih a0 a1 s hs
theorem tu_df_X12_isBreak_0 (n : Nat) (T : Nat) (L : Nat) {g : Nat} (v0 : Nat) (s0 : S12) (hs0 : tp s0 ≤ g) : okQ (tz2 g) (df_X12_isBreak_0 n T L v0 s0) := by
  unfold df_X12_isBreak_0
  (repeat' (first | with_reducible exact oq_0 _ | with_reducible refine oq_i ?_ ?_ | with_reducible refine oq_l ?_ | with_reducible refine oq_ck ?_ | with_reducible refine oq_z ?_ | with_reducible refine oq_o ?_ | with_reducible refine oq_f ?_ | with_reducible refine oq_lt ?_ | with_reducible refine oq_m ?_ (fun _ => ?_) | with_reducible refine tu_df_X12_isBreak_2 _ _ _ _ _ _ _ ?_ | with_reducible refine oq_x2 (tu_df_X12_isBreak_2 (g := g) _ _ _ _ _ _ _ ?_) (fun _ s hs => ?_) | with_reducible refine oq_b2 (fun _ _ => ?_) | with_reducible refine oq_b1 (fun _ => ?_) | with_reducible refine oq_s ?_ | assumption))
theorem tu_df_X12_isBreak (n : Nat) (T : Nat) (L : Nat) {g : Nat} (v0 : Nat) (s0 : S12) (hs0 : tp s0 ≤ g) : okQ (tz2 g) (df_X12_isBreak n T L v0 s0) := by
  unfold df_X12_isBreak
  (repeat' (first | with_reducible exact oq_0 _ | with_reducible refine oq_i ?_ ?_ | with_reducible refine oq_l ?_ | with_reducible refine oq_ck ?_ | with_reducible refine oq_z ?_ | with_reducible refine oq_o ?_ | with_reducible refine oq_f ?_ | with_reducible refine oq_lt ?_ | with_reducible refine oq_m ?_ (fun _ => ?_) | with_reducible refine tu_df_X12_isBreak_0 _ _ _  _ _ ?_ | with_reducible refine oq_x2 (tu_df_X12_isBreak_0 (g := g) _ _ _  _ _ ?_) (fun _ s hs => ?_) | with_reducible refine oq_b2 (fun _ _ => ?_) | with_reducible refine oq_b1 (fun _ => ?_) | with_reducible refine oq_s ?_ | assumption))
theorem tu_df_X12_unusedCondition_32 (n : Nat) (T : Nat) (L : Nat) {g : Nat} (x1 : Int32) (s0 : S12) (hs0 : tp s0 ≤ g) : okQ (tz2 g) (df_X12_unusedCondition_32 n T L x1 s0) := by
  unfold df_X12_unusedCondition_32
  (repeat' (first | with_reducible exact oq_0 _ | with_reducible refine oq_i ?_ ?_ | with_reducible refine oq_l ?_ | with_reducible refine oq_ck ?_ | with_reducible refine oq_z ?_ | with_reducible refine oq_o ?_ | with_reducible refine oq_f ?_ | with_reducible refine oq_lt ?_ | with_reducible refine oq_m ?_ (fun _ => ?_) | with_reducible refine oq_b2 (fun _ _ => ?_) | with_reducible refine oq_b1 (fun _ => ?_) | with_reducible refine oq_s ?_ | assumption))
theorem tu_dF_X12_unusedCondition_2 (n : Nat) (T : Nat) (L : Nat) {g : Nat} {g2 : Int32 → (S12) → Option (Option Nat × (S12))} (hg2 : ∀ (a0 : Int32) (s : S12), tp s ≤ g → okQ (tz2 g) (g2 a0 s)) (x1 : Int32) (s0 : S12) (hs0 : tp s0 ≤ g) : okQ (tz2 g) (dF_X12_unusedCondition_2 n T L g2 x1 s0) := by
  unfold dF_X12_unusedCondition_2
  (repeat' (first | with_reducible exact oq_0 _ | with_reducible refine oq_i ?_ ?_ | with_reducible refine oq_l ?_ | with_reducible refine oq_ck ?_ | with_reducible refine oq_z ?_ | with_reducible refine oq_o ?_ | with_reducible refine oq_f ?_ | with_reducible refine oq_lt ?_ | with_reducible refine oq_m ?_ (fun _ => ?_) | with_reducible refine tu_df_X12_unusedCondition_32 _ _ _  _ _ ?_ | with_reducible refine oq_x2 (tu_df_X12_unusedCondition_32 (g := g) _ _ _  _ _ ?_) (fun _ s hs => ?_) | with_reducible refine tu_df_X12_isBreak _ _ _  _ _ ?_ | with_reducible refine oq_x2 (tu_df_X12_isBreak (g := g) _ _ _  _ _ ?_) (fun _ s hs => ?_) | with_reducible refine hg2 _ _ ?_ | with_reducible refine oq_b2 (fun _ _ => ?_) | with_reducible refine oq_b1 (fun _ => ?_) | with_reducible refine oq_s ?_ | assumption))
theorem tu_df_X12_unusedCondition_2 (n : Nat) (T : Nat) (L : Nat) {g : Nat} : ∀ (k : Nat) (a0 : Int32) (s : S12), tp s ≤ g → okQ (tz2 g) (df_X12_unusedCondition_2 n T L k a0 s) := fun k => by
  induction k with
  | zero => exact fun a0 s hs => oq_0 _
  | succ k ih => exact fun a0 s hs => tu_dF_X12_unusedCondition_2 n T L ih a0 s hs
theorem tu_df_X12_unusedCondition_0 (n : Nat) (T : Nat) (L : Nat) {g : Nat}  (s0 : S12) (hs0 : tp s0 ≤ g) : okQ (tz2 g) (df_X12_unusedCondition_0 n T L s0) := by
  unfold df_X12_unusedCondition_0
  (repeat' (first | with_reducible exact oq_0 _ | with_reducible refine oq_i ?_ ?_ | with_reducible refine oq_l ?_ | with_reducible refine oq_ck ?_ | with_reducible refine oq_z ?_ | with_reducible refine oq_o ?_ | with_reducible refine oq_f ?_ | with_reducible refine oq_lt ?_ | with_reducible refine oq_m ?_ (fun _ => ?_) | with_reducible refine tu_df_X12_unusedCondition_2 _ _ _ _ _ _ ?_ | with_reducible refine oq_x2 (tu_df_X12_unusedCondition_2 (g := g) _ _ _ _ _ _ ?_) (fun _ s hs => ?_) | with_reducible refine oq_b2 (fun _ _ => ?_) | with_reducible refine oq_b1 (fun _ => ?_) | with_reducible refine oq_s ?_ | assumption))
theorem tu_df_X12_unusedCondition (n : Nat) (T : Nat) (L : Nat) {g : Nat}  (s0 : S12) (hs0 : tp s0 ≤ g) : okQ (tz2 g) (df_X12_unusedCondition n T L s0) := by
  unfold df_X12_unusedCondition
  (repeat' (first | with_reducible exact oq_0 _ | with_reducible refine oq_i ?_ ?_ | with_reducible refine oq_l ?_ | with_reducible refine oq_ck ?_ | with_reducible refine oq_z ?_ | with_reducible refine oq_o ?_ | with_reducible refine oq_f ?_ | with_reducible refine oq_lt ?_ | with_reducible refine oq_m ?_ (fun _ => ?_) | with_reducible refine tu_df_X12_unusedCondition_0 _ _ _   _ ?_ | with_reducible refine oq_x2 (tu_df_X12_unusedCondition_0 (g := g) _ _ _   _ ?_) (fun _ s hs => ?_) | with_reducible refine oq_b2 (fun _ _ => ?_) | with_reducible refine oq_b1 (fun _ => ?_) | with_reducible refine oq_s ?_ | assumption))
theorem tu_df_X12_watch_10 (n : Nat) (T : Nat) (L : Nat) {g : Nat}  (s0 : S12) (hs0 : tp s0 ≤ g) : okQ (tzs g) (df_X12_watch_10 n T L s0) := by
  unfold df_X12_watch_10
  (repeat' (first | with_reducible exact oq_0 _ | with_reducible refine oq_i ?_ ?_ | with_reducible refine oq_l ?_ | with_reducible refine oq_ck ?_ | with_reducible refine oq_z ?_ | with_reducible refine oq_o ?_ | with_reducible refine oq_f ?_ | with_reducible refine oq_lt ?_ | with_reducible refine oq_m ?_ (fun _ => ?_) | with_reducible refine oq_b2 (fun _ _ => ?_) | with_reducible refine oq_b1 (fun _ => ?_) | with_reducible refine oq_s ?_ | assumption))
theorem tu_df_X12_watch_47 (n : Nat) (T : Nat) (L : Nat) {g : Nat} (x3 : Int32) (s0 : S12) (hs0 : tp s0 ≤ g) : okQ (tzs g) (df_X12_watch_47 n T L x3 s0) := by
  unfold df_X12_watch_47
  (repeat' (first | with_reducible exact oq_0 _ | with_reducible refine oq_i ?_ ?_ | with_reducible refine oq_l ?_ | with_reducible refine oq_ck ?_ | with_reducible refine oq_z ?_ | with_reducible refine oq_o ?_ | with_reducible refine oq_f ?_ | with_reducible refine oq_lt ?_ | with_reducible refine oq_m ?_ (fun _ => ?_) | with_reducible refine oq_b2 (fun _ _ => ?_) | with_reducible refine oq_b1 (fun _ => ?_) | with_reducible refine oq_s ?_ | assumption))
theorem tu_df_X12_watch_0 (n : Nat) (T : Nat) (L : Nat) {g : Nat} (v0 : Int32) (s0 : S12) (hs0 : tp s0 ≤ g) : okQ (tzs g) (df_X12_watch_0 n T L v0 s0) := by
  unfold df_X12_watch_0
  (repeat' (first | with_reducible exact oq_0 _ | with_reducible refine oq_i ?_ ?_ | with_reducible refine oq_l ?_ | with_reducible refine oq_ck ?_ | with_reducible refine oq_z ?_ | with_reducible refine oq_o ?_ | with_reducible refine oq_f ?_ | with_reducible refine oq_lt ?_ | with_reducible refine oq_m ?_ (fun _ => ?_) | with_reducible refine tu_df_X12_watch_10 _ _ _   _ ?_ | with_reducible refine tu_df_X12_unusedCondition _ _ _   _ ?_ | with_reducible refine oq_x2 (tu_df_X12_unusedCondition (g := g) _ _ _   _ ?_) (fun _ s hs => ?_) | with_reducible refine tu_df_X12_useTape _ _ _   _ ?_ | with_reducible refine oq_x2 (tu_df_X12_useTape (g := g) _ _ _   _ ?_) (fun _ s hs => ?_) | with_reducible refine tu_df_X12_watch_47 _ _ _  _ _ ?_ | with_reducible refine oq_b2 (fun _ _ => ?_) | with_reducible refine oq_b1 (fun _ => ?_) | with_reducible refine oq_s ?_ | assumption))
theorem tu_df_X12_watch (n : Nat) (T : Nat) (L : Nat) {g : Nat} (v0 : Int32) (s0 : S12) (hs0 : tp s0 ≤ g) : okQ (tzs g) (df_X12_watch n T L v0 s0) := by
  unfold df_X12_watch
  (repeat' (first | with_reducible exact oq_0 _ | with_reducible refine oq_i ?_ ?_ | with_reducible refine oq_l ?_ | with_reducible refine oq_ck ?_ | with_reducible refine oq_z ?_ | with_reducible refine oq_o ?_ | with_reducible refine oq_f ?_ | with_reducible refine oq_lt ?_ | with_reducible refine oq_m ?_ (fun _ => ?_) | with_reducible refine tu_df_X12_watch_0 _ _ _  _ _ ?_ | with_reducible refine oq_b2 (fun _ _ => ?_) | with_reducible refine oq_b1 (fun _ => ?_) | with_reducible refine oq_s ?_ | assumption))
theorem tu_df_X12_drop_10 (n : Nat) (T : Nat) (L : Nat) {g : Nat}  (s0 : S12) (hs0 : tp s0 ≤ g) : okQ (tzs g) (df_X12_drop_10 n T L s0) := by
  unfold df_X12_drop_10
  (repeat' (first | with_reducible exact oq_0 _ | with_reducible refine oq_i ?_ ?_ | with_reducible refine oq_l ?_ | with_reducible refine oq_ck ?_ | with_reducible refine oq_z ?_ | with_reducible refine oq_o ?_ | with_reducible refine oq_f ?_ | with_reducible refine oq_lt ?_ | with_reducible refine oq_m ?_ (fun _ => ?_) | with_reducible refine oq_b2 (fun _ _ => ?_) | with_reducible refine oq_b1 (fun _ => ?_) | with_reducible refine oq_s ?_ | assumption))
theorem tu_df_X12_drop_32 (n : Nat) (T : Nat) (L : Nat) {g : Nat} (x1 : Int32) (y0 : Int32) (s0 : S12) (hs0 : tp s0 ≤ g) : okQ (tzs g) (df_X12_drop_32 n T L x1 y0 s0) := by
  unfold df_X12_drop_32
  (repeat' (first | with_reducible exact oq_0 _ | with_reducible refine oq_i ?_ ?_ | with_reducible refine oq_l ?_ | with_reducible refine oq_ck ?_ | with_reducible refine oq_z ?_ | with_reducible refine oq_o ?_ | with_reducible refine oq_f ?_ | with_reducible refine oq_lt ?_ | with_reducible refine oq_m ?_ (fun _ => ?_) | with_reducible refine oq_b2 (fun _ _ => ?_) | with_reducible refine oq_b1 (fun _ => ?_) | with_reducible refine oq_s ?_ | assumption))
theorem tu_df_X12_drop_0 (n : Nat) (T : Nat) (L : Nat) {g : Nat} (v0 : Int32) (s0 : S12) (hs0 : tp s0 ≤ g) : okQ (tzs g) (df_X12_drop_0 n T L v0 s0) := by
  unfold df_X12_drop_0
  (repeat' (first | with_reducible exact oq_0 _ | with_reducible refine oq_i ?_ ?_ | with_reducible refine oq_l ?_ | with_reducible refine oq_ck ?_ | with_reducible refine oq_z ?_ | with_reducible refine oq_o ?_ | with_reducible refine oq_f ?_ | with_reducible refine oq_lt ?_ | with_reducible refine oq_m ?_ (fun _ => ?_) | with_reducible refine tu_df_X12_drop_10 _ _ _   _ ?_ | with_reducible refine tu_df_X12_drop_32 _ _ _  _ _ _ ?_ | with_reducible refine oq_b2 (fun _ _ => ?_) | with_reducible refine oq_b1 (fun _ => ?_) | with_reducible refine oq_s ?_ | assumption))
theorem tu_df_X12_drop (n : Nat) (T : Nat) (L : Nat) {g : Nat} (v0 : Int32) (s0 : S12) (hs0 : tp s0 ≤ g) : okQ (tzs g) (df_X12_drop n T L v0 s0) := by
  unfold df_X12_drop
  (repeat' (first | with_reducible exact oq_0 _ | with_reducible refine oq_i ?_ ?_ | with_reducible refine oq_l ?_ | with_reducible refine oq_ck ?_ | with_reducible refine oq_z ?_ | with_reducible refine oq_o ?_ | with_reducible refine oq_f ?_ | with_reducible refine oq_lt ?_ | with_reducible refine oq_m ?_ (fun _ => ?_) | with_reducible refine tu_df_X12_drop_0 _ _ _  _ _ ?_ | with_reducible refine oq_b2 (fun _ _ => ?_) | with_reducible refine oq_b1 (fun _ => ?_) | with_reducible refine oq_s ?_ | assumption))
theorem tu_df_X12_value_10 (n : Nat) (T : Nat) (L : Nat) {g : Nat}  (s0 : S12) (hs0 : tp s0 ≤ g) : okQ (tzs g) (df_X12_value_10 n T L s0) := by
  unfold df_X12_value_10
  (repeat' (first | with_reducible exact oq_0 _ | with_reducible refine oq_i ?_ ?_ | with_reducible refine oq_l ?_ | with_reducible refine oq_ck ?_ | with_reducible refine oq_z ?_ | with_reducible refine oq_o ?_ | with_reducible refine oq_f ?_ | with_reducible refine oq_lt ?_ | with_reducible refine oq_m ?_ (fun _ => ?_) | with_reducible refine oq_b2 (fun _ _ => ?_) | with_reducible refine oq_b1 (fun _ => ?_) | with_reducible refine oq_s ?_ | assumption))
theorem tu_df_X12_value_39 (n : Nat) (T : Nat) (L : Nat) {g : Nat}  (s0 : S12) (hs0 : tp s0 ≤ g) : okQ (tzs g) (df_X12_value_39 n T L s0) := by
  unfold df_X12_value_39
  (repeat' (first | with_reducible exact oq_0 _ | with_reducible refine oq_i ?_ ?_ | with_reducible refine oq_l ?_ | with_reducible refine oq_ck ?_ | with_reducible refine oq_z ?_ | with_reducible refine oq_o ?_ | with_reducible refine oq_f ?_ | with_reducible refine oq_lt ?_ | with_reducible refine oq_m ?_ (fun _ => ?_) | with_reducible refine oq_b2 (fun _ _ => ?_) | with_reducible refine oq_b1 (fun _ => ?_) | with_reducible refine oq_s ?_ | assumption))
theorem tu_df_X12_value_102 (n : Nat) (T : Nat) (L : Nat) {g : Nat} (x2 : Nat) (x3 : Int32) (s0 : S12) (hs0 : tp s0 ≤ g) : okQ (tzs g) (df_X12_value_102 n T L x2 x3 s0) := by
  unfold df_X12_value_102
  (repeat' (first | with_reducible exact oq_0 _ | with_reducible refine oq_i ?_ ?_ | with_reducible refine oq_l ?_ | with_reducible refine oq_ck ?_ | with_reducible refine oq_z ?_ | with_reducible refine oq_o ?_ | with_reducible refine oq_f ?_ | with_reducible refine oq_lt ?_ | with_reducible refine oq_m ?_ (fun _ => ?_) | with_reducible refine oq_b2 (fun _ _ => ?_) | with_reducible refine oq_b1 (fun _ => ?_) | with_reducible refine oq_s ?_ | assumption))
theorem tu_df_X12_value_0 (n : Nat) (T : Nat) (L : Nat) {g : Nat} (v0 : Int32) (s0 : S12) (hs0 : tp s0 ≤ g) : okQ (tzs g) (df_X12_value_0 n T L v0 s0) := by
  unfold df_X12_value_0
  (repeat' (first | with_reducible exact oq_0 _ | with_reducible refine oq_i ?_ ?_ | with_reducible refine oq_l ?_ | with_reducible refine oq_ck ?_ | with_reducible refine oq_z ?_ | with_reducible refine oq_o ?_ | with_reducible refine oq_f ?_ | with_reducible refine oq_lt ?_ | with_reducible refine oq_m ?_ (fun _ => ?_) | with_reducible refine tu_df_X12_value_10 _ _ _   _ ?_ | with_reducible refine tu_df_X12_value_39 _ _ _   _ ?_ | with_reducible refine tu_df_X12_value_102 _ _ _  _ _ _ ?_ | with_reducible refine oq_b2 (fun _ _ => ?_) | with_reducible refine oq_b1 (fun _ => ?_) | with_reducible refine oq_s ?_ | assumption))
theorem tu_df_X12_value (n : Nat) (T : Nat) (L : Nat) {g : Nat} (v0 : Int32) (s0 : S12) (hs0 : tp s0 ≤ g) : okQ (tzs g) (df_X12_value n T L v0 s0) := by
  unfold df_X12_value
  (repeat' (first | with_reducible exact oq_0 _ | with_reducible refine oq_i ?_ ?_ | with_reducible refine oq_l ?_ | with_reducible refine oq_ck ?_ | with_reducible refine oq_z ?_ | with_reducible refine oq_o ?_ | with_reducible refine oq_f ?_ | with_reducible refine oq_lt ?_ | with_reducible refine oq_m ?_ (fun _ => ?_) | with_reducible refine tu_df_X12_value_0 _ _ _  _ _ ?_ | with_reducible refine oq_b2 (fun _ _ => ?_) | with_reducible refine oq_b1 (fun _ => ?_) | with_reducible refine oq_s ?_ | assumption))
theorem tu_df_X12_backTo_10 (n : Nat) (T : Nat) (L : Nat) {g : Nat}  (s0 : S12) (hs0 : tp s0 ≤ g) : okQ (tzs g) (df_X12_backTo_10 n T L s0) := by
  unfold df_X12_backTo_10
  (repeat' (first | with_reducible exact oq_0 _ | with_reducible refine oq_i ?_ ?_ | with_reducible refine oq_l ?_ | with_reducible refine oq_ck ?_ | with_reducible refine oq_z ?_ | with_reducible refine oq_o ?_ | with_reducible refine oq_f ?_ | with_reducible refine oq_lt ?_ | with_reducible refine oq_m ?_ (fun _ => ?_) | with_reducible refine oq_b2 (fun _ _ => ?_) | with_reducible refine oq_b1 (fun _ => ?_) | with_reducible refine oq_s ?_ | assumption))
theorem tu_df_X12_backTo_39 (n : Nat) (T : Nat) (L : Nat) {g : Nat}  (s0 : S12) (hs0 : tp s0 ≤ g) : okQ (tzs g) (df_X12_backTo_39 n T L s0) := by
  unfold df_X12_backTo_39
  (repeat' (first | with_reducible exact oq_0 _ | with_reducible refine oq_i ?_ ?_ | with_reducible refine oq_l ?_ | with_reducible refine oq_ck ?_ | with_reducible refine oq_z ?_ | with_reducible refine oq_o ?_ | with_reducible refine oq_f ?_ | with_reducible refine oq_lt ?_ | with_reducible refine oq_m ?_ (fun _ => ?_) | with_reducible refine oq_b2 (fun _ _ => ?_) | with_reducible refine oq_b1 (fun _ => ?_) | with_reducible refine oq_s ?_ | assumption))
theorem tu_df_X12_backTo_80 (n : Nat) (T : Nat) (L : Nat) {g : Nat} (x4 : Int32) (y1 : Int32) (s0 : S12) (hs0 : tp s0 ≤ g) : okQ (tzs g) (df_X12_backTo_80 n T L x4 y1 s0) := by
  unfold df_X12_backTo_80
  (repeat' (first | with_reducible exact oq_0 _ | with_reducible refine oq_i ?_ ?_ | with_reducible refine oq_l ?_ | with_reducible refine oq_ck ?_ | with_reducible refine oq_z ?_ | with_reducible refine oq_o ?_ | with_reducible refine oq_f ?_ | with_reducible refine oq_lt ?_ | with_reducible refine oq_m ?_ (fun _ => ?_) | with_reducible refine oq_b2 (fun _ _ => ?_) | with_reducible refine oq_b1 (fun _ => ?_) | with_reducible refine oq_s ?_ | assumption))
theorem tu_df_X12_backTo_0 (n : Nat) (T : Nat) (L : Nat) {g : Nat} (v0 : Int32) (s0 : S12) (hs0 : tp s0 ≤ g) : okQ (tzs g) (df_X12_backTo_0 n T L v0 s0) := by
  unfold df_X12_backTo_0
  (repeat' (first | with_reducible exact oq_0 _ | with_reducible refine oq_i ?_ ?_ | with_reducible refine oq_l ?_ | with_reducible refine oq_ck ?_ | with_reducible refine oq_z ?_ | with_reducible refine oq_o ?_ | with_reducible refine oq_f ?_ | with_reducible refine oq_lt ?_ | with_reducible refine oq_m ?_ (fun _ => ?_) | with_reducible refine tu_df_X12_backTo_10 _ _ _   _ ?_ | with_reducible refine tu_df_X12_backTo_39 _ _ _   _ ?_ | with_reducible refine tu_df_X12_backTo_80 _ _ _  _ _ _ ?_ | with_reducible refine oq_b2 (fun _ _ => ?_) | with_reducible refine oq_b1 (fun _ => ?_) | with_reducible refine oq_s ?_ | assumption))
theorem tu_df_X12_backTo (n : Nat) (T : Nat) (L : Nat) {g : Nat} (v0 : Int32) (s0 : S12) (hs0 : tp s0 ≤ g) : okQ (tzs g) (df_X12_backTo n T L v0 s0) := by
  unfold df_X12_backTo
  (repeat' (first | with_reducible exact oq_0 _ | with_reducible refine oq_i ?_ ?_ | with_reducible refine oq_l ?_ | with_reducible refine oq_ck ?_ | with_reducible refine oq_z ?_ | with_reducible refine oq_o ?_ | with_reducible refine oq_f ?_ | with_reducible refine oq_lt ?_ | with_reducible refine oq_m ?_ (fun _ => ?_) | with_reducible refine tu_df_X12_backTo_0 _ _ _  _ _ ?_ | with_reducible refine oq_b2 (fun _ _ => ?_) | with_reducible refine oq_b1 (fun _ => ?_) | with_reducible refine oq_s ?_ | assumption))
theorem tu_df_X12_isThere_25 (n : Nat) (T : Nat) (L : Nat) {g : Nat} (y0 : Int32) (s0 : S12) (hs0 : tp s0 ≤ g) : okQ (tz2 g) (df_X12_isThere_25 n T L y0 s0) := by
  unfold df_X12_isThere_25
  (repeat' (first | with_reducible exact oq_0 _ | with_reducible refine oq_i ?_ ?_ | with_reducible refine oq_l ?_ | with_reducible refine oq_ck ?_ | with_reducible refine oq_z ?_ | with_reducible refine oq_o ?_ | with_reducible refine oq_f ?_ | with_reducible refine oq_lt ?_ | with_reducible refine oq_m ?_ (fun _ => ?_) | with_reducible refine oq_b2 (fun _ _ => ?_) | with_reducible refine oq_b1 (fun _ => ?_) | with_reducible refine oq_s ?_ | assumption))
theorem tu_df_X12_isThere_24 (n : Nat) (T : Nat) (L : Nat) {g : Nat}  (s0 : S12) (hs0 : tp s0 ≤ g) : okQ (tz2 g) (df_X12_isThere_24 n T L s0) := by
  unfold df_X12_isThere_24
  (repeat' (first | with_reducible exact oq_0 _ | with_reducible refine oq_i ?_ ?_ | with_reducible refine oq_l ?_ | with_reducible refine oq_ck ?_ | with_reducible refine oq_z ?_ | with_reducible refine oq_o ?_ | with_reducible refine oq_f ?_ | with_reducible refine oq_lt ?_ | with_reducible refine oq_m ?_ (fun _ => ?_) | with_reducible refine tu_df_X12_isThere_25 _ _ _  _ _ ?_ | with_reducible refine oq_x2 (tu_df_X12_isThere_25 (g := g) _ _ _  _ _ ?_) (fun _ s hs => ?_) | with_reducible refine oq_b2 (fun _ _ => ?_) | with_reducible refine oq_b1 (fun _ => ?_) | with_reducible refine oq_s ?_ | assumption))
theorem tu_df_X12_isThere_0 (n : Nat) (T : Nat) (L : Nat) {g : Nat} (v0 : Int32) (s0 : S12) (hs0 : tp s0 ≤ g) : okQ (tz2 g) (df_X12_isThere_0 n T L v0 s0) := by
  unfold df_X12_isThere_0
  (repeat' (first | with_reducible exact oq_0 _ | with_reducible refine oq_i ?_ ?_ | with_reducible refine oq_l ?_ | with_reducible refine oq_ck ?_ | with_reducible refine oq_z ?_ | with_reducible refine oq_o ?_ | with_reducible refine oq_f ?_ | with_reducible refine oq_lt ?_ | with_reducible refine oq_m ?_ (fun _ => ?_) | with_reducible refine tu_df_X12_isThere_24 _ _ _   _ ?_ | with_reducible refine oq_x2 (tu_df_X12_isThere_24 (g := g) _ _ _   _ ?_) (fun _ s hs => ?_) | with_reducible refine tu_df_X12_isThere_25 _ _ _  _ _ ?_ | with_reducible refine oq_x2 (tu_df_X12_isThere_25 (g := g) _ _ _  _ _ ?_) (fun _ s hs => ?_) | with_reducible refine oq_b2 (fun _ _ => ?_) | with_reducible refine oq_b1 (fun _ => ?_) | with_reducible refine oq_s ?_ | assumption))
theorem tu_df_X12_isThere (n : Nat) (T : Nat) (L : Nat) {g : Nat} (v0 : Int32) (s0 : S12) (hs0 : tp s0 ≤ g) : okQ (tz2 g) (df_X12_isThere n T L v0 s0) := by
  unfold df_X12_isThere
  (repeat' (first | with_reducible exact oq_0 _ | with_reducible refine oq_i ?_ ?_ | with_reducible refine oq_l ?_ | with_reducible refine oq_ck ?_ | with_reducible refine oq_z ?_ | with_reducible refine oq_o ?_ | with_reducible refine oq_f ?_ | with_reducible refine oq_lt ?_ | with_reducible refine oq_m ?_ (fun _ => ?_) | with_reducible refine tu_df_X12_isThere_0 _ _ _  _ _ ?_ | with_reducible refine oq_x2 (tu_df_X12_isThere_0 (g := g) _ _ _  _ _ ?_) (fun _ s hs => ?_) | with_reducible refine oq_b2 (fun _ _ => ?_) | with_reducible refine oq_b1 (fun _ => ?_) | with_reducible refine oq_s ?_ | assumption))
theorem tu_df_X12_wrote_31 (n : Nat) (T : Nat) (L : Nat) {g : Nat} (y0 : Int32) (s0 : S12) (hs0 : tp s0 ≤ g) : okQ (tz2 g) (df_X12_wrote_31 n T L y0 s0) := by
  unfold df_X12_wrote_31
  (repeat' (first | with_reducible exact oq_0 _ | with_reducible refine oq_i ?_ ?_ | with_reducible refine oq_l ?_ | with_reducible refine oq_ck ?_ | with_reducible refine oq_z ?_ | with_reducible refine oq_o ?_ | with_reducible refine oq_f ?_ | with_reducible refine oq_lt ?_ | with_reducible refine oq_m ?_ (fun _ => ?_) | with_reducible refine oq_b2 (fun _ _ => ?_) | with_reducible refine oq_b1 (fun _ => ?_) | with_reducible refine oq_s ?_ | assumption))
theorem tu_df_X12_wrote_30 (n : Nat) (T : Nat) (L : Nat) {g : Nat}  (s0 : S12) (hs0 : tp s0 ≤ g) : okQ (tz2 g) (df_X12_wrote_30 n T L s0) := by
  unfold df_X12_wrote_30
  (repeat' (first | with_reducible exact oq_0 _ | with_reducible refine oq_i ?_ ?_ | with_reducible refine oq_l ?_ | with_reducible refine oq_ck ?_ | with_reducible refine oq_z ?_ | with_reducible refine oq_o ?_ | with_reducible refine oq_f ?_ | with_reducible refine oq_lt ?_ | with_reducible refine oq_m ?_ (fun _ => ?_) | with_reducible refine tu_df_X12_wrote_31 _ _ _  _ _ ?_ | with_reducible refine oq_x2 (tu_df_X12_wrote_31 (g := g) _ _ _  _ _ ?_) (fun _ s hs => ?_) | with_reducible refine oq_b2 (fun _ _ => ?_) | with_reducible refine oq_b1 (fun _ => ?_) | with_reducible refine oq_s ?_ | assumption))
theorem tu_df_X12_wrote_0 (n : Nat) (T : Nat) (L : Nat) {g : Nat} (v0 : Int32) (v1 : Int32) (s0 : S12) (hs0 : tp s0 ≤ g) : okQ (tz2 g) (df_X12_wrote_0 n T L v0 v1 s0) := by
  unfold df_X12_wrote_0
  (repeat' (first | with_reducible exact oq_0 _ | with_reducible refine oq_i ?_ ?_ | with_reducible refine oq_l ?_ | with_reducible refine oq_ck ?_ | with_reducible refine oq_z ?_ | with_reducible refine oq_o ?_ | with_reducible refine oq_f ?_ | with_reducible refine oq_lt ?_ | with_reducible refine oq_m ?_ (fun _ => ?_) | with_reducible refine tu_df_X12_isThere _ _ _  _ _ ?_ | with_reducible refine oq_x2 (tu_df_X12_isThere (g := g) _ _ _  _ _ ?_) (fun _ s hs => ?_) | with_reducible refine tu_df_X12_wrote_30 _ _ _   _ ?_ | with_reducible refine oq_x2 (tu_df_X12_wrote_30 (g := g) _ _ _   _ ?_) (fun _ s hs => ?_) | with_reducible refine tu_df_X12_wrote_31 _ _ _  _ _ ?_ | with_reducible refine oq_x2 (tu_df_X12_wrote_31 (g := g) _ _ _  _ _ ?_) (fun _ s hs => ?_) | with_reducible refine oq_b2 (fun _ _ => ?_) | with_reducible refine oq_b1 (fun _ => ?_) | with_reducible refine oq_s ?_ | assumption))
theorem tu_df_X12_wrote (n : Nat) (T : Nat) (L : Nat) {g : Nat} (v0 : Int32) (v1 : Int32) (s0 : S12) (hs0 : tp s0 ≤ g) : okQ (tz2 g) (df_X12_wrote n T L v0 v1 s0) := by
  unfold df_X12_wrote
  (repeat' (first | with_reducible exact oq_0 _ | with_reducible refine oq_i ?_ ?_ | with_reducible refine oq_l ?_ | with_reducible refine oq_ck ?_ | with_reducible refine oq_z ?_ | with_reducible refine oq_o ?_ | with_reducible refine oq_f ?_ | with_reducible refine oq_lt ?_ | with_reducible refine oq_m ?_ (fun _ => ?_) | with_reducible refine tu_df_X12_wrote_0 _ _ _  _ _ _ ?_ | with_reducible refine oq_x2 (tu_df_X12_wrote_0 (g := g) _ _ _  _ _ _ ?_) (fun _ s hs => ?_) | with_reducible refine oq_b2 (fun _ _ => ?_) | with_reducible refine oq_b1 (fun _ => ?_) | with_reducible refine oq_s ?_ | assumption))
theorem tu_df_X12_register_34 (n : Nat) (T : Nat) (L : Nat) {g : Nat} (y0 : Int32) (s0 : S12) (hs0 : tp s0 ≤ g) : okQ (tz2 g) (df_X12_register_34 n T L y0 s0) := by
  unfold df_X12_register_34
  (repeat' (first | with_reducible exact oq_0 _ | with_reducible refine oq_i ?_ ?_ | with_reducible refine oq_l ?_ | with_reducible refine oq_ck ?_ | with_reducible refine oq_z ?_ | with_reducible refine oq_o ?_ | with_reducible refine oq_f ?_ | with_reducible refine oq_lt ?_ | with_reducible refine oq_m ?_ (fun _ => ?_) | with_reducible refine oq_b2 (fun _ _ => ?_) | with_reducible refine oq_b1 (fun _ => ?_) | with_reducible refine oq_s ?_ | assumption))
theorem tu_df_X12_register_33 (n : Nat) (T : Nat) (L : Nat) {g : Nat}  (s0 : S12) (hs0 : tp s0 ≤ g) : okQ (tz2 g) (df_X12_register_33 n T L s0) := by
  unfold df_X12_register_33
  (repeat' (first | with_reducible exact oq_0 _ | with_reducible refine oq_i ?_ ?_ | with_reducible refine oq_l ?_ | with_reducible refine oq_ck ?_ | with_reducible refine oq_z ?_ | with_reducible refine oq_o ?_ | with_reducible refine oq_f ?_ | with_reducible refine oq_lt ?_ | with_reducible refine oq_m ?_ (fun _ => ?_) | with_reducible refine tu_df_X12_register_34 _ _ _  _ _ ?_ | with_reducible refine oq_x2 (tu_df_X12_register_34 (g := g) _ _ _  _ _ ?_) (fun _ s hs => ?_) | with_reducible refine oq_b2 (fun _ _ => ?_) | with_reducible refine oq_b1 (fun _ => ?_) | with_reducible refine oq_s ?_ | assumption))
theorem tu_df_X12_register_0 (n : Nat) (T : Nat) (L : Nat) {g : Nat} (v0 : Int32) (v1 : Int32) (s0 : S12) (hs0 : tp s0 ≤ g) : okQ (tz2 g) (df_X12_register_0 n T L v0 v1 s0) := by
  unfold df_X12_register_0
  (repeat' (first | with_reducible exact oq_0 _ | with_reducible refine oq_i ?_ ?_ | with_reducible refine oq_l ?_ | with_reducible refine oq_ck ?_ | with_reducible refine oq_z ?_ | with_reducible refine oq_o ?_ | with_reducible refine oq_f ?_ | with_reducible refine oq_lt ?_ | with_reducible refine oq_m ?_ (fun _ => ?_) | with_reducible refine tu_df_X12_isThere _ _ _  _ _ ?_ | with_reducible refine oq_x2 (tu_df_X12_isThere (g := g) _ _ _  _ _ ?_) (fun _ s hs => ?_) | with_reducible refine tu_df_X12_register_33 _ _ _   _ ?_ | with_reducible refine oq_x2 (tu_df_X12_register_33 (g := g) _ _ _   _ ?_) (fun _ s hs => ?_) | with_reducible refine tu_df_X12_register_34 _ _ _  _ _ ?_ | with_reducible refine oq_x2 (tu_df_X12_register_34 (g := g) _ _ _  _ _ ?_) (fun _ s hs => ?_) | with_reducible refine oq_b2 (fun _ _ => ?_) | with_reducible refine oq_b1 (fun _ => ?_) | with_reducible refine oq_s ?_ | assumption))
theorem tu_df_X12_register (n : Nat) (T : Nat) (L : Nat) {g : Nat} (v0 : Int32) (v1 : Int32) (s0 : S12) (hs0 : tp s0 ≤ g) : okQ (tz2 g) (df_X12_register n T L v0 v1 s0) := by
  unfold df_X12_register
  (repeat' (first | with_reducible exact oq_0 _ | with_reducible refine oq_i ?_ ?_ | with_reducible refine oq_l ?_ | with_reducible refine oq_ck ?_ | with_reducible refine oq_z ?_ | with_reducible refine oq_o ?_ | with_reducible refine oq_f ?_ | with_reducible refine oq_lt ?_ | with_reducible refine oq_m ?_ (fun _ => ?_) | with_reducible refine tu_df_X12_register_0 _ _ _  _ _ _ ?_ | with_reducible refine oq_x2 (tu_df_X12_register_0 (g := g) _ _ _  _ _ _ ?_) (fun _ s hs => ?_) | with_reducible refine oq_b2 (fun _ _ => ?_) | with_reducible refine oq_b1 (fun _ => ?_) | with_reducible refine oq_s ?_ | assumption))
theorem tu_df_X12_process_10 (n : Nat) (T : Nat) (L : Nat) {g : Nat}  (s0 : S12) (hs0 : tp s0 ≤ g) : okQ (tz2 g) (df_X12_process_10 n T L s0) := by
  unfold df_X12_process_10
  (repeat' (first | with_reducible exact oq_0 _ | with_reducible refine oq_i ?_ ?_ | with_reducible refine oq_l ?_ | with_reducible refine oq_ck ?_ | with_reducible refine oq_z ?_ | with_reducible refine oq_o ?_ | with_reducible refine oq_f ?_ | with_reducible refine oq_lt ?_ | with_reducible refine oq_m ?_ (fun _ => ?_) | with_reducible refine oq_b2 (fun _ _ => ?_) | with_reducible refine oq_b1 (fun _ => ?_) | with_reducible refine oq_s ?_ | assumption))
theorem tu_df_X12_process_36 (n : Nat) (T : Nat) (L : Nat) {g : Nat} (y0 : Int32) (s0 : S12) (hs0 : tp s0 ≤ g) : okQ (tz2 g) (df_X12_process_36 n T L y0 s0) := by
  unfold df_X12_process_36
  (repeat' (first | with_reducible exact oq_0 _ | with_reducible refine oq_i ?_ ?_ | with_reducible refine oq_l ?_ | with_reducible refine oq_ck ?_ | with_reducible refine oq_z ?_ | with_reducible refine oq_o ?_ | with_reducible refine oq_f ?_ | with_reducible refine oq_lt ?_ | with_reducible refine oq_m ?_ (fun _ => ?_) | with_reducible refine oq_b2 (fun _ _ => ?_) | with_reducible refine oq_b1 (fun _ => ?_) | with_reducible refine oq_s ?_ | assumption))
theorem tu_df_X12_process_31 (n : Nat) (T : Nat) (L : Nat) {g : Nat}  (s0 : S12) (hs0 : tp s0 ≤ g) : okQ (tz2 g) (df_X12_process_31 n T L s0) := by
  unfold df_X12_process_31
  (repeat' (first | with_reducible exact oq_0 _ | with_reducible refine oq_i ?_ ?_ | with_reducible refine oq_l ?_ | with_reducible refine oq_ck ?_ | with_reducible refine oq_z ?_ | with_reducible refine oq_o ?_ | with_reducible refine oq_f ?_ | with_reducible refine oq_lt ?_ | with_reducible refine oq_m ?_ (fun _ => ?_) | with_reducible refine tu_df_X12_process_36 _ _ _  _ _ ?_ | with_reducible refine oq_x2 (tu_df_X12_process_36 (g := g) _ _ _  _ _ ?_) (fun _ s hs => ?_) | with_reducible refine oq_b2 (fun _ _ => ?_) | with_reducible refine oq_b1 (fun _ => ?_) | with_reducible refine oq_s ?_ | assumption))
theorem tu_df_X12_process_0 (n : Nat) (T : Nat) (L : Nat) {g : Nat} (v0 : Int32) (v1 : Int32) (s0 : S12) (hs0 : tp s0 ≤ g) : okQ (tz2 g) (df_X12_process_0 n T L v0 v1 s0) := by
  unfold df_X12_process_0
  (repeat' (first | with_reducible exact oq_0 _ | with_reducible refine oq_i ?_ ?_ | with_reducible refine oq_l ?_ | with_reducible refine oq_ck ?_ | with_reducible refine oq_z ?_ | with_reducible refine oq_o ?_ | with_reducible refine oq_f ?_ | with_reducible refine oq_lt ?_ | with_reducible refine oq_m ?_ (fun _ => ?_) | with_reducible refine tu_df_X12_process_10 _ _ _   _ ?_ | with_reducible refine oq_x2 (tu_df_X12_process_10 (g := g) _ _ _   _ ?_) (fun _ s hs => ?_) | with_reducible refine tu_df_X12_isThere _ _ _  _ _ ?_ | with_reducible refine oq_x2 (tu_df_X12_isThere (g := g) _ _ _  _ _ ?_) (fun _ s hs => ?_) | with_reducible refine tu_df_X12_process_31 _ _ _   _ ?_ | with_reducible refine oq_x2 (tu_df_X12_process_31 (g := g) _ _ _   _ ?_) (fun _ s hs => ?_) | with_reducible refine tu_df_X12_process_36 _ _ _  _ _ ?_ | with_reducible refine oq_x2 (tu_df_X12_process_36 (g := g) _ _ _  _ _ ?_) (fun _ s hs => ?_) | with_reducible refine oq_b2 (fun _ _ => ?_) | with_reducible refine oq_b1 (fun _ => ?_) | with_reducible refine oq_s ?_ | assumption))
theorem tu_df_X12_process (n : Nat) (T : Nat) (L : Nat) {g : Nat} (v0 : Int32) (v1 : Int32) (s0 : S12) (hs0 : tp s0 ≤ g) : okQ (tz2 g) (df_X12_process n T L v0 v1 s0) := by
  unfold df_X12_process
  (repeat' (first | with_reducible exact oq_0 _ | with_reducible refine oq_i ?_ ?_ | with_reducible refine oq_l ?_ | with_reducible refine oq_ck ?_ | with_reducible refine oq_z ?_ | with_reducible refine oq_o ?_ | with_reducible refine oq_f ?_ | with_reducible refine oq_lt ?_ | with_reducible refine oq_m ?_ (fun _ => ?_) | with_reducible refine tu_df_X12_process_0 _ _ _  _ _ _ ?_ | with_reducible refine oq_x2 (tu_df_X12_process_0 (g := g) _ _ _  _ _ _ ?_) (fun _ s hs => ?_) | with_reducible refine oq_b2 (fun _ _ => ?_) | with_reducible refine oq_b1 (fun _ => ?_) | with_reducible refine oq_s ?_ | assumption))
theorem tu_df_X12_peek_37 (n : Nat) (T : Nat) (L : Nat) {g : Nat} (y0 : Int32) (s0 : S12) (hs0 : tp s0 ≤ g) : okQ (tz2 g) (df_X12_peek_37 n T L y0 s0) := by
  unfold df_X12_peek_37
  (repeat' (first | with_reducible exact oq_0 _ | with_reducible refine oq_i ?_ ?_ | with_reducible refine oq_l ?_ | with_reducible refine oq_ck ?_ | with_reducible refine oq_z ?_ | with_reducible refine oq_o ?_ | with_reducible refine oq_f ?_ | with_reducible refine oq_lt ?_ | with_reducible refine oq_m ?_ (fun _ => ?_) | with_reducible refine oq_b2 (fun _ _ => ?_) | with_reducible refine oq_b1 (fun _ => ?_) | with_reducible refine oq_s ?_ | assumption))
theorem tu_df_X12_peek_36 (n : Nat) (T : Nat) (L : Nat) {g : Nat}  (s0 : S12) (hs0 : tp s0 ≤ g) : okQ (tz2 g) (df_X12_peek_36 n T L s0) := by
  unfold df_X12_peek_36
  (repeat' (first | with_reducible exact oq_0 _ | with_reducible refine oq_i ?_ ?_ | with_reducible refine oq_l ?_ | with_reducible refine oq_ck ?_ | with_reducible refine oq_z ?_ | with_reducible refine oq_o ?_ | with_reducible refine oq_f ?_ | with_reducible refine oq_lt ?_ | with_reducible refine oq_m ?_ (fun _ => ?_) | with_reducible refine tu_df_X12_peek_37 _ _ _  _ _ ?_ | with_reducible refine oq_x2 (tu_df_X12_peek_37 (g := g) _ _ _  _ _ ?_) (fun _ s hs => ?_) | with_reducible refine oq_b2 (fun _ _ => ?_) | with_reducible refine oq_b1 (fun _ => ?_) | with_reducible refine oq_s ?_ | assumption))
theorem tu_df_X12_peek_0 (n : Nat) (T : Nat) (L : Nat) {g : Nat} (v0 : Int32) (v1 : Int32) (s0 : S12) (hs0 : tp s0 ≤ g) : okQ (tz2 g) (df_X12_peek_0 n T L v0 v1 s0) := by
  unfold df_X12_peek_0
  (repeat' (first | with_reducible exact oq_0 _ | with_reducible refine oq_i ?_ ?_ | with_reducible refine oq_l ?_ | with_reducible refine oq_ck ?_ | with_reducible refine oq_z ?_ | with_reducible refine oq_o ?_ | with_reducible refine oq_f ?_ | with_reducible refine oq_lt ?_ | with_reducible refine oq_m ?_ (fun _ => ?_) | with_reducible refine tu_df_X12_isThere _ _ _  _ _ ?_ | with_reducible refine oq_x2 (tu_df_X12_isThere (g := g) _ _ _  _ _ ?_) (fun _ s hs => ?_) | with_reducible refine tu_df_X12_peek_36 _ _ _   _ ?_ | with_reducible refine oq_x2 (tu_df_X12_peek_36 (g := g) _ _ _   _ ?_) (fun _ s hs => ?_) | with_reducible refine tu_df_X12_peek_37 _ _ _  _ _ ?_ | with_reducible refine oq_x2 (tu_df_X12_peek_37 (g := g) _ _ _  _ _ ?_) (fun _ s hs => ?_) | with_reducible refine oq_b2 (fun _ _ => ?_) | with_reducible refine oq_b1 (fun _ => ?_) | with_reducible refine oq_s ?_ | assumption))
theorem tu_df_X12_peek (n : Nat) (T : Nat) (L : Nat) {g : Nat} (v0 : Int32) (v1 : Int32) (s0 : S12) (hs0 : tp s0 ≤ g) : okQ (tz2 g) (df_X12_peek n T L v0 v1 s0) := by
  unfold df_X12_peek
  (repeat' (first | with_reducible exact oq_0 _ | with_reducible refine oq_i ?_ ?_ | with_reducible refine oq_l ?_ | with_reducible refine oq_ck ?_ | with_reducible refine oq_z ?_ | with_reducible refine oq_o ?_ | with_reducible refine oq_f ?_ | with_reducible refine oq_lt ?_ | with_reducible refine oq_m ?_ (fun _ => ?_) | with_reducible refine tu_df_X12_peek_0 _ _ _  _ _ _ ?_ | with_reducible refine oq_x2 (tu_df_X12_peek_0 (g := g) _ _ _  _ _ _ ?_) (fun _ s hs => ?_) | with_reducible refine oq_b2 (fun _ _ => ?_) | with_reducible refine oq_b1 (fun _ => ?_) | with_reducible refine oq_s ?_ | assumption))
theorem tu_df_X12_descriptor_19 (n : Nat) (T : Nat) (L : Nat) {g : Nat}  (s0 : S12) (hs0 : tp s0 ≤ g) : okQ (tz2 g) (df_X12_descriptor_19 n T L s0) := by
  unfold df_X12_descriptor_19
  (repeat' (first | with_reducible exact oq_0 _ | with_reducible refine oq_i ?_ ?_ | with_reducible refine oq_l ?_ | with_reducible refine oq_ck ?_ | with_reducible refine oq_z ?_ | with_reducible refine oq_o ?_ | with_reducible refine oq_f ?_ | with_reducible refine oq_lt ?_ | with_reducible refine oq_m ?_ (fun _ => ?_) | with_reducible refine oq_b2 (fun _ _ => ?_) | with_reducible refine oq_b1 (fun _ => ?_) | with_reducible refine oq_s ?_ | assumption))
theorem tu_df_X12_descriptor_64 (n : Nat) (T : Nat) (L : Nat) {g : Nat} (y0 : Int32) (s0 : S12) (hs0 : tp s0 ≤ g) : okQ (tz2 g) (df_X12_descriptor_64 n T L y0 s0) := by
  unfold df_X12_descriptor_64
  (repeat' (first | with_reducible exact oq_0 _ | with_reducible refine oq_i ?_ ?_ | with_reducible refine oq_l ?_ | with_reducible refine oq_ck ?_ | with_reducible refine oq_z ?_ | with_reducible refine oq_o ?_ | with_reducible refine oq_f ?_ | with_reducible refine oq_lt ?_ | with_reducible refine oq_m ?_ (fun _ => ?_) | with_reducible refine oq_b2 (fun _ _ => ?_) | with_reducible refine oq_b1 (fun _ => ?_) | with_reducible refine oq_s ?_ | assumption))
theorem tu_df_X12_descriptor_48 (n : Nat) (T : Nat) (L : Nat) {g : Nat} (x3 : Int32) (y0 : Int32) (s0 : S12) (hs0 : tp s0 ≤ g) : okQ (tz2 g) (df_X12_descriptor_48 n T L x3 y0 s0) := by
  unfold df_X12_descriptor_48
  (repeat' (first | with_reducible exact oq_0 _ | with_reducible refine oq_i ?_ ?_ | with_reducible refine oq_l ?_ | with_reducible refine oq_ck ?_ | with_reducible refine oq_z ?_ | with_reducible refine oq_o ?_ | with_reducible refine oq_f ?_ | with_reducible refine oq_lt ?_ | with_reducible refine oq_m ?_ (fun _ => ?_) | with_reducible refine tu_df_X12_descriptor_64 _ _ _  _ _ ?_ | with_reducible refine oq_x2 (tu_df_X12_descriptor_64 (g := g) _ _ _  _ _ ?_) (fun _ s hs => ?_) | with_reducible refine oq_b2 (fun _ _ => ?_) | with_reducible refine oq_b1 (fun _ => ?_) | with_reducible refine oq_s ?_ | assumption))
theorem tu_df_X12_descriptor_0 (n : Nat) (T : Nat) (L : Nat) {g : Nat} (v0 : Int32) (v1 : Int32) (v2 : Int32) (s0 : S12) (hs0 : tp s0 ≤ g) : okQ (tz2 g) (df_X12_descriptor_0 n T L v0 v1 v2 s0) := by
  unfold df_X12_descriptor_0
  (repeat' (first | with_reducible exact oq_0 _ | with_reducible refine oq_i ?_ ?_ | with_reducible refine oq_l ?_ | with_reducible refine oq_ck ?_ | with_reducible refine oq_z ?_ | with_reducible refine oq_o ?_ | with_reducible refine oq_f ?_ | with_reducible refine oq_lt ?_ | with_reducible refine oq_m ?_ (fun _ => ?_) | with_reducible refine tu_df_X12_descriptor_19 _ _ _   _ ?_ | with_reducible refine oq_x2 (tu_df_X12_descriptor_19 (g := g) _ _ _   _ ?_) (fun _ s hs => ?_) | with_reducible refine tu_df_X12_isThere _ _ _  _ _ ?_ | with_reducible refine oq_x2 (tu_df_X12_isThere (g := g) _ _ _  _ _ ?_) (fun _ s hs => ?_) | with_reducible refine tu_df_X12_descriptor_48 _ _ _  _ _ _ ?_ | with_reducible refine oq_x2 (tu_df_X12_descriptor_48 (g := g) _ _ _  _ _ _ ?_) (fun _ s hs => ?_) | with_reducible refine oq_b2 (fun _ _ => ?_) | with_reducible refine oq_b1 (fun _ => ?_) | with_reducible refine oq_s ?_ | assumption))
theorem tu_df_X12_descriptor (n : Nat) (T : Nat) (L : Nat) {g : Nat} (v0 : Int32) (v1 : Int32) (v2 : Int32) (s0 : S12) (hs0 : tp s0 ≤ g) : okQ (tz2 g) (df_X12_descriptor n T L v0 v1 v2 s0) := by
  unfold df_X12_descriptor
  (repeat' (first | with_reducible exact oq_0 _ | with_reducible refine oq_i ?_ ?_ | with_reducible refine oq_l ?_ | with_reducible refine oq_ck ?_ | with_reducible refine oq_z ?_ | with_reducible refine oq_o ?_ | with_reducible refine oq_f ?_ | with_reducible refine oq_lt ?_ | with_reducible refine oq_m ?_ (fun _ => ?_) | with_reducible refine tu_df_X12_descriptor_0 _ _ _  _ _ _ _ ?_ | with_reducible refine oq_x2 (tu_df_X12_descriptor_0 (g := g) _ _ _  _ _ _ _ ?_) (fun _ s hs => ?_) | with_reducible refine oq_b2 (fun _ _ => ?_) | with_reducible refine oq_b1 (fun _ => ?_) | with_reducible refine oq_s ?_ | assumption))
theorem tu_df_X12_held_57 (n : Nat) (T : Nat) (L : Nat) {g : Nat}  (s0 : S12) (hs0 : tp s0 ≤ g) : okQ (tz2 g) (df_X12_held_57 n T L s0) := by
  unfold df_X12_held_57
  (repeat' (first | with_reducible exact oq_0 _ | with_reducible refine oq_i ?_ ?_ | with_reducible refine oq_l ?_ | with_reducible refine oq_ck ?_ | with_reducible refine oq_z ?_ | with_reducible refine oq_o ?_ | with_reducible refine oq_f ?_ | with_reducible refine oq_lt ?_ | with_reducible refine oq_m ?_ (fun _ => ?_) | with_reducible refine oq_b2 (fun _ _ => ?_) | with_reducible refine oq_b1 (fun _ => ?_) | with_reducible refine oq_s ?_ | assumption))
theorem tu_df_X12_held_27 (n : Nat) (T : Nat) (L : Nat) {g : Nat} (x3 : Int32) (y0 : Int32) (s0 : S12) (hs0 : tp s0 ≤ g) : okQ (tz2 g) (df_X12_held_27 n T L x3 y0 s0) := by
  unfold df_X12_held_27
  (repeat' (first | with_reducible exact oq_0 _ | with_reducible refine oq_i ?_ ?_ | with_reducible refine oq_l ?_ | with_reducible refine oq_ck ?_ | with_reducible refine oq_z ?_ | with_reducible refine oq_o ?_ | with_reducible refine oq_f ?_ | with_reducible refine oq_lt ?_ | with_reducible refine oq_m ?_ (fun _ => ?_) | with_reducible refine tu_df_X12_held_57 _ _ _   _ ?_ | with_reducible refine oq_x2 (tu_df_X12_held_57 (g := g) _ _ _   _ ?_) (fun _ s hs => ?_) | with_reducible refine oq_b2 (fun _ _ => ?_) | with_reducible refine oq_b1 (fun _ => ?_) | with_reducible refine oq_s ?_ | assumption))
theorem tu_df_X12_held_0 (n : Nat) (T : Nat) (L : Nat) {g : Nat} (v0 : Int32) (v1 : Int32) (v2 : Int32) (s0 : S12) (hs0 : tp s0 ≤ g) : okQ (tz2 g) (df_X12_held_0 n T L v0 v1 v2 s0) := by
  unfold df_X12_held_0
  (repeat' (first | with_reducible exact oq_0 _ | with_reducible refine oq_i ?_ ?_ | with_reducible refine oq_l ?_ | with_reducible refine oq_ck ?_ | with_reducible refine oq_z ?_ | with_reducible refine oq_o ?_ | with_reducible refine oq_f ?_ | with_reducible refine oq_lt ?_ | with_reducible refine oq_m ?_ (fun _ => ?_) | with_reducible refine tu_df_X12_isThere _ _ _  _ _ ?_ | with_reducible refine oq_x2 (tu_df_X12_isThere (g := g) _ _ _  _ _ ?_) (fun _ s hs => ?_) | with_reducible refine tu_df_X12_held_27 _ _ _  _ _ _ ?_ | with_reducible refine oq_x2 (tu_df_X12_held_27 (g := g) _ _ _  _ _ _ ?_) (fun _ s hs => ?_) | with_reducible refine oq_b2 (fun _ _ => ?_) | with_reducible refine oq_b1 (fun _ => ?_) | with_reducible refine oq_s ?_ | assumption))
theorem tu_df_X12_held (n : Nat) (T : Nat) (L : Nat) {g : Nat} (v0 : Int32) (v1 : Int32) (v2 : Int32) (s0 : S12) (hs0 : tp s0 ≤ g) : okQ (tz2 g) (df_X12_held n T L v0 v1 v2 s0) := by
  unfold df_X12_held
  (repeat' (first | with_reducible exact oq_0 _ | with_reducible refine oq_i ?_ ?_ | with_reducible refine oq_l ?_ | with_reducible refine oq_ck ?_ | with_reducible refine oq_z ?_ | with_reducible refine oq_o ?_ | with_reducible refine oq_f ?_ | with_reducible refine oq_lt ?_ | with_reducible refine oq_m ?_ (fun _ => ?_) | with_reducible refine tu_df_X12_held_0 _ _ _  _ _ _ _ ?_ | with_reducible refine oq_x2 (tu_df_X12_held_0 (g := g) _ _ _  _ _ _ _ ?_) (fun _ s hs => ?_) | with_reducible refine oq_b2 (fun _ _ => ?_) | with_reducible refine oq_b1 (fun _ => ?_) | with_reducible refine oq_s ?_ | assumption))
theorem tu_df_X12_shown_28 (n : Nat) (T : Nat) (L : Nat) {g : Nat} (y0 : Int32) (s0 : S12) (hs0 : tp s0 ≤ g) : okQ (tz2 g) (df_X12_shown_28 n T L y0 s0) := by
  unfold df_X12_shown_28
  (repeat' (first | with_reducible exact oq_0 _ | with_reducible refine oq_i ?_ ?_ | with_reducible refine oq_l ?_ | with_reducible refine oq_ck ?_ | with_reducible refine oq_z ?_ | with_reducible refine oq_o ?_ | with_reducible refine oq_f ?_ | with_reducible refine oq_lt ?_ | with_reducible refine oq_m ?_ (fun _ => ?_) | with_reducible refine oq_b2 (fun _ _ => ?_) | with_reducible refine oq_b1 (fun _ => ?_) | with_reducible refine oq_s ?_ | assumption))
theorem tu_df_X12_shown_0 (n : Nat) (T : Nat) (L : Nat) {g : Nat} (v0 : Int32) (s0 : S12) (hs0 : tp s0 ≤ g) : okQ (tz2 g) (df_X12_shown_0 n T L v0 s0) := by
  unfold df_X12_shown_0
  (repeat' (first | with_reducible exact oq_0 _ | with_reducible refine oq_i ?_ ?_ | with_reducible refine oq_l ?_ | with_reducible refine oq_ck ?_ | with_reducible refine oq_z ?_ | with_reducible refine oq_o ?_ | with_reducible refine oq_f ?_ | with_reducible refine oq_lt ?_ | with_reducible refine oq_m ?_ (fun _ => ?_) | with_reducible refine tu_df_X12_shown_28 _ _ _  _ _ ?_ | with_reducible refine oq_x2 (tu_df_X12_shown_28 (g := g) _ _ _  _ _ ?_) (fun _ s hs => ?_) | with_reducible refine oq_b2 (fun _ _ => ?_) | with_reducible refine oq_b1 (fun _ => ?_) | with_reducible refine oq_s ?_ | assumption))
theorem tu_df_X12_shown (n : Nat) (T : Nat) (L : Nat) {g : Nat} (v0 : Int32) (s0 : S12) (hs0 : tp s0 ≤ g) : okQ (tz2 g) (df_X12_shown n T L v0 s0) := by
  unfold df_X12_shown
  (repeat' (first | with_reducible exact oq_0 _ | with_reducible refine oq_i ?_ ?_ | with_reducible refine oq_l ?_ | with_reducible refine oq_ck ?_ | with_reducible refine oq_z ?_ | with_reducible refine oq_o ?_ | with_reducible refine oq_f ?_ | with_reducible refine oq_lt ?_ | with_reducible refine oq_m ?_ (fun _ => ?_) | with_reducible refine tu_df_X12_shown_0 _ _ _  _ _ ?_ | with_reducible refine oq_x2 (tu_df_X12_shown_0 (g := g) _ _ _  _ _ ?_) (fun _ s hs => ?_) | with_reducible refine oq_b2 (fun _ _ => ?_) | with_reducible refine oq_b1 (fun _ => ?_) | with_reducible refine oq_s ?_ | assumption))
theorem tu_df_X12_breaksThere_22 (n : Nat) (T : Nat) (L : Nat) {g : Nat} {g4 : Int32 → Int32 → (S12) → Option (Int32 × (S12))} (hg4 : ∀ (a0 : Int32) (a1 : Int32) (s : S12), tp s ≤ g → okQ (tz2 g) (g4 a0 a1 s)) (x1 : Int32) (x2 : Int32) (s0 : S12) (hs0 : tp s0 ≤ g) : okQ (tz2 g) (df_X12_breaksThere_22 n T L g4 x1 x2 s0) := by
  unfold df_X12_breaksThere_22
  (repeat' (first | with_reducible exact oq_0 _ | with_reducible refine oq_i ?_ ?_ | with_reducible refine oq_l ?_ | with_reducible refine oq_ck ?_ | with_reducible refine oq_z ?_ | with_reducible refine oq_o ?_ | with_reducible refine oq_f ?_ | with_reducible refine oq_lt ?_ | with_reducible refine oq_m ?_ (fun _ => ?_) | with_reducible refine hg4 _ _ _ ?_ | with_reducible refine oq_b2 (fun _ _ => ?_) | with_reducible refine oq_b1 (fun _ => ?_) | with_reducible refine oq_s ?_ | assumption))
theorem tu_dF_X12_breaksThere_4 (n : Nat) (T : Nat) (L : Nat) {g : Nat} {g4 : Int32 → Int32 → (S12) → Option (Int32 × (S12))} (hg4 : ∀ (a0 : Int32) (a1 : Int32) (s : S12), tp s ≤ g → okQ (tz2 g) (g4 a0 a1 s)) (x1 : Int32) (x2 : Int32) (s0 : S12) (hs0 : tp s0 ≤ g) : okQ (tz2 g) (dF_X12_breaksThere_4 n T L g4 x1 x2 s0) := by
  unfold dF_X12_breaksThere_4
  (repeat' (first | with_reducible exact oq_0 _ | with_reducible refine oq_i ?_ ?_ | with_reducible refine oq_l ?_ | with_reducible refine oq_ck ?_ | with_reducible refine oq_z ?_ | with_reducible refine oq_o ?_ | with_reducible refine oq_f ?_ | with_reducible refine oq_lt ?_ | with_reducible refine oq_m ?_ (fun _ => ?_) | with_reducible refine tu_df_X12_breaksThere_22 _ _ _ hg4 _ _ _ ?_ | with_reducible refine oq_x2 (tu_df_X12_breaksThere_22 (g := g) _ _ _ hg4 _ _ _ ?_) (fun _ s hs => ?_) | with_reducible refine hg4 _ _ _ ?_ | with_reducible refine oq_b2 (fun _ _ => ?_) | with_reducible refine oq_b1 (fun _ => ?_) | with_reducible refine oq_s ?_ | assumption))
theorem tu_df_X12_breaksThere_4 (n : Nat) (T : Nat) (L : Nat) {g : Nat} : ∀ (k : Nat) (a0 : Int32) (a1 : Int32) (s : S12), tp s ≤ g → okQ (tz2 g) (df_X12_breaksThere_4 n T L k a0 a1 s) := fun k => by
  induction k with
  | zero => exact fun a0 a1 s hs => oq_0 _
  | succ k ih => exact fun a0 a1 s hs => tu_dF_X12_breaksThere_4 n T L ih a0 a1 s hs
theorem tu_df_X12_breaksThere_0 (n : Nat) (T : Nat) (L : Nat) {g : Nat}  (s0 : S12) (hs0 : tp s0 ≤ g) : okQ (tz2 g) (df_X12_breaksThere_0 n T L s0) := by
  unfold df_X12_breaksThere_0
  (repeat' (first | with_reducible exact oq_0 _ | with_reducible refine oq_i ?_ ?_ | with_reducible refine oq_l ?_ | with_reducible refine oq_ck ?_ | with_reducible refine oq_z ?_ | with_reducible refine oq_o ?_ | with_reducible refine oq_f ?_ | with_reducible refine oq_lt ?_ | with_reducible refine oq_m ?_ (fun _ => ?_) | with_reducible refine tu_df_X12_breaksThere_4 _ _ _ _ _ _ _ ?_ | with_reducible refine oq_x2 (tu_df_X12_breaksThere_4 (g := g) _ _ _ _ _ _ _ ?_) (fun _ s hs => ?_) | with_reducible refine oq_b2 (fun _ _ => ?_) | with_reducible refine oq_b1 (fun _ => ?_) | with_reducible refine oq_s ?_ | assumption))
theorem tu_df_X12_breaksThere (n : Nat) (T : Nat) (L : Nat) {g : Nat}  (s0 : S12) (hs0 : tp s0 ≤ g) : okQ (tz2 g) (df_X12_breaksThere n T L s0) := by
  unfold df_X12_breaksThere
  (repeat' (first | with_reducible exact oq_0 _ | with_reducible refine oq_i ?_ ?_ | with_reducible refine oq_l ?_ | with_reducible refine oq_ck ?_ | with_reducible refine oq_z ?_ | with_reducible refine oq_o ?_ | with_reducible refine oq_f ?_ | with_reducible refine oq_lt ?_ | with_reducible refine oq_m ?_ (fun _ => ?_) | with_reducible refine tu_df_X12_breaksThere_0 _ _ _   _ ?_ | with_reducible refine oq_x2 (tu_df_X12_breaksThere_0 (g := g) _ _ _   _ ?_) (fun _ s hs => ?_) | with_reducible refine oq_b2 (fun _ _ => ?_) | with_reducible refine oq_b1 (fun _ => ?_) | with_reducible refine oq_s ?_ | assumption))
theorem tu_df_X12_count_34 (n : Nat) (T : Nat) (L : Nat) {g : Nat}  (s0 : S12) (hs0 : tp s0 ≤ g) : okQ (tz2 g) (df_X12_count_34 n T L s0) := by
  unfold df_X12_count_34
  (repeat' (first | with_reducible exact oq_0 _ | with_reducible refine oq_i ?_ ?_ | with_reducible refine oq_l ?_ | with_reducible refine oq_ck ?_ | with_reducible refine oq_z ?_ | with_reducible refine oq_o ?_ | with_reducible refine oq_f ?_ | with_reducible refine oq_lt ?_ | with_reducible refine oq_m ?_ (fun _ => ?_) | with_reducible refine oq_b2 (fun _ _ => ?_) | with_reducible refine oq_b1 (fun _ => ?_) | with_reducible refine oq_s ?_ | assumption))
theorem tu_df_X12_count_89 (n : Nat) (T : Nat) (L : Nat) {g : Nat} (y0 : Int64) (s0 : S12) (hs0 : tp s0 ≤ g) : okQ (tz2 g) (df_X12_count_89 n T L y0 s0) := by
  unfold df_X12_count_89
  (repeat' (first | with_reducible exact oq_0 _ | with_reducible refine oq_i ?_ ?_ | with_reducible refine oq_l ?_ | with_reducible refine oq_ck ?_ | with_reducible refine oq_z ?_ | with_reducible refine oq_o ?_ | with_reducible refine oq_f ?_ | with_reducible refine oq_lt ?_ | with_reducible refine oq_m ?_ (fun _ => ?_) | with_reducible refine oq_b2 (fun _ _ => ?_) | with_reducible refine oq_b1 (fun _ => ?_) | with_reducible refine oq_s ?_ | assumption))
theorem tu_df_X12_count_60 (n : Nat) (T : Nat) (L : Nat) {g : Nat} (y0 : Int64) (s0 : S12) (hs0 : tp s0 ≤ g) : okQ (tz2 g) (df_X12_count_60 n T L y0 s0) := by
  unfold df_X12_count_60
  (repeat' (first | with_reducible exact oq_0 _ | with_reducible refine oq_i ?_ ?_ | with_reducible refine oq_l ?_ | with_reducible refine oq_ck ?_ | with_reducible refine oq_z ?_ | with_reducible refine oq_o ?_ | with_reducible refine oq_f ?_ | with_reducible refine oq_lt ?_ | with_reducible refine oq_m ?_ (fun _ => ?_) | with_reducible refine oq_b2 (fun _ _ => ?_) | with_reducible refine oq_b1 (fun _ => ?_) | with_reducible refine oq_s ?_ | assumption))
theorem tu_df_X12_count_0 (n : Nat) (T : Nat) (L : Nat) {g : Nat} (v0 : Int32) (s0 : S12) (hs0 : tp s0 ≤ g) : okQ (tz2 g) (df_X12_count_0 n T L v0 s0) := by
  unfold df_X12_count_0
  (repeat' (first | with_reducible exact oq_0 _ | with_reducible refine oq_i ?_ ?_ | with_reducible refine oq_l ?_ | with_reducible refine oq_ck ?_ | with_reducible refine oq_z ?_ | with_reducible refine oq_o ?_ | with_reducible refine oq_f ?_ | with_reducible refine oq_lt ?_ | with_reducible refine oq_m ?_ (fun _ => ?_) | with_reducible refine tu_df_X12_breaksThere _ _ _   _ ?_ | with_reducible refine oq_x2 (tu_df_X12_breaksThere (g := g) _ _ _   _ ?_) (fun _ s hs => ?_) | with_reducible refine tu_df_X12_count_34 _ _ _   _ ?_ | with_reducible refine oq_x2 (tu_df_X12_count_34 (g := g) _ _ _   _ ?_) (fun _ s hs => ?_) | with_reducible refine tu_df_X12_count_60 _ _ _  _ _ ?_ | with_reducible refine oq_x2 (tu_df_X12_count_60 (g := g) _ _ _  _ _ ?_) (fun _ s hs => ?_) | with_reducible refine tu_df_X12_count_89 _ _ _  _ _ ?_ | with_reducible refine oq_x2 (tu_df_X12_count_89 (g := g) _ _ _  _ _ ?_) (fun _ s hs => ?_) | with_reducible refine oq_b2 (fun _ _ => ?_) | with_reducible refine oq_b1 (fun _ => ?_) | with_reducible refine oq_s ?_ | assumption))
theorem tu_df_X12_count (n : Nat) (T : Nat) (L : Nat) {g : Nat} (v0 : Int32) (s0 : S12) (hs0 : tp s0 ≤ g) : okQ (tz2 g) (df_X12_count n T L v0 s0) := by
  unfold df_X12_count
  (repeat' (first | with_reducible exact oq_0 _ | with_reducible refine oq_i ?_ ?_ | with_reducible refine oq_l ?_ | with_reducible refine oq_ck ?_ | with_reducible refine oq_z ?_ | with_reducible refine oq_o ?_ | with_reducible refine oq_f ?_ | with_reducible refine oq_lt ?_ | with_reducible refine oq_m ?_ (fun _ => ?_) | with_reducible refine tu_df_X12_count_0 _ _ _  _ _ ?_ | with_reducible refine oq_x2 (tu_df_X12_count_0 (g := g) _ _ _  _ _ ?_) (fun _ s hs => ?_) | with_reducible refine oq_b2 (fun _ _ => ?_) | with_reducible refine oq_b1 (fun _ => ?_) | with_reducible refine oq_s ?_ | assumption))
theorem tu_df_X12_pack_0 (n : Nat) (T : Nat) (L : Nat) {g : Nat}  (s0 : S12) (hs0 : tp s0 ≤ g) : okQ (tz2 g) (df_X12_pack_0 n T L s0) := by
  unfold df_X12_pack_0
  (repeat' (first | with_reducible exact oq_0 _ | with_reducible refine oq_i ?_ ?_ | with_reducible refine oq_l ?_ | with_reducible refine oq_ck ?_ | with_reducible refine oq_z ?_ | with_reducible refine oq_o ?_ | with_reducible refine oq_f ?_ | with_reducible refine oq_lt ?_ | with_reducible refine oq_m ?_ (fun _ => ?_) | with_reducible refine oq_b2 (fun _ _ => ?_) | with_reducible refine oq_b1 (fun _ => ?_) | with_reducible refine oq_s ?_ | assumption))
theorem tu_df_X12_pack (n : Nat) (T : Nat) (L : Nat) {g : Nat}  (s0 : S12) (hs0 : tp s0 ≤ g) : okQ (tz2 g) (df_X12_pack n T L s0) := by
  unfold df_X12_pack
  (repeat' (first | with_reducible exact oq_0 _ | with_reducible refine oq_i ?_ ?_ | with_reducible refine oq_l ?_ | with_reducible refine oq_ck ?_ | with_reducible refine oq_z ?_ | with_reducible refine oq_o ?_ | with_reducible refine oq_f ?_ | with_reducible refine oq_lt ?_ | with_reducible refine oq_m ?_ (fun _ => ?_) | with_reducible refine tu_df_X12_pack_0 _ _ _   _ ?_ | with_reducible refine oq_x2 (tu_df_X12_pack_0 (g := g) _ _ _   _ ?_) (fun _ s hs => ?_) | with_reducible refine oq_b2 (fun _ _ => ?_) | with_reducible refine oq_b1 (fun _ => ?_) | with_reducible refine oq_s ?_ | assumption))
theorem tu_df_X12_logByte_26 (n : Nat) (T : Nat) (L : Nat) {g : Nat} (y0 : Int32) (s0 : S12) (hs0 : tp s0 ≤ g) : okQ (tz2 g) (df_X12_logByte_26 n T L y0 s0) := by
  unfold df_X12_logByte_26
  (repeat' (first | with_reducible exact oq_0 _ | with_reducible refine oq_i ?_ ?_ | with_reducible refine oq_l ?_ | with_reducible refine oq_ck ?_ | with_reducible refine oq_z ?_ | with_reducible refine oq_o ?_ | with_reducible refine oq_f ?_ | with_reducible refine oq_lt ?_ | with_reducible refine oq_m ?_ (fun _ => ?_) | with_reducible refine oq_b2 (fun _ _ => ?_) | with_reducible refine oq_b1 (fun _ => ?_) | with_reducible refine oq_s ?_ | assumption))
theorem tu_df_X12_logByte_12 (n : Nat) (T : Nat) (L : Nat) {g : Nat}  (s0 : S12) (hs0 : tp s0 ≤ g) : okQ (tz2 g) (df_X12_logByte_12 n T L s0) := by
  unfold df_X12_logByte_12
  (repeat' (first | with_reducible exact oq_0 _ | with_reducible refine oq_i ?_ ?_ | with_reducible refine oq_l ?_ | with_reducible refine oq_ck ?_ | with_reducible refine oq_z ?_ | with_reducible refine oq_o ?_ | with_reducible refine oq_f ?_ | with_reducible refine oq_lt ?_ | with_reducible refine oq_m ?_ (fun _ => ?_) | with_reducible refine tu_df_X12_logByte_26 _ _ _  _ _ ?_ | with_reducible refine oq_x2 (tu_df_X12_logByte_26 (g := g) _ _ _  _ _ ?_) (fun _ s hs => ?_) | with_reducible refine oq_b2 (fun _ _ => ?_) | with_reducible refine oq_b1 (fun _ => ?_) | with_reducible refine oq_s ?_ | assumption))
theorem tu_df_X12_logByte_0 (n : Nat) (T : Nat) (L : Nat) {g : Nat} (v0 : Int32) (s0 : S12) (hs0 : tp s0 ≤ g) : okQ (tz2 g) (df_X12_logByte_0 n T L v0 s0) := by
  unfold df_X12_logByte_0
  (repeat' (first | with_reducible exact oq_0 _ | with_reducible refine oq_i ?_ ?_ | with_reducible refine oq_l ?_ | with_reducible refine oq_ck ?_ | with_reducible refine oq_z ?_ | with_reducible refine oq_o ?_ | with_reducible refine oq_f ?_ | with_reducible refine oq_lt ?_ | with_reducible refine oq_m ?_ (fun _ => ?_) | with_reducible refine tu_df_X12_logByte_12 _ _ _   _ ?_ | with_reducible refine oq_x2 (tu_df_X12_logByte_12 (g := g) _ _ _   _ ?_) (fun _ s hs => ?_) | with_reducible refine tu_df_X12_logByte_26 _ _ _  _ _ ?_ | with_reducible refine oq_x2 (tu_df_X12_logByte_26 (g := g) _ _ _  _ _ ?_) (fun _ s hs => ?_) | with_reducible refine oq_b2 (fun _ _ => ?_) | with_reducible refine oq_b1 (fun _ => ?_) | with_reducible refine oq_s ?_ | assumption))
theorem tu_df_X12_logByte (n : Nat) (T : Nat) (L : Nat) {g : Nat} (v0 : Int32) (s0 : S12) (hs0 : tp s0 ≤ g) : okQ (tz2 g) (df_X12_logByte n T L v0 s0) := by
  unfold df_X12_logByte
  (repeat' (first | with_reducible exact oq_0 _ | with_reducible refine oq_i ?_ ?_ | with_reducible refine oq_l ?_ | with_reducible refine oq_ck ?_ | with_reducible refine oq_z ?_ | with_reducible refine oq_o ?_ | with_reducible refine oq_f ?_ | with_reducible refine oq_lt ?_ | with_reducible refine oq_m ?_ (fun _ => ?_) | with_reducible refine tu_df_X12_logByte_0 _ _ _  _ _ ?_ | with_reducible refine oq_x2 (tu_df_X12_logByte_0 (g := g) _ _ _  _ _ ?_) (fun _ s hs => ?_) | with_reducible refine oq_b2 (fun _ _ => ?_) | with_reducible refine oq_b1 (fun _ => ?_) | with_reducible refine oq_s ?_ | assumption))
theorem tu_df_X12_event_0 (n : Nat) (T : Nat) (L : Nat) {g : Nat} (v0 : Int32) (v1 : Int32) (s0 : S12) (hs0 : tp s0 ≤ g) : okQ (tz2 g) (df_X12_event_0 n T L v0 v1 s0) := by
  unfold df_X12_event_0
  (repeat' (first | with_reducible exact oq_0 _ | with_reducible refine oq_i ?_ ?_ | with_reducible refine oq_l ?_ | with_reducible refine oq_ck ?_ | with_reducible refine oq_z ?_ | with_reducible refine oq_o ?_ | with_reducible refine oq_f ?_ | with_reducible refine oq_lt ?_ | with_reducible refine oq_m ?_ (fun _ => ?_) | with_reducible refine oq_b2 (fun _ _ => ?_) | with_reducible refine oq_b1 (fun _ => ?_) | with_reducible refine oq_s ?_ | assumption))
theorem tu_df_X12_event (n : Nat) (T : Nat) (L : Nat) {g : Nat} (v0 : Int32) (v1 : Int32) (s0 : S12) (hs0 : tp s0 ≤ g) : okQ (tz2 g) (df_X12_event n T L v0 v1 s0) := by
  unfold df_X12_event
  (repeat' (first | with_reducible exact oq_0 _ | with_reducible refine oq_i ?_ ?_ | with_reducible refine oq_l ?_ | with_reducible refine oq_ck ?_ | with_reducible refine oq_z ?_ | with_reducible refine oq_o ?_ | with_reducible refine oq_f ?_ | with_reducible refine oq_lt ?_ | with_reducible refine oq_m ?_ (fun _ => ?_) | with_reducible refine tu_df_X12_event_0 _ _ _  _ _ _ ?_ | with_reducible refine oq_x2 (tu_df_X12_event_0 (g := g) _ _ _  _ _ _ ?_) (fun _ s hs => ?_) | with_reducible refine oq_b2 (fun _ _ => ?_) | with_reducible refine oq_b1 (fun _ => ?_) | with_reducible refine oq_s ?_ | assumption))
theorem tu_df_X12_assemble_9 (n : Nat) (T : Nat) (L : Nat) {g : Nat}  (s0 : S12) (hs0 : tp s0 ≤ g) : okQ (tzs g) (df_X12_assemble_9 n T L s0) := by
  unfold df_X12_assemble_9
  (repeat' (first | with_reducible exact oq_0 _ | with_reducible refine oq_i ?_ ?_ | with_reducible refine oq_l ?_ | with_reducible refine oq_ck ?_ | with_reducible refine oq_z ?_ | with_reducible refine oq_o ?_ | with_reducible refine oq_f ?_ | with_reducible refine oq_lt ?_ | with_reducible refine oq_m ?_ (fun _ => ?_) | with_reducible refine oq_b2 (fun _ _ => ?_) | with_reducible refine oq_b1 (fun _ => ?_) | with_reducible refine oq_s ?_ | assumption))
theorem tu_df_X12_assemble_50 (n : Nat) (T : Nat) (L : Nat) {g : Nat} (x3 : Int32) (s0 : S12) (hs0 : tp s0 ≤ g) : okQ (tzs g) (df_X12_assemble_50 n T L x3 s0) := by
  unfold df_X12_assemble_50
  (repeat' (first | with_reducible exact oq_0 _ | with_reducible refine oq_i ?_ ?_ | with_reducible refine oq_l ?_ | with_reducible refine oq_ck ?_ | with_reducible refine oq_z ?_ | with_reducible refine oq_o ?_ | with_reducible refine oq_f ?_ | with_reducible refine oq_lt ?_ | with_reducible refine oq_m ?_ (fun _ => ?_) | with_reducible refine oq_b2 (fun _ _ => ?_) | with_reducible refine oq_b1 (fun _ => ?_) | with_reducible refine oq_s ?_ | assumption))
theorem tu_df_X12_assemble_0 (n : Nat) (T : Nat) (L : Nat) {g : Nat} (v0 : Int32) (s0 : S12) (hs0 : tp s0 ≤ g) : okQ (tzs g) (df_X12_assemble_0 n T L v0 s0) := by
  unfold df_X12_assemble_0
  (repeat' (first | with_reducible exact oq_0 _ | with_reducible refine oq_i ?_ ?_ | with_reducible refine oq_l ?_ | with_reducible refine oq_ck ?_ | with_reducible refine oq_z ?_ | with_reducible refine oq_o ?_ | with_reducible refine oq_f ?_ | with_reducible refine oq_lt ?_ | with_reducible refine oq_m ?_ (fun _ => ?_) | with_reducible refine tu_df_X12_assemble_9 _ _ _   _ ?_ | with_reducible refine tu_df_X12_unusedProgram _ _ _   _ ?_ | with_reducible refine oq_x2 (tu_df_X12_unusedProgram (g := g) _ _ _   _ ?_) (fun _ s hs => ?_) | with_reducible refine tu_df_X12_useTape _ _ _   _ ?_ | with_reducible refine oq_x2 (tu_df_X12_useTape (g := g) _ _ _   _ ?_) (fun _ s hs => ?_) | with_reducible refine tu_df_X12_assemble_50 _ _ _  _ _ ?_ | with_reducible refine oq_b2 (fun _ _ => ?_) | with_reducible refine oq_b1 (fun _ => ?_) | with_reducible refine oq_s ?_ | assumption))
theorem tu_df_X12_assemble (n : Nat) (T : Nat) (L : Nat) {g : Nat} (v0 : Int32) (s0 : S12) (hs0 : tp s0 ≤ g) : okQ (tzs g) (df_X12_assemble n T L v0 s0) := by
  unfold df_X12_assemble
  (repeat' (first | with_reducible exact oq_0 _ | with_reducible refine oq_i ?_ ?_ | with_reducible refine oq_l ?_ | with_reducible refine oq_ck ?_ | with_reducible refine oq_z ?_ | with_reducible refine oq_o ?_ | with_reducible refine oq_f ?_ | with_reducible refine oq_lt ?_ | with_reducible refine oq_m ?_ (fun _ => ?_) | with_reducible refine tu_df_X12_assemble_0 _ _ _  _ _ ?_ | with_reducible refine oq_b2 (fun _ _ => ?_) | with_reducible refine oq_b1 (fun _ => ?_) | with_reducible refine oq_s ?_ | assumption))
theorem ti_df_X12_assemble_9 (n : Nat) (T : Nat) (L : Nat) (s0 : S12) : okQ lw_ia (df_X12_assemble_9 n T L s0) := by
  unfold df_X12_assemble_9
  (repeat' (first | with_reducible exact oq_0 _ | with_reducible refine oq_i ?_ ?_ | with_reducible refine oq_l ?_ | with_reducible refine oq_ck ?_ | with_reducible refine oq_z ?_ | with_reducible refine oq_o ?_ | with_reducible refine oq_f ?_ | with_reducible refine oq_lt ?_ | with_reducible refine oq_m ?_ (fun _ => ?_) | with_reducible refine oq_b2 (fun _ _ => ?_) | with_reducible refine oq_b1 (fun _ => ?_) | with_reducible refine oq_s ?_ | exact True.intro | exact rfl))
theorem ti_df_X12_assemble_50 (n : Nat) (T : Nat) (L : Nat) (x3 : Int32) (s0 : S12) : okQ lw_ia (df_X12_assemble_50 n T L x3 s0) := by
  unfold df_X12_assemble_50
  (repeat' (first | with_reducible exact oq_0 _ | with_reducible refine oq_i ?_ ?_ | with_reducible refine oq_l ?_ | with_reducible refine oq_ck ?_ | with_reducible refine oq_z ?_ | with_reducible refine oq_o ?_ | with_reducible refine oq_f ?_ | with_reducible refine oq_lt ?_ | with_reducible refine oq_m ?_ (fun _ => ?_) | with_reducible refine oq_b2 (fun _ _ => ?_) | with_reducible refine oq_b1 (fun _ => ?_) | with_reducible refine oq_s ?_ | exact True.intro | exact rfl))
theorem ti_df_X12_assemble_0 (n : Nat) (T : Nat) (L : Nat) (v0 : Int32) (s0 : S12) : okQ lw_ia (df_X12_assemble_0 n T L v0 s0) := by
  unfold df_X12_assemble_0
  (repeat' (first | with_reducible exact oq_0 _ | with_reducible refine oq_i ?_ ?_ | with_reducible refine oq_l ?_ | with_reducible refine oq_ck ?_ | with_reducible refine oq_z ?_ | with_reducible refine oq_o ?_ | with_reducible refine oq_f ?_ | with_reducible refine oq_lt ?_ | with_reducible refine oq_m ?_ (fun _ => ?_) | with_reducible exact ti_df_X12_assemble_9 _ _ _ _ | with_reducible exact ti_df_X12_assemble_50 _ _ _ _ _ | with_reducible refine oq_b2 (fun _ _ => ?_) | with_reducible refine oq_b1 (fun _ => ?_) | with_reducible refine oq_s ?_ | exact True.intro | exact rfl))
theorem ti_df_X12_assemble (n : Nat) (T : Nat) (L : Nat) (v0 : Int32) (s0 : S12) : okQ lw_ia (df_X12_assemble n T L v0 s0) := by
  unfold df_X12_assemble
  (repeat' (first | with_reducible exact oq_0 _ | with_reducible refine oq_i ?_ ?_ | with_reducible refine oq_l ?_ | with_reducible refine oq_ck ?_ | with_reducible refine oq_z ?_ | with_reducible refine oq_o ?_ | with_reducible refine oq_f ?_ | with_reducible refine oq_lt ?_ | with_reducible refine oq_m ?_ (fun _ => ?_) | with_reducible exact ti_df_X12_assemble_0 _ _ _ _ _ | with_reducible refine oq_b2 (fun _ _ => ?_) | with_reducible refine oq_b1 (fun _ => ?_) | with_reducible refine oq_s ?_ | exact True.intro | exact rfl))
theorem ti_df_X12_go_25 (n : Nat) (T : Nat) (L : Nat) (s0 : S12) : okQ lw_ia (df_X12_go_25 n T L s0) := by
  unfold df_X12_go_25
  (repeat' (first | with_reducible exact oq_0 _ | with_reducible refine oq_i ?_ ?_ | with_reducible refine oq_l ?_ | with_reducible refine oq_ck ?_ | with_reducible refine oq_z ?_ | with_reducible refine oq_o ?_ | with_reducible refine oq_f ?_ | with_reducible refine oq_lt ?_ | with_reducible refine oq_m ?_ (fun _ => ?_) | with_reducible refine oq_b2 (fun _ _ => ?_) | with_reducible refine oq_b1 (fun _ => ?_) | with_reducible refine oq_s ?_ | exact True.intro | exact rfl))
theorem ti_df_X12_go_0 (n : Nat) (T : Nat) (L : Nat) (v0 : Int32) (s0 : S12) : okQ lw_ia (df_X12_go_0 n T L v0 s0) := by
  unfold df_X12_go_0
  (repeat' (first | with_reducible exact oq_0 _ | with_reducible refine oq_i ?_ ?_ | with_reducible refine oq_l ?_ | with_reducible refine oq_ck ?_ | with_reducible refine oq_z ?_ | with_reducible refine oq_o ?_ | with_reducible refine oq_f ?_ | with_reducible refine oq_lt ?_ | with_reducible refine oq_m ?_ (fun _ => ?_) | with_reducible exact ti_df_X12_go_25 _ _ _ _ | with_reducible refine oq_b2 (fun _ _ => ?_) | with_reducible refine oq_b1 (fun _ => ?_) | with_reducible refine oq_s ?_ | exact True.intro | exact rfl))
theorem ti_df_X12_go (n : Nat) (T : Nat) (L : Nat) (v0 : Int32) (s0 : S12) : okQ lw_ia (df_X12_go n T L v0 s0) := by
  unfold df_X12_go
  (repeat' (first | with_reducible exact oq_0 _ | with_reducible refine oq_i ?_ ?_ | with_reducible refine oq_l ?_ | with_reducible refine oq_ck ?_ | with_reducible refine oq_z ?_ | with_reducible refine oq_o ?_ | with_reducible refine oq_f ?_ | with_reducible refine oq_lt ?_ | with_reducible refine oq_m ?_ (fun _ => ?_) | with_reducible exact ti_df_X12_go_0 _ _ _ _ _ | with_reducible refine oq_b2 (fun _ _ => ?_) | with_reducible refine oq_b1 (fun _ => ?_) | with_reducible refine oq_s ?_ | exact True.intro | exact rfl))
theorem ti_df_X12_watch_10 (n : Nat) (T : Nat) (L : Nat) (s0 : S12) : okQ lw_ia (df_X12_watch_10 n T L s0) := by
  unfold df_X12_watch_10
  (repeat' (first | with_reducible exact oq_0 _ | with_reducible refine oq_i ?_ ?_ | with_reducible refine oq_l ?_ | with_reducible refine oq_ck ?_ | with_reducible refine oq_z ?_ | with_reducible refine oq_o ?_ | with_reducible refine oq_f ?_ | with_reducible refine oq_lt ?_ | with_reducible refine oq_m ?_ (fun _ => ?_) | with_reducible refine oq_b2 (fun _ _ => ?_) | with_reducible refine oq_b1 (fun _ => ?_) | with_reducible refine oq_s ?_ | exact True.intro | exact rfl))
theorem ti_df_X12_watch_47 (n : Nat) (T : Nat) (L : Nat) (x3 : Int32) (s0 : S12) : okQ lw_ia (df_X12_watch_47 n T L x3 s0) := by
  unfold df_X12_watch_47
  (repeat' (first | with_reducible exact oq_0 _ | with_reducible refine oq_i ?_ ?_ | with_reducible refine oq_l ?_ | with_reducible refine oq_ck ?_ | with_reducible refine oq_z ?_ | with_reducible refine oq_o ?_ | with_reducible refine oq_f ?_ | with_reducible refine oq_lt ?_ | with_reducible refine oq_m ?_ (fun _ => ?_) | with_reducible refine oq_b2 (fun _ _ => ?_) | with_reducible refine oq_b1 (fun _ => ?_) | with_reducible refine oq_s ?_ | exact True.intro | exact rfl))
theorem ti_df_X12_watch_0 (n : Nat) (T : Nat) (L : Nat) (v0 : Int32) (s0 : S12) : okQ lw_ia (df_X12_watch_0 n T L v0 s0) := by
  unfold df_X12_watch_0
  (repeat' (first | with_reducible exact oq_0 _ | with_reducible refine oq_i ?_ ?_ | with_reducible refine oq_l ?_ | with_reducible refine oq_ck ?_ | with_reducible refine oq_z ?_ | with_reducible refine oq_o ?_ | with_reducible refine oq_f ?_ | with_reducible refine oq_lt ?_ | with_reducible refine oq_m ?_ (fun _ => ?_) | with_reducible exact ti_df_X12_watch_10 _ _ _ _ | with_reducible exact ti_df_X12_watch_47 _ _ _ _ _ | with_reducible refine oq_b2 (fun _ _ => ?_) | with_reducible refine oq_b1 (fun _ => ?_) | with_reducible refine oq_s ?_ | exact True.intro | exact rfl))
theorem ti_df_X12_watch (n : Nat) (T : Nat) (L : Nat) (v0 : Int32) (s0 : S12) : okQ lw_ia (df_X12_watch n T L v0 s0) := by
  unfold df_X12_watch
  (repeat' (first | with_reducible exact oq_0 _ | with_reducible refine oq_i ?_ ?_ | with_reducible refine oq_l ?_ | with_reducible refine oq_ck ?_ | with_reducible refine oq_z ?_ | with_reducible refine oq_o ?_ | with_reducible refine oq_f ?_ | with_reducible refine oq_lt ?_ | with_reducible refine oq_m ?_ (fun _ => ?_) | with_reducible exact ti_df_X12_watch_0 _ _ _ _ _ | with_reducible refine oq_b2 (fun _ _ => ?_) | with_reducible refine oq_b1 (fun _ => ?_) | with_reducible refine oq_s ?_ | exact True.intro | exact rfl))
theorem ti_df_X12_drop_10 (n : Nat) (T : Nat) (L : Nat) (s0 : S12) : okQ lw_ia (df_X12_drop_10 n T L s0) := by
  unfold df_X12_drop_10
  (repeat' (first | with_reducible exact oq_0 _ | with_reducible refine oq_i ?_ ?_ | with_reducible refine oq_l ?_ | with_reducible refine oq_ck ?_ | with_reducible refine oq_z ?_ | with_reducible refine oq_o ?_ | with_reducible refine oq_f ?_ | with_reducible refine oq_lt ?_ | with_reducible refine oq_m ?_ (fun _ => ?_) | with_reducible refine oq_b2 (fun _ _ => ?_) | with_reducible refine oq_b1 (fun _ => ?_) | with_reducible refine oq_s ?_ | exact True.intro | exact rfl))
theorem ti_df_X12_drop_32 (n : Nat) (T : Nat) (L : Nat) (x1 : Int32) (y0 : Int32) (s0 : S12) : okQ lw_ia (df_X12_drop_32 n T L x1 y0 s0) := by
  unfold df_X12_drop_32
  (repeat' (first | with_reducible exact oq_0 _ | with_reducible refine oq_i ?_ ?_ | with_reducible refine oq_l ?_ | with_reducible refine oq_ck ?_ | with_reducible refine oq_z ?_ | with_reducible refine oq_o ?_ | with_reducible refine oq_f ?_ | with_reducible refine oq_lt ?_ | with_reducible refine oq_m ?_ (fun _ => ?_) | with_reducible refine oq_b2 (fun _ _ => ?_) | with_reducible refine oq_b1 (fun _ => ?_) | with_reducible refine oq_s ?_ | exact True.intro | exact rfl))
theorem ti_df_X12_drop_0 (n : Nat) (T : Nat) (L : Nat) (v0 : Int32) (s0 : S12) : okQ lw_ia (df_X12_drop_0 n T L v0 s0) := by
  unfold df_X12_drop_0
  (repeat' (first | with_reducible exact oq_0 _ | with_reducible refine oq_i ?_ ?_ | with_reducible refine oq_l ?_ | with_reducible refine oq_ck ?_ | with_reducible refine oq_z ?_ | with_reducible refine oq_o ?_ | with_reducible refine oq_f ?_ | with_reducible refine oq_lt ?_ | with_reducible refine oq_m ?_ (fun _ => ?_) | with_reducible exact ti_df_X12_drop_10 _ _ _ _ | with_reducible exact ti_df_X12_drop_32 _ _ _ _ _ _ | with_reducible refine oq_b2 (fun _ _ => ?_) | with_reducible refine oq_b1 (fun _ => ?_) | with_reducible refine oq_s ?_ | exact True.intro | exact rfl))
theorem ti_df_X12_drop (n : Nat) (T : Nat) (L : Nat) (v0 : Int32) (s0 : S12) : okQ lw_ia (df_X12_drop n T L v0 s0) := by
  unfold df_X12_drop
  (repeat' (first | with_reducible exact oq_0 _ | with_reducible refine oq_i ?_ ?_ | with_reducible refine oq_l ?_ | with_reducible refine oq_ck ?_ | with_reducible refine oq_z ?_ | with_reducible refine oq_o ?_ | with_reducible refine oq_f ?_ | with_reducible refine oq_lt ?_ | with_reducible refine oq_m ?_ (fun _ => ?_) | with_reducible exact ti_df_X12_drop_0 _ _ _ _ _ | with_reducible refine oq_b2 (fun _ _ => ?_) | with_reducible refine oq_b1 (fun _ => ?_) | with_reducible refine oq_s ?_ | exact True.intro | exact rfl))
theorem lw_o {o : Nat → Int64} {x : Int64} : vp_updL o (Int32.toNatClampNeg 0) x (Int32.toNatClampNeg 0) = x := if_pos rfl
theorem tq_feed {n T L : Nat} (hn : 70000 < n) {a b c d e : Int32} {σ σ1 : S12} {y : Int32} {τ : S19} {x : Lb} (e1 : df_X12_feed n T L a b c d e σ = some (y, σ1)) (hJ : JJ n σ (τ, x)) : tp σ1 ≤ tp σ + 20 := by
  have h0 := hJ.1.2.2.1
  have h1 := hJ.1.2.2.2.1
  unfold df_X12_feed df_X12_feed_0 at e1
  obtain ⟨A, hA, eA, eI⟩ := ix_nI (k := 32768) h0 h1
  by_cases z : (sI σ.1 0 + 20 : Int32) ≤ 32768
  · have z2 : A + 20 ≤ 32768 := by
      rw [eA, show nI A + (20 : Int32) = nI (A + 20) from nI_add A 20] at z
      exact (nI_leI (b := 32768) (by omega) (by omega)).mp z
    rw [if_pos z] at e1
    have h5 : 5 ≤ n := by omega
    obtain ⟨p1, q1⟩ := nb_put n T L h5 a σ h0 (by omega)
    generalize w4 a σ = X1 at p1 q1
    obtain ⟨p2, q2⟩ := nb_put n T L h5 b X1 (by omega) (by omega)
    generalize w4 b X1 = X2 at p2 q2
    obtain ⟨p3, q3⟩ := nb_put n T L h5 c X2 (by omega) (by omega)
    generalize w4 c X2 = X3 at p3 q3
    obtain ⟨p4, q4⟩ := nb_put n T L h5 d X3 (by omega) (by omega)
    generalize w4 d X3 = X4 at p4 q4
    obtain ⟨p5, q5⟩ := nb_put n T L h5 e X4 (by omega) (by omega)
    generalize w4 e X4 = X5 at p5 q5
    rw [p1, nb_b1, p2, nb_b1, p3, nb_b1, p4, nb_b1, p5, nb_b1, nb_let] at e1
    have e2 : (pI X5.1 1 1, X5.2) = σ1 := (Prod.mk.inj (Option.some.inj e1)).2
    have e3 : tp σ1 = (sI X5.1 0).toInt.toNat := by
      rw [← e2]
      rfl
    have e4 : tp σ = (sI σ.1 0).toInt.toNat := rfl
    rw [e3, e4]
    omega
  · rw [if_neg z] at e1
    have e2 : σ = σ1 := congrArg Prod.snd (Option.some.inj e1)
    rw [e2]
    omega
theorem tq_end {n T L : Nat} (hn : 70000 < n) {v : Int32} {σ σ1 : S12} {y : Int32} {τ : S19} {x : Lb} (e1 : df_X12_end n T L v σ = some (y, σ1)) (hJ : JJ n σ (τ, x)) : tp σ1 ≤ tp σ + 20 := by
  have h0 := hJ.1.2.2.1
  have h1 := hJ.1.2.2.2.1
  have h2 := hJ.1.2.2.2.2.1
  have out : ∀ s : S12, some ((-1 : Int32), σ) = some (y, s) → tp s ≤ tp σ + 20 := fun s hs => by
    have e2 : σ = s := congrArg Prod.snd (Option.some.inj hs)
    rw [← e2]
    omega
  unfold df_X12_end df_X12_end_0 df_X12_end_17 at e1
  by_cases c1 : v < 0
  · rw [if_pos c1] at e1
    exact out _ e1
  · rw [if_neg c1] at e1
    by_cases c2 : (20 : Int32) < v
    · rw [if_pos c2] at e1
      exact out _ e1
    · rw [if_neg c2] at e1
      by_cases c3 : sI σ.1 1 = 0
      · rw [if_pos c3] at e1
        exact out _ e1
      · rw [if_neg c3, nb_let, nb_let] at e1
        obtain ⟨A, hA, eA, eI⟩ := ix_nI (k := 32768) h0 h1
        have v0 : 0 ≤ v.toInt := by
          rw [nb_lt0] at c1
          omega
        have v1 : v.toInt ≤ 20 := by
          rw [Int32.lt_iff_toInt_lt] at c2
          have c2 : ¬ (20 : Int) < v.toInt := c2
          omega
        obtain ⟨V, hV, eV, eW⟩ := ix_nI (k := 20) v0 v1
        have g2 := h2 c3
        have e2 : tp σ1 = (sI σ.1 0 - (20 - v)).toNatClampNeg := by
          have e3 := (Prod.mk.inj (Option.some.inj e1)).2
          rw [← e3]
          rfl
        have e4 : tp σ = A := by
          unfold tp
          rw [eA]
          exact nI_clamp (by omega)
        rw [e2, e4, eA, eV, show (20 : Int32) - nI V = nI (20 - V) from pk_sub (a := 20) hV, pk_sub (by omega), nI_clamp (by omega)]
        omega
theorem tq_wrote {n T L : Nat} (hn : 70000 < n) {v0 v1 : Int32} {σ σ1 : S12} {y : Int32} {τ : S19} {x : Lb} (e1 : df_X12_wrote n T L v0 v1 σ = some (y, σ1)) (hJ : JJ n σ (τ, x)) : tp σ1 ≤ tp σ + 20 := Nat.le_trans (tu_df_X12_wrote n T L v0 v1 σ (Nat.le_refl _) _ e1) (Nat.le_add_right _ _)
theorem tq_register {n T L : Nat} (hn : 70000 < n) {v0 v1 : Int32} {σ σ1 : S12} {y : Int32} {τ : S19} {x : Lb} (e1 : df_X12_register n T L v0 v1 σ = some (y, σ1)) (hJ : JJ n σ (τ, x)) : tp σ1 ≤ tp σ + 20 := Nat.le_trans (tu_df_X12_register n T L v0 v1 σ (Nat.le_refl _) _ e1) (Nat.le_add_right _ _)
theorem tq_process {n T L : Nat} (hn : 70000 < n) {v0 v1 : Int32} {σ σ1 : S12} {y : Int32} {τ : S19} {x : Lb} (e1 : df_X12_process n T L v0 v1 σ = some (y, σ1)) (hJ : JJ n σ (τ, x)) : tp σ1 ≤ tp σ + 20 := Nat.le_trans (tu_df_X12_process n T L v0 v1 σ (Nat.le_refl _) _ e1) (Nat.le_add_right _ _)
theorem tq_peek {n T L : Nat} (hn : 70000 < n) {v0 v1 : Int32} {σ σ1 : S12} {y : Int32} {τ : S19} {x : Lb} (e1 : df_X12_peek n T L v0 v1 σ = some (y, σ1)) (hJ : JJ n σ (τ, x)) : tp σ1 ≤ tp σ + 20 := Nat.le_trans (tu_df_X12_peek n T L v0 v1 σ (Nat.le_refl _) _ e1) (Nat.le_add_right _ _)
theorem tq_descriptor {n T L : Nat} (hn : 70000 < n) {v0 v1 v2 : Int32} {σ σ1 : S12} {y : Int32} {τ : S19} {x : Lb} (e1 : df_X12_descriptor n T L v0 v1 v2 σ = some (y, σ1)) (hJ : JJ n σ (τ, x)) : tp σ1 ≤ tp σ + 20 := Nat.le_trans (tu_df_X12_descriptor n T L v0 v1 v2 σ (Nat.le_refl _) _ e1) (Nat.le_add_right _ _)
theorem tq_held {n T L : Nat} (hn : 70000 < n) {v0 v1 v2 : Int32} {σ σ1 : S12} {y : Int32} {τ : S19} {x : Lb} (e1 : df_X12_held n T L v0 v1 v2 σ = some (y, σ1)) (hJ : JJ n σ (τ, x)) : tp σ1 ≤ tp σ + 20 := Nat.le_trans (tu_df_X12_held n T L v0 v1 v2 σ (Nat.le_refl _) _ e1) (Nat.le_add_right _ _)
theorem tq_shown {n T L : Nat} (hn : 70000 < n) {v0 : Int32} {σ σ1 : S12} {y : Int32} {τ : S19} {x : Lb} (e1 : df_X12_shown n T L v0 σ = some (y, σ1)) (hJ : JJ n σ (τ, x)) : tp σ1 ≤ tp σ + 20 := Nat.le_trans (tu_df_X12_shown n T L v0 σ (Nat.le_refl _) _ e1) (Nat.le_add_right _ _)
theorem tq_event {n T L : Nat} (hn : 70000 < n) {v0 v1 : Int32} {σ σ1 : S12} {y : Int64} {τ : S19} {x : Lb} (e1 : df_X12_event n T L v0 v1 σ = some (y, σ1)) (hJ : JJ n σ (τ, x)) : tp σ1 ≤ tp σ + 20 := Nat.le_trans (tu_df_X12_event n T L v0 v1 σ (Nat.le_refl _) _ e1) (Nat.le_add_right _ _)
theorem tq_line {n T L : Nat} (hn : 70000 < n) {v0 v1 : Int32} {σ σ1 : S12} {y : Int32} {τ : S19} {x : Lb} (e1 : df_X12_line n T L v0 v1 σ = some (y, σ1)) (hJ : JJ n σ (τ, x)) : tp σ1 ≤ tp σ + 20 := Nat.le_trans (tu_df_X12_line n T L v0 v1 σ (Nat.le_refl _) _ e1) (Nat.le_add_right _ _)
theorem tq_reason {n T L : Nat} (hn : 70000 < n) {σ σ1 : S12} {y : Int32} {τ : S19} {x : Lb} (e1 : df_X12_reason n T L  σ = some (y, σ1)) (hJ : JJ n σ (τ, x)) : tp σ1 ≤ tp σ + 20 := Nat.le_trans (tu_df_X12_reason n T L  σ (Nat.le_refl _) _ e1) (Nat.le_add_right _ _)
theorem tq_logByte {n T L : Nat} (hn : 70000 < n) {v0 : Int32} {σ σ1 : S12} {y : Int32} {τ : S19} {x : Lb} (e1 : df_X12_logByte n T L v0 σ = some (y, σ1)) (hJ : JJ n σ (τ, x)) : tp σ1 ≤ tp σ + 20 := Nat.le_trans (tu_df_X12_logByte n T L v0 σ (Nat.le_refl _) _ e1) (Nat.le_add_right _ _)
theorem tq_image {n T L : Nat} (hn : 70000 < n) {v0 v1 : Int32} {σ σ1 : S12} {y : Int32} {τ : S19} {x : Lb} (e1 : df_X12_image n T L v0 v1 σ = some (y, σ1)) (hJ : JJ n σ (τ, x)) : tp σ1 ≤ tp σ + 20 := Nat.le_trans (tu_df_X12_image n T L v0 v1 σ (Nat.le_refl _) _ e1) (Nat.le_add_right _ _)
theorem tq_program {n T L : Nat} (hn : 70000 < n) {v0 v1 : Int32} {σ σ1 : S12} {y : Int32} {τ : S19} {x : Lb} (e1 : df_X12_program n T L v0 v1 σ = some (y, σ1)) (hJ : JJ n σ (τ, x)) : tp σ1 ≤ tp σ + 20 := Nat.le_trans (tu_df_X12_program n T L v0 v1 σ (Nat.le_refl _) _ e1) (Nat.le_add_right _ _)
theorem tq_label {n T L : Nat} (hn : 70000 < n) {v0 v1 : Int32} {σ σ1 : S12} {y : Int32} {τ : S19} {x : Lb} (e1 : df_X12_label n T L v0 v1 σ = some (y, σ1)) (hJ : JJ n σ (τ, x)) : tp σ1 ≤ tp σ + 20 := Nat.le_trans (tu_df_X12_label n T L v0 v1 σ (Nat.le_refl _) _ e1) (Nat.le_add_right _ _)
theorem tq_before {n T L : Nat} (hn : 70000 < n) {v0 v1 : Int32} {σ σ1 : S12} {y : Int32} {τ : S19} {x : Lb} (e1 : df_X12_before n T L v0 v1 σ = some (y, σ1)) (hJ : JJ n σ (τ, x)) : tp σ1 ≤ tp σ + 20 := Nat.le_trans (tu_df_X12_before n T L v0 v1 σ (Nat.le_refl _) _ e1) (Nat.le_add_right _ _)
theorem tq_count {n T L : Nat} (hn : 70000 < n) {v0 : Int32} {σ σ1 : S12} {y : Int64} {τ : S19} {x : Lb} (e1 : df_X12_count n T L v0 σ = some (y, σ1)) (hJ : JJ n σ (τ, x)) : tp σ1 ≤ tp σ + 20 := Nat.le_trans (tu_df_X12_count n T L v0 σ (Nat.le_refl _) _ e1) (Nat.le_add_right _ _)
theorem tq_cut {n T L : Nat} (hn : 70000 < n) {σ σ1 : S12} {y : Int32} {τ : S19} {x : Lb} (e1 : df_X12_cut n T L  σ = some (y, σ1)) (hJ : JJ n σ (τ, x)) : tp σ1 ≤ tp σ + 20 := Nat.le_trans (tu_df_X12_cut n T L  σ (Nat.le_refl _) _ e1) (Nat.le_add_right _ _)
theorem tq_pack {n T L : Nat} (hn : 70000 < n) {σ σ1 : S12} {y : Int32} {τ : S19} {x : Lb} (e1 : df_X12_pack n T L  σ = some (y, σ1)) (hJ : JJ n σ (τ, x)) : tp σ1 ≤ tp σ + 20 := Nat.le_trans (tu_df_X12_pack n T L  σ (Nat.le_refl _) _ e1) (Nat.le_add_right _ _)
theorem lj_boot {n T L : Nat} (hn : 70000 < n) {v0 : Int32} {σ : S12} {τ : S19} {x : Lb} (hJ : JJ n σ (τ, x)) : ∃ (r : S12 ⊕ (String × S12)) (k : Int32) (σ1 : S12) (τ1 : S19), df_X12_boot n T L v0 σ = some r ∧ lw_V2 r k σ1 ∧ df_X19_boot n v0 τ = some τ1 ∧ sI τ1.1 0 = k ∧ tp σ1 ≤ tp σ ∧ JJ n σ1 (τ1, x) := by
  rcases jj_boot n T L hn v0 hJ with ⟨σ', τ', a1, a2, a3, a4⟩ | ⟨σ', τ', a1, a2, a3, a4⟩ | ⟨σ', τ', a1, a2, a3, a4⟩
  · exact ⟨_, 1, σ', τ', a1, Or.inr (Or.inl ⟨rfl, rfl⟩), a2, a3, (tu_df_X12_boot n T L v0 σ (Nat.le_refl _) _ a1), a4⟩
  · exact ⟨_, 2, σ', τ', a1, Or.inr (Or.inr ⟨rfl, rfl⟩), a2, a3, (tu_df_X12_boot n T L v0 σ (Nat.le_refl _) _ a1), a4⟩
  · exact ⟨_, 0, σ', τ', a1, Or.inl ⟨rfl, rfl⟩, a2, a3, (tu_df_X12_boot n T L v0 σ (Nat.le_refl _) _ a1), a4⟩
theorem lj_go {n T L : Nat} (hn : 70000 < n) {v0 : Int32} {σ : S12} {τ : S19} {x : Lb} (hJ : JJ n σ (τ, x)) : ∃ (r : S12 ⊕ (String × S12)) (k : Int32) (σ1 : S12) (τ1 : S19), df_X12_go n T L v0 σ = some r ∧ lw_V1 r k σ1 ∧ df_X19_go n v0 τ = some τ1 ∧ sI τ1.1 0 = k ∧ tp σ1 ≤ tp σ ∧ JJ n σ1 (τ1, x) := by
  rcases jj_go n T L hn v0 hJ with ⟨σ', τ', a1, a2, a3, a4⟩ | ⟨σ', τ', a1, a2, a3, a4⟩ | ⟨σ', τ', a1, a2, a3, a4⟩
  · exact ⟨_, 1, σ', τ', a1, Or.inr ⟨rfl, rfl⟩, a2, a3, (tu_df_X12_go n T L v0 σ (Nat.le_refl _) _ a1), a4⟩
  · have z : ("java/lang/IllegalStateException" : String) = "java/lang/IllegalArgumentException" := ti_df_X12_go n T L v0 σ _ a1
    exact absurd z (by decide)
  · exact ⟨_, 0, σ', τ', a1, Or.inl ⟨rfl, rfl⟩, a2, a3, (tu_df_X12_go n T L v0 σ (Nat.le_refl _) _ a1), a4⟩
theorem lj_replay {n T L : Nat} (hn : 70000 < n) {v0 : Int32} {σ : S12} {τ : S19} {x : Lb} (hJ : JJ n σ (τ, x)) (o : Nat → Int64) : ∃ (r : (Int32 × S12) ⊕ (String × S12)) (k : Int32) (σ1 : S12) (o' : Nat → Int64) (y : Int32) (τ1 : S19), df_X12_replay n T L v0 σ = some r ∧ lw_R2 Int32.toInt64 r k σ1 o o' ∧ df_X19_replay n v0 τ = some (y, τ1) ∧ sI τ1.1 0 = k ∧ (k = 0 → o' (Int32.toNatClampNeg 0) = y.toInt64) ∧ tp σ1 ≤ tp σ ∧ JJ n σ1 (τ1, x) := by
  rcases jj_replay n T L hn v0 hJ with ⟨y, σ', τ', a1, a2, a3, a4⟩ | ⟨y, σ', τ', a1, a2, a3, a4⟩ | ⟨y, σ', τ', a1, a2, a3, a4⟩
  · exact ⟨_, 1, σ', o, y, τ', a1, Or.inr (Or.inl ⟨rfl, rfl, rfl⟩), a2, a3, fun z => absurd z (by decide), (tu_df_X12_replay n T L v0 σ (Nat.le_refl _) _ a1), a4⟩
  · exact ⟨_, 2, σ', o, y, τ', a1, Or.inr (Or.inr ⟨rfl, rfl, rfl⟩), a2, a3, fun z => absurd z (by decide), (tu_df_X12_replay n T L v0 σ (Nat.le_refl _) _ a1), a4⟩
  · exact ⟨_, 0, σ', _, y, τ', a1, Or.inl ⟨y, rfl, rfl, rfl⟩, a2, a3, fun _ => lw_o, (tu_df_X12_replay n T L v0 σ (Nat.le_refl _) _ a1), a4⟩
theorem lj_outside {n T L : Nat} (hn : 70000 < n) {v0 : Int32} {v1 : Int64} {v2 : Int32} {σ : S12} {τ : S19} {x : Lb} (hJ : JJ n σ (τ, x)) (o : Nat → Int64) : ∃ (r : (Int32 × S12) ⊕ (String × S12)) (k : Int32) (σ1 : S12) (o' : Nat → Int64) (y : Int32) (τ1 : S19), df_X12_outside n T L v0 v1 v2 σ = some r ∧ lw_R2 Int32.toInt64 r k σ1 o o' ∧ df_X19_outside n v0 v1 v2 τ = some (y, τ1) ∧ sI τ1.1 0 = k ∧ (k = 0 → o' (Int32.toNatClampNeg 0) = y.toInt64) ∧ tp σ1 ≤ tp σ ∧ JJ n σ1 (τ1, x) := by
  rcases jj_outside n T L hn v0 v1 v2 hJ with ⟨y, σ', τ', a1, a2, a3, a4⟩ | ⟨y, σ', τ', a1, a2, a3, a4⟩ | ⟨y, σ', τ', a1, a2, a3, a4⟩
  · exact ⟨_, 1, σ', o, y, τ', a1, Or.inr (Or.inl ⟨rfl, rfl, rfl⟩), a2, a3, fun z => absurd z (by decide), (tu_df_X12_outside n T L v0 v1 v2 σ (Nat.le_refl _) _ a1), a4⟩
  · exact ⟨_, 2, σ', o, y, τ', a1, Or.inr (Or.inr ⟨rfl, rfl, rfl⟩), a2, a3, fun z => absurd z (by decide), (tu_df_X12_outside n T L v0 v1 v2 σ (Nat.le_refl _) _ a1), a4⟩
  · exact ⟨_, 0, σ', _, y, τ', a1, Or.inl ⟨y, rfl, rfl, rfl⟩, a2, a3, fun _ => lw_o, (tu_df_X12_outside n T L v0 v1 v2 σ (Nat.le_refl _) _ a1), a4⟩
theorem lj_run {n T L : Nat} (hn : 70000 < n) {v0 : Int32} {σ : S12} {τ : S19} {x : Lb} (hJ : JJ n σ (τ, x)) (o : Nat → Int64) : ∃ (r : (Int32 × S12) ⊕ (String × S12)) (k : Int32) (σ1 : S12) (o' : Nat → Int64) (y : Int32) (τ1 : S19), df_X12_run n T L v0 σ = some r ∧ lw_R2 Int32.toInt64 r k σ1 o o' ∧ df_X19_run n v0 τ = some (y, τ1) ∧ sI τ1.1 0 = k ∧ (k = 0 → o' (Int32.toNatClampNeg 0) = y.toInt64) ∧ tp σ1 ≤ tp σ ∧ JJ n σ1 (τ1, x) := by
  rcases jj_run n T L hn v0 hJ with ⟨y, σ', τ', a1, a2, a3, a4⟩ | ⟨y, σ', τ', a1, a2, a3, a4⟩ | ⟨y, σ', τ', a1, a2, a3, a4⟩
  · exact ⟨_, 1, σ', o, y, τ', a1, Or.inr (Or.inl ⟨rfl, rfl, rfl⟩), a2, a3, fun z => absurd z (by decide), (tu_df_X12_run n T L v0 σ (Nat.le_refl _) _ a1), a4⟩
  · exact ⟨_, 2, σ', o, y, τ', a1, Or.inr (Or.inr ⟨rfl, rfl, rfl⟩), a2, a3, fun z => absurd z (by decide), (tu_df_X12_run n T L v0 σ (Nat.le_refl _) _ a1), a4⟩
  · exact ⟨_, 0, σ', _, y, τ', a1, Or.inl ⟨y, rfl, rfl, rfl⟩, a2, a3, fun _ => lw_o, (tu_df_X12_run n T L v0 σ (Nat.le_refl _) _ a1), a4⟩
theorem lj_watch {n T L : Nat} (hn : 70000 < n) {v0 : Int32} {σ : S12} {τ : S19} {x : Lb} (hJ : JJ n σ (τ, x)) (o : Nat → Int64) : ∃ (r : (Int32 × S12) ⊕ (String × S12)) (k : Int32) (σ1 : S12) (o' : Nat → Int64) (y : Int32) (τ1 : S19), df_X12_watch n T L v0 σ = some r ∧ lw_R1 Int32.toInt64 r k σ1 o o' ∧ df_X19_watch n v0 τ = some (y, τ1) ∧ sI τ1.1 0 = k ∧ (k = 0 → o' (Int32.toNatClampNeg 0) = y.toInt64) ∧ tp σ1 ≤ tp σ ∧ JJ n σ1 (τ1, x) := by
  rcases jj_watch n T L hn v0 hJ with ⟨y, σ', τ', a1, a2, a3, a4⟩ | ⟨y, σ', τ', a1, a2, a3, a4⟩ | ⟨y, σ', τ', a1, a2, a3, a4⟩
  · exact ⟨_, 1, σ', o, y, τ', a1, Or.inr ⟨rfl, rfl, rfl⟩, a2, a3, fun z => absurd z (by decide), (tu_df_X12_watch n T L v0 σ (Nat.le_refl _) _ a1), a4⟩
  · have z : ("java/lang/IllegalStateException" : String) = "java/lang/IllegalArgumentException" := ti_df_X12_watch n T L v0 σ _ a1
    exact absurd z (by decide)
  · exact ⟨_, 0, σ', _, y, τ', a1, Or.inl ⟨y, rfl, rfl, rfl⟩, a2, a3, fun _ => lw_o, (tu_df_X12_watch n T L v0 σ (Nat.le_refl _) _ a1), a4⟩
theorem lj_drop {n T L : Nat} (hn : 70000 < n) {v0 : Int32} {σ : S12} {τ : S19} {x : Lb} (hJ : JJ n σ (τ, x)) (o : Nat → Int64) : ∃ (r : (Int32 × S12) ⊕ (String × S12)) (k : Int32) (σ1 : S12) (o' : Nat → Int64) (y : Int32) (τ1 : S19), df_X12_drop n T L v0 σ = some r ∧ lw_R1 lw_b r k σ1 o o' ∧ df_X19_drop n v0 τ = some (y, τ1) ∧ sI τ1.1 0 = k ∧ (k = 0 → o' (Int32.toNatClampNeg 0) = lw_b y) ∧ tp σ1 ≤ tp σ ∧ JJ n σ1 (τ1, x) := by
  rcases jj_drop n T L v0 hJ with ⟨y, σ', τ', a1, a2, a3, a4⟩ | ⟨y, σ', τ', a1, a2, a3, a4⟩ | ⟨y, σ', τ', a1, a2, a3, a4⟩
  · exact ⟨_, 1, σ', o, y, τ', a1, Or.inr ⟨rfl, rfl, rfl⟩, a2, a3, fun z => absurd z (by decide), (tu_df_X12_drop n T L v0 σ (Nat.le_refl _) _ a1), a4⟩
  · have z : ("java/lang/IllegalStateException" : String) = "java/lang/IllegalArgumentException" := ti_df_X12_drop n T L v0 σ _ a1
    exact absurd z (by decide)
  · exact ⟨_, 0, σ', _, y, τ', a1, Or.inl ⟨y, rfl, rfl, rfl⟩, a2, a3, fun _ => lw_o, (tu_df_X12_drop n T L v0 σ (Nat.le_refl _) _ a1), a4⟩
theorem lj_value {n T L : Nat} (hn : 70000 < n) {v0 : Int32} {σ : S12} {τ : S19} {x : Lb} (hJ : JJ n σ (τ, x)) (o : Nat → Int64) : ∃ (r : (Int64 × S12) ⊕ (String × S12)) (k : Int32) (σ1 : S12) (o' : Nat → Int64) (y : Int64) (τ1 : S19), df_X12_value n T L v0 σ = some r ∧ lw_R2 (fun v : Int64 => v) r k σ1 o o' ∧ df_X19_value n v0 τ = some (y, τ1) ∧ sI τ1.1 0 = k ∧ (k = 0 → o' (Int32.toNatClampNeg 0) = y) ∧ tp σ1 ≤ tp σ ∧ JJ n σ1 (τ1, x) := by
  rcases jj_value n T L hn v0 hJ with ⟨y, σ', τ', a1, a2, a3, a4⟩ | ⟨y, σ', τ', a1, a2, a3, a4⟩ | ⟨y, σ', τ', a1, a2, a3, a4⟩
  · exact ⟨_, 1, σ', o, y, τ', a1, Or.inr (Or.inl ⟨rfl, rfl, rfl⟩), a2, a3, fun z => absurd z (by decide), (tu_df_X12_value n T L v0 σ (Nat.le_refl _) _ a1), a4⟩
  · exact ⟨_, 2, σ', o, y, τ', a1, Or.inr (Or.inr ⟨rfl, rfl, rfl⟩), a2, a3, fun z => absurd z (by decide), (tu_df_X12_value n T L v0 σ (Nat.le_refl _) _ a1), a4⟩
  · exact ⟨_, 0, σ', _, y, τ', a1, Or.inl ⟨y, rfl, rfl, rfl⟩, a2, a3, fun _ => lw_o, (tu_df_X12_value n T L v0 σ (Nat.le_refl _) _ a1), a4⟩
theorem lj_backTo {n T L : Nat} (hn : 70000 < n) {v0 : Int32} {σ : S12} {τ : S19} {x : Lb} (hJ : JJ n σ (τ, x)) (o : Nat → Int64) : ∃ (r : (Int32 × S12) ⊕ (String × S12)) (k : Int32) (σ1 : S12) (o' : Nat → Int64) (y : Int32) (τ1 : S19), df_X12_backTo n T L v0 σ = some r ∧ lw_R2 Int32.toInt64 r k σ1 o o' ∧ df_X19_backTo n v0 τ = some (y, τ1) ∧ sI τ1.1 0 = k ∧ (k = 0 → o' (Int32.toNatClampNeg 0) = y.toInt64) ∧ tp σ1 ≤ tp σ ∧ JJ n σ1 (τ1, x) := by
  rcases jj_backTo n T L hn v0 hJ with ⟨y, σ', τ', a1, a2, a3, a4⟩ | ⟨y, σ', τ', a1, a2, a3, a4⟩ | ⟨y, σ', τ', a1, a2, a3, a4⟩
  · exact ⟨_, 1, σ', o, y, τ', a1, Or.inr (Or.inl ⟨rfl, rfl, rfl⟩), a2, a3, fun z => absurd z (by decide), (tu_df_X12_backTo n T L v0 σ (Nat.le_refl _) _ a1), a4⟩
  · exact ⟨_, 2, σ', o, y, τ', a1, Or.inr (Or.inr ⟨rfl, rfl, rfl⟩), a2, a3, fun z => absurd z (by decide), (tu_df_X12_backTo n T L v0 σ (Nat.le_refl _) _ a1), a4⟩
  · exact ⟨_, 0, σ', _, y, τ', a1, Or.inl ⟨y, rfl, rfl, rfl⟩, a2, a3, fun _ => lw_o, (tu_df_X12_backTo n T L v0 σ (Nat.le_refl _) _ a1), a4⟩
theorem lj_assemble {n T L : Nat} (hn : 70000 < n) {v0 : Int32} {σ : S12} {τ : S19} {x : Lb} (hJ : JJ n σ (τ, x)) (o : Nat → Int64) : ∃ (r : (Int32 × S12) ⊕ (String × S12)) (k : Int32) (σ1 : S12) (o' : Nat → Int64) (y : Int32) (ω : S19 × Lb) (ox : Ox), df_X12_assemble n T L v0 σ = some r ∧ lw_R1 Int32.toInt64 r k σ1 o o' ∧ df_X19_assemble n v0 (τ, x) = some (y, (ω, ox)) ∧ sI ω.1.1 0 = k ∧ (k = 0 → o' (Int32.toNatClampNeg 0) = y.toInt64) ∧ tp σ1 + oxN ox ≤ tp σ + 43 ∧ ∀ na : Nat, JJ n σ1 (asL na (ω, ox)) := by
  rcases jj_assemble n T L hn v0 hJ with ⟨y, σ', ω, a1, a2, a3, a4, a5⟩ | ⟨y, σ', ω, ox, a1, a2, a3, a4, a5⟩
  · exact ⟨_, 1, σ', o, y, ω, none, a1, Or.inr ⟨rfl, rfl, rfl⟩, a2, a3, fun z => absurd z (by decide), Nat.le_trans a4 (Nat.le_add_right _ _), fun na => a5⟩
  · exact ⟨_, 0, σ', _, y, ω, ox, a1, Or.inl ⟨y, rfl, rfl, rfl⟩, a2, a3, fun _ => lw_o, a4, a5⟩

/-- class and reference as they are made -/
theorem jj_begin (n : Nat) {σ : S12} {τ : S19} {x : Lb} (a0 : sI σ.1 0 = 0) (a1 : sI σ.1 1 = 0) (a2 : sI σ.1 2 = 0) (t1 : sI τ.1 1 = 0) (t2 : sI τ.1 2 = 0) (t3 : sI τ.1 3 = 0) (t7 : sI τ.1 7 = 0) (t8 : sI τ.1 8 = 0) (t12 : sI τ.1 12 = 0) (o : sO τ.1 0 = some 96) (r0 : ∀ q : Nat, q < 4 → sR τ.1 0 q = 0) (p0 : ∀ q : Nat, q < 4 → σ.2.1 0 q = none) (p1 : ∀ q : Nat, q < 4 → σ.2.1 1 q = none) (p2 : ∀ q : Nat, q < 8 → σ.2.1 2 q = none) (p3 : ∀ q : Nat, q < 8 → σ.2.1 3 q = some q) (p4 : ∀ q : Nat, q < 9 → σ.2.1 4 q = some q) (p5 : ∀ q : Nat, q < 9 → σ.2.1 5 q = some q) (m0 : sI σ.2.2.2.2.1 0 = 0) (m7 : sI σ.2.2.2.2.1 7 = 0) (e0 : sO σ.2.2.2.2.1 0 = some 27) (e1 : sO σ.2.2.2.2.1 1 = some 32) (v0 : sI σ.2.2.2.2.2.2.1 0 = 0) (v1 : sI σ.2.2.2.2.2.2.1 1 = 0) (y : okY σ.2.2.2.2.2.1.2.2.2) (x5 : sO σ.2.2.2.2.2.1.1 0 = some 34) (b1 : ∀ k : Nat, k < 8 → sR τ.2.2.1.1 1 k = 0) (w : tbW (sR σ.2.2.2.1.2 7)) (w10 : b01 (sI σ.2.2.2.1.2 10)) (c : cstR τ) : JJ n σ (τ, x) := by
  have z0 : (0 : Int32).toInt = 0 := by decide
  refine ⟨⟨a0.trans t1.symm, a1.trans t2.symm, ?_, ?_, fun h => absurd a1 h, fun j hj => ?_⟩, ⟨a2.trans t12.symm, ?_, fun j hj => ?_⟩, ⟨o, fun q hq => ?_⟩, fun q hq => Or.inl ⟨p1 q hq, r0 q hq⟩, ⟨Or.inl ⟨e0, e1⟩, Or.inl ⟨m0, t3, ⟨σ.2.2.2.2.2.2.1, Or.inl ⟨e0, rfl⟩, v0, v1⟩, y, x5, ⟨fun i => i, fun i hi => ⟨p3 i hi, hi⟩, fun _ _ _ _ h => h⟩, t8, p0⟩⟩, ⟨fun _ => 0, fun _ _ => 0, fun k hk => Or.inl ⟨p2 k hk, b1 k hk⟩, fun k k' j hk _ h => ?_⟩, m7.trans t7.symm, ⟨p4, p5, w, w10⟩, c⟩
  · rw [a0, z0]
    omega
  · rw [a0, z0]
    omega
  · rw [a0, z0] at hj
    omega
  · rw [a2, z0]
    omega
  · rw [a2, z0] at hj
    omega
  · rw [p1 q hq]
    exact r0 q hq
  · rw [p2 k hk] at h
    exact nomatch h

