/-- kind and length of an instruction's row -/
def aKd (y : Nat) : Nat := if ¬ ko_s y &&& 8 = 0 then 1 else if ¬ ko_s y &&& 2 = 0 then 2 else if ¬ ko_s y &&& 16 = 0 then 3 else 0
def aLn (y : Nat) (b : Int32) : Int32 := if ¬ ko_s y &&& 8 = 0 then 2 else if ¬ ko_s y &&& 2 = 0 then (if ¬ ko_s y &&& 4 = 0 ∧ ¬ (b >>> ((15 : Int32) &&& 31)) &&& 31 < 8 ∧ ¬ 15 < (b >>> ((15 : Int32) &&& 31)) &&& 31 then 2 else 4) else if ¬ ko_s y &&& 16 = 0 then 8 else if b &&& 3 = 3 then 4 else 2
theorem adi_C {n : Nat} {B : St} {sn lu ln se co : Nat} {od : Int32} {SW LW : Nat → Int32} (s2 : St) (h : sn < 8194) (y : Nat) (hy : y < 128) (b cd lt : Int32) : df_X1_addInstruction n y b cd lt (qC B sn lu 0 ln se od co SW LW, s2) = some (qC B (sn + 1) lu 0 ln se od co (rowU SW sn ln se (aLn y b) (nI (aKd y)) b cd (if aKd y = 0 then lt else nI 0)) LW, s2) := by
  unfold df_X1_addInstruction df_X1_addInstruction_0 df_X1_addInstruction_113 df_X1_addInstruction_124 df_X1_addInstruction_68 df_X1_addInstruction_69 aLn aKd
  rw [lt_y hy, lt_y hy, lt_y hy]
  by_cases j8 : ko_s y &&& 8 = 0
  · rw [if_pos j8, if_neg (show ¬ ¬ ko_s y &&& 8 = 0 from fun z => z j8), if_neg (show ¬ ¬ ko_s y &&& 8 = 0 from fun z => z j8)]
    by_cases j2 : ko_s y &&& 2 = 0
    · rw [if_pos j2, if_neg (show ¬ ¬ ko_s y &&& 2 = 0 from fun z => z j2), if_neg (show ¬ ¬ ko_s y &&& 2 = 0 from fun z => z j2)]
      by_cases j16 : ko_s y &&& 16 = 0
      · rw [if_pos j16, if_neg (show ¬ ¬ ko_s y &&& 16 = 0 from fun z => z j16), if_neg (show ¬ ¬ ko_s y &&& 16 = 0 from fun z => z j16), if_pos rfl]
        by_cases j3 : b &&& 3 = 3
        · rw [if_pos j3, if_pos j3, add_C s2 h, nb_b1, stl_C s2 h, nb_b1]; rfl
        · rw [if_neg j3, if_neg j3, add_C s2 h, nb_b1, stl_C s2 h, nb_b1]; rfl
      · rw [if_neg j16, if_pos (show ¬ ko_s y &&& 16 = 0 from j16), if_pos (show ¬ ko_s y &&& 16 = 0 from j16), add_C s2 h, nb_b1, if_neg (by decide)]; rfl
    · rw [if_neg j2, if_pos (show ¬ ko_s y &&& 2 = 0 from j2), if_pos (show ¬ ko_s y &&& 2 = 0 from j2), if_neg (show ¬ (2 : Nat) = 0 by decide), nb_let, lt_y hy]
      by_cases j4 : ko_s y &&& 4 = 0
      · rw [if_pos j4, add_C s2 h, nb_b1, if_neg (show ¬ (¬ ko_s y &&& 4 = 0 ∧ _) from fun z => z.1 j4)]; rfl
      · rw [if_neg j4]
        by_cases k1 : (b >>> ((15 : Int32) &&& 31)) &&& 31 < 8
        · rw [if_pos k1, add_C s2 h, nb_b1, if_neg (show ¬ (_ ∧ ¬ _ ∧ _) from fun z => z.2.1 k1)]; rfl
        · rw [if_neg k1]
          by_cases k2 : 15 < (b >>> ((15 : Int32) &&& 31)) &&& 31
          · rw [if_pos k2, add_C s2 h, nb_b1, if_neg (show ¬ (_ ∧ _ ∧ ¬ _) from fun z => z.2.2 k2)]; rfl
          · rw [if_neg k2, add_C s2 h, nb_b1, if_pos ⟨j4, k1, k2⟩]; rfl
  · rw [if_neg j8, if_pos (show ¬ ko_s y &&& 8 = 0 from j8), if_pos (show ¬ ko_s y &&& 8 = 0 from j8), add_C s2 h, nb_b1, if_neg (by decide)]; rfl
/-- an instruction that isn't li -/
theorem rdi_C {n L e : Nat} {c : Nat → Nat} {BC BR0 : St} (hT0 : atx n L e c BC BR0) (y : Nat) (hy : y < 128) (hli : ko_s y &&& 32 = 0) {B : St} {sn lu ln se co : Nat} {od : Int32} {SW LW : Nat → Int32} (hsn : sn < 8194) (cs tp st ns : Nat) (fx : Bool) (C A S NM BK : Nat → Int32) (bs ws : Nat → Nat) (p q p' κ τ v : Nat) (x : Int32) (hT : TS n L e c BC p q p' κ τ v x) (hH : HT L c ns NM BK bs ws) (hp0 : 0 < p) (hcs : cs ≤ p) (hns : 2 * ns ≤ p) : ∃ (f p2 : Nat) (rs : List Nat) (m : Nat) (P : Nat → Tp) (cs' tp' st' ns' : Nat) (fx' : Bool) (C' A' S' NM' BK' : Nat → Int32) (bs' ws' : Nat → Nat) (q2 p2' κ2 τ2 v2 : Nat) (x2 : Int32), Tr n L e c BC (FRM y) p f p2 rs m P ∧ (f = 0 ∨ f = 1 ∨ f = 3) ∧ (¬ f = 0 → df_X1_readInstruction n y (qC B sn lu 0 ln se od co SW LW, uC (xC BC cs tp st ns fx C A S NM BK) p' κ q x) = some (qC B sn lu (nI f) ln se od co SW LW, uC (xC BC cs' tp' st' ns' fx' C' A' S' NM' BK') p2' κ2 q2 x2)) ∧ (f = 0 → df_X1_readInstruction n y (qC B sn lu 0 ln se od co SW LW, uC (xC BC cs tp st ns fx C A S NM BK) p' κ q x) = some (qC B (sn + 1) lu 0 ln se od co (rowU SW sn ln se (aLn y (ko_b y ||| od ||| RGB (FRM y) rs)) (nI (aKd y)) (ko_b y ||| od ||| RGB (FRM y) rs) (if eL (FRM y) = 0 then -1 else nI cs) (if aKd y = 0 then nI (eL (FRM y)) else nI 0)) LW, uC (xC BC cs' tp' st' ns' fx' C' A' S' NM' BK') p2' κ2 q2 x2) ∧ TS n L e c BC p2 q2 p2' κ2 τ2 v2 x2 ∧ p ≤ p2 ∧ PS ns NM bs ws ns' NM' bs' ws' ∧ HT L c ns' NM' BK' bs' ws' ∧ cs' ≤ p2 + 1 ∧ 2 * ns' ≤ p2 + 1 ∧ (eL (FRM y) = 0 → cs' = cs ∧ ns' = ns ∧ C' = C ∧ A' = A ∧ NM' = NM ∧ BK' = BK ∧ bs' = bs ∧ ws' = ws) ∧ (¬ eL (FRM y) = 0 → cs' = cs + m + 1 ∧ CR (sR BC 5) c e C A cs ns' bs' ws' m P C' A' ∧ C' (cs + m) = 21 ∧ 0 < m)) := by
  have hn : 70000 < n := hT0.1
  have fl := (fo_l ⟨y, hy⟩).1
  have fl : ks_n (ko_f y) ≤ 8 := fl
  have d0 : (FRM y).drop 0 = FRM y := rfl
  have ll : (FRM y).length = ks_n (ko_f y) := by unfold FRM; rw [List.length_map, List.length_range]
  obtain ⟨f, p2, rs, m, P, b', k', l', cs', tp', st', ns', fx', C', A', S', NM', BK', bs', ws', q2, p2', κ2, τ2, v2, x2, r1, r2, r3, r4⟩ := rin_C hT0 y hy (FRM y) 0 n (ko_b y ||| od) (-1) (nI 0) (qC B sn lu 0 ln se od co SW LW) cs tp st ns fx C A S NM BK bs ws p q p' κ τ v x (frm_k ⟨y, hy⟩) d0 (by omega) (by omega) rfl hT hH hp0 (by omega) (by omega) (fun _ => ⟨hcs, hns⟩)
  have hd : df_X1_readInstruction n y (qC B sn lu 0 ln se od co SW LW, uC (xC BC cs tp st ns fx C A S NM BK) p' κ q x) = df_X1_readInstruction_110 n y b' k' l' (if f = 0 then qC B sn lu 0 ln se od co SW LW else pI (qC B sn lu 0 ln se od co SW LW) 2 (nI f), uC (xC BC cs' tp' st' ns' fx' C' A' S' NM' BK') p2' κ2 q2 x2) := by
    rw [← r3]
    unfold df_X1_readInstruction df_X1_readInstruction_0
    rw [lt_y hy, nb_let]
    rfl
  refine ⟨f, p2, rs, m, P, cs', tp', st', ns', fx', C', A', S', NM', BK', bs', ws', q2, p2', κ2, τ2, v2, x2, r1, r2, fun u => ?_, fun u => ?_⟩
  · rw [hd, if_neg u, qC_w2]
    unfold df_X1_readInstruction_110 df_X1_readInstruction_159
    rw [lt_y hy, if_pos hli, if_neg (show ¬ sI (qC B sn lu (nI f) ln se od co SW LW, uC (xC BC cs' tp' st' ns' fx' C' A' S' NM' BK') p2' κ2 q2 x2).1 2 = 0 from zne (b := 0) u (by omega) (by omega))]
  · obtain ⟨a1, a2, a3, a4, a5, a6, a7, a8, a9⟩ := r4 u
    refine ⟨?_, a1, a2, a4, a5, a6, a7, fun w => ?_, fun w => ?_⟩
    · rw [hd, if_pos u]
      unfold df_X1_readInstruction_110 df_X1_readInstruction_159
      rw [lt_y hy, if_pos hli, if_pos (show sI (qC B sn lu 0 ln se od co SW LW, uC (xC BC cs' tp' st' ns' fx' C' A' S' NM' BK') p2' κ2 q2 x2).1 2 = 0 from rfl), adi_C _ hsn y hy, nb_b1, a3]
      by_cases w : eL (FRM y) = 0
      · obtain ⟨b1, b2, _⟩ := a8 w
        rw [if_pos w, b1, b2, w]
      · obtain ⟨b1, b2, _⟩ := a9 w
        rw [if_neg w, b1, b2]
    · obtain ⟨b1, b2, b3, b4, b5, b6, b7, b8, b9, b10, b11⟩ := a8 w
      exact ⟨b3, b4, b6, b7, b8, b9, b10, b11⟩
    · obtain ⟨b1, b2, b3, b4, b5, b6, b7⟩ := a9 w
      exact ⟨b3, b4, b5, b6⟩
