/-- both read a statement: what is known before it -/
def JH (n L e : Nat) (c : Nat → Nat) (BC B : St) (sn lu ln se cs ns : Nat) (NM BK : Nat → Int32) (bs ws X : Nat → Nat) (nL cu : Nat) (PA BY : Nat → Int32) (q p1 y : Nat) (od : Int32) : Prop := RV n L e c BC B X nL cu ∧ cstS B ∧ HT L c ns NM BK bs ws ∧ NTB c X nL (sR B 7) ns NM bs ws ∧ IDX c X nL ns bs ws ∧ sI B 13 = nI ln ∧ sI B 14 = nI se ∧ se < 2 ∧ sn < 8194 ∧ cs ≤ p1 ∧ 2 * ns ≤ p1 ∧ lu ≤ p1 ∧ PA cu = nI ((4 * se) * 2 ^ 17 + q) ∧ BY cu = nI 0 ∧ y < 128 ∧ odK od ∧ (¬ od = 0 → shT (sgm y) = 9 ∨ shT (sgm y) = 10) ∧ NAr n L c q (p1 - q) y od ∧ (∃ (κ v1 : Nat) (x : Int32), TS n L e c BC q q p1 κ 1 v1 x) ∧ ks_n (ko_w y) ≤ p1 - q
/-- the same fault in both -/
def FG (e : Nat) (B : St) (ft : Int32) (S : St) : Prop := ∃ B' : St, FL e B' ft S ∧ sI B' 0 = sI B 0 ∧ sI B' 2 = sI B 2 ∧ sI B' 16 = sI B 16 ∧ sR B' 2 = sR B 2
def JF (n e : Nat) (B Q U S : St) (ln q y : Nat) : Prop := ∃ (f : Nat) (Q' U' S' : St), 1 ≤ f ∧ f ≤ 15 ∧ df_X1_readStatement n y (Q, U) = some (Q', U') ∧ sI Q' 2 = nI f ∧ sI Q' 3 = nI ln ∧ df_X13_statement n (nI q) 0 S = some S' ∧ FG e B (nI f + 16 * sI B 13) S'
/-- the class's reader, with what doesn't matter left open -/
def UC (BC : St) (cs ns : Nat) (C A NM BK : Nat → Int32) (ap : Nat) (U : St) : Prop := ∃ (BC' : St) (tp st : Nat) (fx : Bool) (S : Nat → Int32) (κ q : Nat) (x : Int32), (BC' = BC ∨ ∃ tr : Int32, BC' = pI BC 11 tr) ∧ U = uC (xC BC' cs tp st ns fx C A S NM BK) ap κ q x
def CDo (NR : Nat → Int32) (c : Nat → Nat) (e ns : Nat) (bs ws : Nat → Nat) (C A : Nat → Int32) (s0 : Nat) (ys : List (Nat × (Nat → Tp))) (s1 : Nat) : Prop := CDS NR c e ns bs ws C A s0 ys s1 ∧ ∀ y : Nat × (Nat → Tp), y ∈ ys → one y.2 y.1
/-- a statement's row in the class against what it is (D): fl flag and level in the reference, bb its bytes there -/
def DRW (NR : Nat → Int32) (c : Nat → Nat) (e ns : Nat) (bs ws : Nat → Nat) (C A LW : Nat → Int32) (s0 s1 u0 u1 : Nat) (le b cd lt : Int32) (fl : Nat) (bb : Int32) (D : Dt) : Prop :=
  (D.1 = 0 ∧ fl = 0 ∧ b = D.2.1 ∧ le = (if D.2.1 &&& 3 = 3 then nI 4 else nI 2) ∧ bb = le ∧ lt = nI D.2.2.1 ∧ (D.2.2.1 = 0 ∨ ltO D.2.2.1 = true) ∧ (¬ D.2.2.1 = 0 → cd = nI s0 ∧ CDo NR c e ns bs ws C A s0 D.2.2.2.1 s1 ∧ ∃ (m : Nat) (P : Nat → Tp), D.2.2.2.1 = [(m, P)])) ∨
  (D.1 = 1 ∧ fl = 8 ∧ (b = D.2.1 ∧ (b = 111 ∨ b = 239)) ∧ le = nI 2 ∧ lt = nI 0 ∧ cd = nI s0 ∧ CDo NR c e ns bs ws C A s0 D.2.2.2.1 s1 ∧ (∃ (m : Nat) (P : Nat → Tp), D.2.2.2.1 = [(m, P)]) ∧ ∃ k : Nat, k ≤ 8 ∧ bb = nI k) ∨
  (D.1 = 2 ∧ ((fl = 16 ∧ le = nI 2) ∨ (fl = 25 ∧ le = nI 4)) ∧ b = D.2.1 ∧ lt = nI 0 ∧ cd = nI s0 ∧ CDo NR c e ns bs ws C A s0 D.2.2.2.1 s1 ∧ (∃ (m : Nat) (P : Nat → Tp), D.2.2.2.1 = [(m, P)]) ∧ ∃ k : Nat, k ≤ 8 ∧ bb = nI k) ∨
  (D.1 = 3 ∧ fl = 0 ∧ b = D.2.1 ∧ le = nI 8 ∧ bb = le ∧ lt = nI 0 ∧ cd = nI s0 ∧ CDo NR c e ns bs ws C A s0 D.2.2.2.1 s1 ∧ ∃ (m : Nat) (P : Nat → Tp), D.2.2.2.1 = [(m, P)]) ∨
  (D.1 = 4 ∧ fl = 0 ∧ b = D.2.1 ∧ (∃ r : Nat, r < 32 ∧ b = nI r) ∧ le = nI (numB b cd).length ∧ bb = le ∧ lt = nI 0 ∧ D.2.2.2.2 = numB b cd) ∨
  (D.1 = 5 ∧ fl = 0 ∧ (D.2.2.1 = 1 ∨ D.2.2.1 = 2 ∨ D.2.2.1 = 4) ∧ b = nI D.2.2.1 ∧ le = nI (D.2.2.1 * D.2.2.2.1.length) ∧ bb = le ∧ lt = nI 0 ∧ cd = nI s0 ∧ CDo NR c e ns bs ws C A s0 D.2.2.2.1 s1 ∧ D.2.2.2.1.length ≤ 32768) ∨
  (D.1 = 6 ∧ fl = 0 ∧ le = nI D.2.2.2.2.length ∧ bb = le ∧ lt = nI 0 ∧ cd = nI u0 ∧ u0 + D.2.2.2.2.length = u1 ∧ ∀ i : Nat, i < D.2.2.2.2.length → LW (u0 + i) = btI (D.2.2.2.2.getD i 0)) ∨
  (D.1 = 7 ∧ fl = 0 ∧ (lt = nI 0 ∧ D.2.2.2.2 = []) ∧ ∃ k : Nat, k ≤ 32768 ∧ le = nI k ∧ bb = le) ∨
  (D.1 = 8 ∧ fl = 0 ∧ (lt = nI 0 ∧ D.2.2.2.2 = []) ∧ ∃ k : Nat, k ≤ 10 ∧ le = 0 ∧ b = (1 : Int32) <<< (nI k &&& 31) ∧ bb = -1 - nI k)
/-- both have read a statement that has a row in the class -/
def JG (n L e : Nat) (c : Nat → Nat) (BC B Bq U S : St) (sn lu ln se co : Nat) (od : Int32) (SW LW : Nat → Int32) (cs ns : Nat) (C A NM : Nat → Int32) (bs ws X : Nat → Nat) (nL cu : Nat) (PA BY OU : Nat → Int32) (q p1 y : Nat) : Prop := ∃ (D : Dt) (fl lw lv sz : Nat) (ba : Option Int32) (le b cd lt : Int32) (lu' : Nat) (LW' : Nat → Int32) (cs' ns' : Nat) (C' A' NM' BK' : Nat → Int32) (bs' ws' : Nat → Nat) (p2 ct' : Nat) (gr' : Bool) (BY' : Nat → Int32) (U' S2 : St),
  df_X1_readStatement n y (qC Bq sn lu 0 ln se od co SW LW, U) = some (qC Bq (sn + 1) lu' 0 ln se od co (rowU SW sn ln se le (nI D.1) b cd lt) LW', U') ∧ UC BC cs' ns' C' A' NM' BK' p2 U' ∧
  df_X13_statement n (nI q) 0 S = some S2 ∧ SR (pI B 15 0) ct' gr' (upd PA cu (nI ((4 * se + fl) * 2 ^ 17 + q))) BY' OU 0 p2 S2 ∧ p1 ≤ p2 ∧ p2 ≤ e ∧ q + 3 ≤ e ∧ PS ns NM bs ws ns' NM' bs' ws' ∧ HT L c ns' NM' BK' bs' ws' ∧ cs ≤ cs' ∧ cs' ≤ p2 + 1 ∧ 2 * ns' ≤ p2 + 1 ∧ lu ≤ lu' ∧ lu' ≤ p2 + 1 ∧ (∀ i : Nat, i < cs → C' i = C i ∧ A' i = A i) ∧ (∀ i : Nat, i < lu → LW' i = LW i) ∧ (∀ k : Nat, ¬ k = cu → BY' k = BY k) ∧ RFB n L e c BC q se lw lv sz ba X (sR B 7) nL D ∧ (∀ v : Int32, ba = some v → BY' cu = v ∧ ¬ v = 0) ∧ lw ≤ fl % 4 ∧ fl % 4 ≤ lv ∧ D.1 ≤ 8 ∧ (D.1 = 1 → lv = 1) ∧ (D.1 = 2 → lv = 2) ∧
  DRW (sR BC 5) c e ns' bs' ws' C' A' LW' cs cs' lu lu' le b cd lt fl (if BY' cu = 0 then nI ct' else BY' cu) D
/-- the end of a statement in both -/
theorem jfin {n L e : Nat} {c : Nat → Nat} {BC B : St} {q y : Nat} {Q U S S1 : St} {Bq : St} {sn lu ln se co : Nat} {od : Int32} {SW LW : Nat → Int32} {BC' : St} {cs tp st ns : Nat} {fx : Bool} {C A Sx NM BK : Nat → Int32} {p2 q2 p2' κ2 τ2 v2 : Nat} {x2 w : Int32} {ct : Nat} {gr : Bool} {PA BY OU : Nat → Int32} (hT : atx n L e c BC B) (hC : df_X1_readStatement n y (Q, U) = df_X1_readStatement_206 n (qC Bq sn lu 0 ln se od co SW LW, uC (xC BC' cs tp st ns fx C A Sx NM BK) p2' κ2 q2 x2)) (hR : df_X13_statement n (nI q) 0 S = df_X13_statement_326 n S1) (h : SR (pI (pI B 15 0) 14 w) ct gr PA BY OU 0 p2 S1) (T : TS n L e c BC p2 q2 p2' κ2 τ2 v2 x2) : JF n e B Q U S ln q y ∨ (τ2 = 0 ∧ df_X1_readStatement n y (Q, U) = some (qC Bq sn lu 0 ln se od co SW LW, uC (xC BC' cs tp st ns fx C A Sx NM BK) p2' κ2 q2 x2) ∧ ∃ S2 : St, df_X13_statement n (nI q) 0 S = some S2 ∧ SR (pI (pI B 15 0) 14 w) ct gr PA BY OU 0 p2' S2) := by
  obtain ⟨k0, k6, _, _⟩ := ts_0 T
  have hT' : atx n L e c BC (pI (pI B 15 0) 14 w) := hT
  obtain ⟨r0, r1⟩ := end_R hT' rfl h T
  by_cases z : τ2 = 0
  · right
    have zk := k0.mpr z
    obtain ⟨S2, a1, a2⟩ := r0 z
    refine ⟨z, ?_, S2, hR.trans a1, a2⟩
    rw [hC, end_C k6, if_pos zk]
  · left
    have zk : ¬ κ2 = 0 := fun w => z (k0.mp w)
    obtain ⟨S2, a1, a2⟩ := r1 z
    refine ⟨1, qC Bq sn lu (nI 1) ln se od co SW LW, uC (xC BC' cs tp st ns fx C A Sx NM BK) p2' κ2 q2 x2, S2, Nat.le_refl 1, by omega, ?_, rfl, rfl, hR.trans a1, ⟨_, a2, rfl, rfl, rfl, rfl⟩⟩
    rw [hC, end_C k6, if_neg zk]
theorem p14_s {B : St} {v : Int32} : pI (pI B 15 v) 14 (sI B 14) = pI B 15 v := pI_s (pI B 15 v) 14
theorem upd_s {f : Nat → Int32} {k : Nat} {v : Int32} (h : f k = v) : upd f k v = f := funext fun i => by
  show (if i = k then v else f i) = f i
  by_cases z : i = k
  · rw [if_pos z, z, h]
  · rw [if_neg z]
theorem one_R {n L e : Nat} {c : Nat → Nat} {BC B : St} {X : Nat → Nat} {nL cu st : Nat} (hV : RV n L e c BC B X nL cu) {PA : Nat → Int32} (hY : PY PA cu st) {p p2 m : Nat} {P : Nat → Tp} (R : RX n L e c BC p true p2 m P) : one P m ∧ p2 ≤ e := by
  have h : SR B 0 false PA PA PA 0 p (uR (xR (yR B 0 false PA PA PA) 0 false false false 0 0 PA) p 0 0 0 0) := ⟨false, false, false, 0, 0, PA, 0, 0, 0, 0, rfl⟩
  obtain ⟨w, S', ms, dv, a1, a2, a3, a4, a5, a6, a7⟩ := exp_y hV hY h R
  exact ⟨one_1 a6, a3⟩
theorem CDS_1 {NR : Nat → Int32} {c : Nat → Nat} {e : Nat} {C0 A0 : Nat → Int32} {s0 ns : Nat} {bs ws : Nat → Nat} {m : Nat} {P : Nat → Tp} {C A : Nat → Int32} (h : CR NR c e C0 A0 s0 ns bs ws m P C A) (h21 : C (s0 + m) = 21) (hm : 0 < m) : CDS NR c e ns bs ws C A s0 [(m, P)] (s0 + m + 1) := ⟨⟨fun _ _ => ⟨rfl, rfl⟩, h.2⟩, h21, hm, rfl⟩
theorem CDo_1 {NR : Nat → Int32} {c : Nat → Nat} {e : Nat} {C0 A0 : Nat → Int32} {s0 ns : Nat} {bs ws : Nat → Nat} {m : Nat} {P : Nat → Tp} {C A : Nat → Int32} (h : CR NR c e C0 A0 s0 ns bs ws m P C A) (h21 : C (s0 + m) = 21) (hm : 0 < m) (ho : one P m) : CDo NR c e ns bs ws C A s0 [(m, P)] (s0 + m + 1) := ⟨CDS_1 h h21 hm, fun y hy => by
  have : y = (m, P) := List.mem_singleton.mp hy
  rw [this]; exact ho⟩
/-- names of three letters, or more is behind them -/
theorem nm_3 : ∀ y : Fin 128, 3 ≤ ks_n (ko_w y.1) ∨ (ks_n (ko_w y.1) = 2 ∧ 97 ≤ (FRM y.1).headD 0) ∨ y.1 = 104 := by decide +kernel
theorem py_J {c : Nat → Nat} {PA : Nat → Int32} {cu se q : Nat} (h : PA cu = nI ((4 * se) * 2 ^ 17 + q)) (hs : se < 2) (hq : q < 131072) : PY PA cu q := ⟨(4 * se) * 2 ^ 17 + q, h, by omega, by omega⟩
theorem ts_le {n L e : Nat} {c : Nat → Nat} {BC : St} {p q p' κ τ v : Nat} {x : Int32} (T : TS n L e c BC p q p' κ τ v x) : p ≤ q ∧ q ≤ p' ∧ p' ≤ e := ⟨T.2.2.1, T.2.2.2.1, T.2.2.2.2.1⟩
theorem Tr_2 {n L e : Nat} {c : Nat → Nat} {BC : St} {l : Nat} {F : List Nat} (hl : 97 ≤ l) {p p2 : Nat} {rs : List Nat} {m : Nat} {P : Nat → Tp} (h : Tr n L e c BC (l :: F) p 0 p2 rs m P) : p + 1 ≤ e := by
  obtain ⟨q, p', κ, τ, v, x, T, h⟩ := h
  rw [if_neg (by omega), if_pos hl] at h
  have hg : tkG c τ q p' ≤ 32 := by
    rcases h with h | h | h
    · omega
    · omega
    · omega
  obtain ⟨k0, k6, _, _⟩ := ts_0 T
  have hk : ¬ κ = 0 := fun z => by
    have := k0.mp z
    unfold tkG at hg
    rw [if_pos (Or.inl this)] at hg
    omega
  have := T.2.2.2.2.2.1 hk
  have := T.2.2.1
  omega

/-- behind a name of two letters or more something stands, if its form begins with a register -/
theorem nm_4 {n L e : Nat} {c : Nat → Nat} {BC : St} {y q p1 : Nat} (hy : y < 128) (h4 : ¬ y = 104) (hk : ks_n (ko_w y) ≤ p1 - q) (hp : p1 ≤ e) {p2 : Nat} {rs : List Nat} {m : Nat} {P : Nat → Tp} (h : Tr n L e c BC (FRM y) p1 0 p2 rs m P) : q + 3 ≤ e := by
  rcases nm_3 ⟨y, hy⟩ with z | z | z
  · have z : 3 ≤ ks_n (ko_w y) := z
    omega
  · obtain ⟨z1, z2⟩ := z
    have z1 : ks_n (ko_w y) = 2 := z1
    have z2 : 97 ≤ (FRM y).headD 0 := z2
    cases hF : FRM y with
    | nil => rw [hF] at z2; exact absurd z2 (by decide)
    | cons l F =>
      rw [hF] at z2 h
      have := Tr_2 (show 97 ≤ l from z2) h
      omega
  · exact absurd z h4
theorem nm_5 {y q p1 e : Nat} (hk : ks_n (ko_w y) ≤ p1 - q) (hp : p1 ≤ e) (h : 3 ≤ ks_n (ko_w y)) : q + 3 ≤ e := by omega
/-- plain ones: kind, length, letter -/
theorem pl_a : ∀ y : Fin 128, isPl y.1 → tb_0 y.1 = 0 ∧ aKd y.1 = 0 ∧ ko_s y.1 &&& 32 = 0 ∧ eL (FRM y.1) < 128 ∧ ko_s y.1 &&& 8 = 0 ∧ ko_s y.1 &&& 2 = 0 ∧ ko_s y.1 &&& 16 = 0 ∧ ¬ y.1 = 104 := by unfold isPl; decide +kernel
theorem aLn_0 {y : Nat} {b : Int32} (h1 : ko_s y &&& 8 = 0) (h2 : ko_s y &&& 2 = 0) (h3 : ko_s y &&& 16 = 0) : aLn y b = if b &&& 3 = 3 then nI 4 else nI 2 := by
  unfold aLn
  rw [if_neg (fun z => z h1), if_neg (fun z => z h2), if_neg (fun z => z h3)]
  rfl
theorem bb_0 {BY : Nat → Int32} {cu k : Nat} (h : BY cu = nI 0) : (if BY cu = 0 then nI k else BY cu) = nI k := if_pos h
theorem Tr_X {n L e : Nat} {c : Nat → Nat} {BC : St} {m : Nat} {P : Nat → Tp} : ∀ {F : List Nat} {p p2 : Nat} {rs : List Nat}, Tr n L e c BC F p 0 p2 rs m P → ¬ eL F = 0 → ∃ px py : Nat, RX n L e c BC px true py m P
  | [], _, _, _, _, hl => absurd rfl hl
  | l :: F, p, p2, rs, h, hl => by
    obtain ⟨q, p', κ, τ, v, x, T, h⟩ := h
    by_cases z : l < 65
    · rw [if_pos z] at h
      have hl : ¬ eL F = 0 := by
        intro w
        apply hl
        show (if 65 ≤ l ∧ l < 97 then l else eL F) = 0
        rw [if_neg (by omega), w]
      rcases h with h | h
      · exact Tr_X h.2 hl
      · exact absurd h.2 (by decide)
    · rw [if_neg z] at h
      by_cases z2 : 97 ≤ l
      · rw [if_pos z2] at h
        have hl : ¬ eL F = 0 := by
          intro w
          apply hl
          show (if 65 ≤ l ∧ l < 97 then l else eL F) = 0
          rw [if_neg (by omega), w]
        rcases h with h | h | h
        · obtain ⟨_, _, rs', _, h⟩ := h
          exact Tr_X h hl
        · exact absurd h.2 (by decide)
        · exact absurd h.2 (by decide)
      · rw [if_neg z2] at h
        obtain ⟨ok, px, R, h⟩ := h
        rcases h with h | h
        · exact ⟨p, px, h.1 ▸ R⟩
        · exact absurd h.2 (by decide)
theorem Tr_le {n L e : Nat} {c : Nat → Nat} {BC : St} {m : Nat} {P : Nat → Tp} : ∀ {F : List Nat} {p p2 : Nat} {rs : List Nat}, p ≤ e → Tr n L e c BC F p 0 p2 rs m P → p2 ≤ e
  | [], _, _, _, hp, h => by rw [h.2.1]; exact hp
  | l :: F, p, p2, rs, hp, h => by
    obtain ⟨q, p', κ, τ, v, x, T, h⟩ := h
    have hp' := T.2.2.2.2.1
    by_cases z : l < 65
    · rw [if_pos z] at h
      rcases h with h | h
      · exact Tr_le hp' h.2
      · exact absurd h.2 (by decide)
    · rw [if_neg z] at h
      by_cases z2 : 97 ≤ l
      · rw [if_pos z2] at h
        rcases h with h | h | h
        · obtain ⟨_, _, rs', _, h⟩ := h
          exact Tr_le hp' h
        · exact absurd h.2 (by decide)
        · exact absurd h.2 (by decide)
      · rw [if_neg z2] at h
        obtain ⟨ok, px, R, h⟩ := h
        rcases h with h | h
        · exact Tr_le h.2.2.1 h.2.2.2
        · exact absurd h.2 (by decide)
theorem aK_4 {y : Nat} : aKd y = 0 ∨ aKd y = 1 ∨ aKd y = 2 ∨ aKd y = 3 := by
  unfold aKd
  by_cases h1 : ko_s y &&& 8 = 0
  · rw [if_neg (fun z => z h1)]
    by_cases h2 : ko_s y &&& 2 = 0
    · rw [if_neg (fun z => z h2)]
      by_cases h3 : ko_s y &&& 16 = 0
      · rw [if_neg (fun z => z h3)]; exact Or.inl rfl
      · rw [if_pos h3]; exact Or.inr (Or.inr (Or.inr rfl))
    · rw [if_pos h2]; exact Or.inr (Or.inr (Or.inl rfl))
  · rw [if_pos h1]; exact Or.inr (Or.inl rfl)
theorem aK_L : ∀ y : Fin 128, (aKd y.1 = 0 → ko_s y.1 &&& 8 = 0 ∧ ko_s y.1 &&& 2 = 0 ∧ ko_s y.1 &&& 16 = 0) ∧ (aKd y.1 = 1 → ¬ ko_s y.1 &&& 8 = 0 ∧ ¬ eL (FRM y.1) = 0) ∧ (aKd y.1 = 2 → ¬ eL (FRM y.1) = 0) ∧ (aKd y.1 = 3 → ko_s y.1 &&& 8 = 0 ∧ ko_s y.1 &&& 2 = 0 ∧ ¬ ko_s y.1 &&& 16 = 0 ∧ ¬ eL (FRM y.1) = 0) ∧ (aKd y.1 = 0 → ko_s y.1 &&& 32 = 0 → eL (FRM y.1) = 0 ∨ ltO (eL (FRM y.1)) = true) := by decide +kernel
theorem aK_M : ∀ y : Fin 128, aKd y.1 = 1 → FRM y.1 = [74] ∧ (ko_b y.1 = 111 ∨ ko_b y.1 = 239) := by decide +kernel
/-- a statement that readInstruction reads, from what the reference does with the same form -/
theorem stj_I {n L e : Nat} {c : Nat → Nat} {BC B Bq : St} {sn lu ln se co cs ns : Nat} {od : Int32} {SW LW NM BK : Nat → Int32} {bs ws X : Nat → Nat} {nL cu : Nat} {PA BY OU : Nat → Int32} {q p1 y : Nat} (J : JH n L e c BC B sn lu ln se cs ns NM BK bs ws X nL cu PA BY q p1 y od) (tp st : Nat) (fx : Bool) (C A Sx : Nat → Int32) {q1 p' κ τ v : Nat} {x : Int32} (T : TS n L e c BC p1 q1 p' κ τ v x) {ct ap : Nat} {gr : Bool} {S : St} (h : SR B ct gr PA BY OU 0 ap S) (y' : Nat) (hy' : y' < 128) (hli : ko_s y' &&& 32 = 0) (hC0 : df_X1_readStatement n y ((qC Bq sn lu 0 ln se od co SW LW), (uC (xC BC cs tp st ns fx C A Sx NM BK) p' κ q1 x)) = nd_b1 (df_X1_readInstruction n y' ((qC Bq sn lu 0 ln se od co SW LW), (uC (xC BC cs tp st ns fx C A Sx NM BK) p' κ q1 x))) (fun (t : St × St) => df_X1_readStatement_206 n t)) (hRef : ∀ (f p2 : Nat) (rs : List Nat) (m : Nat) (P : Nat → Tp), Tr n L e c BC (FRM y') p1 f p2 rs m P → ∃ (S1 : St) (fl ct' lw lv sz : Nat) (gr' : Bool), df_X13_statement n (nI q) 0 S = df_X13_statement_326 n S1 ∧ (¬ f = 0 → FL e (pI B 15 0) (nI f + 16 * sI B 13) S1) ∧ (f = 0 → SR (pI B 15 0) ct' gr' (upd PA cu (nI ((4 * se + fl) * 2 ^ 17 + q))) BY OU 0 p2 S1 ∧ RFB n L e c BC q se lw lv sz none X (sR B 7) nL (aKd y', ko_b y' ||| od ||| RGB (FRM y') rs, if aKd y' = 0 then eL (FRM y') else 0, [(m, P)], []) ∧ lw ≤ fl % 4 ∧ fl % 4 ≤ lv ∧ (aKd y' = 0 → fl = 0 ∧ aLn y' (ko_b y' ||| od ||| RGB (FRM y') rs) = nI ct') ∧ (aKd y' = 1 → fl = 8 ∧ od = 0) ∧ (aKd y' = 2 → (fl = 16 ∧ aLn y' (ko_b y' ||| od ||| RGB (FRM y') rs) = nI 2) ∨ (fl = 25 ∧ aLn y' (ko_b y' ||| od ||| RGB (FRM y') rs) = nI 4)) ∧ (aKd y' = 3 → fl = 0 ∧ ct' = 8) ∧ (aKd y' = 1 → lv = 1) ∧ (aKd y' = 2 → lv = 2) ∧ ct' ≤ 8)) (h3 : ∀ (p2 : Nat) (rs : List Nat) (m : Nat) (P : Nat → Tp) (Q' U' : St), Tr n L e c BC (FRM y') p1 0 p2 rs m P → df_X1_readInstruction n y' ((qC Bq sn lu 0 ln se od co SW LW), (uC (xC BC cs tp st ns fx C A Sx NM BK) p' κ q1 x)) = some (Q', U') → sI Q' 2 = 0 → q + 3 ≤ e) : JF n e B (qC Bq sn lu 0 ln se od co SW LW) (uC (xC BC cs tp st ns fx C A Sx NM BK) p' κ q1 x) S ln q y ∨ JG n L e c BC B Bq (uC (xC BC cs tp st ns fx C A Sx NM BK) p' κ q1 x) S sn lu ln se co od SW LW cs ns C A NM bs ws X nL cu PA BY OU q p1 y := by
  obtain ⟨hV, hc, hH, hN, hI, h13, h14, hse, hsn, hcs, hns, hlu, hP, hB, hy, ho, hod, hNA, ⟨κ0, v0, x0, T0⟩, hkw⟩ := id J
  have hT0 := hV.1
  have hq0 : q < p1 := (T0.2.2.2.2.2.1 (fun z => absurd ((ts_0 T0).1.mp z) (by decide))).2
  have hL := hT0.2.1
  have heL := hT0.2.2.1
  have hp1e := (ts_le T0).2.2
  have hY : PY PA cu q := py_J (c := c) hP hse (by omega)
  obtain ⟨k0, k1, k2, k3, k4⟩ := aK_L ⟨y', hy'⟩
  have k0 : aKd y' = 0 → ko_s y' &&& 8 = 0 ∧ ko_s y' &&& 2 = 0 ∧ ko_s y' &&& 16 = 0 := k0
  have k1 : aKd y' = 1 → ¬ ko_s y' &&& 8 = 0 ∧ ¬ eL (FRM y') = 0 := k1
  have k2 : aKd y' = 2 → ¬ eL (FRM y') = 0 := k2
  have k3 : aKd y' = 3 → ko_s y' &&& 8 = 0 ∧ ko_s y' &&& 2 = 0 ∧ ¬ ko_s y' &&& 16 = 0 ∧ ¬ eL (FRM y') = 0 := k3
  have k4 : aKd y' = 0 → ko_s y' &&& 32 = 0 → eL (FRM y') = 0 ∨ ltO (eL (FRM y')) = true := k4
  obtain ⟨f, p2, rs, m, P, cs', tp', st', ns', fx', C', A', S', NM', BK', bs', ws', q2, p2', κ2, τ2, v2, x2, hTr, hf, hne, hz⟩ := rdi_C hT0 y' hy' hli (B := Bq) (sn := sn) (lu := lu) (ln := ln) (se := se) (co := co) (od := od) (SW := SW) (LW := LW) hsn cs tp st ns fx C A Sx NM BK bs ws p1 q1 p' κ τ v x T hH (by omega) hcs hns
  obtain ⟨S1, fl, ct', lw, lv, sz, gr', r1, r2, r3⟩ := hRef f p2 rs m P hTr
  by_cases z : f = 0
  · subst z
    obtain ⟨c1, T2, c2, c3, c4, c5, c6, c7, c8⟩ := hz rfl
    obtain ⟨r3, g1, g2, g3, g4, g5, g6, g7, g8, g9, g10⟩ := r3 rfl
    rw [← p14_s (B := B) (v := 0)] at r3
    have hC := hC0
    rw [c1, nb_b1] at hC
    rcases jfin hT0 hC r1 r3 T2 with w | ⟨w1, w2, S2, w3, w4⟩
    · exact Or.inl w
    right
    rw [p14_s] at w4
    have hle := ts_le T2
    have hone : ¬ eL (FRM y') = 0 → CDo (sR BC 5) c e ns' bs' ws' C' A' cs [(m, P)] cs' := fun hl => by
      obtain ⟨d1, d2, d3, d4⟩ := c8 hl
      obtain ⟨px, py, R9⟩ := Tr_X hTr hl
      rw [d1]
      exact CDo_1 d2 d3 d4 (one_R hV hY R9).1
    have hcc : cs ≤ cs' ∧ (∀ i : Nat, i < cs → C' i = C i ∧ A' i = A i) := by
      by_cases hl : eL (FRM y') = 0
      · obtain ⟨d1, d2, d3, d4, d5⟩ := c7 hl
        exact ⟨by omega, fun i _ => ⟨by rw [d3], by rw [d4]⟩⟩
      · obtain ⟨d1, d2, d3, d4⟩ := c8 hl
        exact ⟨by omega, d2.1⟩
    have hq3 := h3 p2 rs m P _ _ hTr c1 rfl
    have e8 : aKd y' ≤ 8 := by
      rcases aK_4 (y := y') with a | a | a | a <;> omega
    refine ⟨(aKd y', ko_b y' ||| od ||| RGB (FRM y') rs, if aKd y' = 0 then eL (FRM y') else 0, [(m, P)], []), fl, lw, lv, sz, none, _, _, _, _, lu, LW, cs', ns', C', A', NM', BK', bs', ws', p2', ct', gr', BY, _, S2, w2, ⟨BC, tp', st', fx', S', κ2, q2, x2, Or.inl rfl, rfl⟩, w3, w4, by omega, hle.2.2, hq3, c3, c4, hcc.1, by omega, by omega, Nat.le_refl _, by omega, hcc.2, fun _ _ => rfl, fun _ _ => rfl, g1, (fun _ z => nomatch z), g2, g3, e8, g8, g9, ?_⟩
    rw [bb_0 hB]
    rcases aK_4 (y := y') with a | a | a | a
    · obtain ⟨a5, a6, a7⟩ := k0 a
      obtain ⟨f0, f1⟩ := g4 a
      have e1 : (if aKd y' = 0 then nI (eL (FRM y')) else nI 0) = nI (if aKd y' = 0 then eL (FRM y') else 0) := by rw [if_pos a, if_pos a]
      refine Or.inl ⟨a, f0, rfl, aLn_0 a5 a6 a7, f1.symm, e1, ?_, fun hl => ?_⟩
      · show (if aKd y' = 0 then eL (FRM y') else 0) = 0 ∨ ltO (if aKd y' = 0 then eL (FRM y') else 0) = true
        rw [if_pos a]; exact k4 a hli
      · have hl : ¬ (if aKd y' = 0 then eL (FRM y') else 0) = 0 := hl
        rw [if_pos a] at hl
        exact ⟨if_neg hl, hone hl, m, P, rfl⟩
    · obtain ⟨a5, hl⟩ := k1 a
      have hb1 : ko_b y' ||| od ||| RGB (FRM y') rs = ko_b y' := by
        rw [(aK_M ⟨y', hy'⟩ a).1, show RGB [74] rs = 0 from rfl, (g5 a).2, or_0, or_0]
      refine Or.inr (Or.inl ⟨a, (g5 a).1, ⟨rfl, by rw [hb1]; exact (aK_M ⟨y', hy'⟩ a).2⟩, ?_, ?_, if_neg hl, hone hl, ⟨m, P, rfl⟩, ct', g10, rfl⟩)
      · unfold aLn
        rw [if_pos a5]; rfl
      · rw [if_neg (show ¬ aKd y' = 0 by omega)]
    · have hl := k2 a
      refine Or.inr (Or.inr (Or.inl ⟨a, g6 a, rfl, ?_, if_neg hl, hone hl, ⟨m, P, rfl⟩, ct', g10, rfl⟩))
      rw [if_neg (show ¬ aKd y' = 0 by omega)]
    · obtain ⟨a5, a6, a7, hl⟩ := k3 a
      obtain ⟨f0, f1⟩ := g7 a
      have e2 : aLn y' (ko_b y' ||| od ||| RGB (FRM y') rs) = nI 8 := by
        unfold aLn
        rw [if_neg (fun z => z a5), if_neg (fun z => z a6), if_pos a7]; rfl
      refine Or.inr (Or.inr (Or.inr (Or.inl ⟨a, f0, rfl, e2, ?_, ?_, if_neg hl, hone hl, m, P, rfl⟩)))
      · rw [f1, e2]
      · rw [if_neg (show ¬ aKd y' = 0 by omega)]
  · left
    have c1 := hne z
    have r2 := r2 z
    rw [← p14_s (B := B) (v := 0)] at r2
    have f15 : 1 ≤ f ∧ f ≤ 15 := by omega
    have hfl : ¬ nI f + 16 * sI (pI (pI B 15 0) 14 (sI B 14)) 13 = 0 := flt_n (B := pI (pI B 15 0) 14 (sI B 14)) hV.2.2.2.2.2.2.2 f f15
    refine ⟨f, qC Bq sn lu (nI f) ln se od co SW LW, uC (xC BC cs' tp' st' ns' fx' C' A' S' NM' BK') p2' κ2 q2 x2, S1, f15.1, f15.2, ?_, rfl, rfl, ?_, ⟨_, r2, rfl, rfl, rfl, rfl⟩⟩
    · rw [hC0, c1, nb_b1, end_CF (show ¬ nI f = 0 from fun w => absurd ((nI_eq (a := f) (b := 0) (by omega) (by omega)).mp w) (by omega))]
    · rw [r1, end_F r2 hfl]
theorem stj_P {n L e : Nat} {c : Nat → Nat} {BC B Bq : St} {sn lu ln se co cs ns : Nat} {od : Int32} {SW LW NM BK : Nat → Int32} {bs ws X : Nat → Nat} {nL cu : Nat} {PA BY OU : Nat → Int32} {q p1 y : Nat} (J : JH n L e c BC B sn lu ln se cs ns NM BK bs ws X nL cu PA BY q p1 y od) (hp : isPl y) (tp st : Nat) (fx : Bool) (C A Sx : Nat → Int32) {q1 p' κ τ v : Nat} {x : Int32} (T : TS n L e c BC p1 q1 p' κ τ v x) {ct ap : Nat} {gr : Bool} {S : St} (h : SR B ct gr PA BY OU 0 ap S) : JF n e B (qC Bq sn lu 0 ln se od co SW LW) (uC (xC BC cs tp st ns fx C A Sx NM BK) p' κ q1 x) S ln q y ∨ JG n L e c BC B Bq (uC (xC BC cs tp st ns fx C A Sx NM BK) p' κ q1 x) S sn lu ln se co od SW LW cs ns C A NM bs ws X nL cu PA BY OU q p1 y := by
  obtain ⟨hV, hc, hH, hN, hI, h13, h14, hse, hsn, hcs, hns, hlu, hP, hB, hy, ho, hod, hNA, ⟨κ0, v0, x0, T0⟩, hkw⟩ := id J
  have hT0 := hV.1
  have hq0 : q < p1 := (T0.2.2.2.2.2.1 (fun z => absurd ((ts_0 T0).1.mp z) (by decide))).2
  have hL := hT0.2.1
  have heL := hT0.2.2.1
  have hp1e := (ts_le T0).2.2
  have hY : PY PA cu q := py_J (c := c) hP hse (by omega)
  obtain ⟨a1, a2, a3, a4, a5, a6, a7, a8⟩ := pl_a ⟨y, hy⟩ hp
  have a1 : tb_0 y = 0 := a1
  have a2 : aKd y = 0 := a2
  have a3 : ko_s y &&& 32 = 0 := a3
  have a5 : ko_s y &&& 8 = 0 := a5
  have a6 : ko_s y &&& 2 = 0 := a6
  have a7 : ko_s y &&& 16 = 0 := a7
  have a8 : ¬ y = 104 := a8
  refine stj_I J tp st fx C A Sx T h y hy a3 (drs_1 n y hy _ a1) (fun f p2 rs m P hTr => ?_) (fun p2 rs m P Q' U' hTr _ _ => nm_4 hy a8 hkw hp1e hTr)
  obtain ⟨S1, r1, r2, r3⟩ := rdr_P hV hc h T0 hY hNA (PLR_P (n := n) (L := L) (e := e) (c := c) (BC := BC) hy ho hp hTr)
  refine ⟨S1, 0, (if (ko_b y ||| od ||| RGB (FRM y) rs) &&& 3 = 3 then 4 else 2), 0, 3, 4, gr, r1, r2, fun z => ⟨?_, ?_, Nat.le_refl _, by decide, fun _ => ⟨rfl, ?_⟩, fun w => absurd (a2.symm.trans w) (by decide), fun w => absurd (a2.symm.trans w) (by decide), fun w => absurd (a2.symm.trans w) (by decide), fun w => absurd (a2.symm.trans w) (by decide), fun w => absurd (a2.symm.trans w) (by decide), (by first | omega | (split <;> omega))⟩⟩
  · rw [Nat.add_zero, upd_s hP]; exact r3 z
  · subst z
    have : RFB n L e c BC q se 0 3 4 none X (sR B 7) nL (0, ko_b y ||| od ||| RGB (FRM y) rs, eL (FRM y), [(m, P)], []) := rfb_P hT0 T0 hNA (PLR_P hy ho hp hTr) (Tr_le hp1e hTr)
    rw [a2, if_pos rfl]
    exact this
  · rw [aLn_0 a5 a6 a7]
    by_cases h3 : (ko_b y ||| od ||| RGB (FRM y) rs) &&& 3 = 3
    · rw [if_pos h3, if_pos h3]
    · rw [if_neg h3, if_neg h3]
/-- la -/
theorem la_k : tb_0 116 = 0 ∧ aKd 116 = 3 ∧ ko_s 116 &&& 32 = 0 ∧ shT (sgm 116) = 38 := by decide +kernel
theorem od_0 {y : Nat} {od : Int32} (hod : ¬ od = 0 → shT (sgm y) = 9 ∨ shT (sgm y) = 10) (h1 : ¬ shT (sgm y) = 9) (h2 : ¬ shT (sgm y) = 10) : od = 0 := Classical.byContradiction fun z => (hod z).elim h1 h2
theorem stj_A {n L e : Nat} {c : Nat → Nat} {BC B Bq : St} {sn lu ln se co cs ns : Nat} {od : Int32} {SW LW NM BK : Nat → Int32} {bs ws X : Nat → Nat} {nL cu : Nat} {PA BY OU : Nat → Int32} {q p1 y : Nat} (J : JH n L e c BC B sn lu ln se cs ns NM BK bs ws X nL cu PA BY q p1 y od) (h116 : y = 116) (tp st : Nat) (fx : Bool) (C A Sx : Nat → Int32) {q1 p' κ τ v : Nat} {x : Int32} (T : TS n L e c BC p1 q1 p' κ τ v x) {ct ap : Nat} {gr : Bool} {S : St} (h : SR B ct gr PA BY OU 0 ap S) : JF n e B (qC Bq sn lu 0 ln se od co SW LW) (uC (xC BC cs tp st ns fx C A Sx NM BK) p' κ q1 x) S ln q y ∨ JG n L e c BC B Bq (uC (xC BC cs tp st ns fx C A Sx NM BK) p' κ q1 x) S sn lu ln se co od SW LW cs ns C A NM bs ws X nL cu PA BY OU q p1 y := by
  obtain ⟨hV, hc, hH, hN, hI, h13, h14, hse, hsn, hcs, hns, hlu, hP, hB, hy, ho, hod, hNA, ⟨κ0, v0, x0, T0⟩, hkw⟩ := id J
  have hT0 := hV.1
  have hq0 : q < p1 := (T0.2.2.2.2.2.1 (fun z => absurd ((ts_0 T0).1.mp z) (by decide))).2
  have hL := hT0.2.1
  have heL := hT0.2.2.1
  have hp1e := (ts_le T0).2.2
  have hY : PY PA cu q := py_J (c := c) hP hse (by omega)
  subst h116
  obtain ⟨a1, a2, a3, a4⟩ := la_k
  have z0 : od = 0 := od_0 hod (by rw [a4]; decide) (by rw [a4]; decide)
  subst z0
  refine stj_I J tp st fx C A Sx T h 116 hy a3 (drs_1 n 116 hy _ a1) (fun f p2 rs m P hTr => ?_) (fun p2 rs m P Q' U' hTr _ _ => nm_4 hy (by decide) hkw hp1e hTr)
  obtain ⟨S1, r1, r2, r3⟩ := rdr_A hV hc h T0 hY hNA hTr
  refine ⟨S1, 0, 8, 0, 3, 8, gr, r1, r2, fun z => ⟨?_, ?_, Nat.le_refl _, by decide, fun w => absurd (a2.symm.trans w) (by decide), fun w => absurd (a2.symm.trans w) (by decide), fun w => absurd (a2.symm.trans w) (by decide), fun _ => ⟨rfl, rfl⟩, fun w => absurd (a2.symm.trans w) (by decide), fun w => absurd (a2.symm.trans w) (by decide), (by first | omega | (split <;> omega))⟩⟩
  · rw [Nat.add_zero, upd_s hP]; exact r3 z
  · subst z
    rw [a2, if_neg (show ¬ 3 = 0 by decide)]
    exact rfb_A hT0 T0 hNA hTr
/-- branches -/
theorem br_k : ∀ y : Fin 128, (shT (sgm y.1) = 7 ∨ shT (sgm y.1) = 35 ∨ shT (sgm y.1) = 36 ∨ shT (sgm y.1) = 37) → aKd y.1 = 2 ∧ ¬ y.1 = 104 ∧ ¬ shT (sgm y.1) = 9 ∧ ¬ shT (sgm y.1) = 10 := by decide +kernel
theorem br_r : ∀ r : Fin 32, ∀ f : Fin 2, ((nI (99 + 4096 * f.1) ||| nI r.1 <<< ((15 : Int32) &&& 31)) >>> ((15 : Int32) &&& 31)) &&& 31 = nI r.1 := by decide +kernel
theorem br_l {n L e : Nat} {c : Nat → Nat} {BC : St} {y : Nat} (hy : y < 128) (hs : shT (sgm y) = 7 ∨ shT (sgm y) = 35 ∨ shT (sgm y) = 36 ∨ shT (sgm y) = 37) {p p2 : Nat} {rs : List Nat} {m : Nat} {P : Nat → Tp} (hTr : Tr n L e c BC (FRM y) p 0 p2 rs m P) : aLn y (ko_b y ||| 0 ||| RGB (FRM y) rs) = nI (if teY y rs = true then 2 else 4) := by
  obtain ⟨b1, b2, b3, b4, b5⟩ := bt_1 ⟨y, hy⟩ hs
  have b2 : ko_s y &&& 8 = 0 := b2
  have b3 : ¬ ko_s y &&& 2 = 0 := b3
  have c3 := bt_3 ⟨y, hy⟩
  have c3 : (¬ ko_s y &&& 4 = 0 ↔ (shT (sgm y) = 35 ∧ ¬ 2 ≤ (ko_b y >>> ((12 : Int32) &&& 31)) &&& 7)) := c3
  unfold aLn
  rw [if_neg (fun z => z b2), if_pos b3, or_0]
  unfold teY teO brS
  by_cases z : ko_s y &&& 4 = 0
  · rw [if_neg (fun w => w.1 z)]
    have nz : ¬ (shT (sgm y) = 35 ∧ ¬ 2 ≤ (ko_b y >>> ((12 : Int32) &&& 31)) &&& 7) := fun w => c3.mpr w z
    have : (decide ((shT (sgm y)).toNatClampNeg = 35) && (!decide (2 ≤ (ko_b y >>> ((12 : Int32) &&& 31)) &&& 7) && decide (8 ≤ rs.headD 0 ∧ rs.headD 0 ≤ 15))) = false := by
      by_cases z35 : shT (sgm y) = 35
      · have : 2 ≤ (ko_b y >>> ((12 : Int32) &&& 31)) &&& 7 := Classical.byContradiction fun w => nz ⟨z35, w⟩
        rw [decide_eq_true this]; simp
      · have : ¬ (shT (sgm y)).toNatClampNeg = 35 := by
          rcases hs with w | w | w | w
          · rw [w]; decide
          · exact absurd w z35
          · rw [w]; decide
          · rw [w]; decide
        rw [decide_eq_false this]; rfl
    rw [this]; rfl
  · obtain ⟨z35, z2⟩ := c3.mp z
    have hF : FRM y = [97, 44, 84] := (bt_2 ⟨y, hy⟩).2.2.1 z35
    rw [hF] at hTr ⊢
    obtain ⟨q, p', κ, τ, v, x, T, hh⟩ := hTr
    rw [if_neg (by decide), if_pos (by decide)] at hh
    have hr : ∃ (r : Nat) (rs' : List Nat), r < 32 ∧ rs = r :: rs' := by
      rcases hh with hh | hh | hh
      · obtain ⟨h1, _, rs', h2, _⟩ := hh
        exact ⟨_, rs', h1, h2⟩
      · exact absurd hh.2 (by decide)
      · exact absurd hh.2 (by decide)
    obtain ⟨r, rs', hr, hrs⟩ := hr
    subst hrs
    have hb : ko_b y = nI 99 ∨ ko_b y = nI 4195 := bt_4 ⟨y, hy⟩ ⟨z35, z2⟩
    have e1 : RGB [97, 44, 84] (r :: rs') = nI r <<< ((15 : Int32) &&& 31) := by
      show rgb 97 r ||| 0 = _
      rw [or_0]; rfl
    have e2 : ((ko_b y ||| nI r <<< ((15 : Int32) &&& 31)) >>> ((15 : Int32) &&& 31)) &&& 31 = nI r := by
      rcases hb with hb | hb
      · rw [hb]; exact br_r ⟨r, hr⟩ ⟨0, by decide⟩
      · rw [hb]; exact br_r ⟨r, hr⟩ ⟨1, by decide⟩
    rw [e1, e2, z35, decide_eq_true (show (35 : Int32).toNatClampNeg = 35 by decide), decide_eq_false z2]
    by_cases w : 8 ≤ r ∧ r ≤ 15
    · rw [if_pos ⟨z, (show ¬ nI r < nI 8 from znl (by omega) (by omega)), (show ¬ nI 15 < nI r from znl (by omega) (by omega))⟩]
      rw [show (r :: rs').headD 0 = r from rfl, decide_eq_true w]; rfl
    · rw [if_neg (fun u => w ⟨Nat.not_lt.mp fun a => u.2.1 (show nI r < nI 8 from zlt a (by omega)), Nat.not_lt.mp fun a => u.2.2 (show nI 15 < nI r from zlt a (by omega))⟩)]
      rw [show (r :: rs').headD 0 = r from rfl, decide_eq_false w]; rfl
theorem stj_B {n L e : Nat} {c : Nat → Nat} {BC B Bq : St} {sn lu ln se co cs ns : Nat} {od : Int32} {SW LW NM BK : Nat → Int32} {bs ws X : Nat → Nat} {nL cu : Nat} {PA BY OU : Nat → Int32} {q p1 y : Nat} (J : JH n L e c BC B sn lu ln se cs ns NM BK bs ws X nL cu PA BY q p1 y od) (hs : shT (sgm y) = 7 ∨ shT (sgm y) = 35 ∨ shT (sgm y) = 36 ∨ shT (sgm y) = 37) (tp st : Nat) (fx : Bool) (C A Sx : Nat → Int32) {q1 p' κ τ v : Nat} {x : Int32} (T : TS n L e c BC p1 q1 p' κ τ v x) {ct ap : Nat} {gr : Bool} {S : St} (h : SR B ct gr PA BY OU 0 ap S) : JF n e B (qC Bq sn lu 0 ln se od co SW LW) (uC (xC BC cs tp st ns fx C A Sx NM BK) p' κ q1 x) S ln q y ∨ JG n L e c BC B Bq (uC (xC BC cs tp st ns fx C A Sx NM BK) p' κ q1 x) S sn lu ln se co od SW LW cs ns C A NM bs ws X nL cu PA BY OU q p1 y := by
  obtain ⟨hV, hc, hH, hN, hI, h13, h14, hse, hsn, hcs, hns, hlu, hP, hB, hy, ho, hod, hNA, ⟨κ0, v0, x0, T0⟩, hkw⟩ := id J
  have hT0 := hV.1
  have hq0 : q < p1 := (T0.2.2.2.2.2.1 (fun z => absurd ((ts_0 T0).1.mp z) (by decide))).2
  have hL := hT0.2.1
  have heL := hT0.2.2.1
  have hp1e := (ts_le T0).2.2
  have hY : PY PA cu q := py_J (c := c) hP hse (by omega)
  obtain ⟨a2, a8, n9, n10⟩ := br_k ⟨y, hy⟩ hs
  have a2 : aKd y = 2 := a2
  obtain ⟨b1, b2, b3, b4, b5⟩ := bt_1 ⟨y, hy⟩ hs
  have z0 : od = 0 := od_0 hod n9 n10
  subst z0
  refine stj_I J tp st fx C A Sx T h y hy b4 (drs_1 n y hy _ b5) (fun f p2 rs m P hTr => ?_) (fun p2 rs m P Q' U' hTr _ _ => nm_4 hy a8 hkw hp1e hTr)
  obtain ⟨S1, r1, r2, r3⟩ := rdr_B hV hc h T0 hP hse (by omega) hy hNA hs hTr
  refine ⟨S1, (if teY y rs = true then 16 else 25), (if teY y rs = true then 2 else 4), (if teY y rs = true then 0 else 1), 2, 8, false, r1, r2, fun z => ⟨r3 z, ?_, ?_, ?_, fun w => absurd (a2.symm.trans w) (by decide), fun w => absurd (a2.symm.trans w) (by decide), fun _ => ?_, fun w => absurd (a2.symm.trans w) (by decide), fun w => absurd (a2.symm.trans w) (by decide), fun _ => rfl, (by split <;> omega)⟩⟩
  · subst z
    rw [a2, if_neg (show ¬ 2 = 0 by decide), or_0]
    exact rfb_B hT0 T0 hy hNA hs hTr
  · by_cases w : teY y rs = true
    · rw [if_pos w, if_pos w]; decide
    · rw [if_neg w, if_neg w]; decide
  · by_cases w : teY y rs = true
    · rw [if_pos w]; decide
    · rw [if_neg w]; decide
  · subst z
    rw [br_l hy hs hTr]
    by_cases w : teY y rs = true
    · rw [if_pos w, if_pos w]; exact Or.inl ⟨rfl, rfl⟩
    · rw [if_neg w, if_neg w]; exact Or.inr ⟨rfl, rfl⟩

/-- one letter behind a name is no expression -/
theorem sum_s {n L e : Nat} {c : Nat → Nat} {BC BR0 : St} (hT0 : atx n L e c BC BR0) {p q p' κ τ v : Nat} {x : Int32} (T : TS n L e c BC p q p' κ τ v x) (he : e ≤ p + 1) (ha : p < e → aP (c p) = false) (cs tp st ns : Nat) (fx : Bool) (C A S NM BK : Nat → Int32) (hcs : cs < 32832) : ∃ U' : St, df_X9_sum n (uC (xC BC cs tp st ns fx C A S NM BK) p' κ q x) = some (-1, U') := by
  obtain ⟨hn, hL, heL, h127, hend, hce, hO, hst, htC, h0, htR, hch⟩ := id hT0
  obtain ⟨t1, t2, t3, t4, t5, t6, t7, t8, t9⟩ := id T
  have e0 : df_X9_sum n (uC (xC BC cs tp st ns fx C A S NM BK) p' κ q x) = df_X9_sum_26 n n (nI cs) (nI 32768) (uC (xC BC cs 0 0 ns true C A S NM BK) p' κ q x) := by
    unfold df_X9_sum df_X9_sum_0
    rw [xC_u5, nb_let, show pI (uC (xC BC cs tp st ns fx C A S NM BK) p' κ q x) 6 0 = _ from xC_w6 (v := 0), nb_let, show pI (uC (xC BC cs 0 st ns fx C A S NM BK) p' κ q x) 10 1 = _ from xC_w10 (v := true), nb_let, show pI (uC (xC BC cs 0 st ns true C A S NM BK) p' κ q x) 7 0 = _ from xC_w7 (v := 0), nb_let, uC_o, xC_o0, o8S hO]
    rfl
  rw [e0]
  obtain ⟨g, hg⟩ : ∃ g : Nat, n = g + 1 + 1 + 1 := ⟨n - 3, by omega⟩
  have st0 : sI (uC (xC BC cs 0 0 ns true C A S NM BK) p' κ q x) 7 = 0 := rfl
  have bad : ∀ (tp2 : Nat) (S2 : Nat → Int32) (ap2 kd2 fr2 : Nat) (nm2 : Int32), (kd2 = 0 ∨ kd2 = 4 ∨ kd2 = 6 ∨ (kd2 = 5 ∧ ∃ v : Nat, v < 300 ∧ nm2 = nI v ∧ ¬ v = 45 ∧ ¬ v = 126 ∧ ¬ v = 40 ∧ ¬ v = 37)) → ∀ (k : Nat), k < 2 ^ 20 → ∀ g : Nat, ∃ U' : St, df_X9_sum_26 n (g + 1 + 1) (nI cs) (nI (k + 1)) (uC (xC BC cs tp2 0 ns true C A S2 NM BK) ap2 kd2 fr2 nm2) = some (-1, U') := fun tp2 S2 ap2 kd2 fr2 nm2 hk k hk2 g => by
    have hx := xd_X (n := n) (B := BC) (cs := cs) (tp := tp2) (st := 0) (ns := ns) (fx := true) (C := C) (A := A) (S := S2) (NM := NM) (BK := BK) (ap := ap2) (kd := kd2) (fr := fr2) (nm := nm2) (by
      rcases hk with w | w | w | ⟨w, u, u1, u2, u3, u4, u5, u6⟩
      · exact Or.inl w
      · exact Or.inr (Or.inl w)
      · exact Or.inr (Or.inr (Or.inl w))
      · exact Or.inr (Or.inr (Or.inr ⟨w, u, u1, u2, u3, u4, u5⟩)))
    rw [if_neg (show ¬ (kd2 = 5 ∧ nm2 = 37) from fun w => by
      rcases hk with z | z | z | ⟨z, u, u1, u2, u3, u4, u5, u6⟩
      · omega
      · omega
      · omega
      · have := w.2
        rw [u2] at this
        exact u6 ((nI_eq (a := u) (b := 37) (by omega) (by omega)).mp this))] at hx
    refine ⟨uC (xC BC (cs + 1) tp2 6 ns true (upd C cs 21) (upd A cs 0) S2 NM BK) ap2 kd2 fr2 nm2, (su_e k hk2 (s := uC (xC BC cs tp2 0 ns true C A S2 NM BK) ap2 kd2 fr2 nm2) (show ¬ (0 : Int32) = 5 by decide) (show ¬ (0 : Int32) = 6 by decide) ((if_pos rfl).trans hx) (Or.inr rfl)).trans ?_⟩
    rw [su_z (nI cs) hcs (Or.inr rfl), if_neg (show ¬ 6 = 5 by decide)]
  have k6 : κ ≤ 6 := by unfold tkK at t7; omega
  by_cases k5 : κ = 5
  · subst k5
    have hp' : p' = e := by
      have := t6 (by decide)
      omega
    have hx5 := t8 (Or.inr (Or.inr rfl))
    obtain ⟨v3, _⟩ := tk_5 t7
    by_cases a : v = 45 ∨ v = 126 ∨ v = 40
    · have hx := xd_S (n := n) (B := BC) (cs := cs) (tp := 0) (st := 0) (ns := ns) (fx := true) (C := C) (A := A) (S := S) (NM := NM) (BK := BK) (ap := p') (fr := q) (nm := x) (by decide) v a hx5
      obtain ⟨q2, p2, κ2, τ2, v2, x2, n1, n2⟩ := nx_1 hT0 (cs := cs) (tp := 0 + 1) (st := 0) (ns := ns) (fx := true) (C := C) (A := A) (S := upd S 0 (if v = 45 then 11 else if v = 126 then 12 else 15)) (NM := NM) (BK := BK) p' 5 q (nI v) t5 (fun i i1 i2 => t2 i (by omega) i2)
      have z2 : κ2 = 0 := Classical.byContradiction fun w => by
        have := n2.2.2.2.2.2.1 w
        have := n2.2.2.1
        omega
      obtain ⟨U', hU⟩ := bad (0 + 1) (upd S 0 (if v = 45 then 11 else if v = 126 then 12 else 15)) p2 κ2 q2 x2 (Or.inl z2) 32766 (by decide) g
      refine ⟨U', Eq.trans ?_ hU⟩
      rw [show df_X9_sum_26 n n (nI cs) (nI 32768) (uC (xC BC cs 0 0 ns true C A S NM BK) p' 5 q x) = df_X9_sum_26 n (g + 1 + 1 + 1) (nI cs) (nI 32768) (uC (xC BC cs 0 0 ns true C A S NM BK) p' 5 q x) from congrArg (fun z => df_X9_sum_26 n z (nI cs) (nI 32768) (uC (xC BC cs 0 0 ns true C A S NM BK) p' 5 q x)) hg]
      exact su_n (g := g + 1 + 1) 32767 (by decide) (show ¬ (0 : Int32) = 5 by decide) (show ¬ (0 : Int32) = 6 by decide) ((if_pos rfl).trans hx) (show ¬ (0 : Int32) = 5 by decide) (show ¬ (0 : Int32) = 6 by decide) n1
    · by_cases b : v = 37
      · have hx := xd_X (n := n) (B := BC) (cs := cs) (tp := 0) (st := 0) (ns := ns) (fx := true) (C := C) (A := A) (S := S) (NM := NM) (BK := BK) (ap := p') (kd := 5) (fr := q) (nm := x) (Or.inr (Or.inr (Or.inr ⟨rfl, v, v3, hx5, fun w => a (Or.inl w), fun w => a (Or.inr (Or.inl w)), fun w => a (Or.inr (Or.inr w))⟩)))
        rw [if_pos (show 5 = 5 ∧ x = 37 from ⟨rfl, by rw [hx5, b]; rfl⟩)] at hx
        obtain ⟨q2, p2, κ2, τ2, v2, x2, n1, n2⟩ := nx_1 hT0 (cs := cs) (tp := 0) (st := 2) (ns := ns) (fx := true) (C := C) (A := A) (S := S) (NM := NM) (BK := BK) p' 5 q x t5 (fun i i1 i2 => t2 i (by omega) i2)
        have z2 : κ2 = 0 := Classical.byContradiction fun w => by
          have := n2.2.2.2.2.2.1 w
          have := n2.2.2.1
          omega
        subst z2
        have hq2 := n2.2.2.2.1
        have hy := xh_1 (n := n) (L := L) (e := e) (c := c) (B := BC) (BR := BR0) (cs := cs) (tp := 0) (ns := ns) (fx := true) (C := C) (A := A) (S := S) (NM := NM) (BK := BK) (fr := q2) (l := p2 - q2) (kd := 0) (nm := x2) hT0 (by decide) (by have := n2.2.2.2.2.1; omega)
        rw [show q2 + (p2 - q2) = p2 by omega, if_neg (show ¬ (0 = 1 ∧ _) from fun w => absurd w.1 (by decide)), if_neg (show ¬ (0 = 1 ∧ _) from fun w => absurd w.1 (by decide))] at hy
        have f2 := su_e (n := n) (g := g) (x1 := nI cs) 32766 (by decide) (s := uC (xC BC cs 0 2 ns true C A S NM BK) p2 0 q2 x2) (show ¬ (2 : Int32) = 5 by decide) (show ¬ (2 : Int32) = 6 by decide) (((if_neg (show ¬ (2 : Int32) = 0 by decide)).trans (if_neg (show ¬ (2 : Int32) = 1 by decide))).trans hy) (Or.inr rfl)
        rw [su_z (nI cs) hcs (Or.inr rfl), if_neg (show ¬ 6 = 5 by decide)] at f2
        refine ⟨_, Eq.trans ?_ f2⟩
        rw [show df_X9_sum_26 n n (nI cs) (nI 32768) (uC (xC BC cs 0 0 ns true C A S NM BK) p' 5 q x) = df_X9_sum_26 n (g + 1 + 1 + 1) (nI cs) (nI 32768) (uC (xC BC cs 0 0 ns true C A S NM BK) p' 5 q x) from congrArg (fun z => df_X9_sum_26 n z (nI cs) (nI 32768) (uC (xC BC cs 0 0 ns true C A S NM BK) p' 5 q x)) hg]
        exact su_n (g := g + 1 + 1) 32767 (by decide) (show ¬ (0 : Int32) = 5 by decide) (show ¬ (0 : Int32) = 6 by decide) ((if_pos rfl).trans hx) (show ¬ (2 : Int32) = 5 by decide) (show ¬ (2 : Int32) = 6 by decide) n1
      · obtain ⟨U', hU⟩ := bad 0 S p' 5 q x (Or.inr (Or.inr (Or.inr ⟨rfl, v, v3, hx5, fun w => a (Or.inl w), fun w => a (Or.inr (Or.inl w)), fun w => a (Or.inr (Or.inr w)), b⟩))) 32767 (by decide) (g + 1)
        refine ⟨U', Eq.trans ?_ hU⟩
        exact congrArg (fun z => df_X9_sum_26 n z (nI cs) (nI 32768) (uC (xC BC cs 0 0 ns true C A S NM BK) p' 5 q x)) hg
  · have hk : κ = 0 ∨ κ = 4 ∨ κ = 6 := by
      have nk : ∀ w : aP (c q) = true, q < e → False := fun w w2 => by
        have : q = p := by omega
        subst this
        rw [ha w2] at w
        exact absurd w (by decide)
      rcases t7 with z | z | z | z | z | z | z
      · exact Or.inl z.1
      · exact (nk z.2.2.2.1 z.2.2.1).elim
      · have hq := t6 (by omega)
        exact (nk (aD_P (z.2.2.2.2 (by omega)).1) hq.1).elim
      · have hq := t6 (by omega)
        exact (nk (aD_P z.2.2.2.1) hq.1).elim
      · exact Or.inr (Or.inl z.1)
      · exact absurd z.1 k5
      · exact Or.inr (Or.inr z.1)
    obtain ⟨U', hU⟩ := bad 0 S p' κ q x (by omega) 32767 (by decide) (g + 1)
    refine ⟨U', Eq.trans ?_ hU⟩
    exact congrArg (fun z => df_X9_sum_26 n z (nI cs) (nI 32768) (uC (xC BC cs 0 0 ns true C A S NM BK) p' κ q x)) hg
theorem hp_k : (∀ y : Fin 128, shT (sgm y.1) = 34 → (y.1 = 103 ∨ y.1 = 104 ∨ y.1 = 105)) ∧ (∀ y : Fin 128, (y.1 = 103 ∨ y.1 = 104 ∨ y.1 = 105) → shT (sgm y.1) = 34 ∧ aKd y.1 = 1 ∧ tb_0 y.1 = 0 ∧ ko_s y.1 &&& 32 = 0 ∧ FRM y.1 = [74] ∧ (ko_b y.1 >>> ((7 : Int32) &&& 31)) &&& 31 = ptT (sgm y.1)) ∧ shT (sgm 44) = 8 ∧ (ko_b 103 >>> ((7 : Int32) &&& 31)) &&& 31 = 1 ∧ ks_n (ko_w 103) = 4 ∧ ks_n (ko_w 105) = 4 ∧ ks_n (ko_w 44) = 3 ∧ ks_n (ko_w 32) = 4 := by decide +kernel
theorem Tr_74 {n L e : Nat} {c : Nat → Nat} {BC : St} {p f p2 : Nat} {rs : List Nat} {m : Nat} {P : Nat → Tp} (h : Tr n L e c BC [74] p f p2 rs m P) : (f = 0 ∧ RX n L e c BC p true p2 m P ∧ p2 ≤ e) ∨ (f = 1 ∧ ∃ px : Nat, RX n L e c BC p false px m P) := by
  obtain ⟨q, p', κ, τ, v, x, T, h⟩ := h
  rw [if_neg (by decide), if_neg (by decide)] at h
  obtain ⟨ok, px, R, h⟩ := h
  rcases h with h | h
  · obtain ⟨h1, h2, h3, h4, h5, h6⟩ := h
    subst h1
    rw [h5]
    exact Or.inl ⟨h4, R, h3⟩
  · obtain ⟨h1, h2⟩ := h
    subst h1
    exact Or.inr ⟨h2, px, R⟩
theorem RGB_74 (rs : List Nat) : RGB [74] rs = 0 := rfl
/-- j, call, tail; jal without a register -/
theorem stj_H {n L e : Nat} {c : Nat → Nat} {BC B Bq : St} {sn lu ln se co cs ns : Nat} {od : Int32} {SW LW NM BK : Nat → Int32} {bs ws X : Nat → Nat} {nL cu : Nat} {PA BY OU : Nat → Int32} {q p1 y : Nat} (J : JH n L e c BC B sn lu ln se cs ns NM BK bs ws X nL cu PA BY q p1 y od) (y' : Nat) (hy' : y' = 103 ∨ y' = 104 ∨ y' = 105) (tp st : Nat) (fx : Bool) (C A Sx : Nat → Int32) {q1 p' κ τ v : Nat} {x : Int32} (T : TS n L e c BC p1 q1 p' κ τ v x) {ct ap : Nat} {gr : Bool} {S : St} (h : SR B ct gr PA BY OU 0 ap S) (hk : (shT (sgm y) = 34 ∧ y' = y) ∨ (y = 44 ∧ y' = 103 ∧ ¬ tkG c τ q1 p' < 32)) : JF n e B (qC Bq sn lu 0 ln se od co SW LW) (uC (xC BC cs tp st ns fx C A Sx NM BK) p' κ q1 x) S ln q y ∨ JG n L e c BC B Bq (uC (xC BC cs tp st ns fx C A Sx NM BK) p' κ q1 x) S sn lu ln se co od SW LW cs ns C A NM bs ws X nL cu PA BY OU q p1 y := by
  obtain ⟨hV, hc, hH, hN, hI, h13, h14, hse, hsn, hcs, hns, hlu, hP, hB, hy, ho, hod, hNA, ⟨κ0, v0, x0, T0⟩, hkw⟩ := id J
  have hT0 := hV.1
  have hq0 : q < p1 := (T0.2.2.2.2.2.1 (fun z => absurd ((ts_0 T0).1.mp z) (by decide))).2
  have hL := hT0.2.1
  have heL := hT0.2.2.1
  have hp1e := (ts_le T0).2.2
  have hY : PY PA cu q := py_J (c := c) hP hse (by omega)
  obtain ⟨g1, g2, g3, g4, g5, g6, g7, g8⟩ := hp_k
  have hy8 : y' < 128 := by omega
  obtain ⟨a1, a2, a3, a4, a5, a6⟩ := g2 ⟨y', hy8⟩ hy'
  have a1 : shT (sgm y') = 34 := a1
  have a2 : aKd y' = 1 := a2
  have a3 : tb_0 y' = 0 := a3
  have a4 : ko_s y' &&& 32 = 0 := a4
  have a5 : FRM y' = [74] := a5
  have a6 : (ko_b y' >>> ((7 : Int32) &&& 31)) &&& 31 = ptT (sgm y') := a6
  have z0 : od = 0 := by
    rcases hk with hk | hk
    · exact od_0 hod (by rw [hk.1]; decide) (by rw [hk.1]; decide)
    · exact od_0 hod (by rw [hk.1, g3]; decide) (by rw [hk.1, g3]; decide)
  subst z0
  have hk2 : shT (sgm y) = 34 ∨ (shT (sgm y) = 8 ∧ ¬ tkG c τ q1 p' < 32) := by
    rcases hk with hk | hk
    · exact Or.inl hk.1
    · exact Or.inr ⟨by rw [hk.1]; exact g3, hk.2.2⟩
  have hd : (ko_b y' >>> ((7 : Int32) &&& 31)) &&& 31 = if shT (sgm y) = 34 then ptT (sgm y) ||| 0 else 1 := by
    rcases hk with hk | hk
    · rw [if_pos hk.1, or_0, ← hk.2]; exact a6
    · rw [if_neg (show ¬ shT (sgm y) = 34 by rw [hk.1, g3]; decide), hk.2.1]; exact g4
  have hC0 : df_X1_readStatement n y ((qC Bq sn lu 0 ln se 0 co SW LW), (uC (xC BC cs tp st ns fx C A Sx NM BK) p' κ q1 x)) = nd_b1 (df_X1_readInstruction n y' ((qC Bq sn lu 0 ln se 0 co SW LW), (uC (xC BC cs tp st ns fx C A Sx NM BK) p' κ q1 x))) (fun (t : St × St) => df_X1_readStatement_206 n t) := by
    rcases hk with hk | hk
    · rw [hk.2] at a3
      rw [hk.2]
      exact drs_1 n y hy _ a3
    · rw [hk.1, hk.2.1, drs_11, isr_C hT0 _ T, nb_b2, decide_eq_false hk.2.2, if_pos (show bI false = 0 from rfl)]
  refine stj_I J tp st fx C A Sx T h y' hy8 a4 hC0 (fun f p2 rs m P hTr => ?_) (fun p2 rs m P Q' U' hTr hri hf0 => ?_)
  · rw [a5] at hTr
    rcases Tr_74 hTr with ⟨w1, w2, w3⟩ | ⟨w1, px, w2⟩
    · obtain ⟨S1, r1, r2, r3⟩ := rdr_H hV hc h T0 hP hse (by omega) hy hNA T hk2 w2
      refine ⟨S1, 8, 2, 0, 1, 4, false, r1, fun z => absurd w1 z, fun _ => ⟨r3 rfl, ?_, by decide, by decide, fun w => absurd (a2.symm.trans w) (by decide), fun _ => ⟨rfl, rfl⟩, fun w => absurd (a2.symm.trans w) (by decide), fun w => absurd (a2.symm.trans w) (by decide), fun _ => rfl, fun w => absurd (a2.symm.trans w) (by decide), (by omega)⟩⟩
      rw [a2, if_neg (show ¬ 1 = 0 by decide), a5, RGB_74, or_0, or_0]
      exact rfb_H hT0 T0 hy hNA T hk2 w2 w3 (ko_b y') hd
    · obtain ⟨S1, r1, r2, r3⟩ := rdr_H hV hc h T0 hP hse (by omega) hy hNA T hk2 w2
      refine ⟨S1, 8, 2, 0, 1, 4, false, r1, fun _ => by rw [w1]; exact r2 rfl, fun z => absurd (w1.symm.trans z) (by decide)⟩
  · by_cases h104 : y = 104
    · refine Classical.byContradiction fun w => ?_
      have hy4 : y' = 104 := by
        rcases hk with hk | hk
        · rw [hk.2]; exact h104
        · omega
      subst hy4
      have hq1 : p1 = q + 1 ∨ q + 2 ≤ p1 := by omega
      have he : e ≤ p1 + 1 := by omega
      have haP : p1 < e → aP (c p1) = false := fun hpe => by
        obtain ⟨t1, t2, t3, t4, t5, t6⟩ := ts_w T0 rfl
        have := (eT_1 c (q := q) (by omega : q ≤ e)).2.2.1
        rw [← t2] at this
        exact this hpe
      obtain ⟨U9, h9⟩ := sum_s hT0 T he haP cs tp st ns fx C A Sx NM BK (by omega)
      · have hri2 : df_X1_readInstruction n 104 ((qC Bq sn lu 0 ln se 0 co SW LW), (uC (xC BC cs tp st ns fx C A Sx NM BK) p' κ q1 x)) = some (qC Bq sn lu (nI 1) ln se 0 co SW LW, U9) := by
          have kf : ks_n (ko_f 104) = 1 ∧ kl (ko_f 104) 0 = 74 ∧ ko_s 104 &&& 32 = 0 := by decide +kernel
          obtain ⟨g, hg⟩ : ∃ g : Nat, n = g + 1 + 1 := ⟨n - 2, by have := hT0.1; omega⟩
          have e1 : df_X1_readInstruction n 104 ((qC Bq sn lu 0 ln se 0 co SW LW), (uC (xC BC cs tp st ns fx C A Sx NM BK) p' κ q1 x)) = df_X1_readInstruction_18 n n 104 (ko_b 104 ||| 0) (-1) 0 (nI 0) ((qC Bq sn lu 0 ln se 0 co SW LW), (uC (xC BC cs tp st ns fx C A Sx NM BK) p' κ q1 x)) := by
            unfold df_X1_readInstruction df_X1_readInstruction_0
            rw [lt_y (show 104 < 128 by decide)]
            rfl
          rw [e1]
          have e2 : df_X1_readInstruction_18 n n 104 (ko_b 104 ||| 0) (-1) 0 (nI 0) ((qC Bq sn lu 0 ln se 0 co SW LW), (uC (xC BC cs tp st ns fx C A Sx NM BK) p' κ q1 x)) = df_X1_readInstruction_18 n (g + 1 + 1) 104 (ko_b 104 ||| 0) (-1) 0 (nI 0) ((qC Bq sn lu 0 ln se 0 co SW LW), (uC (xC BC cs tp st ns fx C A Sx NM BK) p' κ q1 x)) := congrArg (fun z => df_X1_readInstruction_18 n z 104 (ko_b 104 ||| 0) (-1) 0 (nI 0) ((qC Bq sn lu 0 ln se 0 co SW LW), (uC (xC BC cs tp st ns fx C A Sx NM BK) p' κ q1 x))) hg
          rw [e2, rin_1 n (g + 1) 104 (by decide) _ _ _ 0 74 (by rw [kf.1]; decide) kf.2.1 (by decide) _ _ rfl, if_pos (by decide), if_pos (by decide), h9, nb_b2, if_neg (show ¬ (0 : Int32) ≤ -1 by decide), blm_C, nb_b1, rin_0 n g 104 (by decide) _ _ _ 1 (by decide) (qC Bq sn lu 1 ln se 0 co SW LW) U9 (Or.inr (show ¬ (1 : Int32) = 0 by decide))]
          unfold df_X1_readInstruction_110
          rw [lt_y (show 104 < 128 by decide), if_pos kf.2.2, if_neg (show ¬ sI (qC Bq sn lu 1 ln se 0 co SW LW, U9).1 2 = 0 from (by decide : ¬ (1 : Int32) = 0))]
          rfl
        rw [hri2] at hri
        have := congrArg (fun o : Option (St × St) => o.map (fun s => sI s.1 2)) hri
        have this : some (nI 1) = some (sI Q' 2) := this
        rw [hf0] at this
        exact absurd (Option.some.inj this) (by decide)
    · refine nm_5 hkw hp1e ?_
      rcases hk with hk | hk
      · have : y = 103 ∨ y = 105 := by omega
        rcases this with w | w
        · rw [w, g5]; decide
        · rw [w, g6]; decide
      · rw [hk.1, g7]; decide
/-- jal with a register -/
theorem jl_k : aKd 44 = 0 ∧ ko_s 44 &&& 32 = 0 ∧ ko_s 44 &&& 8 = 0 ∧ ko_s 44 &&& 2 = 0 ∧ ko_s 44 &&& 16 = 0 ∧ eL (FRM 44) = 74 := by decide +kernel
theorem stj_L {n L e : Nat} {c : Nat → Nat} {BC B Bq : St} {sn lu ln se co cs ns : Nat} {od : Int32} {SW LW NM BK : Nat → Int32} {bs ws X : Nat → Nat} {nL cu : Nat} {PA BY OU : Nat → Int32} {q p1 y : Nat} (J : JH n L e c BC B sn lu ln se cs ns NM BK bs ws X nL cu PA BY q p1 y od) (h44 : y = 44) (tp st : Nat) (fx : Bool) (C A Sx : Nat → Int32) {q1 p' κ τ v : Nat} {x : Int32} (T : TS n L e c BC p1 q1 p' κ τ v x) {ct ap : Nat} {gr : Bool} {S : St} (h : SR B ct gr PA BY OU 0 ap S) (hg : tkG c τ q1 p' < 32) : JF n e B (qC Bq sn lu 0 ln se od co SW LW) (uC (xC BC cs tp st ns fx C A Sx NM BK) p' κ q1 x) S ln q y ∨ JG n L e c BC B Bq (uC (xC BC cs tp st ns fx C A Sx NM BK) p' κ q1 x) S sn lu ln se co od SW LW cs ns C A NM bs ws X nL cu PA BY OU q p1 y := by
  obtain ⟨hV, hc, hH, hN, hI, h13, h14, hse, hsn, hcs, hns, hlu, hP, hB, hy, ho, hod, hNA, ⟨κ0, v0, x0, T0⟩, hkw⟩ := id J
  have hT0 := hV.1
  have hq0 : q < p1 := (T0.2.2.2.2.2.1 (fun z => absurd ((ts_0 T0).1.mp z) (by decide))).2
  have hL := hT0.2.1
  have heL := hT0.2.2.1
  have hp1e := (ts_le T0).2.2
  have hY : PY PA cu q := py_J (c := c) hP hse (by omega)
  subst h44
  obtain ⟨a2, a3, a5, a6, a7, a8⟩ := jl_k
  have hC0 : df_X1_readStatement n 44 ((qC Bq sn lu 0 ln se od co SW LW), (uC (xC BC cs tp st ns fx C A Sx NM BK) p' κ q1 x)) = nd_b1 (df_X1_readInstruction n 44 ((qC Bq sn lu 0 ln se od co SW LW), (uC (xC BC cs tp st ns fx C A Sx NM BK) p' κ q1 x))) (fun (t : St × St) => df_X1_readStatement_206 n t) := by
    rw [drs_11, isr_C hT0 _ T, nb_b2, decide_eq_true hg, if_neg (show ¬ bI true = 0 by decide)]
  refine stj_I J tp st fx C A Sx T h 44 hy a3 hC0 (fun f p2 rs m P hTr => ?_) (fun p2 rs m P Q' U' hTr _ _ => nm_5 hkw hp1e (by rw [hp_k.2.2.2.2.2.2.1]; decide))
  obtain ⟨S1, r1, r2, r3⟩ := rdr_P hV hc h T0 hY hNA (PLR_J (n := n) (L := L) (e := e) (c := c) (BC := BC) ho T hg hTr)
  refine ⟨S1, 0, (if (ko_b 44 ||| od ||| RGB (FRM 44) rs) &&& 3 = 3 then 4 else 2), 0, 3, 4, gr, r1, r2, fun z => ⟨?_, ?_, Nat.le_refl _, by decide, fun _ => ⟨rfl, ?_⟩, fun w => absurd (a2.symm.trans w) (by decide), fun w => absurd (a2.symm.trans w) (by decide), fun w => absurd (a2.symm.trans w) (by decide), fun w => absurd (a2.symm.trans w) (by decide), fun w => absurd (a2.symm.trans w) (by decide), (by split <;> omega)⟩⟩
  · rw [Nat.add_zero, upd_s hP]; exact r3 z
  · subst z
    rw [a2, if_pos rfl, a8]
    exact rfb_P hT0 T0 hNA (PLR_J ho T hg hTr) (Tr_le hp1e hTr)
  · rw [aLn_0 a5 a6 a7]
    by_cases h3 : (ko_b 44 ||| od ||| RGB (FRM 44) rs) &&& 3 = 3
    · rw [if_pos h3, if_pos h3]
    · rw [if_neg h3, if_neg h3]

/-- with a fault: what readJump, fixed and addNumber leave -/
theorem j47_F {n : Nat} {B : St} {sn lu ln se co : Nat} {od : Int32} {SW LW : Nat → Int32} {ft : Int32} (s2 : St) (h : ¬ ft = 0) (x1 : Int32) : df_X1_readJump_47 n x1 (qC B sn lu ft ln se od co SW LW, s2) = some (qC B sn lu ft ln se od co SW LW, s2) := by
  unfold df_X1_readJump_47
  rw [xpt_F s2 h, nb_b1, if_neg (show ¬ sI (qC B sn lu ft ln se od co SW LW, s2).1 2 = 0 from h)]
  exact j71_F s2 h x1 0
theorem fix_Z {n : Nat} {B : St} {sn lu ln se co : Nat} {od : Int32} {SW LW : Nat → Int32} {ft : Int32} (s2 : St) (h : ¬ ft = 0) (u lo hi : Int32) : df_X1_fixed n u lo hi (qC B sn lu ft ln se od co SW LW, s2) = some (0, (qC B sn lu ft ln se od co SW LW, s2)) := by
  unfold df_X1_fixed df_X1_fixed_0
  rw [if_neg (show ¬ sI (qC B sn lu ft ln se od co SW LW, s2).1 2 = 0 from h)]
theorem lo_9 (n : Nat) (v : Int32) : df_X9_low n v () = some (loO v, ()) := rfl
theorem anb_1 (n : Nat) (d v : Int32) (s : St × St) : df_X1_addNumber n d v s = df_X1_add n 4 (nI (numB d v).length) d v s := by
  have hA : ∀ k : Int32, df_X1_addNumber_39 n d v k s = df_X1_add n 4 k d v s := fun k => by
    unfold df_X1_addNumber_39
    cases df_X1_add n 4 k d v s <;> rfl
  unfold df_X1_addNumber df_X1_addNumber_0 df_X1_addNumber_21 df_X1_addNumber_37
  rw [fit_N n v, nb_b2, fit_I n v, nb_b2, lo_9 n v, nb_b2]
  unfold numB
  cases h1 : fzO (-32) 31 1 v with
  | true =>
    rw [if_neg (show ¬ bI true = 0 by decide)]
    by_cases hd : d = 0
    · rw [if_pos hd, if_neg (show ¬ (true = true ∧ ¬ d = 0) from fun w => w.2 hd)]
      cases h2 : fzO (-2048) 2047 1 v with
      | true => rw [if_neg (show ¬ bI true = 0 by decide), if_pos rfl, hA]; rfl
      | false =>
        rw [if_pos (show bI false = 0 from rfl), if_neg (show ¬ false = true by decide)]
        by_cases h3 : loO v = 0
        · rw [if_pos h3, if_pos h3, hA]; rfl
        · rw [if_neg h3, if_neg h3, hA]; rfl
    · rw [if_neg hd, if_pos (show true = true ∧ ¬ d = 0 from ⟨rfl, hd⟩), hA]; rfl
  | false =>
    rw [if_pos (show bI false = 0 from rfl), if_neg (show ¬ (false = true ∧ ¬ d = 0) from fun w => absurd w.1 (by decide))]
    cases h2 : fzO (-2048) 2047 1 v with
    | true => rw [if_neg (show ¬ bI true = 0 by decide), if_pos rfl, hA]; rfl
    | false =>
      rw [if_pos (show bI false = 0 from rfl), if_neg (show ¬ false = true by decide)]
      by_cases h3 : loO v = 0
      · rw [if_pos h3, if_pos h3, hA]; rfl
      · rw [if_neg h3, if_neg h3, hA]; rfl
theorem jr_b : ∀ r : Fin 32, (ko_b 32 ||| (nI r.1 <<< ((7 : Int32) &&& 31)) <<< ((8 : Int32) &&& 31)) ||| 128 = (ko_b 32 ||| 128) ||| nI r.1 <<< ((15 : Int32) &&& 31) ∧ ((ko_b 32 ||| 128) ||| nI r.1 <<< ((15 : Int32) &&& 31)) &&& 3 = 3 := by decide +kernel
theorem rl_100 : rlO 100 = true := by decide
/-- jalr -/
theorem stj_R {n L e : Nat} {c : Nat → Nat} {BC B Bq : St} {sn lu ln se co cs ns : Nat} {od : Int32} {SW LW NM BK : Nat → Int32} {bs ws X : Nat → Nat} {nL cu : Nat} {PA BY OU : Nat → Int32} {q p1 y : Nat} (J : JH n L e c BC B sn lu ln se cs ns NM BK bs ws X nL cu PA BY q p1 y od) (h32 : y = 32) (tp st : Nat) (fx : Bool) (C A Sx : Nat → Int32) {q1 p' κ τ v : Nat} {x : Int32} (T : TS n L e c BC p1 q1 p' κ τ v x) {ct ap : Nat} {gr : Bool} {S : St} (h : SR B ct gr PA BY OU 0 ap S) : JF n e B (qC Bq sn lu 0 ln se od co SW LW) (uC (xC BC cs tp st ns fx C A Sx NM BK) p' κ q1 x) S ln q y ∨ JG n L e c BC B Bq (uC (xC BC cs tp st ns fx C A Sx NM BK) p' κ q1 x) S sn lu ln se co od SW LW cs ns C A NM bs ws X nL cu PA BY OU q p1 y := by
  obtain ⟨hV, hc, hH, hN, hI, h13, h14, hse, hsn, hcs, hns, hlu, hP, hB, hy, ho, hod, hNA, ⟨κ0, v0, x0, T0⟩, hkw⟩ := id J
  have hT0 := hV.1
  have hq0 : q < p1 := (T0.2.2.2.2.2.1 (fun z => absurd ((ts_0 T0).1.mp z) (by decide))).2
  have hL := hT0.2.1
  have heL := hT0.2.2.1
  have hp1e := (ts_le T0).2.2
  have hY : PY PA cu q := py_J (c := c) hP hse (by omega)
  subst h32
  have hn := hT0.1
  have z0 : od = 0 := od_0 hod (by rw [frm44.2.2.2.2.1]; decide) (by rw [frm44.2.2.2.2.1]; decide)
  subst z0
  have hq3 : q + 3 ≤ e := nm_5 hkw hp1e (by rw [hp_k.2.2.2.2.2.2.2]; decide)
  obtain ⟨x1, x3, x2⟩ := rrg_C hT0 (cs := cs) (tp := tp) (st := st) (ns := ns) (fx := fx) (C := C) (A := A) (S := Sx) (NM := NM) (BK := BK) (qC Bq sn lu 0 ln se 0 co SW LW) rfl 100 (rfit 100) (rgb 100) (fun r hr => rf_C n rl_100 hr) (fun r _ => rgb_C n rl_100 r) p1 q1 p' κ τ v x T
  have hbad : ∀ f : Nat, (f = 1 ∨ f = 3) → ((tkG c τ q1 p' = 33 ∧ f = 1) ∨ (tkG c τ q1 p' = 32 ∧ f = 3)) → df_X1_readRegister n 100 (qC Bq sn lu 0 ln se 0 co SW LW, (uC (xC BC cs tp st ns fx C A Sx NM BK) p' κ q1 x)) = some (0, (pI (qC Bq sn lu 0 ln se 0 co SW LW) 2 (nI f), (uC (xC BC cs tp st ns fx C A Sx NM BK) p' κ q1 x))) → JF n e B (qC Bq sn lu 0 ln se 0 co SW LW) (uC (xC BC cs tp st ns fx C A Sx NM BK) p' κ q1 x) S ln q 32 := fun f hf hg hr => by
    obtain ⟨S1, r1, r2, r3⟩ := rdr_P hV hc h T0 hY hNA (PLR_RF (n := n) (L := L) (e := e) (c := c) (BC := BC) T hg (p2 := 0) (m := 0) (P := fun _ => (0, 0, 0)) (l := 0) (b := 0))
    have fz : ¬ f = 0 := by omega
    have r2 := r2 fz
    rw [← p14_s (B := B) (v := 0)] at r2
    have f15 : 1 ≤ f ∧ f ≤ 15 := by omega
    have hfl : ¬ nI f + 16 * sI (pI (pI B 15 0) 14 (sI B 14)) 13 = 0 := flt_n (B := pI (pI B 15 0) 14 (sI B 14)) hV.2.2.2.2.2.2.2 f f15
    have nz : ¬ nI f = 0 := fun w => absurd ((nI_eq (a := f) (b := 0) (by omega) (by omega)).mp w) (by omega)
    refine ⟨f, qC Bq sn lu (nI f) ln se 0 co SW LW, (uC (xC BC cs tp st ns fx C A Sx NM BK) p' κ q1 x), S1, f15.1, f15.2, ?_, rfl, rfl, ?_, ⟨_, r2, rfl, rfl, rfl, rfl⟩⟩
    · rw [drs_12]
      unfold df_X1_readJump df_X1_readJump_0
      rw [hr, nb_b2, qC_w2, if_neg (show ¬ sI (qC Bq sn lu (nI f) ln se 0 co SW LW, (uC (xC BC cs tp st ns fx C A Sx NM BK) p' κ q1 x)).1 2 = 0 from nz), j47_F _ nz, nb_b1, end_CF nz]
    · rw [r1, end_F r2 hfl]
  have hl := tkG_l (c := c) (τ := τ) (q := q1) (p := p')
  by_cases g33 : tkG c τ q1 p' = 33
  · exact Or.inl (hbad 1 (Or.inl rfl) (Or.inl ⟨g33, rfl⟩) (x1 g33))
  by_cases g32 : tkG c τ q1 p' = 32
  · exact Or.inl (hbad 3 (Or.inr rfl) (Or.inr ⟨g32, rfl⟩) (x3 (Or.inl g32)))
  have g : tkG c τ q1 p' < 32 := by omega
  obtain ⟨qa, pa, κa, τa, va, xa, ra, Ta⟩ := x2 ⟨g, rfl⟩
  have hle1 := ts_le T
  have hp' : p1 ≤ p' := by omega
  obtain ⟨ka0, ka6, _, _⟩ := ts_0 Ta
  obtain ⟨jb1, jb2⟩ := jr_b ⟨tkG c τ q1 p', g⟩
  by_cases ze : τa = 0
  · have zk := ka0.mpr ze
    subst zk
    obtain ⟨S1, r1, r2, r3⟩ := rdr_P hV hc h T0 hY hNA (PLR_R0 (n := n) (L := L) (e := e) (c := c) (BC := BC) T g Ta ze (P := fun _ => (0, 0, 0)))
    have r3 := r3 rfl
    rw [← p14_s (B := B) (v := 0)] at r3
    have hC : df_X1_readStatement n 32 (qC Bq sn lu 0 ln se 0 co SW LW, (uC (xC BC cs tp st ns fx C A Sx NM BK) p' κ q1 x)) = df_X1_readStatement_206 n (qC Bq (sn + 1) lu 0 ln se 0 co (rowU SW sn ln se 4 0 ((ko_b 32 ||| 128) ||| nI (tkG c τ q1 p') <<< ((15 : Int32) &&& 31)) (-1) (nI 0)) LW, uC (xC BC cs tp st ns fx C A Sx NM BK) pa 0 qa xa) := by
      rw [drs_12]
      unfold df_X1_readJump df_X1_readJump_0
      rw [ra, nb_b2, if_pos (show sI (qC Bq sn lu 0 ln se 0 co SW LW, uC (xC BC cs tp st ns fx C A Sx NM BK) pa 0 qa xa).1 2 = 0 from rfl), if_pos (show sI (qC Bq sn lu 0 ln se 0 co SW LW, uC (xC BC cs tp st ns fx C A Sx NM BK) pa 0 qa xa).2 2 = 0 from rfl)]
      rw [show (ko_b 32 ||| (rgb 100 (tkG c τ q1 p')) <<< ((8 : Int32) &&& 31)) ||| 128 = (ko_b 32 ||| 128) ||| nI (tkG c τ q1 p') <<< ((15 : Int32) &&& 31) from jb1, add_C _ hsn, nb_b1, nb_b1]
    rcases jfin hT0 hC r1 r3 Ta with w | ⟨w1, w2, S2, w3, w4⟩
    · exact Or.inl w
    right
    rw [p14_s] at w4
    have hle := ts_le Ta
    refine ⟨(0, (ko_b 32 ||| 128) ||| nI (tkG c τ q1 p') <<< ((15 : Int32) &&& 31), 0, [(0, fun _ => (0, 0, 0))], []), 0, 0, 3, 4, none, _, _, _, _, lu, LW, cs, ns, C, A, NM, BK, bs, ws, pa, (if ((ko_b 32 ||| 128) ||| nI (tkG c τ q1 p') <<< ((15 : Int32) &&& 31)) &&& 3 = 3 then 4 else 2), gr, BY, _, S2, w2, ⟨BC, tp, st, fx, Sx, 0, qa, xa, Or.inl rfl, rfl⟩, w3, (by rw [Nat.add_zero, upd_s hP]; exact w4), by omega, hle.2.2, hq3, ⟨Nat.le_refl _, fun _ _ => ⟨rfl, rfl, rfl, rfl⟩, fun i i1 i2 => by omega⟩, hH, Nat.le_refl _, by omega, by omega, Nat.le_refl _, by omega, fun _ _ => ⟨rfl, rfl⟩, fun _ _ => rfl, fun _ _ => rfl, rfb_P hT0 T0 hNA (PLR_R0 T g Ta ze) (by omega), (fun _ z => nomatch z), Nat.le_refl _, Nat.le_of_ble_eq_true rfl, Nat.le_of_ble_eq_true rfl, (fun z => by have z : (0 : Nat) = 1 := z; omega), (fun z => by have z : (0 : Nat) = 2 := z; omega), Or.inl ⟨rfl, rfl, rfl, ?_, ?_, rfl, Or.inl rfl, fun hl => absurd rfl hl⟩⟩
    · rw [if_pos (show _ = (3 : Int32) from jb2)]; rfl
    · rw [bb_0 hB, if_pos (show _ = (3 : Int32) from jb2)]; rfl
  · have zk : ¬ κa = 0 := fun w => ze (ka0.mp w)
    obtain ⟨f, p2, rs, m, P, cs', tp', st', ns', fx', C', A', S', NM', BK', bs', ws', q2, p2', κ2, τ2, v2, x2, hTr, hf, hne, hz⟩ := rdj_2 hT0 (B := Bq) (sn := sn) (lu := lu) (ln := ln) (se := se) (co := co) (od := 0) (SW := SW) (LW := LW) hsn cs tp st ns fx C A Sx NM BK bs ws p' qa pa κa τa va xa Ta hH (by omega) (by omega) (by omega) (rgb 100 (tkG c τ q1 p'))
    obtain ⟨S1, r1, r2, r3⟩ := rdr_P hV hc h T0 hY hNA (PLR_R (n := n) (L := L) (e := e) (c := c) (BC := BC) T g Ta ze hTr)
    have hC0 : df_X1_readStatement n 32 (qC Bq sn lu 0 ln se 0 co SW LW, (uC (xC BC cs tp st ns fx C A Sx NM BK) p' κ q1 x)) = nd_b1 (df_X1_readJump_47 n (rgb 100 (tkG c τ q1 p')) (qC Bq sn lu 0 ln se 0 co SW LW, uC (xC BC cs tp st ns fx C A Sx NM BK) pa κa qa xa)) (fun (t : St × St) => df_X1_readStatement_206 n t) := by
      rw [drs_12]
      unfold df_X1_readJump df_X1_readJump_0
      rw [ra, nb_b2, if_pos (show sI (qC Bq sn lu 0 ln se 0 co SW LW, uC (xC BC cs tp st ns fx C A Sx NM BK) pa κa qa xa).1 2 = 0 from rfl), if_neg (show ¬ sI (qC Bq sn lu 0 ln se 0 co SW LW, uC (xC BC cs tp st ns fx C A Sx NM BK) pa κa qa xa).2 2 = 0 from fun w => zk ((nI_eq (a := κa) (b := 0) (by omega) (by omega)).mp w))]
    by_cases z : f = 0
    · subst z
      obtain ⟨c1, T2, c2, c3, c4, c5, c6, c7, c8, c9, c10⟩ := hz rfl
      have r3 := r3 rfl
      rw [← p14_s (B := B) (v := 0)] at r3
      rw [c1, nb_b1] at hC0
      rcases jfin hT0 hC0 r1 r3 T2 with w | ⟨w1, w2, S2, w3, w4⟩
      · exact Or.inl w
      right
      rw [p14_s] at w4
      have hle := ts_le T2
      obtain ⟨px, py, R9⟩ := Tr_X hTr (by decide)
      have hb3 : (ko_b 32 ||| rgb 100 (tkG c τ q1 p') ||| RGB [44, 73, 40, 97, 41] rs) &&& 3 = 3 := (b3_r _ _ _).trans frm44.2.2.2.2.2.2
      refine ⟨(0, ko_b 32 ||| rgb 100 (tkG c τ q1 p') ||| RGB [44, 73, 40, 97, 41] rs, 73, [(m, P)], []), 0, 0, 3, 4, none, _, _, _, _, lu, LW, cs', ns', C', A', NM', BK', bs', ws', p2', (if (ko_b 32 ||| rgb 100 (tkG c τ q1 p') ||| RGB [44, 73, 40, 97, 41] rs) &&& 3 = 3 then 4 else 2), gr, BY, _, S2, w2, ⟨BC, tp', st', fx', S', κ2, q2, x2, Or.inl rfl, rfl⟩, w3, (by rw [Nat.add_zero, upd_s hP]; exact w4), by omega, hle.2.2, hq3, c3, c4, by omega, by omega, by omega, Nat.le_refl _, by omega, c8.1, fun _ _ => rfl, fun _ _ => rfl, rfb_P hT0 T0 hNA (PLR_R T g Ta ze hTr) (Tr_le (by omega) hTr), (fun _ z => nomatch z), Nat.le_refl _, Nat.le_of_ble_eq_true rfl, Nat.le_of_ble_eq_true rfl, (fun z => by have z : (0 : Nat) = 1 := z; omega), (fun z => by have z : (0 : Nat) = 2 := z; omega), Or.inl ⟨rfl, rfl, rfl, ?_, ?_, rfl, Or.inr rfl, fun hl => ⟨rfl, ?_, m, P, rfl⟩⟩⟩
      · rw [if_pos (show _ = (3 : Int32) from hb3)]; rfl
      · rw [bb_0 hB, if_pos (show _ = (3 : Int32) from hb3)]; rfl
      · rw [c7]; exact CDo_1 c8 c9 c10 (one_R hV hY R9).1
    · left
      have c1 := hne z
      have r2 := r2 z
      rw [← p14_s (B := B) (v := 0)] at r2
      have f15 : 1 ≤ f ∧ f ≤ 15 := by omega
      have hfl : ¬ nI f + 16 * sI (pI (pI B 15 0) 14 (sI B 14)) 13 = 0 := flt_n (B := pI (pI B 15 0) 14 (sI B 14)) hV.2.2.2.2.2.2.2 f f15
      refine ⟨f, qC Bq sn lu (nI f) ln se 0 co SW LW, uC (xC BC cs' tp' st' ns' fx' C' A' S' NM' BK') p2' κ2 q2 x2, S1, f15.1, f15.2, ?_, rfl, rfl, ?_, ⟨_, r2, rfl, rfl, rfl, rfl⟩⟩
      · rw [hC0, c1, nb_b1, end_CF (show ¬ nI f = 0 from fun w => absurd ((nI_eq (a := f) (b := 0) (by omega) (by omega)).mp w) (by omega))]
      · rw [r1, end_F r2 hfl]

/-- what a fixed expression may be: both ask the same -/
theorem tbE_0 {X : Nat → Nat} {nL : Nat} {B : St} : tbE X (sR B 7) nL X nL B := ⟨Nat.le_refl _, fun _ _ => rfl, fun _ _ _ => rfl⟩
theorem fxE {c X : Nat → Nat} {e nL : Nat} {NR C0 A0 : Nat → Int32} {s0 ns : Nat} {bs ws : Nat → Nat} {m : Nat} {P : Nat → Tp} {C A NM : Nat → Int32} {fx : Bool} {B : St} (hC : CR NR c e C0 A0 s0 ns bs ws m P C A) (hN : NTB c X nL (sR B 7) ns NM bs ws) (hfx : fx = true ↔ fxQ c e bs ws NM ns m P) (sx st : Nat) (ts lo hi : Int32) : fxR fx (zV (VV c X e nL sx ts 0 (sR B 7)) P m) (dV (VV c X e nL sx ts 0 (sR B 7)) P m) lo hi = fxR (!lsF (loV c X e nL) P m) (zV (VW c X e nL st B) P m) (dV (VW c X e nL st B) P m) lo hi ∧ (fx = true → zV (VV c X e nL sx ts 0 (sR B 7)) P m = zV (VW c X e nL st B) P m) ∧ (fx = true → lsF (loV c X e nL) P m = false) := by
  have h1 := (hfx.trans (fx_lo hC hN))
  cases hx : fx with
  | true =>
    have h2 := h1.mp hx
    have e1 := fix_V (c := c) (X := X) (X0 := X) (e := e) (nL := nL) (n0 := nL) (st := st) (st0 := sx) (ts := sI B 4) (ts0 := ts) (ad := sI B 17) (ad0 := 0) (W0 := sR B 7) (B := B) (P := P) (m := m) h2 tbE_0 (CR_P hC)
    have e2 : zV (VV c X e nL sx ts 0 (sR B 7)) P m = zV (VW c X e nL st B) P m := by unfold zV VW; rw [e1]
    have e3 : dV (VV c X e nL sx ts 0 (sR B 7)) P m = dV (VW c X e nL st B) P m := by unfold dV VW; rw [e1]
    rw [e2, e3, h2]
    exact ⟨rfl, fun _ => rfl, fun _ => rfl⟩
  | false =>
    have h2 : ¬ lsF (loV c X e nL) P m = false := fun w => by rw [h1.mpr w] at hx; exact absurd hx (by decide)
    have h3 : lsF (loV c X e nL) P m = true := by
      cases hh : lsF (loV c X e nL) P m with
      | true => rfl
      | false => exact absurd hh h2
    rw [h3]
    refine ⟨?_, fun w => absurd w (by decide), fun w => absurd w (by decide)⟩
    unfold fxR
    rw [if_pos rfl]
    rfl
theorem fxR_l {fx dv : Bool} {z lo hi : Int32} : fxR fx z dv lo hi ≤ 15 := by
  unfold fxR
  by_cases h1 : fx = false
  · rw [if_pos h1]; decide
  · rw [if_neg h1]
    by_cases h2 : dv = true
    · rw [if_pos h2]; decide
    · rw [if_neg h2]
      by_cases h3 : z < lo ∨ hi < z
      · rw [if_pos h3]; decide
      · rw [if_neg h3]; decide
theorem FXD_1 {c X : Nat → Nat} {e nL : Nat} {NR C0 A0 : Nat → Int32} {s0 ns : Nat} {bs ws : Nat → Nat} {m : Nat} {P : Nat → Tp} {C A : Nat → Int32} {B : St} {st : Nat} (hC : CR NR c e C0 A0 s0 ns bs ws m P C A) {lo hi : Int32} (h : fxR (!lsF (loV c X e nL) P m) (zV (VW c X e nL st B) P m) (dV (VW c X e nL st B) P m) lo hi = 0) : FXD c e X (sR B 7) nL P m (zV (VW c X e nL st B) P m) := by
  obtain ⟨h1, h2, _, _⟩ := fxR_0 h
  refine ⟨?_, CR_P hC, st, sI B 4, sI B 17, rfl, h2⟩
  cases hh : lsF (loV c X e nL) P m with
  | true => rw [hh] at h1; exact absurd h1 (by decide)
  | false => rfl
theorem li_k : tb_0 117 = 0 ∧ ¬ ko_s 117 &&& 32 = 0 ∧ eL (FRM 117) = 65 ∧ fOK (FRM 117) = true ∧ (FRM 117).length = 3 ∧ ks_n (ko_f 117) = 3 ∧ FRM 117 = [100, 44, 65] ∧ shT (sgm 117) = 39 := by decide +kernel
theorem ix_0 {n y : Nat} (hy : y < 128) (Q U : St) : df_X1_readInstruction n y (Q, U) = df_X1_readInstruction_18 n n y (ko_b y ||| sI Q 5) (-1) 0 (nI 0) (Q, U) := by
  unfold df_X1_readInstruction df_X1_readInstruction_0
  rw [lt_y hy]
  rfl
/-- li -/
theorem stj_N {n L e : Nat} {c : Nat → Nat} {BC B Bq : St} {sn lu ln se co cs ns : Nat} {od : Int32} {SW LW NM BK : Nat → Int32} {bs ws X : Nat → Nat} {nL cu : Nat} {PA BY OU : Nat → Int32} {q p1 y : Nat} (J : JH n L e c BC B sn lu ln se cs ns NM BK bs ws X nL cu PA BY q p1 y od) (h117 : y = 117) (tp st : Nat) (fx : Bool) (C A Sx : Nat → Int32) {q1 p' κ τ v : Nat} {x : Int32} (T : TS n L e c BC p1 q1 p' κ τ v x) {ct ap : Nat} {gr : Bool} {S : St} (h : SR B ct gr PA BY OU 0 ap S) : JF n e B (qC Bq sn lu 0 ln se od co SW LW) (uC (xC BC cs tp st ns fx C A Sx NM BK) p' κ q1 x) S ln q y ∨ JG n L e c BC B Bq (uC (xC BC cs tp st ns fx C A Sx NM BK) p' κ q1 x) S sn lu ln se co od SW LW cs ns C A NM bs ws X nL cu PA BY OU q p1 y := by
  obtain ⟨hV, hc, hH, hN, hI, h13, h14, hse, hsn, hcs, hns, hlu, hP, hB, hy, ho, hod, hNA, ⟨κ0, v0, x0, T0⟩, hkw⟩ := id J
  have hT0 := hV.1
  have hq0 : q < p1 := (T0.2.2.2.2.2.1 (fun z => absurd ((ts_0 T0).1.mp z) (by decide))).2
  have hL := hT0.2.1
  have heL := hT0.2.2.1
  have hp1e := (ts_le T0).2.2
  have hY : PY PA cu q := py_J (c := c) hP hse (by omega)
  subst h117
  have hn := hT0.1
  obtain ⟨a1, a2, a3, a4, a5, a6, a7, a8⟩ := li_k
  have z0 : od = 0 := od_0 hod (by rw [a8]; decide) (by rw [a8]; decide)
  subst z0
  obtain ⟨f, p2, rs, m, P, b', k', l', cs', tp', st', ns', fx', C', A', S', NM', BK', bs', ws', q2, p2', κ2, τ2, v2, x2, hTr, hf, hcl, hz⟩ := rin_C hT0 117 hy (FRM 117) 0 n (ko_b 117 ||| 0) (-1) 0 (qC Bq sn lu 0 ln se 0 co SW LW) cs tp st ns fx C A Sx NM BK bs ws p1 q1 p' κ τ v x a4 rfl (by rw [a5, a6]) (by rw [a5]; omega) rfl T hH (by omega) (by omega) (by omega) (fun _ => ⟨hcs, hns⟩)
  have hC0 : df_X1_readStatement n 117 (qC Bq sn lu 0 ln se 0 co SW LW, (uC (xC BC cs tp st ns fx C A Sx NM BK) p' κ q1 x)) = nd_b1 (df_X1_readInstruction_110 n 117 b' k' l' (if f = 0 then qC Bq sn lu 0 ln se 0 co SW LW else pI (qC Bq sn lu 0 ln se 0 co SW LW) 2 (nI f), uC (xC BC cs' tp' st' ns' fx' C' A' S' NM' BK') p2' κ2 q2 x2)) (fun (t : St × St) => df_X1_readStatement_206 n t) := by
    rw [drs_1 n 117 hy _ a1, ix_0 hy, ← hcl]
    rfl
  have h110 : ∀ s : St × St, df_X1_readInstruction_110 n 117 b' k' l' s = nd_b2 (df_X1_fixed n k' (-2147483648) 2147483647 s) (fun (q15 : Int32) (s16 : St × St) => nd_b1 (df_X1_add n 4 (nI (numB ((b' >>> ((7 : Int32) &&& 31)) &&& 31) q15).length) ((b' >>> ((7 : Int32) &&& 31)) &&& 31) q15 s16) (fun (t : St × St) => some t)) := fun s => by
    unfold df_X1_readInstruction_110
    rw [lt_y hy, if_neg a2]
    apply congrArg (nd_b2 (df_X1_fixed n k' (-2147483648) 2147483647 s))
    funext q15 s16
    rw [anb_1]
    rfl
  rw [a7] at hTr
  obtain ⟨S1, r1, r2, r3⟩ := rdr_N hV hc h T0 hY hNA hTr
  by_cases z : f = 0
  · subst z
    rw [a7] at hz
    obtain ⟨T2, c1, c2, c3, c4, c5, c6, c7, c8⟩ := hz rfl
    obtain ⟨d1, d2, d3, d4, d5, d6, d7⟩ := c8 (by decide)
    obtain ⟨r, qr, pa, κr, τr, wr, xr, qb, pb, κb, τb, wb, xb, e1, Tr1, e2, e3, Tb, e4, Rb, e5, e6, r3, r4⟩ := r3 rfl
    have hN' := NTB_n hN hI c3 c4
    have hns' := c4.1
    have hle := ts_le T2
    obtain ⟨BC', tpx, Sx', hBC, hfx⟩ := fix_C (n := n) (B := Bq) (sn := sn) (lu := lu) (ln := ln) (se := se) (co := co) (od := 0) (SW := SW) (LW := LW) (BC := BC) (cs := cs') (tp := tp') (st := st') (ns := ns') (fx := fx') (C := C') (A := A') (S := S') (NM := NM') (BK := BK') (p' := p2') (κ := κ2) (q := q2) (x := x2) (c := c) (X := X) (e := e) (nL := nL) (W := sR B 7) (s0 := cs) (m := m) (bs := bs') (ws := ws') (P := P) hn hns' d4 d5 (by omega) (by omega) hN' d7 e6 q 0 (-2147483648) 2147483647
    obtain ⟨x1, x3, x4⟩ := fxE (B := B) d4 hN' d7 q q 0 (-2147483648) 2147483647
    rw [x1] at hfx
    rw [if_pos rfl, h110, d1, hfx, nb_b2] at hC0
    have hbits : (b' >>> ((7 : Int32) &&& 31)) &&& 31 = nI r := by
      rw [c2, e1, ← a7, li_b r]
      exact liD ⟨r, e3⟩
    rw [hbits] at hC0
    by_cases w : fxR (!lsF (loV c X e nL) P m) (zV (VW c X e nL q B) P m) (dV (VW c X e nL q B) P m) (-2147483648) 2147483647 = 0
    · obtain ⟨u1, u2, u3, u4⟩ := fxR_0 w
      have fxt : fx' = true := by
        have := (fxR_0 (x1.trans w)).1
        exact this
      have r3 := r3 w
      rw [← p14_s (B := B) (v := 0)] at r3
      rw [w, if_pos rfl, x3 fxt, show nI 0 = (0 : Int32) from rfl, add_C _ hsn, nb_b1, nb_b1] at hC0
      rcases jfin hT0 hC0 r1 r3 T2 with w' | ⟨w1, w2, S2, w3, w4⟩
      · exact Or.inl w'
      right
      rw [p14_s] at w4
      refine ⟨(4, nI r, 0, [], numB (nI r) (zV (VW c X e nL q B) P m)), 0, 0, 3, 8, none, _, _, _, _, lu, LW, cs', ns', C', A', NM', BK', bs', ws', p2', (numB (nI r) (zV (VW c X e nL q B) P m)).length, gr, BY, _, S2, w2, ⟨BC', tpx, st', fx', Sx', κ2, q2, x2, hBC, rfl⟩, w3, (by rw [Nat.add_zero, upd_s hP]; exact w4), by omega, hle.2.2, nm_4 hy (by decide) hkw hp1e (by rw [a7]; exact hTr), c3, c4, by omega, by omega, by omega, Nat.le_refl _, by omega, d4.1, fun _ _ => rfl, fun _ _ => rfl, ?_, (fun _ z => nomatch z), Nat.le_refl _, Nat.le_of_ble_eq_true rfl, Nat.le_of_ble_eq_true rfl, (fun z => by have z : (4 : Nat) = 1 := z; omega), (fun z => by have z : (4 : Nat) = 2 := z; omega), Or.inr (Or.inr (Or.inr (Or.inr (Or.inl ⟨rfl, rfl, rfl, ⟨r, e3, rfl⟩, rfl, ?_, rfl, rfl⟩))))⟩
      · rw [e2]
        rw [e2] at e3
        exact rfb_N hT0 T0 hNA Tr1 e3 Tb e4 Rb (FXD_1 d4 w)
      · rw [bb_0 hB]
    · left
      have r4 := r4 w
      rw [← p14_s (B := B) (v := 0)] at r4
      have f15 : 1 ≤ fxR (!lsF (loV c X e nL) P m) (zV (VW c X e nL q B) P m) (dV (VW c X e nL q B) P m) (-2147483648) 2147483647 ∧ fxR (!lsF (loV c X e nL) P m) (zV (VW c X e nL q B) P m) (dV (VW c X e nL q B) P m) (-2147483648) 2147483647 ≤ 15 := ⟨by omega, fxR_l⟩
      have hfl := flt_n (B := pI (pI B 15 0) 14 (sI B 14)) hV.2.2.2.2.2.2.2 _ f15
      have nz : ¬ nI (fxR (!lsF (loV c X e nL) P m) (zV (VW c X e nL q B) P m) (dV (VW c X e nL q B) P m) (-2147483648) 2147483647) = 0 := fun w' => absurd ((nI_eq (b := 0) (by omega) (by omega)).mp w') (by omega)
      refine ⟨(fxR (!lsF (loV c X e nL) P m) (zV (VW c X e nL q B) P m) (dV (VW c X e nL q B) P m) (-2147483648) 2147483647), qC Bq sn lu (nI (fxR (!lsF (loV c X e nL) P m) (zV (VW c X e nL q B) P m) (dV (VW c X e nL q B) P m) (-2147483648) 2147483647)) ln se 0 co SW LW, uC (xC BC' cs' tpx st' ns' fx' C' A' Sx' NM' BK') p2' κ2 q2 x2, S1, f15.1, f15.2, ?_, rfl, rfl, ?_, ⟨_, r4, rfl, rfl, rfl, rfl⟩⟩
      · rw [hC0, add_F _ nz, nb_b1, nb_b1, end_CF nz]
      · rw [r1, end_F r4 hfl]
  · left
    have r2 := r2 z
    rw [← p14_s (B := B) (v := 0)] at r2
    have f15 : 1 ≤ f ∧ f ≤ 15 := by omega
    have hfl : ¬ nI f + 16 * sI (pI (pI B 15 0) 14 (sI B 14)) 13 = 0 := flt_n (B := pI (pI B 15 0) 14 (sI B 14)) hV.2.2.2.2.2.2.2 f f15
    have nz : ¬ nI f = 0 := fun w => absurd ((nI_eq (a := f) (b := 0) (by omega) (by omega)).mp w) (by omega)
    refine ⟨f, qC Bq sn lu (nI f) ln se 0 co SW LW, uC (xC BC cs' tp' st' ns' fx' C' A' S' NM' BK') p2' κ2 q2 x2, S1, f15.1, f15.2, ?_, rfl, rfl, ?_, ⟨_, r2, rfl, rfl, rfl, rfl⟩⟩
    · rw [hC0, if_neg z, qC_w2, h110, fix_Z _ nz, nb_b2, add_F _ nz, nb_b1, nb_b1, end_CF nz]
    · rw [r1, end_F r2 hfl]

theorem sp_k : shT (sgm 126) = 48 ∧ shT (sgm 127) = 49 ∧ ks_n (ko_w 126) = 6 ∧ ks_n (ko_w 127) = 6 ∧ ks_n (ko_w 121) = 5 ∧ ks_n (ko_w 122) = 5 ∧ ks_n (ko_w 123) = 5 ∧ ks_n (ko_w 124) = 6 ∧ ks_n (ko_w 125) = 6 ∧ ks_n (ko_w 118) = 5 ∧ ks_n (ko_w 119) = 5 ∧ ks_n (ko_w 120) = 4 := by decide +kernel
theorem one_A {n L e : Nat} {c : Nat → Nat} {BC B : St} {X : Nat → Nat} {nL cu st : Nat} (hV : RV n L e c BC B X nL cu) {PA : Nat → Int32} (hY : PY PA cu st) {p : Nat} : ∀ (p2 m : Nat) (P : Nat → Tp), RX n L e c BC p true p2 m P → one P m := fun _ _ _ R => (one_R hV hY R).1
theorem al_n (k : Nat) (h : k ≤ 10) : ¬ -1 - nI k = 0 := by
  have : ∀ k : Fin 11, ¬ -1 - nI k.1 = 0 := by decide +kernel
  exact this ⟨k, by omega⟩
/-- .space -/
theorem stj_S {n L e : Nat} {c : Nat → Nat} {BC B Bq : St} {sn lu ln se co cs ns : Nat} {od : Int32} {SW LW NM BK : Nat → Int32} {bs ws X : Nat → Nat} {nL cu : Nat} {PA BY OU : Nat → Int32} {q p1 y : Nat} (J : JH n L e c BC B sn lu ln se cs ns NM BK bs ws X nL cu PA BY q p1 y od) (hyy : y = 126) (tp st : Nat) (fx : Bool) (C A Sx : Nat → Int32) {q1 p' κ τ v : Nat} {x : Int32} (T : TS n L e c BC p1 q1 p' κ τ v x) {ct ap : Nat} {gr : Bool} {S : St} (h : SR B ct gr PA BY OU 0 ap S) : JF n e B (qC Bq sn lu 0 ln se od co SW LW) (uC (xC BC cs tp st ns fx C A Sx NM BK) p' κ q1 x) S ln q y ∨ JG n L e c BC B Bq (uC (xC BC cs tp st ns fx C A Sx NM BK) p' κ q1 x) S sn lu ln se co od SW LW cs ns C A NM bs ws X nL cu PA BY OU q p1 y := by
  obtain ⟨hV, hc, hH, hN, hI, h13, h14, hse, hsn, hcs, hns, hlu, hP, hB, hy, ho, hod, hNA, ⟨κ0, v0, x0, T0⟩, hkw⟩ := id J
  have hT0 := hV.1
  have hq0 : q < p1 := (T0.2.2.2.2.2.1 (fun z => absurd ((ts_0 T0).1.mp z) (by decide))).2
  have hL := hT0.2.1
  have heL := hT0.2.2.1
  have hp1e := (ts_le T0).2.2
  have hY : PY PA cu q := py_J (c := c) hP hse (by omega)
  subst hyy
  have hn := hT0.1
  have z0 : od = 0 := od_0 hod (by rw [sp_k.1]; decide) (by rw [sp_k.1]; decide)
  subst z0
  have hq3 : q + 3 ≤ e := nm_5 hkw hp1e (by rw [sp_k.2.2.1]; decide)
  obtain ⟨ok, p2, q2, p2', κ2, τ2, v2, x2, m, P, ns2, fx2, C2, A2, S2, S3, NM2, BK2, bs2, ws2, tp2, tp3, BC3, u, a1, b0, b2, b3, hno, hok⟩ := sfx_C hT0 (B := Bq) (sn := sn) (lu := lu) (ln := ln) (se := se) (co := co) (od := 0) (SW := SW) (LW := LW) (tp := tp) (st := st) (fx := fx) (C := C) (A := A) (S := Sx) hn T hH hcs hns (by omega) hN hI (one_A hV hY) q 0 0 32768
  obtain ⟨S1, r1, r4, r7⟩ := rdr_S hV hc h T0 hY hNA b0
  cases ok with
  | false =>
    left
    have r4 := r4 rfl
    rw [← p14_s (B := B) (v := 0)] at r4
    have c1 := hno rfl
    have hfl := flt_n (B := pI (pI B 15 0) 14 (sI B 14)) hV.2.2.2.2.2.2.2 1 (by decide)
    refine ⟨1, qC Bq sn lu (nI 1) ln se 0 co SW LW, _, S1, by decide, by decide, (sp_s hsn a1 c1).1 (show ¬ nI 1 = 0 by decide), rfl, rfl, ?_, ⟨_, r4, rfl, rfl, rfl, rfl⟩⟩
    rw [r1, end_F r4 hfl]
  | true =>
    obtain ⟨b1, c1, T2, b4, b6, b7, b8, b9, b10, b11⟩ := hok rfl
    obtain ⟨r8, r9, r5, r6⟩ := r7 rfl
    have hle := ts_le T2
    have hN' := NTB_n hN hI b2 b3
    obtain ⟨x1, x3, x4⟩ := fxE (B := B) b6 hN' b8 q q 0 0 32768
    rw [x1] at c1
    by_cases w : (fxR (!lsF (loV c X e nL) P m) (zV (VW c X e nL q B) P m) (dV (VW c X e nL q B) P m) 0 32768) = 0
    · have fxt : fx2 = true := (fxR_0 (x1.trans w)).1
      rw [w, if_pos (show (0 : Nat) = 0 from rfl)] at c1
      have s2 := sp_s hsn a1 c1
      obtain ⟨k, k1, k2, r3⟩ := r5 w
      rw [← p14_s (B := B) (v := 0)] at r3
      have cz := s2.2 rfl
      rw [x3 fxt] at cz
      rcases jfin hT0 cz r1 r3 T2 with w' | ⟨w1, w2, S2', w3, w4⟩
      · exact Or.inl w'
      right
      rw [p14_s] at w4
      refine ⟨(7, 0, 0, [], []), 0, 0, 3, 0, none, _, _, _, _, lu, LW, cs + m + 1, ns2, C2, A2, NM2, BK2, bs2, ws2, p2', k, gr, BY, _, S2', w2, ⟨BC3, tp3, _, fx2, S3, κ2, q2, x2, b1, rfl⟩, w3, (by rw [Nat.add_zero, upd_s hP]; exact w4), by omega, hle.2.2, hq3, b2, b3, by omega, by omega, by omega, Nat.le_refl _, by omega, b6.1, fun _ _ => rfl, fun _ _ => rfl, rfb_S hT0 T0 hNA b0 (FXD_1 b6 w) k2, (fun _ z => nomatch z), Nat.le_refl _, Nat.le_of_ble_eq_true rfl, Nat.le_of_ble_eq_true rfl, (fun z => by have z : (7 : Nat) = 1 := z; omega), (fun z => by have z : (7 : Nat) = 2 := z; omega), Or.inr (Or.inr (Or.inr (Or.inr (Or.inr (Or.inr (Or.inr (Or.inl ⟨rfl, rfl, ⟨rfl, rfl⟩, k, k1, k2, ?_⟩)))))))⟩
      rw [bb_0 hB, k2]
    · left
      have r4 := r6 w
      rw [← p14_s (B := B) (v := 0)] at r4
      have f15 : 1 ≤ (fxR (!lsF (loV c X e nL) P m) (zV (VW c X e nL q B) P m) (dV (VW c X e nL q B) P m) 0 32768) ∧ (fxR (!lsF (loV c X e nL) P m) (zV (VW c X e nL q B) P m) (dV (VW c X e nL q B) P m) 0 32768) ≤ 15 := ⟨by omega, fxR_l⟩
      have hfl := flt_n (B := pI (pI B 15 0) 14 (sI B 14)) hV.2.2.2.2.2.2.2 _ f15
      have nz : ¬ nI (fxR (!lsF (loV c X e nL) P m) (zV (VW c X e nL q B) P m) (dV (VW c X e nL q B) P m) 0 32768) = 0 := fun w' => absurd ((nI_eq (b := 0) (by omega) (by omega)).mp w') (by omega)
      refine ⟨(fxR (!lsF (loV c X e nL) P m) (zV (VW c X e nL q B) P m) (dV (VW c X e nL q B) P m) 0 32768), qC Bq sn lu (nI (fxR (!lsF (loV c X e nL) P m) (zV (VW c X e nL q B) P m) (dV (VW c X e nL q B) P m) 0 32768)) ln se 0 co SW LW, _, S1, f15.1, f15.2, (sp_s hsn a1 c1).1 nz, rfl, rfl, ?_, ⟨_, r4, rfl, rfl, rfl, rfl⟩⟩
      rw [r1, end_F r4 hfl]
/-- .align -/
theorem stj_Q {n L e : Nat} {c : Nat → Nat} {BC B Bq : St} {sn lu ln se co cs ns : Nat} {od : Int32} {SW LW NM BK : Nat → Int32} {bs ws X : Nat → Nat} {nL cu : Nat} {PA BY OU : Nat → Int32} {q p1 y : Nat} (J : JH n L e c BC B sn lu ln se cs ns NM BK bs ws X nL cu PA BY q p1 y od) (hyy : y = 127) (tp st : Nat) (fx : Bool) (C A Sx : Nat → Int32) {q1 p' κ τ v : Nat} {x : Int32} (T : TS n L e c BC p1 q1 p' κ τ v x) {ct ap : Nat} {gr : Bool} {S : St} (h : SR B ct gr PA BY OU 0 ap S) : JF n e B (qC Bq sn lu 0 ln se od co SW LW) (uC (xC BC cs tp st ns fx C A Sx NM BK) p' κ q1 x) S ln q y ∨ JG n L e c BC B Bq (uC (xC BC cs tp st ns fx C A Sx NM BK) p' κ q1 x) S sn lu ln se co od SW LW cs ns C A NM bs ws X nL cu PA BY OU q p1 y := by
  obtain ⟨hV, hc, hH, hN, hI, h13, h14, hse, hsn, hcs, hns, hlu, hP, hB, hy, ho, hod, hNA, ⟨κ0, v0, x0, T0⟩, hkw⟩ := id J
  have hT0 := hV.1
  have hq0 : q < p1 := (T0.2.2.2.2.2.1 (fun z => absurd ((ts_0 T0).1.mp z) (by decide))).2
  have hL := hT0.2.1
  have heL := hT0.2.2.1
  have hp1e := (ts_le T0).2.2
  have hY : PY PA cu q := py_J (c := c) hP hse (by omega)
  subst hyy
  have hn := hT0.1
  have z0 : od = 0 := od_0 hod (by rw [sp_k.2.1]; decide) (by rw [sp_k.2.1]; decide)
  subst z0
  have hq3 : q + 3 ≤ e := nm_5 hkw hp1e (by rw [sp_k.2.2.2.1]; decide)
  obtain ⟨ok, p2, q2, p2', κ2, τ2, v2, x2, m, P, ns2, fx2, C2, A2, S2, S3, NM2, BK2, bs2, ws2, tp2, tp3, BC3, u, a1, b0, b2, b3, hno, hok⟩ := sfx_C hT0 (B := Bq) (sn := sn) (lu := lu) (ln := ln) (se := se) (co := co) (od := 0) (SW := SW) (LW := LW) (tp := tp) (st := st) (fx := fx) (C := C) (A := A) (S := Sx) hn T hH hcs hns (by omega) hN hI (one_A hV hY) q 0 0 10
  obtain ⟨S1, r1, r4, r7⟩ := rdr_L hV hc h T0 hY hNA b0
  cases ok with
  | false =>
    left
    have r4 := r4 rfl
    rw [← p14_s (B := B) (v := 0)] at r4
    have c1 := hno rfl
    have hfl := flt_n (B := pI (pI B 15 0) 14 (sI B 14)) hV.2.2.2.2.2.2.2 1 (by decide)
    refine ⟨1, qC Bq sn lu (nI 1) ln se 0 co SW LW, _, S1, by decide, by decide, (sp_a hsn a1 c1).1 (show ¬ nI 1 = 0 by decide), rfl, rfl, ?_, ⟨_, r4, rfl, rfl, rfl, rfl⟩⟩
    rw [r1, end_F r4 hfl]
  | true =>
    obtain ⟨b1, c1, T2, b4, b6, b7, b8, b9, b10, b11⟩ := hok rfl
    obtain ⟨r8, r9, r5, r6⟩ := r7 rfl
    have hle := ts_le T2
    have hN' := NTB_n hN hI b2 b3
    obtain ⟨x1, x3, x4⟩ := fxE (B := B) b6 hN' b8 q q 0 0 10
    rw [x1] at c1
    by_cases w : (fxR (!lsF (loV c X e nL) P m) (zV (VW c X e nL q B) P m) (dV (VW c X e nL q B) P m) 0 10) = 0
    · have fxt : fx2 = true := (fxR_0 (x1.trans w)).1
      rw [w, if_pos (show (0 : Nat) = 0 from rfl)] at c1
      have s2 := sp_a hsn a1 c1
      obtain ⟨k, k1, k2, r3⟩ := r5 w
      rw [← p14_s (B := B) (v := 0)] at r3
      have cz := s2.2 rfl
      rw [x3 fxt, k2] at cz
      rcases jfin hT0 cz r1 r3 T2 with w' | ⟨w1, w2, S2', w3, w4⟩
      · exact Or.inl w'
      right
      rw [p14_s] at w4
      have nz8 : ¬ -1 - nI k = 0 := al_n k k1
      refine ⟨(8, 0, 0, [], []), 0, 0, 3, 0, some (-1 - nI k), _, _, _, _, lu, LW, cs + m + 1, ns2, C2, A2, NM2, BK2, bs2, ws2, p2', 0, gr, upd BY cu (-1 - nI k), _, S2', w2, ⟨BC3, tp3, _, fx2, S3, κ2, q2, x2, b1, rfl⟩, w3, (by rw [Nat.add_zero, upd_s hP]; exact w4), by omega, hle.2.2, hq3, b2, b3, by omega, by omega, by omega, Nat.le_refl _, by omega, b6.1, fun _ _ => rfl, fun k' hk' => up_n hk', ?_, (fun v9 z9 => ⟨up_e.trans (Option.some.inj z9), fun z => nz8 ((Option.some.inj z9).trans z)⟩), Nat.le_refl _, Nat.le_of_ble_eq_true rfl, Nat.le_of_ble_eq_true rfl, (fun z => by have z : (8 : Nat) = 1 := z; omega), (fun z => by have z : (8 : Nat) = 2 := z; omega), Or.inr (Or.inr (Or.inr (Or.inr (Or.inr (Or.inr (Or.inr (Or.inr ⟨rfl, rfl, ⟨rfl, rfl⟩, k, k1, rfl, rfl, ?_⟩)))))))⟩
      · have := rfb_L hT0 T0 hNA b0 (FXD_1 b6 w) (se := se)
        rw [k2] at this
        exact this
      · rw [up_e, if_neg nz8]
    · left
      have r4 := r6 w
      rw [← p14_s (B := B) (v := 0)] at r4
      have f15 : 1 ≤ (fxR (!lsF (loV c X e nL) P m) (zV (VW c X e nL q B) P m) (dV (VW c X e nL q B) P m) 0 10) ∧ (fxR (!lsF (loV c X e nL) P m) (zV (VW c X e nL q B) P m) (dV (VW c X e nL q B) P m) 0 10) ≤ 15 := ⟨by omega, fxR_l⟩
      have hfl := flt_n (B := pI (pI B 15 0) 14 (sI B 14)) hV.2.2.2.2.2.2.2 _ f15
      have nz : ¬ nI (fxR (!lsF (loV c X e nL) P m) (zV (VW c X e nL q B) P m) (dV (VW c X e nL q B) P m) 0 10) = 0 := fun w' => absurd ((nI_eq (b := 0) (by omega) (by omega)).mp w') (by omega)
      refine ⟨(fxR (!lsF (loV c X e nL) P m) (zV (VW c X e nL q B) P m) (dV (VW c X e nL q B) P m) 0 10), qC Bq sn lu (nI (fxR (!lsF (loV c X e nL) P m) (zV (VW c X e nL q B) P m) (dV (VW c X e nL q B) P m) 0 10)) ln se 0 co SW LW, _, S1, f15.1, f15.2, (sp_a hsn a1 c1).1 nz, rfl, rfl, ?_, ⟨_, r4, rfl, rfl, rfl, rfl⟩⟩
      rw [r1, end_F r4 hfl]
theorem CDS_l {NR : Nat → Int32} {c : Nat → Nat} {e ns : Nat} {bs ws : Nat → Nat} {C A : Nat → Int32} : ∀ {ys : List (Nat × (Nat → Tp))} {s0 s1 : Nat}, CDS NR c e ns bs ws C A s0 ys s1 → s0 ≤ s1
  | [], _, _, h => Nat.le_of_eq h
  | y :: ys, s0, s1, h => by
    have := CDS_l h.2.2.2
    omega
theorem ltW_o : ∀ (l : List Int32) {LW : Nat → Int32} (lu : Nat) {i : Nat}, i < lu → ltW LW lu l i = LW i
  | [], _, _, _, _ => rfl
  | v :: l, LW, lu, i, h => by
    show ltW (upd LW lu (btI v)) (lu + 1) l i = LW i
    rw [ltW_o l (lu + 1) (by omega), up_n (by omega)]
theorem ltW_g : ∀ (l : List Int32) (LW : Nat → Int32) (lu : Nat) {i : Nat}, i < l.length → ltW LW lu l (lu + i) = btI (l.getD i 0)
  | [], _, _, i, h => absurd h (Nat.not_lt_zero i)
  | v :: l, LW, lu, 0, h => by
    show ltW (upd LW lu (btI v)) (lu + 1) l (lu + 0) = btI v
    rw [ltW_o l (lu + 1) (by omega), Nat.add_zero, up_e]
  | v :: l, LW, lu, i + 1, h => by
    show ltW (upd LW lu (btI v)) (lu + 1) l (lu + (i + 1)) = btI (l.getD i 0)
    rw [← ltW_g l (upd LW lu (btI v)) (lu + 1) (i := i) (by have : (v :: l).length = l.length + 1 := rfl; omega), show lu + 1 + i = lu + (i + 1) by omega]
/-- lists -/
theorem stj_D {n L e : Nat} {c : Nat → Nat} {BC B Bq : St} {sn lu ln se co cs ns : Nat} {od : Int32} {SW LW NM BK : Nat → Int32} {bs ws X : Nat → Nat} {nL cu : Nat} {PA BY OU : Nat → Int32} {q p1 y : Nat} (J : JH n L e c BC B sn lu ln se cs ns NM BK bs ws X nL cu PA BY q p1 y od) (hyy : y = 121 ∨ y = 122 ∨ y = 123) (tp st : Nat) (fx : Bool) (C A Sx : Nat → Int32) {q1 p' κ τ v : Nat} {x : Int32} (T : TS n L e c BC p1 q1 p' κ τ v x) {ct ap : Nat} {gr : Bool} {S : St} (h : SR B ct gr PA BY OU 0 ap S) : JF n e B (qC Bq sn lu 0 ln se od co SW LW) (uC (xC BC cs tp st ns fx C A Sx NM BK) p' κ q1 x) S ln q y ∨ JG n L e c BC B Bq (uC (xC BC cs tp st ns fx C A Sx NM BK) p' κ q1 x) S sn lu ln se co od SW LW cs ns C A NM bs ws X nL cu PA BY OU q p1 y := by
  obtain ⟨hV, hc, hH, hN, hI, h13, h14, hse, hsn, hcs, hns, hlu, hP, hB, hy, ho, hod, hNA, ⟨κ0, v0, x0, T0⟩, hkw⟩ := id J
  have hT0 := hV.1
  have hq0 : q < p1 := (T0.2.2.2.2.2.1 (fun z => absurd ((ts_0 T0).1.mp z) (by decide))).2
  have hL := hT0.2.1
  have heL := hT0.2.2.1
  have hp1e := (ts_le T0).2.2
  have hY : PY PA cu q := py_J (c := c) hP hse (by omega)
  have hn := hT0.1
  have z0 : od = 0 := od_0 hod (by rcases hyy with w | w | w <;> (rw [w]; decide +kernel)) (by rcases hyy with w | w | w <;> (rw [w]; decide +kernel))
  subst z0
  have hq3 : q + 3 ≤ e := nm_5 hkw hp1e (by rcases hyy with w | w | w <;> (rw [w]; decide +kernel))
  have hk3 : kdY y = 1 ∨ kdY y = 2 ∨ kdY y = 4 := by
    rcases hyy with w | w | w <;> (rw [w]; decide)
  have hC : ∀ s : St × St, df_X1_readStatement n y s = nd_b1 (df_X1_readList n (nI (kdY y)) s) (fun (t : St × St) => df_X1_readStatement_206 n t) := fun s => by
    rcases hyy with w | w | w
    · rw [w]; exact d90_1 n s
    · rw [w]; exact d90_2 n s
    · rw [w]; exact d90_4 n s
  obtain ⟨ys, f, p2, cs', tp', st', ns', fx', C', A', S', NM', BK', bs', ws', q2, p2', κ2, τ2, v2, x2, hTr, hys, hcl⟩ := lst_C hT0 (B := Bq) (sn := sn) (lu := lu) (ln := ln) (se := se) (co := co) (od := 0) (SW := SW) (LW := LW) hsn (nI (kdY y)) cs tp st ns fx C A Sx NM BK bs ws p1 q1 p' κ τ v x T hH (by omega) hcs hns
  obtain ⟨S1, r1, r2, r3⟩ := rdr_I hV hc h T0 hY hyy hNA (by omega) hTr
  have hbad : f = 1 → (∃ (Q' U' : St), df_X1_readStatement n y (qC Bq sn lu 0 ln se 0 co SW LW, (uC (xC BC cs tp st ns fx C A Sx NM BK) p' κ q1 x)) = some (Q', U') ∧ sI Q' 2 = nI 1 ∧ sI Q' 3 = nI ln) → JF n e B (qC Bq sn lu 0 ln se 0 co SW LW) (uC (xC BC cs tp st ns fx C A Sx NM BK) p' κ q1 x) S ln q y := fun hf hh => by
    obtain ⟨Q', U', g1, g2, g3⟩ := hh
    have r2 := r2 (by omega)
    rw [← p14_s (B := B) (v := 0), hf] at r2
    have hfl := flt_n (B := pI (pI B 15 0) 14 (sI B 14)) hV.2.2.2.2.2.2.2 1 (by decide)
    refine ⟨1, Q', U', S1, by decide, by decide, g1, g2, g3, ?_, ⟨_, r2, rfl, rfl, rfl, rfl⟩⟩
    rw [r1, end_F r2 hfl]
  rcases hcl with ⟨hf, hcl⟩ | ⟨hcl, hf, T2, c2, c3, c4, c5, c6, c7, c8⟩
  · left
    refine hbad hf ⟨qC Bq sn lu (nI 1) ln se 0 co SW LW, uC (xC BC cs' tp' st' ns' fx' C' A' S' NM' BK') p2' κ2 q2 x2, ?_, rfl, rfl⟩
    rw [hC, hcl, nb_b1, end_CF (show ¬ nI 1 = 0 by decide)]
  · obtain ⟨k0, k6, _, _⟩ := ts_0 T2
    by_cases z : τ2 = 0
    · rw [if_pos z] at hf
      subst hf
      obtain ⟨r4, r5, r3⟩ := r3 rfl
      rw [← p14_s (B := B) (v := 0)] at r3
      have hC0 := hC (qC Bq sn lu 0 ln se 0 co SW LW, (uC (xC BC cs tp st ns fx C A Sx NM BK) p' κ q1 x))
      rw [hcl, nb_b1] at hC0
      rcases jfin hT0 hC0 r1 r3 T2 with w' | ⟨w1, w2, S2, w3, w4⟩
      · exact Or.inl w'
      right
      rw [p14_s] at w4
      have hle := ts_le T2
      have hcsl : cs ≤ cs' := CDS_l c8
      have em : nI ys.length * nI (kdY y) = nI (kdY y * ys.length) := by
        rw [pk_mul, Nat.mul_comm]
      rw [em] at w2
      refine ⟨(5, nI (kdY y), kdY y, ys, []), 0, 0, 3, kdY y * ys.length, none, _, _, _, _, lu, LW, cs', ns', C', A', NM', BK', bs', ws', p2', kdY y * ys.length, gr, BY, _, S2, w2, ⟨BC, tp', st', fx', S', κ2, q2, x2, Or.inl rfl, rfl⟩, w3, (by rw [Nat.add_zero, upd_s hP]; exact w4), by omega, hle.2.2, hq3, c3, c4, hcsl, by omega, by omega, Nat.le_refl _, by omega, c7, fun _ _ => rfl, fun _ _ => rfl, rfb_I hT0 T0 hyy hNA (by omega) hTr, (fun _ z => nomatch z), Nat.le_refl _, Nat.le_of_ble_eq_true rfl, Nat.le_of_ble_eq_true rfl, (fun z => by have z : (5 : Nat) = 1 := z; omega), (fun z => by have z : (5 : Nat) = 2 := z; omega), Or.inr (Or.inr (Or.inr (Or.inr (Or.inr (Or.inl ⟨rfl, rfl, hk3, rfl, rfl, ?_, rfl, rfl, ⟨c8, r5⟩, hys⟩)))))⟩
      rw [bb_0 hB]
    · left
      rw [if_neg z] at hf
      refine hbad hf ⟨qC Bq (sn + 1) lu (nI 1) ln se 0 co (rowU SW sn ln se (nI ys.length * nI (kdY y)) 5 (nI (kdY y)) (nI cs) (nI 0)) LW, uC (xC BC cs' tp' st' ns' fx' C' A' S' NM' BK') p2' κ2 q2 x2, ?_, rfl, rfl⟩
      rw [hC, hcl, nb_b1, end_C k6, if_neg (fun w => z (k0.mp w))]
/-- texts -/
theorem stj_X {n L e : Nat} {c : Nat → Nat} {BC B Bq : St} {sn lu ln se co cs ns : Nat} {od : Int32} {SW LW NM BK : Nat → Int32} {bs ws X : Nat → Nat} {nL cu : Nat} {PA BY OU : Nat → Int32} {q p1 y : Nat} (J : JH n L e c BC B sn lu ln se cs ns NM BK bs ws X nL cu PA BY q p1 y od) (hyy : y = 124 ∨ y = 125) (tp st : Nat) (fx : Bool) (C A Sx : Nat → Int32) {q1 p' κ τ v : Nat} {x : Int32} (T : TS n L e c BC p1 q1 p' κ τ v x) {ct ap : Nat} {gr : Bool} {S : St} (h : SR B ct gr PA BY OU 0 ap S) : JF n e B (qC Bq sn lu 0 ln se od co SW LW) (uC (xC BC cs tp st ns fx C A Sx NM BK) p' κ q1 x) S ln q y ∨ JG n L e c BC B Bq (uC (xC BC cs tp st ns fx C A Sx NM BK) p' κ q1 x) S sn lu ln se co od SW LW cs ns C A NM bs ws X nL cu PA BY OU q p1 y := by
  obtain ⟨hV, hc, hH, hN, hI, h13, h14, hse, hsn, hcs, hns, hlu, hP, hB, hy, ho, hod, hNA, ⟨κ0, v0, x0, T0⟩, hkw⟩ := id J
  have hT0 := hV.1
  have hq0 : q < p1 := (T0.2.2.2.2.2.1 (fun z => absurd ((ts_0 T0).1.mp z) (by decide))).2
  have hL := hT0.2.1
  have heL := hT0.2.2.1
  have hp1e := (ts_le T0).2.2
  have hY : PY PA cu q := py_J (c := c) hP hse (by omega)
  have hn := hT0.1
  have z0 : od = 0 := od_0 hod (by rcases hyy with w | w <;> (rw [w]; decide +kernel)) (by rcases hyy with w | w <;> (rw [w]; decide +kernel))
  subst z0
  have hq3 : q + 3 ≤ e := nm_5 hkw hp1e (by rcases hyy with w | w <;> (rw [w]; decide +kernel))
  have hC : ∀ s : St × St, df_X1_readStatement n y s = nd_b1 (df_X1_readTexts n (bI (decide (y = 125))) s) (fun (t : St × St) => df_X1_readStatement_206 n t) := fun s => by
    rcases hyy with w | w
    · rw [w]; exact d101_x n s
    · rw [w]; exact d101_z n s
  obtain ⟨ys, f, p2, q2, p2', κ2, τ2, v2, x2, hTr, hys, hcl⟩ := txs_C hT0 (B := Bq) (sn := sn) (lu := lu) (ln := ln) (se := se) (co := co) (od := 0) (SW := SW) (LW := LW) hsn (cs := cs) (tp := tp) (st := st) (ns := ns) (fx := fx) (C := C) (A := A) (S := Sx) (NM := NM) (BK := BK) (decide (y = 125)) T (by omega) hlu
  obtain ⟨S1, r1, r2, r3⟩ := rdr_X hV hc h T0 hyy hNA (by omega) hTr
  have hbad : f = 1 → (∃ (Q' U' : St), df_X1_readStatement n y (qC Bq sn lu 0 ln se 0 co SW LW, (uC (xC BC cs tp st ns fx C A Sx NM BK) p' κ q1 x)) = some (Q', U') ∧ sI Q' 2 = nI 1 ∧ sI Q' 3 = nI ln) → JF n e B (qC Bq sn lu 0 ln se 0 co SW LW) (uC (xC BC cs tp st ns fx C A Sx NM BK) p' κ q1 x) S ln q y := fun hf hh => by
    obtain ⟨Q', U', g1, g2, g3⟩ := hh
    have r2 := r2 (by omega)
    rw [← p14_s (B := B) (v := 0), hf] at r2
    have hfl := flt_n (B := pI (pI B 15 0) 14 (sI B 14)) hV.2.2.2.2.2.2.2 1 (by decide)
    refine ⟨1, Q', U', S1, by decide, by decide, g1, g2, g3, ?_, ⟨_, r2, rfl, rfl, rfl, rfl⟩⟩
    rw [r1, end_F r2 hfl]
  rcases hcl with ⟨hf, lu', LW', hcl⟩ | ⟨hcl, hf, T2, c2, c3⟩
  · left
    refine hbad hf ⟨qC Bq sn lu' (nI 1) ln se 0 co SW LW', uC (xC BC cs tp st ns fx C A Sx NM BK) p2' κ2 q2 x2, ?_, rfl, rfl⟩
    rw [hC, hcl, nb_b1, end_CF (show ¬ nI 1 = 0 by decide)]
  · obtain ⟨k0, k6, _, _⟩ := ts_0 T2
    by_cases z : τ2 = 0
    · rw [if_pos z] at hf
      subst hf
      obtain ⟨r5, r3⟩ := r3 rfl
      rw [← p14_s (B := B) (v := 0)] at r3
      have hC0 := hC (qC Bq sn lu 0 ln se 0 co SW LW, (uC (xC BC cs tp st ns fx C A Sx NM BK) p' κ q1 x))
      rw [hcl, nb_b1] at hC0
      rcases jfin hT0 hC0 r1 r3 T2 with w' | ⟨w1, w2, S2, w3, w4⟩
      · exact Or.inl w'
      right
      rw [p14_s] at w4
      have hle := ts_le T2
      have em : nI (lu + (qtA c e (decide (y = 125)) ys).length) - nI lu = nI (qtA c e (decide (y = 125)) ys).length := by
        rw [pk_sub (by omega), Nat.add_sub_cancel_left]
      rw [em] at w2
      refine ⟨(6, 0, 0, [], qtA c e (decide (y = 125)) ys), 0, 0, 3, (qtA c e (decide (y = 125)) ys).length, none, _, _, _, _, lu + (qtA c e (decide (y = 125)) ys).length, ltW LW lu (qtA c e (decide (y = 125)) ys), cs, ns, C, A, NM, BK, bs, ws, p2', (qtA c e (decide (y = 125)) ys).length, gr, BY, _, S2, w2, ⟨BC, tp, st, fx, Sx, κ2, q2, x2, Or.inl rfl, rfl⟩, w3, (by rw [Nat.add_zero, upd_s hP]; exact w4), by omega, hle.2.2, hq3, ⟨Nat.le_refl _, fun _ _ => ⟨rfl, rfl, rfl, rfl⟩, fun i i1 i2 => by omega⟩, hH, Nat.le_refl _, by omega, by omega, by omega, by omega, fun _ _ => ⟨rfl, rfl⟩, fun i hi => ltW_o _ _ hi, fun _ _ => rfl, rfb_X hT0 T0 hyy hNA (by omega) hTr, (fun _ z => nomatch z), Nat.le_refl _, Nat.le_of_ble_eq_true rfl, Nat.le_of_ble_eq_true rfl, (fun z => by have z : (6 : Nat) = 1 := z; omega), (fun z => by have z : (6 : Nat) = 2 := z; omega), Or.inr (Or.inr (Or.inr (Or.inr (Or.inr (Or.inr (Or.inl ⟨rfl, rfl, rfl, ?_, rfl, rfl, rfl, fun i hi => ltW_g _ _ _ hi⟩))))))⟩
      rw [bb_0 hB]
    · left
      rw [if_neg z] at hf
      refine hbad hf ⟨qC Bq (sn + 1) (lu + (qtA c e (decide (y = 125)) ys).length) (nI 1) ln se 0 co (rowU SW sn ln se (nI (lu + (qtA c e (decide (y = 125)) ys).length) - nI lu) 6 0 (nI lu) (nI 0)) (ltW LW lu (qtA c e (decide (y = 125)) ys)), uC (xC BC cs tp st ns fx C A Sx NM BK) p2' κ2 q2 x2, ?_, rfl, rfl⟩
      rw [hC, hcl, nb_b1, end_C k6, if_neg (fun w => z (k0.mp w))]

/-- one entry more in the reference's table -/
def dfB (B : St) (nL : Nat) (w v : Int32) : St := pI (pR (pR B 6 (upd (sR B 6) nL w)) 7 (upd (sR B 7) nL v)) 3 (nI (nL + 1))
theorem SR_g6 {B : St} {ct : Nat} {gr : Bool} {PA BY OU : Nat → Int32} {ft : Int32} {ap : Nat} {S : St} (h : SR B ct gr PA BY OU ft ap S) (f : Nat → Int32) : SR (pR B 6 f) ct gr PA BY OU ft ap (pR S 6 f) := by
  obtain ⟨ms, dv, ls, sg, vl, PL, tk, fr, to, nm, rfl⟩ := h
  refine ⟨ms, dv, ls, sg, vl, PL, tk, fr, to, nm, Prod.ext rfl (Prod.ext rfl (Prod.ext (funext fun j => ?_) rfl))⟩
  show (if j = 6 then f else _) = _
  by_cases h : j = 6
  · subst h; rfl
  · unfold uR xR yR pR
    simp only [if_neg h]
theorem SR_g7 {B : St} {ct : Nat} {gr : Bool} {PA BY OU : Nat → Int32} {ft : Int32} {ap : Nat} {S : St} (h : SR B ct gr PA BY OU ft ap S) (f : Nat → Int32) : SR (pR B 7 f) ct gr PA BY OU ft ap (pR S 7 f) := by
  obtain ⟨ms, dv, ls, sg, vl, PL, tk, fr, to, nm, rfl⟩ := h
  refine ⟨ms, dv, ls, sg, vl, PL, tk, fr, to, nm, Prod.ext rfl (Prod.ext rfl (Prod.ext (funext fun j => ?_) rfl))⟩
  show (if j = 7 then f else _) = _
  by_cases h : j = 7
  · subst h; rfl
  · unfold uR xR yR pR
    simp only [if_neg h]
theorem SR_p3 {B : St} {ct : Nat} {gr : Bool} {PA BY OU : Nat → Int32} {ft : Int32} {ap : Nat} {S : St} (h : SR B ct gr PA BY OU ft ap S) (v : Int32) : SR (pI B 3 v) ct gr PA BY OU ft ap (pI S 3 v) := by
  obtain ⟨ms, dv, ls, sg, vl, PL, tk, fr, to, nm, rfl⟩ := h
  refine ⟨ms, dv, ls, sg, vl, PL, tk, fr, to, nm, Prod.ext (funext fun j => ?_) rfl⟩
  show (if j = 3 then v else _) = _
  by_cases h : j = 3
  · subst h; rfl
  · unfold uR xR yR pI
    simp only [if_neg h]
theorem SR_367 {B : St} {ct : Nat} {gr : Bool} {PA BY OU : Nat → Int32} {ft : Int32} {ap : Nat} {S : St} (h : SR B ct gr PA BY OU ft ap S) : sI S 3 = sI B 3 ∧ sR S 6 = sR B 6 ∧ sR S 7 = sR B 7 := by
  obtain ⟨ms, dv, ls, sg, vl, PL, tk, fr, to, nm, rfl⟩ := h
  exact ⟨rfl, rfl, rfl⟩
theorem def_S {n : Nat} {B : St} {ct : Nat} {gr : Bool} {PA BY OU : Nat → Int32} {ft : Int32} {ap : Nat} {S : St} (h : SR B ct gr PA BY OU ft ap S) {nL : Nat} (h3 : sI B 3 = nI nL) (hL : nL < 16500) (p q : Int32) (k v : Int32) : ∃ S' : St, df_X13_define n p q k v S = some S' ∧ SR (dfB B nL (p ||| k <<< ((17 : Int32) &&& 31)) v) ct gr PA BY OU ft ap S' := by
  obtain ⟨a3, a6, a7⟩ := SR_367 h
  refine ⟨_, ?_, SR_p3 (SR_g7 (SR_g6 h (upd (sR B 6) nL (p ||| k <<< ((17 : Int32) &&& 31)))) (upd (sR B 7) nL v)) (nI (nL + 1))⟩
  unfold df_X13_define df_X13_define_0
  rw [a3, h3, nm_ck hL (by omega), nI_clamp (by omega), nb_let, a6]
  rw [show sI (pR S 6 (upd (sR B 6) nL (p ||| k <<< ((17 : Int32) &&& 31)))) 3 = nI nL from a3.trans h3, nm_ck hL (by omega), nI_clamp (by omega), nb_let]
  rw [show sR (pR S 6 (upd (sR B 6) nL (p ||| k <<< ((17 : Int32) &&& 31)))) 7 = sR B 7 from a7, nb_let]
  rw [show sI (pR (pR S 6 (upd (sR B 6) nL (p ||| k <<< ((17 : Int32) &&& 31)))) 7 (upd (sR B 7) nL v)) 3 + 1 = nI (nL + 1) from by
    rw [show sI (pR (pR S 6 (upd (sR B 6) nL (p ||| k <<< ((17 : Int32) &&& 31)))) 7 (upd (sR B 7) nL v)) 3 = nI nL from a3.trans h3]
    exact nI_add nL 1]
/-- the reference's table, without the statement that is read -/
def RT0 (n L e : Nat) (c : Nat → Nat) (BC B : St) (X : Nat → Nat) (nL : Nat) : Prop := atx n L e c BC B ∧ nL ≤ 16500 ∧ sI B 3 = nI nL ∧ ∀ k : Nat, k < nL → sR B 6 k = nI (X k) ∧ X k < 2 ^ 20
theorem RV_0 {n L e : Nat} {c : Nat → Nat} {BC B : St} {X : Nat → Nat} {nL cu : Nat} (h : RV n L e c BC B X nL cu) : RT0 n L e c BC B X nL := ⟨h.1, h.2.1, h.2.2.1, h.2.2.2.1⟩
/-- a word in the reference: a register, or one that is known -/
theorem nmd_R {n L e : Nat} {c : Nat → Nat} {BC B : St} {X : Nat → Nat} {nL : Nat} (hV : RT0 n L e c BC B X nL) {ct : Nat} {gr : Bool} {PA BY OU : Nat → Int32} {ft : Int32} {ap : Nat} {S : St} (h : SR B ct gr PA BY OU ft ap S) (q l : Nat) (hq : q + l ≤ L) (hA : ∀ t : Nat, t < l → aP (c (q + t)) = true) : df_X13_register n (nI q) (nI (q + l)) S = some (rI (reS l (c q) (c (q + 1)) (c (q + 2)) (c (q + 3))), S) ∧ df_X13_find n (nI q) (nI (q + l)) S = some (if fN (fiP c X q l) 0 nL < nL then nI (fN (fiP c X q l) 0 nL) else -1, S) := by
  obtain ⟨hT, h1, h2, h3⟩ := id hV
  obtain ⟨hn, hL, heL, h127, hend, hce, hO, hst, htC, h0, htR, hch⟩ := id hT
  obtain ⟨ms, dv, ls, sg, vl, PL, tk, fr, to, nm, rfl⟩ := h
  constructor
  · exact re_1 n q l (by omega) h127 (by omega) (fun i hi => ⟨hA i hi, htR _ (by omega)⟩)
  · exact fi_1 (n := n) (L := L) (e := e) (c := c) (BC := BC) (BR := xR (yR B ct gr PA BY OU) ft ms dv ls sg vl PL) hT q l ap tk fr to nm hq nL X h1 h2 h3
/-- a word in the class: the same -/
theorem nmd_C {n L e : Nat} {c : Nat → Nat} {BC B : St} {X : Nat → Nat} {nL : Nat} (hV : RT0 n L e c BC B X nL) {cs tp st ns : Nat} {fx : Bool} {C A S NM BK : Nat → Int32} {ap kd fr : Nat} {nm : Int32} {bs ws : Nat → Nat} {W : Nat → Int32} (hH : HT L c ns NM BK bs ws) (hN : NTB c X nL W ns NM bs ws) (hI : IDX c X nL ns bs ws) (hns : ns < 16384) (q l : Nat) (hq : q + l ≤ L) (hl : l < 32) (hA : ∀ t : Nat, t < l → aP (c (q + t)) = true) : ∃ (id ns' : Nat) (NM' BK' : Nat → Int32) (bs' ws' : Nat → Nat), df_X9_nameAt n (nI q) (nI l) (uC (xC BC cs tp st ns fx C A S NM BK) ap kd fr nm) = some (nI id, uC (xC BC cs tp st ns' fx C A S NM' BK') ap kd fr nm) ∧ HT L c ns' NM' BK' bs' ws' ∧ id < ns' ∧ sW c (bs' id) (ws' id) q l ∧ ns' ≤ ns + 1 ∧ PS ns NM bs ws ns' NM' bs' ws' ∧ NTB c X nL W ns' NM' bs' ws' ∧ IDX c X nL ns' bs' ws' ∧ sO (uC (xC BC cs tp st ns' fx C A S NM' BK') ap kd fr nm) 0 = some 8 ∧ df_X7_registerAt n (nI q) (nI l) (pR nd_st0 0 (sR (uC (xC BC cs tp st ns' fx C A S NM' BK') ap kd fr nm) 7)) = some (rI (reS l (c q) (c (q + 1)) (c (q + 2)) (c (q + 3))), pR nd_st0 0 (sR (uC (xC BC cs tp st ns' fx C A S NM' BK') ap kd fr nm) 7)) ∧ df_X9_isDefined n (nI id) (uC (xC BC cs tp st ns' fx C A S NM' BK') ap kd fr nm) = some (bI (decide (nmK c X nL q l < nL)), uC (xC BC cs tp st ns' fx C A S NM' BK') ap kd fr nm) := by
  obtain ⟨hT, h1, h2, h3⟩ := id hV
  obtain ⟨hn, hL, heL, h127, hend, hce, hO, hst, htC, h0, htR, hch⟩ := id hT
  obtain ⟨id, ns', NM', BK', bs', ws', a1, a2, a3, a4, a5, a6, a7, a8⟩ := na_1 hT (cs := cs) (tp := tp) (st := st) (fx := fx) (C := C) (A := A) (S := S) (ap := ap) (kd := kd) (fr := fr) (nm := nm) hH hns q l hq hA
  have hp : PS ns NM bs ws ns' NM' bs' ws' := ⟨a5, a7, a8⟩
  have hN' := NTB_n hN hI hp a2
  refine ⟨id, ns', NM', BK', bs', ws', a1, a2, a3, a4, a6, hp, hN', IDX_n hI hp, hO, ?_, ?_⟩
  · exact cr_1 n q l (c := c) (B := pR nd_st0 0 (sR (uC (xC BC cs tp st ns' fx C A S NM' BK') ap kd fr nm) 7)) (by omega) (by omega) h127 (by omega) hA (fun i hi => htC _ (by omega))
  · have hns' := a2.1
    rw [df_9 id (by omega)]
    obtain ⟨b1, b2, b3⟩ := hN' id a3
    rw [nk_W a4] at b1 b2 b3
    by_cases z : nmK c X nL q l < nL
    · have : ¬ NM' (5 * id + 2) = 0 := by
        by_cases w : X (nmK c X nL q l) / 131072 = 2
        · rw [(b1 ⟨z, w⟩).1]; decide
        · rw [(b2 ⟨z, w⟩).1]; decide
      rw [decide_eq_false this, decide_eq_true z]; rfl
    · rw [decide_eq_true (b3 z), decide_eq_false z]; rfl
theorem nmK_f {c X : Nat → Nat} {nL q l : Nat} (h : ¬ reS l (c q) (c (q + 1)) (c (q + 2)) (c (q + 3)) < 32) : nmK c X nL q l = fN (fiP c X q l) 0 nL := if_neg h
theorem rI_n {r : Nat} : (0 ≤ rI r ↔ r < 32) := by
  unfold rI
  by_cases h : r < 32
  · rw [if_pos h]
    exact ⟨fun _ => h, fun _ => zle (a := 0) (Nat.zero_le _) (by omega)⟩
  · rw [if_neg h]
    exact ⟨fun w => absurd w (by decide), fun w => absurd w h⟩
theorem or17 {p k : Nat} (hp : p < 131072) (hk : k < 8) : nI p ||| nI k <<< ((17 : Int32) &&& 31) = nI (k * 131072 + p) := by
  rw [show ((17 : Int32) &&& 31) = nI 17 from by decide, nm_shl (by omega) (by omega), Int32.or_comm]
  exact nm_orG 17 (show p < 2 ^ 17 from hp) (by omega)

/-- .text and .data: nothing is added -/
def JT (n L e : Nat) (c : Nat → Nat) (BC B Bq U S : St) (sn lu ln se co : Nat) (od : Int32) (SW LW : Nat → Int32) (cs ns : Nat) (C A NM BK : Nat → Int32) (X : Nat → Nat) (nL cu : Nat) (PA BY OU : Nat → Int32) (q p1 y : Nat) : Prop := ∃ (se' p2 : Nat) (gr' : Bool) (U' S2 : St), se' < 2 ∧ df_X1_readStatement n y (qC Bq sn lu 0 ln se od co SW LW, U) = some (qC Bq sn lu 0 ln se' od co SW LW, U') ∧ UC BC cs ns C A NM BK p2 U' ∧ df_X13_statement n (nI q) 0 S = some S2 ∧ SR (pI (pI B 15 0) 14 (nI se')) 0 gr' PA BY OU 0 p2 S2 ∧ p1 ≤ p2 ∧ p2 ≤ e ∧ q + 3 ≤ e ∧ RFB n L e c BC q se' 0 3 0 none X (sR B 7) nL (9, 0, 0, [], [])
theorem stj_T {n L e : Nat} {c : Nat → Nat} {BC B Bq : St} {sn lu ln se co cs ns : Nat} {od : Int32} {SW LW NM BK : Nat → Int32} {bs ws X : Nat → Nat} {nL cu : Nat} {PA BY OU : Nat → Int32} {q p1 y : Nat} (J : JH n L e c BC B sn lu ln se cs ns NM BK bs ws X nL cu PA BY q p1 y od) (hyy : y = 118 ∨ y = 119) (tp st : Nat) (fx : Bool) (C A Sx : Nat → Int32) {q1 p' κ τ v : Nat} {x : Int32} (T : TS n L e c BC p1 q1 p' κ τ v x) {ct ap : Nat} {gr : Bool} {S : St} (h : SR B ct gr PA BY OU 0 ap S) : JF n e B (qC Bq sn lu 0 ln se od co SW LW) (uC (xC BC cs tp st ns fx C A Sx NM BK) p' κ q1 x) S ln q y ∨ JT n L e c BC B Bq (uC (xC BC cs tp st ns fx C A Sx NM BK) p' κ q1 x) S sn lu ln se co od SW LW cs ns C A NM BK X nL cu PA BY OU q p1 y := by
  obtain ⟨hV, hc, hH, hN, hI, h13, h14, hse, hsn, hcs, hns, hlu, hP, hB, hy, ho, hod, hNA, ⟨κ0, v0, x0, T0⟩, hkw⟩ := id J
  have hT0 := hV.1
  have hq0 : q < p1 := (T0.2.2.2.2.2.1 (fun z => absurd ((ts_0 T0).1.mp z) (by decide))).2
  have hL := hT0.2.1
  have heL := hT0.2.2.1
  have hp1e := (ts_le T0).2.2
  have hY : PY PA cu q := py_J (c := c) hP hse (by omega)
  have z0 : od = 0 := od_0 hod (by rcases hyy with w | w <;> (rw [w]; decide +kernel)) (by rcases hyy with w | w <;> (rw [w]; decide +kernel))
  subst z0
  have hq3 : q + 3 ≤ e := nm_5 hkw hp1e (by rcases hyy with w | w <;> (rw [w]; decide +kernel))
  obtain ⟨S1, r1, r2⟩ := rdr_T hT0 hc h T0 hyy hNA
  have hC : df_X1_readStatement n y (qC Bq sn lu 0 ln se 0 co SW LW, (uC (xC BC cs tp st ns fx C A Sx NM BK) p' κ q1 x)) = df_X1_readStatement_206 n (qC Bq sn lu 0 ln (y - 118) 0 co SW LW, (uC (xC BC cs tp st ns fx C A Sx NM BK) p' κ q1 x)) := by
    rcases hyy with w | w
    · rw [w]; exact d72_t _
    · rw [w]; exact d72_d _
  rcases jfin hT0 hC r1 r2 T with w' | ⟨w1, w2, S2, w3, w4⟩
  · exact Or.inl w'
  right
  have hle := ts_le T
  exact ⟨y - 118, p', gr, _, S2, by omega, w2, ⟨BC, tp, st, fx, Sx, κ, q1, x, Or.inl rfl, rfl⟩, w3, w4, by omega, hle.2.2, hq3, rfb_T hT0 T0 hyy hNA hp1e⟩
/-- .equ: a name gets its value -/
def JE (n L e : Nat) (c : Nat → Nat) (BC B Bq U S : St) (sn lu ln se co : Nat) (od : Int32) (SW LW : Nat → Int32) (cs ns : Nat) (C A NM : Nat → Int32) (bs ws X : Nat → Nat) (nL cu : Nat) (PA BY OU : Nat → Int32) (q p1 y : Nat) : Prop := ∃ (q1 : Nat) (z : Int32) (cs' ns' : Nat) (C' A' NM' BK' : Nat → Int32) (bs' ws' : Nat → Nat) (p2 : Nat) (gr' : Bool) (U' S2 : St), df_X1_readStatement n y (qC Bq sn lu 0 ln se od co SW LW, U) = some (qC Bq sn lu 0 ln se od (co + 1) SW LW, U') ∧ UC BC cs' ns' C' A' NM' BK' p2 U' ∧ df_X13_statement n (nI q) 0 S = some S2 ∧ SR (dfB (pI B 15 0) nL (nI (2 * 131072 + q1)) z) 0 gr' PA BY OU 0 p2 S2 ∧ p1 ≤ q1 ∧ q1 < p2 ∧ p2 ≤ e ∧ q + 3 ≤ e ∧ HT L c ns' NM' BK' bs' ws' ∧ NTB c (nwF X nL (2 * 131072 + q1)) (nL + 1) (upd (sR B 7) nL z) ns' NM' bs' ws' ∧ IDX c (nwF X nL (2 * 131072 + q1)) (nL + 1) ns' bs' ws' ∧ (ns ≤ ns' ∧ ∀ i : Nat, i < ns → bs' i = bs i ∧ ws' i = ws i) ∧ cs ≤ cs' ∧ cs' ≤ p2 + 1 ∧ 2 * ns' ≤ p2 + 1 ∧ (∀ i : Nat, i < cs → C' i = C i ∧ A' i = A i) ∧ RFB n L e c BC q se 0 3 0 none X (sR B 7) nL (9, 0, 0, [], [])
theorem stj_E {n L e : Nat} {c : Nat → Nat} {BC B Bq : St} {sn lu ln se co cs ns : Nat} {od : Int32} {SW LW NM BK : Nat → Int32} {bs ws X : Nat → Nat} {nL cu : Nat} {PA BY OU : Nat → Int32} {q p1 y : Nat} (J : JH n L e c BC B sn lu ln se cs ns NM BK bs ws X nL cu PA BY q p1 y od) (hyy : y = 120) (tp st : Nat) (fx : Bool) (C A Sx : Nat → Int32) {q1 p' κ τ v : Nat} {x : Int32} (T : TS n L e c BC p1 q1 p' κ τ v x) {ct ap : Nat} {gr : Bool} {S : St} (h : SR B ct gr PA BY OU 0 ap S) (hnL : 2 * nL ≤ p1) : JF n e B (qC Bq sn lu 0 ln se od co SW LW) (uC (xC BC cs tp st ns fx C A Sx NM BK) p' κ q1 x) S ln q y ∨ JE n L e c BC B Bq (uC (xC BC cs tp st ns fx C A Sx NM BK) p' κ q1 x) S sn lu ln se co od SW LW cs ns C A NM bs ws X nL cu PA BY OU q p1 y := by
  obtain ⟨hV, hc, hH, hN, hI, h13, h14, hse, hsn, hcs, hns, hlu, hP, hB, hy, ho, hod, hNA, ⟨κ0, v0, x0, T0⟩, hkw⟩ := id J
  have hT0 := hV.1
  have hq0 : q < p1 := (T0.2.2.2.2.2.1 (fun z => absurd ((ts_0 T0).1.mp z) (by decide))).2
  have hL := hT0.2.1
  have heL := hT0.2.2.1
  have hp1e := (ts_le T0).2.2
  have hY : PY PA cu q := py_J (c := c) hP hse (by omega)
  subst hyy
  have hn := hT0.1
  obtain ⟨hn', hL', heL', h127, hend, hce, hO, hst, htC, h0, htR, hch⟩ := id hT0
  have z0 : od = 0 := od_0 hod (by decide +kernel) (by decide +kernel)
  subst z0
  have hq3 : q + 3 ≤ e := nm_5 hkw hp1e (by decide +kernel)
  obtain ⟨S1, e1, e2, e3⟩ := stm_2 hT0 hc h 0 T0 hNA
  have hV' := RV_p15 hV 0
  have hdr : df_X13_statement n (nI q) 0 S = nd_b1 (df_X13_constant n S1) (fun (s : St) => df_X13_statement_326 n s) := by
    rw [e1, dsp_42 e3 (sgm 120) (sgm_l (by omega)) dirA.2.2.1 0]
    unfold df_X13_directive df_X13_directive_0 df_X13_directive_185
    rw [if_pos (by decide), if_pos rfl]
    cases df_X13_constant n S1 <;> rfl
  have fault : ∀ (f : Nat) (U' S9 : St), 1 ≤ f → f ≤ 15 → df_X1_readConstant n (qC Bq sn lu 0 ln se 0 co SW LW, (uC (xC BC cs tp st ns fx C A Sx NM BK) p' κ q1 x)) = some (qC Bq sn lu (nI f) ln se 0 co SW LW, U') → df_X13_constant n S1 = some S9 → FL e (pI B 15 0) (nI f + 16 * sI B 13) S9 → JF n e B (qC Bq sn lu 0 ln se 0 co SW LW) (uC (xC BC cs tp st ns fx C A Sx NM BK) p' κ q1 x) S ln q 120 := fun f U' S9 f1 f2 hcl hrf hfl => by
    have nz : ¬ nI f = 0 := fun w => absurd ((nI_eq (a := f) (b := 0) (by omega) (by omega)).mp w) (by omega)
    have hz := flt_n (B := pI (pI B 15 0) 14 (sI B 14)) hV.2.2.2.2.2.2.2 f ⟨f1, f2⟩
    rw [← p14_s (B := B) (v := 0)] at hfl
    refine ⟨f, qC Bq sn lu (nI f) ln se 0 co SW LW, U', S9, f1, f2, ?_, rfl, rfl, ?_, ⟨_, hfl, rfl, rfl, rfl, rfl⟩⟩
    · rw [drs_e, hcl, nb_b1, end_CF nz]
    · rw [hdr, hrf, nb_b1, end_F hfl hz]
  obtain ⟨kt0, k6, kt1, _⟩ := ts_0 T
  have hle := ts_le T
  by_cases ht : τ = 1
  · have k1 := kt1.mpr ht
    obtain ⟨w1, w2, _, _, _, w31⟩ := ts_w T ht
    have ee := eT_1 c (show q1 ≤ e by omega)
    have hA : ∀ t : Nat, t < p' - q1 → aP (c (q1 + t)) = true := fun t ht => ee.2.2.2 (q1 + t) (by omega) (by omega)
    have hqp : q1 < p' := (T.2.2.2.2.2.1 (by omega)).2
    have hz : aP (c (q1 + (p' - q1))) = false := by
      rw [show q1 + (p' - q1) = p' by omega]
      by_cases w : p' < e
      · rw [w2]; exact ee.2.2.1 (by omega)
      · rw [show p' = e by omega, hce]; decide
    obtain ⟨id, ns1, NM1, BK1, bs1, ws1, n1, n2, n3, n4, n5, n6, n7, n8, n9, n10, n11⟩ := nmd_C (RV_0 hV) (cs := cs) (tp := tp) (st := st) (fx := fx) (C := C) (A := A) (S := Sx) (ap := p') (kd := κ) (fr := q1) (nm := x) hH hN hI (by omega) q1 (p' - q1) (by omega) (by omega) hA
    obtain ⟨S2, f1, f2, f3, f4⟩ := ned_y (B := pI B 15 0) hV.1 e2 T 1 (by omega) (by omega) ht
    have h15 : sI S2 15 = 0 := SR_15 f2
    obtain ⟨g1, g2⟩ := nmd_R (RV_0 hV') f2 q1 (p' - q1) (by omega) hA
    rw [show q1 + (p' - q1) = p' by omega] at g1 g2
    -- the class up to the name
    have hc1 : df_X1_readConstant n (qC Bq sn lu 0 ln se 0 co SW LW, (uC (xC BC cs tp st ns fx C A Sx NM BK) p' κ q1 x)) = (if 0 ≤ rI (reS (p' - q1) (c q1) (c (q1 + 1)) (c (q1 + 2)) (c (q1 + 3))) then df_X1_readConstant_81 n (qC Bq sn lu 0 ln se 0 co SW LW, uC (xC BC cs tp st ns1 fx C A Sx NM1 BK1) p' κ q1 x) else (if bI (decide (nmK c X nL q1 (p' - q1) < nL)) = 0 then (nd_b1 (df_X9_next n (uC (xC BC cs tp st ns1 fx C A Sx NM1 BK1) p' κ q1 x)) (fun (s22 : St) => nd_let (qC Bq sn lu 0 ln se 0 co SW LW, s22) (fun (s24 : St × St) => nd_b1 (df_X1_expect n 44 s24) (fun (s26 : St × St) => if (sI s26.1 2 : Int32) = 0 then (nd_b2 (df_X9_sum n s26.2) (fun (q38 : Int32) (s39 : St) => nd_let (s26.1, s39) (fun (s41 : St × St) => df_X1_readConstant_118 n (nI id) q38 s41))) else (df_X1_readConstant_118 n (nI id) 0 s26))))) else (df_X1_readConstant_81 n (qC Bq sn lu 0 ln se 0 co SW LW, uC (xC BC cs tp st ns1 fx C A Sx NM1 BK1) p' κ q1 x)))) := by
      unfold df_X1_readConstant df_X1_readConstant_0
      rw [if_pos (show sI (qC Bq sn lu 0 ln se 0 co SW LW, (uC (xC BC cs tp st ns fx C A Sx NM BK) p' κ q1 x)).2 2 = (1 : Int32) from congrArg nI k1)]
      show nd_let (sI (uC (xC BC cs tp st ns fx C A Sx NM BK) p' κ q1 x) 0 - sI (uC (xC BC cs tp st ns fx C A Sx NM BK) p' κ q1 x) 3) _ = _
      rw [uC_i0, uC_i3, show nI p' - nI q1 = nI (p' - q1) from pk_sub (by omega), nb_let]
      show nd_b2 (df_X9_nameAt n (nI q1) (nI (p' - q1)) (uC (xC BC cs tp st ns fx C A Sx NM BK) p' κ q1 x)) _ = _
      rw [n1, nb_b2, nb_let]
      show nd_o (sO (uC (xC BC cs tp st ns1 fx C A Sx NM1 BK1) p' κ q1 x) 0) 8 (nd_b2 (df_X7_registerAt n (nI q1) (nI (p' - q1)) (pR nd_st0 0 (sR (uC (xC BC cs tp st ns1 fx C A Sx NM1 BK1) p' κ q1 x) 7))) _) = _
      rw [n9, o8, n10, nb_b2]
      show nd_let (qC Bq sn lu 0 ln se 0 co SW LW, pR (uC (xC BC cs tp st ns1 fx C A Sx NM1 BK1) p' κ q1 x) 7 (sR (pR nd_st0 0 (sR (uC (xC BC cs tp st ns1 fx C A Sx NM1 BK1) p' κ q1 x) 7)) 0)) _ = _
      rw [show pR (uC (xC BC cs tp st ns1 fx C A Sx NM1 BK1) p' κ q1 x) 7 (sR (pR nd_st0 0 (sR (uC (xC BC cs tp st ns1 fx C A Sx NM1 BK1) p' κ q1 x) 7)) 0) = (uC (xC BC cs tp st ns1 fx C A Sx NM1 BK1) p' κ q1 x) from nm_r0 _ 7, nb_let]
      show (if 0 ≤ _ then _ else nd_b2 (df_X9_isDefined n (nI id) (uC (xC BC cs tp st ns1 fx C A Sx NM1 BK1) p' κ q1 x)) _) = _
      rw [n11, nb_b2, nb_let]
    have h81 : df_X1_readConstant_81 n (qC Bq sn lu 0 ln se 0 co SW LW, uC (xC BC cs tp st ns1 fx C A Sx NM1 BK1) p' κ q1 x) = some (qC Bq sn lu (nI 4) ln se 0 co SW LW, uC (xC BC cs tp st ns1 fx C A Sx NM1 BK1) p' κ q1 x) := by
      unfold df_X1_readConstant_81
      rw [blm_C, nb_b1]
      rfl
    -- the reference up to the name
    have hr1 : df_X13_constant n S1 = (if 0 ≤ rI (reS (p' - q1) (c q1) (c (q1 + 1)) (c (q1 + 2)) (c (q1 + 3))) then df_X13_constant_44 n (nI q1) (nI p') S2 else (if (if fN (fiP c X q1 (p' - q1)) 0 nL < nL then nI (fN (fiP c X q1 (p' - q1)) 0 nL) else -1) < 0 then df_X13_constant_49 n (nI q1) (nI p') S2 else df_X13_constant_44 n (nI q1) (nI p') S2)) := by
      unfold df_X13_constant df_X13_constant_0
      rw [show df_X13_needs n 1 S1 = some (1, S2) from f1, nb_b2, if_neg (by decide), f3, f4, nb_let, nb_let, if_pos h15, g1, nb_b2, g2, nb_b2]
    have h44 : ∃ S9 : St, df_X13_constant_44 n (nI q1) (nI p') S2 = some S9 ∧ FL e (pI B 15 0) (nI 4 + 16 * sI B 13) S9 := by
      obtain ⟨S3, b1, b2⟩ := blm_S (n := n) f2 4
      have b3 := SR_FL (e := e) b2 hle.2.2
      refine ⟨S3, ?_, b3⟩
      unfold df_X13_constant_44
      rw [b1, nb_b1]
      unfold df_X13_constant_49
      rw [com_F b3 (flt_n (B := pI B 15 0) hV.2.2.2.2.2.2.2 4 (by decide)), nb_b2, if_pos rfl]
    by_cases hr : reS (p' - q1) (c q1) (c (q1 + 1)) (c (q1 + 2)) (c (q1 + 3)) < 32
    · rw [if_pos (rI_n.mpr hr)] at hc1 hr1
      obtain ⟨S9, b1, b2⟩ := h44
      exact Or.inl (fault 4 _ S9 (by decide) (by decide) (hc1.trans h81) (hr1.trans b1) b2)
    rw [if_neg (fun w => hr (rI_n.mp w))] at hc1 hr1
    rw [nmK_f hr] at hc1
    by_cases hk : fN (fiP c X q1 (p' - q1)) 0 nL < nL
    · rw [decide_eq_true hk, if_neg (show ¬ bI true = 0 by decide)] at hc1
      have hnl := hV.2.1
      rw [if_pos hk, if_neg (show ¬ nI _ < (0 : Int32) from znl (b := 0) (Nat.zero_le _) (by omega))] at hr1
      obtain ⟨S9, b1, b2⟩ := h44
      exact Or.inl (fault 4 _ S9 (by decide) (by decide) (hc1.trans h81) (hr1.trans b1) b2)
    rw [decide_eq_false hk, if_pos (show bI false = 0 from rfl)] at hc1
    rw [if_neg hk, if_pos (show (-1 : Int32) < 0 by decide)] at hr1
    obtain ⟨q2, p2, κ2, τ2, v2, x2, m1, T2⟩ := nx_1 hT0 (cs := cs) (tp := tp) (st := st) (ns := ns1) (fx := fx) (C := C) (A := A) (S := Sx) (NM := NM1) (BK := BK1) p' κ q1 x hle.2.2 (fun i i1 i2 => T.2.1 i (by omega) i2)
    rw [m1, nb_b1, nb_let] at hc1
    obtain ⟨xp1, xp2⟩ := xpt_C hT0 (cs := cs) (tp := tp) (st := st) (ns := ns1) (fx := fx) (C := C) (A := A) (S := Sx) (NM := NM1) (BK := BK1) (qC Bq sn lu 0 ln se 0 co SW LW) rfl 44 (by decide) p' q2 p2 κ2 τ2 v2 x2 T2
    have hle2 := ts_le T2
    by_cases h44c : τ2 = 44
    · obtain ⟨q3, p3, κ3, τ3, v3, x3, y1, T3⟩ := xp1 h44c
      have hk2 : ¬ κ2 = 0 := fun w => by have := (ts_0 T2).1.mp w; omega
      have hp2 := (T2.2.2.2.2.2.1 hk2).2
      rw [show df_X1_expect n 44 (qC Bq sn lu 0 ln se 0 co SW LW, uC (xC BC cs tp st ns1 fx C A Sx NM1 BK1) p2 κ2 q2 x2) = _ from y1, nb_b1, if_pos (show sI (qC Bq sn lu 0 ln se 0 co SW LW, uC (xC BC cs tp st ns1 fx C A Sx NM1 BK1) p3 κ3 q3 x3).1 2 = 0 from rfl)] at hc1
      obtain ⟨S3, j1, j2⟩ := com_y (B := pI B 15 0) hV.1 f2 T2 h44c
      have hA1 : cs ≤ p2 := by omega
      have hA2 : 2 * ns1 ≤ p2 := by omega
      have hA3 : e - p2 < 32768 := by omega
      obtain ⟨ok, p4, q4, p4', κ4, τ4, v4, x4, m, P, ns2, fx2, C2, A2, Sa, S3a, NM2, BK2, bs2, ws2, tp2, tp3, BC3, u, a1, b0, b2, b3, hno, hok⟩ := sfx_C hT0 (B := Bq) (sn := sn) (lu := lu) (ln := ln) (se := se) (co := co) (od := 0) (SW := SW) (LW := LW) (tp := tp) (st := st) (fx := fx) (C := C) (A := A) (S := Sx) hn T3 n2 hA1 hA2 hA3 n7 n8 (one_A hV hY) q 0 (-2147483648) 2147483647
      rw [show df_X9_sum n (qC Bq sn lu 0 ln se 0 co SW LW, uC (xC BC cs tp st ns1 fx C A Sx NM1 BK1) p3 κ3 q3 x3).2 = _ from a1, nb_b2, nb_let] at hc1
      cases ok with
      | false =>
        obtain ⟨w, S4, i1, i2⟩ := fix_f hV' hY j2 b0 (-2147483648) 2147483647
        refine Or.inl (fault 1 (uC (xC BC (cs + m + 1) tp2 (if false = true then 5 else 6) ns2 fx2 C2 A2 Sa NM2 BK2) p4' κ4 q4 x4) S4 (by decide) (by decide) (hc1.trans ?_) (hr1.trans ?_) i2)
        · unfold df_X1_readConstant_118
          show nd_b2 (df_X1_fixed n u (-2147483648) 2147483647 (qC Bq sn lu 0 ln se 0 co SW LW, _)) _ = _
          rw [hno rfl, nb_b2, if_neg (show ¬ sI (qC Bq sn lu (nI 1) ln se 0 co SW LW, _).1 2 = 0 from (by decide : ¬ nI 1 = 0))]
          rfl
        · unfold df_X13_constant_49 df_X13_constant_90
          rw [j1, nb_b2, if_neg (by decide), i1, nb_b2, if_pos (show sI S4 15 = 0 from (FL_f i2).2.1), if_neg (show ¬ sI S4 12 = 0 from fun w9 => flt_n (B := pI B 15 0) hV.2.2.2.2.2.2.2 1 (by decide) ((FL_f i2).1.symm.trans w9))]
      | true =>
        obtain ⟨b1, c1, T4, b4, b6, b7, b8, b9, b10, b11⟩ := hok rfl
        obtain ⟨w, S4, i1, i2, i3, i4, i5, i6⟩ := fix_R hV' hY j2 rfl b0 (-2147483648) 2147483647
        have hle4 := ts_le T4
        have hN' := NTB_n n7 n8 b2 b3
        have hI' := IDX_n n8 b2
        obtain ⟨x1, x3', x4'⟩ := fxE (B := B) b6 hN' b8 q q 0 (-2147483648) 2147483647
        have i3 : w = zV (VW c X e nL q B) P m := i3
        rw [x1] at c1
        subst i3
        by_cases wz : (fxR (!lsF (loV c X e nL) P m) (zV (VW c X e nL q B) P m) (dV (VW c X e nL q B) P m) (-2147483648) 2147483647) = 0
        · have fxt : fx2 = true := (fxR_0 (x1.trans wz)).1
          rw [wz, if_pos (show (0 : Nat) = 0 from rfl), x3' fxt] at c1
          have i4 := i4 wz
          obtain ⟨S5, d1, d2⟩ := def_S (n := n) i4 (nL := nL) hV.2.2.1 (by omega) (nI q1) (nI p') 2 (zV (VW c X e nL q B) P m)
          rw [show (2 : Int32) = nI 2 from rfl, or17 (by omega) (by omega)] at d2
          have hid : id < ns2 := by have := b2.1; omega
          have hns2 := b3.1
          have hs2 : sW c (bs2 id) (ws2 id) q1 (p' - q1) := by
            obtain ⟨o1, o2, _, _⟩ := b2.2.1 id n3
            rw [o1, o2]; exact n4
          have hC0 : df_X1_readStatement n 120 (qC Bq sn lu 0 ln se 0 co SW LW, (uC (xC BC cs tp st ns fx C A Sx NM BK) p' κ q1 x)) = df_X1_readStatement_206 n (qC Bq sn lu 0 ln se 0 (co + 1) SW LW, uC (xC BC3 (cs + m + 1) tp3 5 ns2 fx2 C2 A2 S3a (upd (upd NM2 (5 * id + 2) 1) (5 * id + 3) (zV (VW c X e nL q B) P m)) BK2) p4' κ4 q4 x4) := by
            rw [drs_e, hc1]
            unfold df_X1_readConstant_118
            show nd_b1 (nd_b2 (df_X1_fixed n u (-2147483648) 2147483647 (qC Bq sn lu 0 ln se 0 co SW LW, _)) _) _ = _
            rw [c1, nb_b2, if_pos (show sI (qC Bq sn lu (nI 0) ln se 0 co SW LW, _).1 2 = 0 from rfl)]
            show nd_b1 (nd_b1 (df_X9_define n (nI id) 1 (zV (VW c X e nL q B) P m) (uC (xC BC3 (cs + m + 1) tp3 5 ns2 fx2 C2 A2 S3a NM2 BK2) p4' κ4 q4 x4)) _) _ = _
            rw [de_9 id 1 _ (by omega), nb_b1, nb_let, nb_let]
            show nd_b1 (df_X1_readConstant_158 n (pI (qC Bq sn lu 0 ln se 0 co SW LW) 6 (nI co + 1), _)) _ = _
            rw [show nI co + 1 = nI (co + 1) from nI_add co 1, qC_w6]
            unfold df_X1_readConstant_158
            rw [nb_b1]
          have hR : df_X13_statement n (nI q) 0 S = df_X13_statement_326 n S5 := by
            rw [hdr, hr1]
            unfold df_X13_constant_49 df_X13_constant_90
            rw [j1, nb_b2, if_neg (by decide), i1, nb_b2, if_pos (show sI S4 15 = 0 from SR_15 i4), if_pos (show sI S4 12 = 0 from SR_12 i4), d1, nb_b1, nb_b1]
          have hTd : atx n L e c BC (dfB (pI B 15 0) nL (nI (2 * 131072 + q1)) (zV (VW c X e nL q B) P m)) := hT0
          obtain ⟨kk0, kk6, _, _⟩ := ts_0 T4
          obtain ⟨er0, er1⟩ := end_R hTd rfl d2 T4
          by_cases z4 : τ4 = 0
          · right
            obtain ⟨S6, l1, l2⟩ := er0 z4
            refine ⟨q1, zV (VW c X e nL q B) P m, cs + m + 1, ns2, C2, A2, (upd (upd NM2 (5 * id + 2) 1) (5 * id + 3) (zV (VW c X e nL q B) P m)), BK2, bs2, ws2, p4', gr, uC (xC BC3 (cs + m + 1) tp3 5 ns2 fx2 C2 A2 S3a (upd (upd NM2 (5 * id + 2) 1) (5 * id + 3) (zV (VW c X e nL q B) P m)) BK2) p4' κ4 q4 x4, S6, ?_, ⟨BC3, tp3, 5, fx2, S3a, κ4, q4, x4, b1, rfl⟩, hR.trans l1, l2, by omega, by omega, by omega, hq3, HT_d b3 id 1 (zV (VW c X e nL q B) P m), ?_, ?_, ⟨by have := n6.1; have := b2.1; omega, fun i hi => ?_⟩, by omega, by omega, by omega, b6.1, rfb_E hT0 T0 hNA T ht T2 h44c b0 (FXD_1 b6 wz)⟩
            · rw [hC0, end_C kk6, if_pos (kk0.mpr z4)]
            · exact NTB_d hN' b3 (q := q1) (l := p' - q1) (κ := 2) (fun k hk => nw_2 hk) nw_1 (by omega) (by decide) (fun k hk => up_n (by omega)) hz hr (by rw [nmK_f hr]; exact hk) hid hs2 1 (zV (VW c X e nL q B) P m) (if_pos rfl).symm (by rw [if_pos rfl, up_e])
            · exact IDX_d hI' (fun k hk => nw_2 hk) nw_1 (by omega) hz hid hs2
            · obtain ⟨o1, o2, _, _⟩ := n6.2.1 i hi
              obtain ⟨o3, o4, _, _⟩ := b2.2.1 i (by have := n6.1; omega)
              exact ⟨o3.trans o1, o4.trans o2⟩
          · left
            obtain ⟨S6, l1, l2⟩ := er1 z4
            refine ⟨1, qC Bq sn lu (nI 1) ln se 0 (co + 1) SW LW, uC (xC BC3 (cs + m + 1) tp3 5 ns2 fx2 C2 A2 S3a (upd (upd NM2 (5 * id + 2) 1) (5 * id + 3) (zV (VW c X e nL q B) P m)) BK2) p4' κ4 q4 x4, S6, by decide, by decide, ?_, rfl, rfl, hR.trans l1, ⟨_, l2, rfl, rfl, rfl, rfl⟩⟩
            rw [hC0, end_C kk6, if_neg (fun w9 => z4 (kk0.mp w9))]
        · have i5 := i5 wz
          have f15 : 1 ≤ (fxR (!lsF (loV c X e nL) P m) (zV (VW c X e nL q B) P m) (dV (VW c X e nL q B) P m) (-2147483648) 2147483647) ∧ (fxR (!lsF (loV c X e nL) P m) (zV (VW c X e nL q B) P m) (dV (VW c X e nL q B) P m) (-2147483648) 2147483647) ≤ 15 := ⟨by omega, fxR_l⟩
          have nz : ¬ nI (fxR (!lsF (loV c X e nL) P m) (zV (VW c X e nL q B) P m) (dV (VW c X e nL q B) P m) (-2147483648) 2147483647) = 0 := fun w' => absurd ((nI_eq (b := 0) (by omega) (by omega)).mp w') (by omega)
          refine Or.inl (fault (fxR (!lsF (loV c X e nL) P m) (zV (VW c X e nL q B) P m) (dV (VW c X e nL q B) P m) (-2147483648) 2147483647) (uC (xC BC3 (cs + m + 1) tp3 (if true = true then 5 else 6) ns2 fx2 C2 A2 S3a NM2 BK2) p4' κ4 q4 x4) S4 f15.1 f15.2 (hc1.trans ?_) (hr1.trans ?_) i5)
          · unfold df_X1_readConstant_118
            show nd_b2 (df_X1_fixed n u (-2147483648) 2147483647 (qC Bq sn lu 0 ln se 0 co SW LW, _)) _ = _
            rw [c1, nb_b2, if_neg (show ¬ sI (qC Bq sn lu (nI (fxR (!lsF (loV c X e nL) P m) (zV (VW c X e nL q B) P m) (dV (VW c X e nL q B) P m) (-2147483648) 2147483647)) ln se 0 co SW LW, _).1 2 = 0 from nz)]
            rfl
          · unfold df_X13_constant_49 df_X13_constant_90
            rw [j1, nb_b2, if_neg (by decide), i1, nb_b2, if_pos (show sI S4 15 = 0 from (FL_f i5).2.1), if_neg (show ¬ sI S4 12 = 0 from fun w9 => flt_n (B := pI B 15 0) hV.2.2.2.2.2.2.2 _ f15 ((FL_f i5).1.symm.trans w9))]
    · obtain ⟨S3, j1, j2⟩ := com_n (B := pI B 15 0) hV.1 f2 T2 h44c
      refine Or.inl (fault 1 (uC (xC BC cs tp st ns1 fx C A Sx NM1 BK1) p2 κ2 q2 x2) S3 (by decide) (by decide) (hc1.trans ?_) (hr1.trans ?_) (FN_L j2))
      · rw [show df_X1_expect n 44 (qC Bq sn lu 0 ln se 0 co SW LW, uC (xC BC cs tp st ns1 fx C A Sx NM1 BK1) p2 κ2 q2 x2) = _ from xp2 h44c, nb_b1]
        rw [show pI (qC Bq sn lu 0 ln se 0 co SW LW) 2 1 = qC Bq sn lu (nI 1) ln se 0 co SW LW from qC_w2]
        rw [if_neg (show ¬ sI (qC Bq sn lu (nI 1) ln se 0 co SW LW, _).1 2 = 0 from (by decide : ¬ nI 1 = 0))]
        unfold df_X1_readConstant_118
        rw [fix_Z _ (by decide : ¬ nI 1 = 0), nb_b2, if_neg (show ¬ sI (qC Bq sn lu (nI 1) ln se 0 co SW LW, _).1 2 = 0 from (by decide : ¬ nI 1 = 0))]
        rfl
      · unfold df_X13_constant_49
        rw [j1, nb_b2, if_pos rfl]
  · have k1 : ¬ κ = 1 := fun w => ht (kt1.mp w)
    obtain ⟨S2, f1, f2⟩ := ned_n (B := pI B 15 0) hV.1 e2 T 1 (by omega) ht
    refine Or.inl (fault 1 (uC (xC BC cs tp st ns fx C A Sx NM BK) p' κ q1 x) S2 (by decide) (by decide) ?_ ?_ (FN_L f2))
    · unfold df_X1_readConstant df_X1_readConstant_0
      rw [if_neg (show ¬ sI (qC Bq sn lu 0 ln se 0 co SW LW, (uC (xC BC cs tp st ns fx C A Sx NM BK) p' κ q1 x)).2 2 = (1 : Int32) from zne (b := 1) k1 (by omega) (by omega)), blm_C, nb_b1]
      rfl
    · unfold df_X13_constant df_X13_constant_0
      rw [show df_X13_needs n 1 S1 = some (0, S2) from f1, nb_b2, if_pos rfl]

/-- a name's token, read from its own first letter -/
theorem ts_q {n L e : Nat} {c : Nat → Nat} {BC BR0 : St} (hT0 : atx n L e c BC BR0) {p q p' κ v : Nat} {x : Int32} (T : TS n L e c BC p q p' κ 1 v x) : ∃ (v0 : Nat) (x0 : Int32), TS n L e c BC q q p' κ 1 v0 x0 := by
  obtain ⟨hn, hL, heL, _⟩ := id hT0
  obtain ⟨t1, t2, t3, t4, t5, t6, t7, t8, t9⟩ := id T
  obtain ⟨w1, w2, w3, w4, w5, w6⟩ := ts_w T rfl
  obtain ⟨pa, κa, τa, va, a1, a2, a3, a4, a5⟩ := tok2 p t1 t2 hT0
  obtain ⟨xa, ea, va'⟩ := (a5 BR0 hT0).1 0 0 0
  have qp := qT_1 c t1
  have Ta : TS n L e c BC p (qT c e p) pa κa τa va xa := ⟨t1, t2, qp.1, a1, a2, a3, a4, va', fun BR hT => (a5 BR hT).2⟩
  obtain ⟨x1, p2, e1, e2, e3⟩ := t9 BR0 hT0 0 0 0 0
  obtain ⟨x2, p3, f1, f2, f3⟩ := (a5 BR0 hT0).2 0 0 0 0
  rw [e1] at f1
  have f1 := Option.some.inj f1
  have q9 : nI q = nI (qT c e p) := congrArg (fun s => sI s 9) f1
  have q8 : nI 1 = nI τa := congrArg (fun s => sI s 8) f1
  have h300 := ts_300 Ta
  rw [nI_eq (by omega) (by omega)] at q9 q8
  have q8 : τa = 1 := q8.symm
  subst q8
  obtain ⟨y1, y2, y3, y4, y5, y6⟩ := ts_w Ta rfl
  rw [← q9] at y1 y2 ea Ta
  have hpa : pa = p' := by rw [y2, w2]
  have tq : ∀ i : Nat, q ≤ i → i < e → ¬ c i = 10 := fun i i1 i2 => t2 i (by omega) i2
  obtain ⟨pb, κb, τb, vb, b1, b2, b3, b4, b5⟩ := tok2 q (by omega) tq hT0
  obtain ⟨xb, eb, vb'⟩ := (b5 BR0 hT0).1 0 0 0
  have qq := qT_1 c (show q ≤ e by omega)
  have hqq : qT c e q = q := by
    refine Classical.byContradiction fun z => ?_
    have := qq.2.2.2 q (Nat.le_refl _) (by have := qq.1; omega)
    rcases this with u | u
    · rw [u] at w4; exact absurd w4 (by decide)
    · rw [u] at w4; exact absurd w4 (by decide)
  have Tb : TS n L e c BC q (qT c e q) pb κb τb vb xb := ⟨by omega, tq, qq.1, b1, b2, b3, b4, vb', fun BR hT => (b5 BR hT).2⟩
  have k1 := ak_sk hT0 p 0 0 0 t1
  have k2 := ak_sk hT0 q 0 0 0 (by omega)
  rw [hqq] at k2 eb Tb
  rw [← q9] at k1
  have k3 := (ea.symm.trans k1).trans (k2.symm.trans eb)
  have k3 := Option.some.inj k3
  have z0 : nI pa = nI pb := congrArg (fun s => sI s 0) k3
  have z2 : nI κa = nI κb := congrArg (fun s => sI s 2) k3
  have h6b := (ts_0 Tb).2.1
  rw [nI_eq (by omega) (by omega)] at z0 z2
  have hτb : τb = 1 := (ts_0 Tb).2.2.1.mp (by omega)
  subst hτb
  have : κb = κ := by omega
  subst this
  have : pb = p' := by omega
  subst this
  exact ⟨vb, xb, Tb⟩
/-- a label's row in the class -/
def lrow (LB : Nat → Int32) (nl : Nat) (a b nmd : Int32) : Nat → Int32 := upd (upd (upd (upd (upd LB (5 * nl) a) (5 * nl + 1) b) (5 * nl + 2) 0) (5 * nl + 3) 0) (5 * nl + 4) nmd
theorem ix5 (j k : Nat) : nI j * 5 + nI k = nI (5 * j + k) := by
  rw [show (5 : Int32) = nI 5 from rfl, pk_mul, nI_add, Nat.mul_comm]
theorem adl_0 {n : Nat} {B : St} {e nl : Nat} {NR LB : Nat → Int32} {cs tp st ns : Nat} {fx : Bool} {C A S NM BK : Nat → Int32} {ap kd fr : Nat} {nm : Int32} (h : nl < 16384) (a b : Int32) (v2 : Int32) : df_X9_addLabel n a b v2 (uC (xC (bC B e nl NR LB) cs tp st ns fx C A S NM BK) ap kd fr nm) = df_X9_addLabel_87 n v2 (nI nl) (nI (5 * nl + 4)) (if 0 ≤ v2 then 0 else 1) (uC (xC (bC B e (nl + 1) NR (upd (upd (upd (upd LB (5 * nl) a) (5 * nl + 1) b) (5 * nl + 2) 0) (5 * nl + 3) 0)) cs tp st ns fx C A S NM BK) ap kd fr nm) := by
  unfold df_X9_addLabel df_X9_addLabel_0
  rw [bC_u9, if_neg (show ¬ (16384 : Int32) < nI nl from znl (a := 16384) (by omega) (by omega)), nb_let, show nI nl + 1 = nI (nl + 1) from nI_add nl 1, bC_w9, nb_let]
  rw [show nI nl * 5 + 0 = nI (5 * nl) from ix5 nl 0, nm_ck (by omega) (by omega), nI_clamp (by omega), bC_r6, bC_y6, nb_let]
  rw [show nI nl * 5 + 1 = nI (5 * nl + 1) from ix5 nl 1, nm_ck (by omega) (by omega), nI_clamp (by omega), bC_r6, bC_y6, nb_let]
  rw [show nI nl * 5 + 2 = nI (5 * nl + 2) from ix5 nl 2, nm_ck (by omega) (by omega), nI_clamp (by omega), bC_r6, bC_y6, nb_let]
  rw [show nI nl * 5 + 3 = nI (5 * nl + 3) from ix5 nl 3, nm_ck (by omega) (by omega), nI_clamp (by omega), bC_r6, bC_y6, nb_let]
  rw [show nI nl * 5 + 4 = nI (5 * nl + 4) from ix5 nl 4]
  by_cases z : 0 ≤ v2
  · rw [if_pos z, if_pos z]
  · rw [if_neg z, if_neg z]
theorem adl_n {n : Nat} {B : St} {e nl : Nat} {NR LB : Nat → Int32} {cs tp st ns : Nat} {fx : Bool} {C A S NM BK : Nat → Int32} {ap kd fr : Nat} {nm : Int32} (h : nl < 16384) (a b : Int32) : df_X9_addLabel n a b (-1) (uC (xC (bC B e nl NR LB) cs tp st ns fx C A S NM BK) ap kd fr nm) = some (nI nl, uC (xC (bC B e (nl + 1) NR (lrow LB nl a b 1)) cs tp st ns fx C A S NM BK) ap kd fr nm) := by
  rw [adl_0 h, if_neg (show ¬ (0 : Int32) ≤ -1 by decide)]
  unfold df_X9_addLabel_87 df_X9_addLabel_157
  rw [nm_ck (by omega) (by omega), nI_clamp (by omega), bC_r6, bC_y6, nb_let, if_pos (show (-1 : Int32) < 0 by decide)]
  rfl
theorem adl_d {n : Nat} {B : St} {e nl : Nat} {NR LB : Nat → Int32} {cs tp st ns : Nat} {fx : Bool} {C A S NM BK : Nat → Int32} {ap kd fr : Nat} {nm : Int32} (h : nl < 16384) (a b : Int32) (d : Nat) (hd : d ≤ 9) : (NR (10 + d) = 0 → df_X9_addLabel n a b (nI d) (uC (xC (bC B e nl NR LB) cs tp st ns fx C A S NM BK) ap kd fr nm) = some (nI nl, uC (xC (bC B e (nl + 1) (upd (upd NR d (nI (nl + 1))) (10 + d) (nI (nl + 1))) (lrow LB nl a b 0)) cs tp st ns fx C A S NM BK) ap kd fr nm)) ∧ (∀ j : Nat, j < 16384 → NR (10 + d) = nI (j + 1) → df_X9_addLabel n a b (nI d) (uC (xC (bC B e nl NR LB) cs tp st ns fx C A S NM BK) ap kd fr nm) = some (nI nl, uC (xC (bC B e (nl + 1) (upd NR (10 + d) (nI (nl + 1))) (upd (lrow LB nl a b 0) (5 * j + 3) (nI (nl + 1)))) cs tp st ns fx C A S NM BK) ap kd fr nm)) := by
  have h0 : df_X9_addLabel n a b (nI d) (uC (xC (bC B e nl NR LB) cs tp st ns fx C A S NM BK) ap kd fr nm) = nd_let (NR (10 + d)) (fun (z17 : Int32) => if z17 = 0 then (nd_ck (nI d) 20 (nd_let (pR (uC (xC (bC B e (nl + 1) NR (lrow LB nl a b 0)) cs tp st ns fx C A S NM BK) ap kd fr nm) 5 (upd NR d (nI nl + 1))) (fun (s24 : St) => df_X9_addLabel_144 n (nI d) (nI nl) s24))) else (nd_ck (((z17 - 1) * 5) + 3) 81925 (nd_let (pR (uC (xC (bC B e (nl + 1) NR (lrow LB nl a b 0)) cs tp st ns fx C A S NM BK) ap kd fr nm) 6 (upd (lrow LB nl a b 0) (Int32.toNatClampNeg (((z17 - 1) * 5) + 3)) (nI nl + 1))) (fun (s20 : St) => df_X9_addLabel_144 n (nI d) (nI nl) s20)))) := by
    rw [adl_0 h, if_pos (show (0 : Int32) ≤ nI d from zle (a := 0) (Nat.zero_le _) (by omega))]
    unfold df_X9_addLabel_87
    rw [nm_ck (by omega) (by omega), nI_clamp (by omega), bC_r6, bC_y6, nb_let, if_neg (show ¬ nI d < (0 : Int32) from znl (b := 0) (Nat.zero_le _) (by omega)), if_neg (show ¬ (9 : Int32) < nI d from znl (a := 9) (by omega) (by omega)), show (10 : Int32) + nI d = nI (10 + d) from nI_add 10 d, nm_ck (by omega) (by omega), nI_clamp (by omega), nI_clamp (by omega), bC_r5]
    rfl
  have h144 : ∀ (NR' LB' : Nat → Int32), df_X9_addLabel_144 n (nI d) (nI nl) (uC (xC (bC B e (nl + 1) NR' LB') cs tp st ns fx C A S NM BK) ap kd fr nm) = some (nI nl, uC (xC (bC B e (nl + 1) (upd NR' (10 + d) (nI (nl + 1))) LB') cs tp st ns fx C A S NM BK) ap kd fr nm) := fun NR' LB' => by
    unfold df_X9_addLabel_144 df_X9_addLabel_157
    rw [show (10 : Int32) + nI d = nI (10 + d) from nI_add 10 d, nm_ck (by omega) (by omega), nI_clamp (by omega), bC_r5, bC_y5, nb_let, show nI nl + 1 = nI (nl + 1) from nI_add nl 1]
  rw [h0, nb_let]
  constructor
  · intro z
    rw [if_pos z, nm_ck (by omega) (by omega), bC_y5, nb_let, h144, show nI nl + 1 = nI (nl + 1) from nI_add nl 1]
  · intro j hj z
    rw [z, if_neg (show ¬ nI (j + 1) = 0 from zne (b := 0) (by omega) (by omega) (by omega)), show nI (j + 1) - 1 = nI j from (pk_sub (a := j + 1) (b := 1) (by omega)), show nI j * 5 + 3 = nI (5 * j + 3) from ix5 j 3, nm_ck (by omega) (by omega), nI_clamp (by omega), bC_y6, nb_let, h144, show nI nl + 1 = nI (nl + 1) from nI_add nl 1]
/-- first and last of a row -/
theorem fr_z (fw : Bool) (P : Nat → Bool) : ∀ k : Nat, frF fw P k = 0 ↔ ∀ j : Nat, j < k → P j = false := fun k => by
  induction k with
  | zero => exact ⟨fun _ j hj => absurd hj (Nat.not_lt_zero j), fun _ => rfl⟩
  | succ k ih =>
    have e : frF fw P (k + 1) = if P k = true ∧ ¬ (fw = true ∧ 0 < frF fw P k) then k + 1 else frF fw P k := rfl
    rw [e]
    by_cases z : P k = true ∧ ¬ (fw = true ∧ 0 < frF fw P k)
    · rw [if_pos z]
      exact ⟨fun w => absurd w (by omega), fun w => by have := w k (by omega); rw [this] at z; exact absurd z.1 (by decide)⟩
    · rw [if_neg z]
      constructor
      · intro w j hj
        by_cases y : j = k
        · subst y
          cases hP : P j with
          | false => rfl
          | true => exact absurd ⟨hP, fun u => by omega⟩ z
        · exact ih.mp w j (by omega)
      · intro w
        exact ih.mpr (fun j hj => w j (by omega))
theorem fr_u (fw : Bool) (P : Nat → Bool) : ∀ n k : Nat, k < n → P k = true → (fw = false → ∀ j : Nat, k < j → j < n → P j = false) → (fw = true → ∀ j : Nat, j < k → P j = false) → frF fw P n = k + 1 := fun n => by
  induction n with
  | zero => intro k h; exact absurd h (Nat.not_lt_zero k)
  | succ n ih =>
    intro k h1 h2 h3 h4
    have e : frF fw P (n + 1) = if P n = true ∧ ¬ (fw = true ∧ 0 < frF fw P n) then n + 1 else frF fw P n := rfl
    rw [e]
    by_cases y : k = n
    · subst y
      rw [if_pos ⟨h2, fun u => by
        have := (fr_z fw P k).mpr (h4 u.1)
        omega⟩]
    · have r := ih k (by omega) h2 (fun a j j1 j2 => h3 a j j1 (by omega)) h4
      rw [r]
      cases fw with
      | true => rw [if_neg (fun u => u.2 ⟨rfl, by omega⟩)]
      | false => rw [if_neg (fun u => by have := h3 rfl n (by omega) (by omega); rw [this] at u; exact absurd u.1 (by decide))]
theorem fr_s (fw : Bool) (P : Nat → Bool) : ∀ n k : Nat, frF fw P n = k + 1 → k < n ∧ P k = true ∧ (fw = false → ∀ j : Nat, k < j → j < n → P j = false) ∧ (fw = true → ∀ j : Nat, j < k → P j = false) := fun n => by
  induction n with
  | zero => intro k h; exact absurd (show 0 = k + 1 from h) (by omega)
  | succ n ih =>
    intro k h
    have e : frF fw P (n + 1) = if P n = true ∧ ¬ (fw = true ∧ 0 < frF fw P n) then n + 1 else frF fw P n := rfl
    rw [e] at h
    by_cases z : P n = true ∧ ¬ (fw = true ∧ 0 < frF fw P n)
    · rw [if_pos z] at h
      have : n = k := by omega
      subst this
      refine ⟨by omega, z.1, fun _ j j1 j2 => by omega, fun a => ?_⟩
      exact (fr_z fw P n).mp (Nat.eq_zero_of_not_pos fun u => z.2 ⟨a, u⟩)
    · rw [if_neg z] at h
      obtain ⟨a1, a2, a3, a4⟩ := ih k h
      refine ⟨by omega, a2, fun b j j1 j2 => ?_, a4⟩
      by_cases y : j = n
      · subst y
        cases hP : P j with
        | false => rfl
        | true => exact absurd ⟨hP, fun u => by rw [b] at u; exact absurd u.1 (by decide)⟩ z
      · exact a3 b j j1 (by omega)

/-- near labels and rows of labels, as both tables grow -/
def dgP (c X : Nat → Nat) (d k : Nat) : Bool := decide (3 ≤ X k / 131072) && decide (c (X k % 131072) = 48 + d)
def NRI (c X : Nat → Nat) (nL : Nat) (NR LB : Nat → Int32) : Prop := ∀ d : Nat, d ≤ 9 → NR (10 + d) = nI (lmF X (frF false (dgP c X d) nL)) ∧ NR d = nI (lmF X (frF true (dgP c X d) nL)) ∧ ∀ k : Nat, k < nL → dgP c X d k = true → LB (5 * lam X k + 3) = nI (lmF X (frF true (fun j => dgP c X d j && decide (k < j)) nL))
def LBI (X : Nat → Nat) (nL : Nat) (LB : Nat → Int32) (sc : Nat → Nat) : Prop := ∀ k : Nat, k < nL → ¬ X k / 131072 = 2 → LB (5 * lam X k) = nI (sc k) ∧ LB (5 * lam X k + 1) = nI (if X k / 131072 = 1 ∨ X k / 131072 = 4 then 1 else 0) ∧ LB (5 * lam X k + 4) = nI (if X k / 131072 < 2 then 1 else 0)
theorem lam_nw {X : Nat → Nat} {nL w k : Nat} (h : k ≤ nL) : lam (nwF X nL w) k = lam X k := lam_c k (fun i hi => nw_2 (by omega))
theorem lmF_nw {X : Nat → Nat} {nL w f : Nat} (h : f ≤ nL) : lmF (nwF X nL w) f = lmF X f := by
  unfold lmF
  by_cases z : f = 0
  · rw [if_pos z, if_pos z]
  · rw [if_neg z, if_neg z, lam_nw (by omega)]
theorem dgP_nw {c X : Nat → Nat} {nL w d k : Nat} (h : k < nL) : dgP c (nwF X nL w) d k = dgP c X d k := by
  unfold dgP
  rw [nw_2 h]
theorem dg_3 {c X : Nat → Nat} {d k : Nat} (h : dgP c X d k = true) : 3 ≤ X k / 131072 ∧ c (X k % 131072) = 48 + d := by
  unfold dgP at h
  rw [Bool.and_eq_true, decide_eq_true_eq, decide_eq_true_eq] at h
  exact h
theorem fr_nw {c X : Nat → Nat} {nL w d : Nat} {fw : Bool} : frF fw (dgP c (nwF X nL w) d) nL = frF fw (dgP c X d) nL := fr_c nL (fun i hi => dgP_nw hi)
theorem fr_nx {c X : Nat → Nat} {nL w d k : Nat} : frF true (fun j => dgP c (nwF X nL w) d j && decide (k < j)) nL = frF true (fun j => dgP c X d j && decide (k < j)) nL := fr_c nL (fun i hi => by
  show (dgP c (nwF X nL w) d i && decide (k < i)) = (dgP c X d i && decide (k < i))
  rw [dgP_nw hi])
theorem fr_f {fw : Bool} {P : Nat → Bool} {n : Nat} (h : P n = false) : frF fw P (n + 1) = frF fw P n := if_neg (fun z => by rw [h] at z; exact absurd z.1 (by decide))
theorem lrow_o {LB : Nat → Int32} {nl : Nat} {a b d : Int32} {i : Nat} (h : i < 5 * nl) : lrow LB nl a b d i = LB i := by
  unfold lrow
  rw [up_n (by omega), up_n (by omega), up_n (by omega), up_n (by omega), up_n (by omega)]
theorem lrow_i {LB : Nat → Int32} {nl : Nat} {a b d : Int32} : lrow LB nl a b d (5 * nl) = a ∧ lrow LB nl a b d (5 * nl + 1) = b ∧ lrow LB nl a b d (5 * nl + 3) = 0 ∧ lrow LB nl a b d (5 * nl + 4) = d := by
  unfold lrow
  refine ⟨?_, ?_, ?_, up_e⟩
  · rw [up_n (by omega), up_n (by omega), up_n (by omega), up_n (by omega), up_e]
  · rw [up_n (by omega), up_n (by omega), up_n (by omega), up_e]
  · rw [up_n (by omega), up_e]
/-- an entry that is no digit -/
theorem NRI_o {c X : Nat → Nat} {nL : Nat} {NR LB LB' : Nat → Int32} (h : NRI c X nL NR LB) {w : Nat} (hw : w / 131072 < 3) (hL : ∀ i : Nat, i < 5 * lam X nL → LB' i = LB i) : NRI c (nwF X nL w) (nL + 1) NR LB' := fun d hd => by
  obtain ⟨a1, a2, a3⟩ := h d hd
  have pf : dgP c (nwF X nL w) d nL = false := by
    unfold dgP
    rw [nw_1, decide_eq_false (by omega)]; rfl
  refine ⟨?_, ?_, fun k hk hp => ?_⟩
  · rw [fr_f pf, fr_nw, lmF_nw (fr_l _ _ _)]; exact a1
  · rw [fr_f pf, fr_nw, lmF_nw (fr_l _ _ _)]; exact a2
  · by_cases z : k = nL
    · rw [z, pf] at hp; exact absurd hp (by decide)
    · have kl : k < nL := by omega
      rw [dgP_nw kl] at hp
      have n2 := (dg_3 hp).1
      have := lam_l kl (show ¬ X k / 131072 = 2 by omega)
      rw [lam_nw (by omega), hL _ (by omega), fr_f (show (dgP c (nwF X nL w) d nL && decide (k < nL)) = false by rw [pf]; rfl), fr_nx, lmF_nw (fr_l _ _ _)]
      exact a3 k kl hp
theorem lmF_0 {X : Nat → Nat} {f : Nat} : lmF X f = 0 ↔ f = 0 := by
  unfold lmF
  by_cases z : f = 0
  · rw [if_pos z]; exact ⟨fun _ => z, fun _ => rfl⟩
  · rw [if_neg z]; exact ⟨fun w => absurd w (by omega), fun w => absurd w z⟩
theorem lmF_l {X : Nat → Nat} {f nL : Nat} (h : f ≤ nL) : lmF X f ≤ lam X nL + 1 := by
  unfold lmF
  by_cases z : f = 0
  · rw [if_pos z]; omega
  · rw [if_neg z]
    have := lam_m X (nL - (f - 1)) (f - 1)
    rw [show f - 1 + (nL - (f - 1)) = nL by omega] at this
    omega
theorem lam_i {X : Nat → Nat} {i j : Nat} (hi : ¬ X i / 131072 = 2) (h : i < j) : lam X i < lam X j := by
  have := lam_l (X := X) (k := i) (nL := j) h hi
  exact this
/-- a digit's label -/
theorem NRI_d {c X : Nat → Nat} {nL : Nat} {NR LB : Nat → Int32} (h : NRI c X nL NR LB) {w d0 : Nat} (hw : 3 ≤ w / 131072) (hd0 : d0 ≤ 9) (hc : c (w % 131072) = 48 + d0) (hl : lam X nL ≤ 16384) (a b : Int32) : (NR (10 + d0) = 0 → NRI c (nwF X nL w) (nL + 1) (upd (upd NR d0 (nI (lam X nL + 1))) (10 + d0) (nI (lam X nL + 1))) (lrow LB (lam X nL) a b 0)) ∧ (∀ j : Nat, j < 16384 → NR (10 + d0) = nI (j + 1) → j < lam X nL ∧ NRI c (nwF X nL w) (nL + 1) (upd NR (10 + d0) (nI (lam X nL + 1))) (upd (lrow LB (lam X nL) a b 0) (5 * j + 3) (nI (lam X nL + 1)))) := by
  have pn : ∀ d : Nat, dgP c (nwF X nL w) d nL = decide (d = d0) := fun d => by
    unfold dgP
    rw [nw_1, decide_eq_true hw, hc, Bool.true_and]
    exact decide_eq_decide.mpr ⟨fun z => by omega, fun z => by omega⟩
  have lmn : lmF (nwF X nL w) (nL + 1) = lam X nL + 1 := by
    unfold lmF
    rw [if_neg (by omega), Nat.add_sub_cancel, lam_nw (Nat.le_refl _)]
  obtain ⟨b1, b2, b3⟩ := h d0 hd0
  have fl := fr_l false (dgP c X d0) nL
  have lb := lmF_l (X := X) fl
  have last0 : frF true (fun j => dgP c (nwF X nL w) d0 j && decide (nL < j)) (nL + 1) = 0 := (fr_z true _ (nL + 1)).mpr (fun j hj => by
    show (dgP c (nwF X nL w) d0 j && decide (nL < j)) = false
    rw [decide_eq_false (by omega), Bool.and_false])
  have latest : frF false (dgP c (nwF X nL w) d0) (nL + 1) = nL + 1 := fr_u false _ (nL + 1) nL (by omega) (by rw [pn, decide_eq_true rfl]) (fun _ j j1 j2 => by omega) (fun z => absurd z (by decide))
  constructor
  · intro z d hd
    rw [b1, show (0 : Int32) = nI 0 from rfl, nI_eq (by omega) (by omega), lmF_0] at z
    have no := (fr_z false (dgP c X d0) nL).mp z
    by_cases y : d = d0
    · subst y
      refine ⟨?_, ?_, fun k hk hp => ?_⟩
      · rw [up_e, latest, lmn]
      · rw [up_n (by omega), up_e, fr_u true _ (nL + 1) nL (by omega) (by rw [pn, decide_eq_true rfl]) (fun z => absurd z (by decide)) (fun _ j hj => by rw [dgP_nw hj]; exact no j hj), lmn]
      · by_cases u : k = nL
        · subst u
          rw [last0, lam_nw (Nat.le_refl _), (lrow_i).2.2.1]
          rfl
        · rw [dgP_nw (by omega), no k (by omega)] at hp
          exact absurd hp (by decide)
    · obtain ⟨a1, a2, a3⟩ := h d hd
      have pf : dgP c (nwF X nL w) d nL = false := by rw [pn, decide_eq_false y]
      refine ⟨?_, ?_, fun k hk hp => ?_⟩
      · rw [up_n (by omega), up_n (by omega), fr_f pf, fr_nw, lmF_nw (fr_l _ _ _)]; exact a1
      · rw [up_n (by omega), up_n (by omega), fr_f pf, fr_nw, lmF_nw (fr_l _ _ _)]; exact a2
      · by_cases u : k = nL
        · rw [u, pf] at hp; exact absurd hp (by decide)
        · have kl : k < nL := by omega
          rw [dgP_nw kl] at hp
          have n2 := (dg_3 hp).1
          have := lam_l kl (show ¬ X k / 131072 = 2 by omega)
          rw [lam_nw (by omega), lrow_o (by omega), fr_f (show (dgP c (nwF X nL w) d nL && decide (k < nL)) = false by rw [pf]; rfl), fr_nx, lmF_nw (fr_l _ _ _)]
          exact a3 k kl hp
  · intro j hj z
    rw [b1, nI_eq (by omega) (by omega)] at z
    obtain ⟨kl, hkl⟩ : ∃ kl : Nat, frF false (dgP c X d0) nL = kl + 1 := by
      cases hf : frF false (dgP c X d0) nL with
      | zero => rw [hf] at z; exact absurd (show 0 = j + 1 from z) (by omega)
      | succ k => exact ⟨k, rfl⟩
    obtain ⟨s1, s2, s3, _⟩ := fr_s false _ nL kl hkl
    have s3 := s3 rfl
    have hj2 : j = lam X kl := by
      rw [hkl] at z
      unfold lmF at z
      rw [if_neg (by omega), Nat.add_sub_cancel] at z
      omega
    have n2 := (dg_3 s2).1
    have jl := lam_l s1 (show ¬ X kl / 131072 = 2 by omega)
    rw [← hj2] at jl
    refine ⟨jl, fun d hd => ?_⟩
    have oth : ∀ k : Nat, k < nL → ¬ k = kl → ¬ X k / 131072 = 2 → ¬ 5 * lam X k + 3 = 5 * j + 3 := fun k k1 k2 k3 z2 => by
      rcases Nat.lt_or_gt_of_ne k2 with u | u
      · have := lam_i (X := X) k3 u
        omega
      · have := lam_i (X := X) (show ¬ X kl / 131072 = 2 by omega) u
        omega
    by_cases y : d = d0
    · subst y
      refine ⟨?_, ?_, fun k hk hp => ?_⟩
      · rw [up_e, latest, lmn]
      · have pos : 0 < frF true (dgP c X d) nL := Nat.pos_of_ne_zero fun u => by
          have := (fr_z true (dgP c X d) nL).mp u kl s1
          rw [s2] at this
          exact absurd this (by decide)
        rw [up_n (by omega), show frF true (dgP c (nwF X nL w) d) (nL + 1) = frF true (dgP c (nwF X nL w) d) nL from if_neg (fun u => u.2 ⟨rfl, by rw [fr_nw]; exact pos⟩), fr_nw, lmF_nw (fr_l _ _ _)]
        exact b2
      · by_cases u : k = nL
        · subst u
          rw [last0, lam_nw (Nat.le_refl _), up_n (by omega), (lrow_i).2.2.1]
          rfl
        · have kn : k < nL := by omega
          rw [dgP_nw kn] at hp
          have k3 := (dg_3 hp).1
          have klt := lam_l kn (show ¬ X k / 131072 = 2 by omega)
          rw [lam_nw (by omega)]
          by_cases v : k = kl
          · subst v
            rw [← hj2, up_e, fr_u true _ (nL + 1) nL (by omega) (by
              show (dgP c (nwF X nL w) d nL && decide (k < nL)) = true
              rw [pn, decide_eq_true rfl, decide_eq_true kn]; rfl) (fun z => absurd z (by decide)) (fun _ i hi => by
              show (dgP c (nwF X nL w) d i && decide (k < i)) = false
              rw [dgP_nw hi]
              by_cases t : k < i
              · rw [s3 i t hi]; rfl
              · rw [decide_eq_false t, Bool.and_false]), lmn]
          · have klt2 : k < kl := Nat.lt_of_le_of_ne (Nat.not_lt.mp fun t => by have := s3 k t kn; rw [hp] at this; exact absurd this (by decide)) v
            have pos : 0 < frF true (fun j => dgP c (nwF X nL w) d j && decide (k < j)) nL := Nat.pos_of_ne_zero fun t => by
              have := (fr_z true _ nL).mp t kl s1
              have this : (dgP c (nwF X nL w) d kl && decide (k < kl)) = false := this
              rw [dgP_nw s1, s2, decide_eq_true klt2] at this
              exact absurd this (by decide)
            rw [up_n (oth k kn v (by omega)), lrow_o (by omega), show frF true (fun j => dgP c (nwF X nL w) d j && decide (k < j)) (nL + 1) = frF true (fun j => dgP c (nwF X nL w) d j && decide (k < j)) nL from if_neg (fun u => u.2 ⟨rfl, pos⟩), fr_nx, lmF_nw (fr_l _ _ _)]
            exact b3 k kn hp
    · obtain ⟨a1, a2, a3⟩ := h d hd
      have pf : dgP c (nwF X nL w) d nL = false := by rw [pn, decide_eq_false y]
      refine ⟨?_, ?_, fun k hk hp => ?_⟩
      · rw [up_n (by omega), fr_f pf, fr_nw, lmF_nw (fr_l _ _ _)]; exact a1
      · rw [up_n (by omega), fr_f pf, fr_nw, lmF_nw (fr_l _ _ _)]; exact a2
      · by_cases u : k = nL
        · rw [u, pf] at hp; exact absurd hp (by decide)
        · have kn : k < nL := by omega
          rw [dgP_nw kn] at hp
          have k3 := dg_3 hp
          have klt := lam_l kn (show ¬ X k / 131072 = 2 by omega)
          have v : ¬ k = kl := fun t => by
            subst t
            have := (dg_3 s2).2
            omega
          rw [lam_nw (by omega), up_n (oth k kn v (by omega)), lrow_o (by omega), fr_f (show (dgP c (nwF X nL w) d nL && decide (k < nL)) = false by rw [pf]; rfl), fr_nx, lmF_nw (fr_l _ _ _)]
          exact a3 k kn hp
/-- rows of labels: one more -/
theorem LBI_l {X : Nat → Nat} {nL : Nat} {LB LB' : Nat → Int32} {sc : Nat → Nat} (h : LBI X nL LB sc) {w s : Nat} (hw : ¬ w / 131072 = 2) (hL : ∀ i : Nat, i < 5 * lam X nL → ¬ i % 5 = 3 → LB' i = LB i) (h0 : LB' (5 * lam X nL) = nI s) (h1 : LB' (5 * lam X nL + 1) = nI (if w / 131072 = 1 ∨ w / 131072 = 4 then 1 else 0)) (h4 : LB' (5 * lam X nL + 4) = nI (if w / 131072 < 2 then 1 else 0)) : LBI (nwF X nL w) (nL + 1) LB' (nwF sc nL s) := fun k hk hx => by
  by_cases z : k = nL
  · subst z
    rw [nw_1, nw_1, lam_nw (Nat.le_refl _)]
    exact ⟨h0, h1, h4⟩
  · have kl : k < nL := by omega
    rw [nw_2 kl] at hx ⊢
    have := lam_l kl hx
    rw [nw_2 kl, lam_nw (by omega), hL _ (by omega) (by omega), hL _ (by omega) (by omega), hL _ (by omega) (by omega)]
    exact h k kl hx
theorem LBI_c {X : Nat → Nat} {nL : Nat} {LB : Nat → Int32} {sc : Nat → Nat} (h : LBI X nL LB sc) {w s : Nat} (hw : w / 131072 = 2) : LBI (nwF X nL w) (nL + 1) LB (nwF sc nL s) := fun k hk hx => by
  by_cases z : k = nL
  · subst z
    rw [nw_1] at hx
    exact absurd hw hx
  · have kl : k < nL := by omega
    rw [nw_2 kl] at hx ⊢
    rw [nw_2 kl, lam_nw (by omega)]
    exact h k kl hx
theorem lam_n1 {X : Nat → Nat} {nL w : Nat} : lam (nwF X nL w) (nL + 1) = lam X nL + (if w / 131072 = 2 then 0 else 1) := by
  show lam (nwF X nL w) nL + (if nwF X nL w nL / 131072 = 2 then 0 else 1) = _
  rw [nw_1, lam_nw (Nat.le_refl _)]

/-- the labels of a line, in both -/
def BG (B B' : St) : Prop := (∀ j : Nat, ¬ j = 3 → sI B' j = sI B j) ∧ (∀ j : Nat, ¬ j = 6 → ¬ j = 7 → sR B' j = sR B j) ∧ (∀ j : Nat, sQ B' j = sQ B j) ∧ ∀ j : Nat, sO B' j = sO B j
theorem BG_r {B : St} : BG B B := ⟨fun _ _ => rfl, fun _ _ _ => rfl, fun _ => rfl, fun _ => rfl⟩
theorem BG_t {B B1 B2 : St} (h : BG B B1) (k : BG B1 B2) : BG B B2 := ⟨fun j z => (k.1 j z).trans (h.1 j z), fun j z w => (k.2.1 j z w).trans (h.2.1 j z w), fun j => (k.2.2.1 j).trans (h.2.2.1 j), fun j => (k.2.2.2 j).trans (h.2.2.2 j)⟩
theorem BG_d {B : St} {nL : Nat} {w v : Int32} : BG B (dfB B nL w v) := ⟨fun j z => if_neg z, fun j z w => by
  show (if j = 7 then _ else (if j = 6 then _ else sR B j)) = sR B j
  rw [if_neg w, if_neg z], fun _ => rfl, fun _ => rfl⟩
theorem BG_a {n L e : Nat} {c : Nat → Nat} {BC B B' : St} (h : BG B B') (hT : atx n L e c BC B) : atx n L e c BC B' := by
  obtain ⟨hn, hL, heL, h127, hend, hce, hO, hst, htC, h0, htR, hch⟩ := hT
  exact ⟨hn, hL, heL, h127, hend, hce, hO, hst, htC, (h.1 0 (by decide)).trans h0, fun i hi => by rw [h.2.1 2 (by decide) (by decide)]; exact htR i hi, hch⟩
/-- how many labels have names -/
def nmd (X : Nat → Nat) : Nat → Nat
  | 0 => 0
  | k + 1 => nmd X k + (if X k / 131072 < 2 then 1 else 0)
def cnB (g : Nat → Bool) : Nat → Nat
  | 0 => 0
  | k + 1 => cnB g k + (if g k = true then 1 else 0)
def NLB (c X : Nat → Nat) (nL p : Nat) : Prop := ∃ g : Nat → Bool, (∀ v : Nat, g v = true → ∃ k : Nat, k < nL ∧ X k / 131072 < 3 ∧ c (X k % 131072) = v ∧ aP (c (X k % 131072 + 1)) = false) ∧ 3 * nmd X nL ≤ p + cnB g 127
theorem cnB_l (g : Nat → Bool) : ∀ m : Nat, cnB g m ≤ m := fun m => by
  induction m with
  | zero => exact Nat.le_refl 0
  | succ m ih =>
    show cnB g m + (if g m = true then 1 else 0) ≤ m + 1
    split <;> omega
theorem cnB_o {g : Nat → Bool} {v : Nat} : ∀ m : Nat, m ≤ v → cnB (fun i => decide (i = v) || g i) m = cnB g m := fun m => by
  induction m with
  | zero => intro _; rfl
  | succ m ih =>
    intro h
    show cnB (fun i => decide (i = v) || g i) m + (if (decide (m = v) || g m) = true then 1 else 0) = cnB g m + (if g m = true then 1 else 0)
    rw [ih (by omega), decide_eq_false (show ¬ m = v by omega), Bool.false_or]
theorem cnB_n {g : Nat → Bool} {v : Nat} (hv : g v = false) : ∀ m : Nat, v < m → cnB (fun i => decide (i = v) || g i) m = cnB g m + 1 := fun m => by
  induction m with
  | zero => intro h; exact absurd h (Nat.not_lt_zero _)
  | succ m ih =>
    intro h
    show cnB (fun i => decide (i = v) || g i) m + (if (decide (m = v) || g m) = true then 1 else 0) = cnB g m + (if g m = true then 1 else 0) + 1
    by_cases z : m = v
    · subst z
      rw [cnB_o m (Nat.le_refl _), decide_eq_true rfl, Bool.true_or, if_pos rfl, hv, if_neg (by decide)]
    · rw [ih (by omega), decide_eq_false z, Bool.false_or]
      omega
theorem nmd_e {X Y : Nat → Nat} : ∀ m : Nat, (∀ k : Nat, k < m → Y k = X k) → nmd Y m = nmd X m := fun m => by
  induction m with
  | zero => intro _; rfl
  | succ m ih =>
    intro h
    show nmd Y m + (if Y m / 131072 < 2 then 1 else 0) = nmd X m + (if X m / 131072 < 2 then 1 else 0)
    rw [ih (fun k hk => h k (by omega)), h m (by omega)]
theorem NLB_m {c X : Nat → Nat} {nL p p' : Nat} (h : NLB c X nL p) (hp : p ≤ p') : NLB c X nL p' := by
  obtain ⟨g, a1, a2⟩ := h
  exact ⟨g, a1, by omega⟩
theorem NLB_l {c X : Nat → Nat} {nL p : Nat} (h : NLB c X nL p) : 3 * nmd X nL ≤ p + 127 := by
  obtain ⟨g, a1, a2⟩ := h
  have := cnB_l g 127
  omega
theorem NLB_o {c X : Nat → Nat} {nL p p2 w : Nat} (h : NLB c X nL p) (hw : 2 ≤ w / 131072) (hp : p ≤ p2) : NLB c (nwF X nL w) (nL + 1) p2 := by
  obtain ⟨g, a1, a2⟩ := h
  refine ⟨g, fun v hv => ?_, ?_⟩
  · obtain ⟨k, b1, b2⟩ := a1 v hv
    exact ⟨k, by omega, by rw [nw_2 b1]; exact b2⟩
  · show 3 * (nmd (nwF X nL w) nL + (if nwF X nL w nL / 131072 < 2 then 1 else 0)) ≤ p2 + cnB g 127
    rw [nmd_e (X := X) nL (fun k hk => nw_2 hk), nw_1, if_neg (by omega)]
    omega
theorem aP_127 {x : Nat} (h : aP x = true) : x < 127 := by
  simp only [aP, aD, aL, Bool.or_eq_true, Bool.and_eq_true, decide_eq_true_eq] at h
  omega
theorem NLB_w {c X : Nat → Nat} {nL p p2 w q l : Nat} (h : NLB c X nL p) (hw : w / 131072 < 2) (hwq : w % 131072 = q) (hl : 1 ≤ l) (hq : p ≤ q) (hp : q + l + 1 ≤ p2) (hz : aP (c (q + l)) = false) (ha : aP (c q) = true) (hr : ¬ reS l (c q) (c (q + 1)) (c (q + 2)) (c (q + 3)) < 32) (hk : ¬ nmK c X nL q l < nL) : NLB c (nwF X nL w) (nL + 1) p2 := by
  obtain ⟨g, a1, a2⟩ := h
  have e : nmd (nwF X nL w) (nL + 1) = nmd X nL + 1 := by
    show nmd (nwF X nL w) nL + (if nwF X nL w nL / 131072 < 2 then 1 else 0) = _
    rw [nmd_e (X := X) nL (fun k hk => nw_2 hk), nw_1, if_pos hw]
  by_cases z : l = 1
  · subst z
    have hg : g (c q) = false := by
      cases hh : g (c q) with
      | false => rfl
      | true =>
        obtain ⟨k, b1, b2, b3, b4⟩ := a1 _ hh
        have hP : fiP c X q 1 k = true := by
          unfold fiP
          rw [decide_eq_true b2, Bool.true_and]
          refine alk_t.mpr ⟨fun t ht => ?_, b4⟩
          have : t = 0 := by omega
          subst this
          exact b3
        have hf := fN_le (fiP c X q 1) nL 0
        have : nmK c X nL q 1 = fN (fiP c X q 1) 0 nL := if_neg hr
        rw [this] at hk
        have := hf.2.2.2 k (by omega) (by omega)
        rw [this] at hP
        exact absurd hP (by decide)
    refine ⟨fun i => decide (i = c q) || g i, fun v hv => ?_, ?_⟩
    · by_cases y : v = c q
      · subst y
        exact ⟨nL, by omega, by rw [nw_1]; omega, by rw [nw_1, hwq], by rw [nw_1, hwq]; exact hz⟩
      · have hv' : g v = true := by
          have hv : (decide (v = c q) || g v) = true := hv
          rw [decide_eq_false y, Bool.false_or] at hv
          exact hv
        obtain ⟨k, b1, b2⟩ := a1 v hv'
        exact ⟨k, by omega, by rw [nw_2 b1]; exact b2⟩
    · rw [e, cnB_n hg 127 (aP_127 ha)]
      omega
  · refine ⟨g, fun v hv => ?_, ?_⟩
    · obtain ⟨k, b1, b2⟩ := a1 v hv
      exact ⟨k, by omega, by rw [nw_2 b1]; exact b2⟩
    · rw [e]
      omega
def TBJ (L : Nat) (c X : Nat → Nat) (nL : Nat) (W : Nat → Int32) (ns : Nat) (NM BK : Nat → Int32) (bs ws : Nat → Nat) (nl : Nat) (NR LB : Nat → Int32) (sc : Nat → Nat) (p : Nat) : Prop := HT L c ns NM BK bs ws ∧ NTB c X nL W ns NM bs ws ∧ IDX c X nL ns bs ws ∧ nl = lam X nL ∧ NRI c X nL NR LB ∧ LBI X nL LB sc ∧ (∀ k : Nat, k < nL → X k % 131072 < p ∧ X k < 5 * 131072 ∧ (3 ≤ X k / 131072 → X k % 131072 < L ∧ 48 ≤ c (X k % 131072))) ∧ (∀ i j : Nat, i < j → j < nL → X i % 131072 < X j % 131072) ∧ 2 * nL ≤ p ∧ (2 * ns ≤ p ∧ NLB c X nL p)
theorem TBJ_m {L : Nat} {c X : Nat → Nat} {nL : Nat} {W : Nat → Int32} {ns : Nat} {NM BK : Nat → Int32} {bs ws : Nat → Nat} {nl : Nat} {NR LB : Nat → Int32} {sc : Nat → Nat} {p p' : Nat} (h : TBJ L c X nL W ns NM BK bs ws nl NR LB sc p) (hp : p ≤ p') : TBJ L c X nL W ns NM BK bs ws nl NR LB sc p' := by
  obtain ⟨a1, a2, a3, a4, a5, a6, a7, a8, a9, a10⟩ := h
  exact ⟨a1, a2, a3, a4, a5, a6, fun k hk => ⟨by have := (a7 k hk).1; omega, (a7 k hk).2⟩, a8, by omega, ⟨by omega, NLB_m a10.2 hp⟩⟩
theorem lam_le (X : Nat → Nat) : ∀ k : Nat, lam X k ≤ k := fun k => by
  induction k with
  | zero => exact Nat.le_refl 0
  | succ k ih =>
    show lam X k + (if X k / 131072 = 2 then 0 else 1) ≤ k + 1
    split <;> omega
/-- places of entries, one more -/
theorem plc_n {c X : Nat → Nat} {L nL p w p2 : Nat} (a7 : ∀ k : Nat, k < nL → X k % 131072 < p ∧ X k < 5 * 131072 ∧ (3 ≤ X k / 131072 → X k % 131072 < L ∧ 48 ≤ c (X k % 131072))) (a8 : ∀ i j : Nat, i < j → j < nL → X i % 131072 < X j % 131072) (h1 : p ≤ w % 131072) (h2 : w % 131072 < p2) (h3 : w < 5 * 131072) (h4 : 3 ≤ w / 131072 → w % 131072 < L ∧ 48 ≤ c (w % 131072)) (hp : p ≤ p2) : (∀ k : Nat, k < nL + 1 → nwF X nL w k % 131072 < p2 ∧ nwF X nL w k < 5 * 131072 ∧ (3 ≤ nwF X nL w k / 131072 → nwF X nL w k % 131072 < L ∧ 48 ≤ c (nwF X nL w k % 131072))) ∧ (∀ i j : Nat, i < j → j < nL + 1 → nwF X nL w i % 131072 < nwF X nL w j % 131072) := by
  constructor
  · intro k hk
    by_cases z : k = nL
    · subst z; rw [nw_1]; exact ⟨h2, h3, h4⟩
    · rw [nw_2 (by omega)]
      have := a7 k (by omega)
      exact ⟨by omega, this.2⟩
  · intro i j hij hj
    by_cases z : j = nL
    · subst z
      rw [nw_1, nw_2 hij]
      have := (a7 i hij).1
      omega
    · rw [nw_2 (by omega), nw_2 (by omega)]
      exact a8 i j hij (by omega)
/-- a digit's label, in both tables -/
theorem TBJ_g {L : Nat} {c X : Nat → Nat} {nL : Nat} {B : St} {ns : Nat} {NM BK : Nat → Int32} {bs ws : Nat → Nat} {nl : Nat} {NR LB : Nat → Int32} {sc : Nat → Nat} {p : Nat} (h : TBJ L c X nL (sR B 7) ns NM BK bs ws nl NR LB sc p) {q p2 d se sn : Nat} (hq : p ≤ q) (hp2 : q + 2 ≤ p2) (hqL : q < L) (hL : L ≤ 32768) (hd : d ≤ 9) (hc : c q = 48 + d) (hse : se < 2) (w : Int32) (hnl : nl < 16384) : ∃ NR' LB' : Nat → Int32, TBJ L c (nwF X nL ((se + 3) * 131072 + q)) (nL + 1) (sR (dfB B nL w 0) 7) ns NM BK bs ws (nl + 1) NR' LB' (nwF sc nL sn) p2 ∧ ∀ (n : Nat) (B0 : St) (e cs tp st : Nat) (fx : Bool) (C A S : Nat → Int32) (ap kd fr : Nat) (nm : Int32), df_X9_addLabel n (nI sn) (nI se) (nI d) (uC (xC (bC B0 e nl NR LB) cs tp st ns fx C A S NM BK) ap kd fr nm) = some (nI nl, uC (xC (bC B0 e (nl + 1) NR' LB') cs tp st ns fx C A S NM BK) ap kd fr nm) := by
  obtain ⟨a1, a2, a3, a4, a5, a6, a7, a8, a9, a10⟩ := h
  have ew : ((se + 3) * 131072 + q) / 131072 = se + 3 := by omega
  have eq : ((se + 3) * 131072 + q) % 131072 = q := by omega
  have h3 : 3 ≤ ((se + 3) * 131072 + q) / 131072 := by omega
  obtain ⟨p1, p2'⟩ := plc_n (w := (se + 3) * 131072 + q) (p2 := p2) a7 a8 (by omega) (by omega) (by omega) (fun _ => by rw [eq]; exact ⟨hqL, by omega⟩) (by omega)
  have hW : ∀ k : Nat, k < nL → sR (dfB B nL w 0) 7 k = sR B 7 k := fun k hk => (up_n (by omega) : upd (sR B 7) nL 0 k = sR B 7 k)
  have n1 := NTB_g (Y := nwF X nL ((se + 3) * 131072 + q)) (W' := sR (dfB B nL w 0) 7) a2 (fun k hk => nw_2 hk) (by rw [nw_1]; exact h3) hW
  have n2 := IDX_g (Y := nwF X nL ((se + 3) * 131072 + q)) a3 (fun k hk => nw_2 hk) (by rw [nw_1]; exact h3)
  have n3 : nl + 1 = lam (nwF X nL ((se + 3) * 131072 + q)) (nL + 1) := by
    rw [lam_n1, if_neg (by omega), a4]
  obtain ⟨g1, g2⟩ := NRI_d a5 (w := (se + 3) * 131072 + q) (d0 := d) h3 hd (by rw [eq]; exact hc) (by omega) (nI sn) (nI se)
  rw [← a4] at g1 g2
  have lrw : ∀ i : Nat, i < 5 * lam X nL → ¬ i % 5 = 3 → lrow LB nl (nI sn) (nI se) 0 i = LB i := fun i hi _ => lrow_o (by omega)
  have lr := lrow_i (LB := LB) (nl := nl) (a := nI sn) (b := nI se) (d := 0)
  have e1 : nI se = nI (if ((se + 3) * 131072 + q) / 131072 = 1 ∨ ((se + 3) * 131072 + q) / 131072 = 4 then 1 else 0) := by
    rw [ew]
    have : se = 0 ∨ se = 1 := by omega
    rcases this with z | z <;> subst z <;> rfl
  have e4 : (0 : Int32) = nI (if ((se + 3) * 131072 + q) / 131072 < 2 then 1 else 0) := by
    rw [if_neg (by omega)]; rfl
  have hb := lmF_l (X := X) (fr_l false (dgP c X d) nL)
  obtain ⟨b1, _, _⟩ := a5 d hd
  by_cases z : NR (10 + d) = 0
  · refine ⟨upd (upd NR d (nI (nl + 1))) (10 + d) (nI (nl + 1)), lrow LB nl (nI sn) (nI se) 0, ⟨a1, n1, n2, n3, g1 z, LBI_l a6 (by omega) lrw (by rw [← a4]; exact lr.1) (by rw [← a4, ← e1]; exact lr.2.1) (by rw [← a4, ← e4]; exact lr.2.2.2), p1, p2', by omega, ⟨by omega, NLB_o a10.2 (by omega) (by omega)⟩⟩, fun n B0 e cs tp st fx C A S ap kd fr nm => (adl_d hnl (nI sn) (nI se) d hd).1 z⟩
  · obtain ⟨j, hj⟩ : ∃ j : Nat, lmF X (frF false (dgP c X d) nL) = j + 1 := by
      cases hh : lmF X (frF false (dgP c X d) nL) with
      | zero => rw [b1, hh] at z; exact absurd rfl z
      | succ j => exact ⟨j, rfl⟩
    have hz : NR (10 + d) = nI (j + 1) := by rw [b1, hj]
    obtain ⟨j1, j2⟩ := g2 j (by omega) hz
    refine ⟨upd NR (10 + d) (nI (nl + 1)), upd (lrow LB nl (nI sn) (nI se) 0) (5 * j + 3) (nI (nl + 1)), ⟨a1, n1, n2, n3, j2, LBI_l a6 (by omega) (fun i hi h5 => by rw [up_n (by omega)]; exact lrw i hi h5) (by rw [← a4, up_n (by omega)]; exact lr.1) (by rw [← a4, ← e1, up_n (by omega)]; exact lr.2.1) (by rw [← a4, ← e4, up_n (by omega)]; exact lr.2.2.2), p1, p2', by omega, ⟨by omega, NLB_o a10.2 (by omega) (by omega)⟩⟩, fun n B0 e cs tp st fx C A S ap kd fr nm => (adl_d hnl (nI sn) (nI se) d hd).2 j (by omega) hz⟩
/-- a label with a name, in both tables -/
theorem TBJ_w {L : Nat} {c X : Nat → Nat} {nL : Nat} {B : St} {ns : Nat} {NM BK : Nat → Int32} {bs ws : Nat → Nat} {nl : Nat} {NR LB : Nat → Int32} {sc : Nat → Nat} {p : Nat} (h : TBJ L c X nL (sR B 7) ns NM BK bs ws nl NR LB sc p) {ns' : Nat} {NM' BK' : Nat → Int32} {bs' ws' : Nat → Nat} (hH : HT L c ns' NM' BK' bs' ws') (hN : NTB c X nL (sR B 7) ns' NM' bs' ws') (hI : IDX c X nL ns' bs' ws') {q l p2 se sn id : Nat} (hq : p ≤ q) (hp2 : 1 ≤ l ∧ q + l + 1 ≤ p2) (hqL : q < 32768) (hse : se < 2) (hz : aP (c (q + l)) = false) (hr : ¬ reS l (c q) (c (q + 1)) (c (q + 2)) (c (q + 3)) < 32) (hk : ¬ nmK c X nL q l < nL) (hid : id < ns') (hs : sW c (bs' id) (ws' id) q l) (hns : ns' ≤ ns + 1) (w : Int32) : TBJ L c (nwF X nL (se * 131072 + q)) (nL + 1) (sR (dfB B nL w 0) 7) ns' (upd (upd NM' (5 * id + 2) 2) (5 * id + 3) (nI nl)) BK' bs' ws' (nl + 1) NR (lrow LB nl (nI sn) (nI se) 1) (nwF sc nL sn) p2 := by
  obtain ⟨a1, a2, a3, a4, a5, a6, a7, a8, a9, a10⟩ := h
  have ew : (se * 131072 + q) / 131072 = se := by omega
  have eq : (se * 131072 + q) % 131072 = q := by omega
  obtain ⟨p1, p2'⟩ := plc_n (w := se * 131072 + q) (p2 := p2) a7 a8 (by omega) (by omega) (by omega) (fun z => by omega) (by omega)
  have hW : ∀ k : Nat, k < nL → sR (dfB B nL w 0) 7 k = sR B 7 k := fun k hk => (up_n (by omega) : upd (sR B 7) nL 0 k = sR B 7 k)
  have lr := lrow_i (LB := LB) (nl := nl) (a := nI sn) (b := nI se) (d := 1)
  have haq : aP (c q) = true := by
    have h1 := hH.2.2.2.2 id hid 0 (by have := hs.1; omega)
    have h2 := hs.2 0 (by have := hs.1; omega)
    rw [h2] at h1
    exact h1
  refine ⟨HT_d hH id 2 (nI nl), NTB_d hN hH (q := q) (l := l) (κ := se) (fun k hk => nw_2 hk) nw_1 (by omega) (by omega) hW hz hr hk hid hs 2 (nI nl) (by rw [if_neg (by omega)]) (by rw [if_neg (by omega), a4]), IDX_d hI (q := q) (l := l) (κ := se) (fun k hk => nw_2 hk) nw_1 (by omega) hz hid hs, ?_, NRI_o a5 (by omega) (fun i hi => lrow_o (by omega)), LBI_l a6 (by omega) (fun i hi _ => lrow_o (by omega)) (by rw [← a4]; exact lr.1) ?_ ?_, p1, p2', by omega, ⟨by omega, NLB_w a10.2 (q := q) (l := l) (by omega) eq hp2.1 hq hp2.2 hz haq hr hk⟩⟩
  · rw [lam_n1, if_neg (by omega), a4]
  · rw [← a4, ew, lr.2.1]
    have : se = 0 ∨ se = 1 := by omega
    rcases this with z | z <;> subst z <;> rfl
  · rw [← a4, ew, lr.2.2.2, if_pos hse]; rfl

/-- a line's labels: how it may end -/
def LJF (e : Nat) (B : St) (ln : Nat) (rC : Option (Option Nat × (St × St))) (rR : Option (Int32 × St)) : Prop := ∃ (f : Nat) (Q' U' S' : St), 1 ≤ f ∧ f ≤ 15 ∧ rC = some (none, (Q', U')) ∧ sI Q' 2 = nI f ∧ sI Q' 3 = nI ln ∧ rR = some (0, S') ∧ FG e B (nI f + 16 * sI B 13) S'
def GRW (X : Nat → Nat) (nL : Nat) (W : Nat → Int32) (ns : Nat) (bs ws sc : Nat → Nat) (p sn : Nat) (X' : Nat → Nat) (nL' : Nat) (W' : Nat → Int32) (ns' : Nat) (bs' ws' sc' : Nat → Nat) : Prop := nL ≤ nL' ∧ (∀ k : Nat, k < nL → X' k = X k ∧ W' k = W k ∧ sc' k = sc k) ∧ (∀ k : Nat, nL ≤ k → k < nL' → sc' k = sn ∧ p ≤ X' k % 131072 ∧ ¬ X' k / 131072 = 2) ∧ ns ≤ ns' ∧ ∀ i : Nat, i < ns → bs' i = bs i ∧ ws' i = ws i
theorem GRW_r {X : Nat → Nat} {nL : Nat} {W : Nat → Int32} {ns : Nat} {bs ws sc : Nat → Nat} {p sn : Nat} : GRW X nL W ns bs ws sc p sn X nL W ns bs ws sc := ⟨Nat.le_refl _, fun _ _ => ⟨rfl, rfl, rfl⟩, fun k h1 h2 => by omega, Nat.le_refl _, fun _ _ => ⟨rfl, rfl⟩⟩
theorem GRW_t {X X1 X2 : Nat → Nat} {nL nL1 nL2 : Nat} {W W1 W2 : Nat → Int32} {ns ns1 ns2 : Nat} {bs ws sc bs1 ws1 sc1 bs2 ws2 sc2 : Nat → Nat} {p p1 sn : Nat} (h : GRW X nL W ns bs ws sc p sn X1 nL1 W1 ns1 bs1 ws1 sc1) (k : GRW X1 nL1 W1 ns1 bs1 ws1 sc1 p1 sn X2 nL2 W2 ns2 bs2 ws2 sc2) (hp : p ≤ p1) : GRW X nL W ns bs ws sc p sn X2 nL2 W2 ns2 bs2 ws2 sc2 := by
  obtain ⟨a1, a2, a3, a4, a5⟩ := h
  obtain ⟨b1, b2, b3, b4, b5⟩ := k
  refine ⟨by omega, fun j hj => ?_, fun j j1 j2 => ?_, by omega, fun i hi => ?_⟩
  · obtain ⟨x1, x2, x3⟩ := a2 j hj
    obtain ⟨y1, y2, y3⟩ := b2 j (by omega)
    exact ⟨y1.trans x1, y2.trans x2, y3.trans x3⟩
  · by_cases z : j < nL1
    · obtain ⟨x1, x2, x3⟩ := a3 j j1 z
      obtain ⟨y1, y2, y3⟩ := b2 j z
      rw [y1, y3]
      exact ⟨x1, x2, x3⟩
    · obtain ⟨x1, x2, x3⟩ := b3 j (by omega) j2
      exact ⟨x1, by omega, x3⟩
  · obtain ⟨x1, x2⟩ := a5 i hi
    obtain ⟨y1, y2⟩ := b5 i (by omega)
    exact ⟨y1.trans x1, y2.trans x2⟩
def LJG (n L e : Nat) (c : Nat → Nat) (B0 Bq : St) (sn lu ln se co : Nat) (od : Int32) (SW LW : Nat → Int32) (cs : Nat) (C A : Nat → Int32) (p : Nat) (X : Nat → Nat) (nL ns : Nat) (bs ws sc : Nat → Nat) (B : St) (ct : Nat) (gr : Bool) (PA BY OU : Nat → Int32) (rC : Option (Option Nat × (St × St))) (rR : Option (Int32 × St)) : Prop := ∃ (X' : Nat → Nat) (nL' : Nat) (B' : St) (ns' : Nat) (NM' BK' : Nat → Int32) (bs' ws' : Nat → Nat) (nl' : Nat) (NR' LB' : Nat → Int32) (sc' : Nat → Nat) (p2 tp st : Nat) (fx : Bool) (Sx : Nat → Int32), GRW X nL (sR B 7) ns bs ws sc p sn X' nL' (sR B' 7) ns' bs' ws' sc' ∧ TBJ L c X' nL' (sR B' 7) ns' NM' BK' bs' ws' nl' NR' LB' sc' p2 ∧ BG B B' ∧ RT0 n L e c (bC B0 e nl' NR' LB') B' X' nL' ∧ p ≤ p2 ∧ p2 ≤ e ∧
  ((∃ (p3 q3 : Nat) (x3 : Int32) (S' : St), p2 ≤ p3 ∧ p3 ≤ e ∧ rC = some (none, ((qC Bq sn lu 0 ln se od co SW LW), uC (xC (bC B0 e nl' NR' LB') cs tp st ns' fx C A Sx NM' BK') p3 0 q3 x3)) ∧ rR = some (0, S') ∧ SR B' ct gr PA BY OU 0 p3 S') ∨
   (∃ (p1 v0 : Nat) (x0 : Int32) (q1 p1' κ1 τ1 v1 : Nat) (x1 : Int32) (S' : St), TS n L e c (bC B0 e nl' NR' LB') p2 p2 p1 1 1 v0 x0 ∧ TS n L e c (bC B0 e nl' NR' LB') p1 q1 p1' κ1 τ1 v1 x1 ∧ rC = nd_b2 (df_X1_statementNamed n (nI p2) (nI (p1 - p2)) (-1) ((qC Bq sn lu 0 ln se od co SW LW), uC (xC (bC B0 e nl' NR' LB') cs tp st ns' fx C A Sx NM' BK') p1' κ1 q1 x1)) (fun (q31 : Option Nat) (s32 : St × St) => nd_m q31 (some (none, s32)) (fun (j34 : Nat) => some (some j34, s32))) ∧ rR = some (1, S') ∧ SR B' ct gr PA BY OU 0 p2 S'))
theorem isg_C {n L e : Nat} {c : Nat → Nat} {BC : St} {cs tp st ns : Nat} {fx : Bool} {C A S NM BK : Nat → Int32} {p q p' κ τ v : Nat} {x : Int32} (T : TS n L e c BC p q p' κ τ v x) : df_X9_isSign n 58 (uC (xC BC cs tp st ns fx C A S NM BK) p' κ q x) = some (bI (decide (τ = 58)), uC (xC BC cs tp st ns fx C A S NM BK) p' κ q x) := by
  rw [xs_1 (ts_0 T).2.1, show decide (κ = 5 ∧ x = 58) = decide (τ = 58) from decide_eq_decide.mpr (ts_sg T 58 (by decide))]
/-- the class: behind a word or a digit -/
theorem rl_107 {n L e : Nat} {c : Nat → Nat} {BC BR0 : St} (hT0 : atx n L e c BC BR0) {cs tp st ns : Nat} {fx : Bool} {C A S NM BK : Nat → Int32} {p q p' κ τ v : Nat} {x : Int32} (T : TS n L e c BC p q p' κ τ v x) (Q : St) (G : Int32 → St × St → Option (Option Nat × (St × St))) (w b l y : Int32) : ∃ (q2 p2 κ2 τ2 v2 : Nat) (x2 : Int32), TS n L e c BC p' q2 p2 κ2 τ2 v2 x2 ∧ df_X1_readLine_107 n G w b l y (Q, uC (xC BC cs tp st ns fx C A S NM BK) p' κ q x) = if τ2 = 58 then nd_b1 (df_X1_readLabel n b l y (Q, uC (xC BC cs tp st ns fx C A S NM BK) p2 κ2 q2 x2)) (fun (s24 : St × St) => nd_b1 (df_X9_next n s24.2) (fun (s27 : St) => G (w + Int32.ofInt (-1)) (s24.1, s27))) else nd_b2 (df_X1_statementNamed n b l y (Q, uC (xC BC cs tp st ns fx C A S NM BK) p2 κ2 q2 x2)) (fun (q31 : Option Nat) (s32 : St × St) => nd_m q31 (some (none, s32)) (fun (j34 : Nat) => some (some j34, s32))) := by
  obtain ⟨q2, p2, κ2, τ2, v2, x2, n1, n2⟩ := nx_1 hT0 (cs := cs) (tp := tp) (st := st) (ns := ns) (fx := fx) (C := C) (A := A) (S := S) (NM := NM) (BK := BK) p' κ q x (ts_le T).2.2 (fun i i1 i2 => T.2.1 i (by have := ts_le T; omega) i2)
  refine ⟨q2, p2, κ2, τ2, v2, x2, n2, ?_⟩
  unfold df_X1_readLine_107
  rw [show df_X9_next n (Q, uC (xC BC cs tp st ns fx C A S NM BK) p' κ q x).2 = _ from n1, nb_b1, nb_let]
  rw [show df_X9_isSign n 58 (Q, uC (xC BC cs tp st ns fx C A S NM BK) p2 κ2 q2 x2).2 = _ from isg_C n2, nb_b2, nb_let]
  by_cases z : τ2 = 58
  · rw [decide_eq_true z, if_neg (show ¬ bI true = 0 by decide), if_pos z]
    rfl
  · rw [decide_eq_false z, if_pos (show bI false = 0 from rfl), if_neg z]
/-- the class: its turn at a token -/
theorem rl_13 {n : Nat} (Q U : St) (hQ : sI Q 2 = 0) (G : Int32 → St × St → Option (Option Nat × (St × St))) (w : Nat) (hw : w < 2 ^ 31) {κ q p' : Nat} (h2 : sI U 2 = nI κ) (h3 : sI U 3 = nI q) (h0 : sI U 0 = nI p') (hqp : q ≤ p') (hp' : p' < 2 ^ 31) (hk : κ ≤ 6) : dF_X1_readLine_13 n G (nI w) (Q, U) = if κ = 0 then some (none, (Q, U)) else if κ = 1 then df_X1_readLine_107 n G (nI w) (nI q) (nI (p' - q)) (-1) (Q, U) else if κ = 2 ∧ p' = q + 1 then (if 0 ≤ sI U 4 then df_X1_readLine_107 n G (nI w) (nI q) (nI (p' - q)) (sI U 4) (Q, U) else nd_b1 (df_X1_blame n 1 (Q, U)) (fun (s37 : St × St) => some (none, s37))) else nd_b1 (df_X1_blame n 1 (Q, U)) (fun (s37 : St × St) => some (none, s37)) := by
  unfold dF_X1_readLine_13 df_X1_readLine_160 df_X1_readLine_86 df_X1_readLine_87
  rw [if_neg (show ¬ nI w < (0 : Int32) from znl (b := 0) (Nat.zero_le _) hw), if_pos (show sI (Q, U).1 2 = 0 from hQ)]
  by_cases k0 : κ = 0
  · rw [if_pos (show sI (Q, U).2 2 = 0 from by rw [show sI (Q, U).2 2 = nI κ from h2, k0]; rfl), if_pos k0]
  · rw [if_neg (show ¬ sI (Q, U).2 2 = 0 from by rw [show sI (Q, U).2 2 = nI κ from h2]; exact zne (b := 0) k0 (by omega) (by omega)), if_neg k0]
    rw [show sI (Q, U).2 2 = nI κ from h2, show sI (Q, U).2 3 = nI q from h3, show sI (Q, U).2 0 = nI p' from h0, nb_let, nb_let, pk_sub hqp, nb_let]
    by_cases k1 : κ = 1
    · subst k1
      rw [if_neg (show ¬ nI 1 = (2 : Int32) by decide), if_pos (show nI 1 = (1 : Int32) from rfl), if_pos rfl]
    · have n1 : ¬ nI κ = (1 : Int32) := zne (b := 1) k1 (by omega) (by omega)
      rw [if_neg k1]
      by_cases k2 : κ = 2
      · subst k2
        rw [if_pos (show nI 2 = (2 : Int32) from rfl)]
        by_cases k3 : p' = q + 1
        · rw [if_pos (show nI (p' - q) = (1 : Int32) from congrArg nI (show p' - q = 1 by omega)), if_neg n1, if_pos (show 2 = 2 ∧ p' = q + 1 from ⟨rfl, k3⟩)]
        · rw [if_neg (show ¬ nI (p' - q) = (1 : Int32) from zne (b := 1) (by omega) (by omega) (by omega)), if_neg n1, if_neg (show ¬ (0 : Int32) ≤ -1 by decide), if_neg (fun z => k3 z.2)]
      · rw [if_neg (show ¬ nI κ = (2 : Int32) from zne (b := 2) k2 (by omega) (by omega)), if_neg n1, if_neg (show ¬ (0 : Int32) ≤ -1 by decide), if_neg (fun z => k2 z.1)]
/-- the reference: its turn at a token (the name lb_0 stands elsewhere) -/
theorem lbz_0 {n : Nat} (G : St → Option (Int32 × St)) {S S1 : St} (h12 : sI S 12 = 0) (hs : df_X13_scan n S = some S1) {τ q p2 : Nat} (h8 : sI S1 8 = nI τ) (h9 : sI S1 9 = nI q) (h10 : sI S1 10 = nI p2) (hqp : q ≤ p2) (hp : p2 < 2 ^ 31) (ht : τ < 300) : dF_X13_labelled_0 n G S = if τ = 0 then some (0, S1) else if τ = 1 then df_X13_labelled_68 n G (nI q) (nI p2) 0 S1 else if τ = 2 ∧ p2 = q + 1 then df_X13_labelled_68 n G (nI q) (nI p2) 1 S1 else nd_b1 (df_X13_blame n 1 S1) (fun (s41 : St) => some (0, s41)) := by
  unfold dF_X13_labelled_0 df_X13_labelled_42 df_X13_labelled_43
  rw [if_pos h12, hs, nb_b1, h9, h10, h8, nb_let, nb_let, nb_let]
  by_cases k0 : τ = 0
  · subst k0
    rw [if_neg (show ¬ nI 0 = (2 : Int32) by decide), if_pos (show nI 0 = (0 : Int32) from rfl), if_pos rfl]
  · have n0 : ¬ nI τ = (0 : Int32) := zne (b := 0) k0 (by omega) (by omega)
    rw [if_neg k0]
    by_cases k1 : τ = 1
    · subst k1
      rw [if_neg (show ¬ nI 1 = (2 : Int32) by decide), if_neg n0, if_pos (show nI 1 = (1 : Int32) from rfl), if_pos rfl]
    · have n1 : ¬ nI τ = (1 : Int32) := zne (b := 1) k1 (by omega) (by omega)
      rw [if_neg k1]
      by_cases k2 : τ = 2
      · subst k2
        rw [if_pos (show nI 2 = (2 : Int32) from rfl)]
        by_cases k3 : p2 = q + 1
        · rw [if_pos (show nI p2 - nI q = (1 : Int32) from (pk_sub hqp).trans (congrArg nI (show p2 - q = 1 by omega))), if_neg n0, if_neg n1, if_neg (show ¬ (1 : Int32) = 0 by decide), if_pos (show 2 = 2 ∧ p2 = q + 1 from ⟨rfl, k3⟩)]
        · rw [if_neg (show ¬ nI p2 - nI q = (1 : Int32) from by rw [pk_sub hqp]; exact zne (b := 1) (by omega) (by omega) (by omega)), if_neg n0, if_neg n1, if_pos rfl, if_neg (fun z => k3 z.2)]
      · rw [if_neg (show ¬ nI τ = (2 : Int32) from zne (b := 2) k2 (by omega) (by omega)), if_neg n0, if_neg n1, if_pos rfl, if_neg (fun z => k2 z.1)]
theorem qle5 {n L e : Nat} {c : Nat → Nat} {BC B : St} (hT : atx n L e c BC B) {ct : Nat} {gr : Bool} {PA BY OU : Nat → Int32} {p : Nat} {S S1 : St} {ft : Int32} (h : SR B ct gr PA BY OU ft p S) {q p' κ τ v : Nat} {x : Int32} (T : TS n L e c BC p q p' κ τ v x) (hs : df_X13_scan n S = some S1) {p2 : Nat} (h10 : sI S1 10 = nI p2) (z : p2 < 2 ^ 31) : q ≤ p2 := by
  obtain ⟨hn, hL, heL, _⟩ := id hT
  obtain ⟨ms, dv, ls, sg, vl, PL, tk, fr, to, nm, rfl⟩ := h
  obtain ⟨t1, t2, t3, t4, t5, t6, t7, t8, t9⟩ := T
  obtain ⟨x2, p3, e1, e2, e3⟩ := t9 (xR (yR B ct gr PA BY OU) ft ms dv ls sg vl PL) hT tk fr to nm
  rw [e1] at hs
  have hs := Option.some.inj hs
  rw [← hs] at h10
  have h10 : nI p3 = nI p2 := h10
  have p3e : p3 ≤ e := by
    rcases e2 with u | u
    · omega
    · omega
  rw [nI_eq (by omega) (by omega)] at h10
  rcases e2 with u | u
  · omega
  · omega
theorem ts_k2 {n L e : Nat} {c : Nat → Nat} {BC : St} {p q p' κ τ v : Nat} {x : Int32} (T : TS n L e c BC p q p' κ τ v x) : κ = 2 ↔ τ = 2 := by
  obtain ⟨t1, t2, t3, t4, t5, t6, t7, t8, t9⟩ := T
  by_cases z : κ = 5
  · subst z
    have h5 := tk_5 t7
    constructor
    · intro w; omega
    · intro w; omega
  · exact (tk_n t7 z).2.2.1.symm
theorem lab_F {n g : Nat} {S : St} {ft : Int32} (hg : 0 < g) (h : sI S 12 = ft) (hf : ¬ ft = 0) : df_X13_labelled_0 n g S = some (0, S) := by
  obtain ⟨g, rfl⟩ : ∃ m : Nat, g = m + 1 := ⟨g - 1, by omega⟩
  show dF_X13_labelled_0 n (df_X13_labelled_0 n g) S = _
  unfold dF_X13_labelled_0
  rw [if_neg (show ¬ sI S 12 = 0 from fun w => hf (h.symm.trans w))]
theorem rl_F {n g : Nat} {w : Int32} {B : St} {sn lu ln se co : Nat} {od ft : Int32} {SW LW : Nat → Int32} {U : St} (hg : 0 < g) (hf : ¬ ft = 0) : df_X1_readLine_13 n g w (qC B sn lu ft ln se od co SW LW, U) = some (none, (qC B sn lu ft ln se od co SW LW, U)) := by
  obtain ⟨g, rfl⟩ : ∃ m : Nat, g = m + 1 := ⟨g - 1, by omega⟩
  show dF_X1_readLine_13 n (df_X1_readLine_13 n g) w _ = _
  unfold dF_X1_readLine_13 df_X1_readLine_160
  rw [if_neg (show ¬ sI (qC B sn lu ft ln se od co SW LW, U).1 2 = 0 from hf)]
  split <;> rfl
theorem w1_s {w : Nat} (h : 1 ≤ w) : nI w + Int32.ofInt (-1) = nI (w - 1) := by
  have e : nI w = nI (w - 1) + nI 1 := by rw [nI_add, show w - 1 + 1 = w by omega]
  rw [e, Int32.add_assoc, show nI 1 + Int32.ofInt (-1) = 0 by decide, Int32.add_zero]
theorem RT0_d {n L e : Nat} {c : Nat → Nat} {BC BC' B : St} {X : Nat → Nat} {nL w : Nat} {v : Int32} (hT : atx n L e c BC' B) (h : RT0 n L e c BC B X nL) (hL : nL < 16500) (hw : w < 2 ^ 20) : RT0 n L e c BC' (dfB B nL (nI w) v) (nwF X nL w) (nL + 1) := by
  obtain ⟨a1, a2, a3, a4⟩ := h
  refine ⟨hT, by omega, rfl, fun k hk => ?_⟩
  have e6 : sR (dfB B nL (nI w) v) 6 = upd (sR B 6) nL (nI w) := rfl
  rw [e6]
  by_cases z : k = nL
  · subst z
    rw [up_e, nw_1]; exact ⟨rfl, hw⟩
  · rw [up_n z, nw_2 (by omega)]
    exact a4 k (by omega)
theorem LJG_t {n L e : Nat} {c : Nat → Nat} {B0 Bq : St} {sn lu ln se co : Nat} {od : Int32} {SW LW : Nat → Int32} {cs : Nat} {C A : Nat → Int32} {p p1 : Nat} {X X1 : Nat → Nat} {nL nL1 ns ns1 : Nat} {bs ws sc bs1 ws1 sc1 : Nat → Nat} {B B1 : St} {ct : Nat} {gr : Bool} {PA BY OU : Nat → Int32} {rC : Option (Option Nat × (St × St))} {rR : Option (Int32 × St)} (h : LJG n L e c B0 Bq sn lu ln se co od SW LW cs C A p1 X1 nL1 ns1 bs1 ws1 sc1 B1 ct gr PA BY OU rC rR) (hg : GRW X nL (sR B 7) ns bs ws sc p sn X1 nL1 (sR B1 7) ns1 bs1 ws1 sc1) (hb : BG B B1) (hp : p ≤ p1) : LJG n L e c B0 Bq sn lu ln se co od SW LW cs C A p X nL ns bs ws sc B ct gr PA BY OU rC rR := by
  obtain ⟨X', nL', B', ns', NM', BK', bs', ws', nl', NR', LB', sc', p2, tp, st, fx, Sx, g1, g2, g3, g4, g5, g6, g7⟩ := h
  exact ⟨X', nL', B', ns', NM', BK', bs', ws', nl', NR', LB', sc', p2, tp, st, fx, Sx, GRW_t hg g1 hp, g2, BG_t hb g3, g4, by omega, g6, g7⟩
/-- the labels of a line, read by both -/
theorem lin_J {n L e : Nat} {c : Nat → Nat} {B0 Bq : St} {sn lu ln se co : Nat} {od : Int32} {SW LW : Nat → Int32} {cs : Nat} {C A : Nat → Int32} {ct : Nat} {gr : Bool} {PA BY OU : Nat → Int32} (hse : se < 2) (hsn : sn < 2 ^ 20) : ∀ (N p q p' κ τ v : Nat) (x : Int32) (w g g' : Nat) (X : Nat → Nat) (nL ns : Nat) (NM BK : Nat → Int32) (bs ws : Nat → Nat) (nl : Nat) (NR LB : Nat → Int32) (sc : Nat → Nat) (tp st : Nat) (fx : Bool) (Sx : Nat → Int32) (B S : St), e - p < N → N < g → N < g' → e - p ≤ w → w < 2 ^ 20 → TBJ L c X nL (sR B 7) ns NM BK bs ws nl NR LB sc p → TS n L e c (bC B0 e nl NR LB) p q p' κ τ v x → RT0 n L e c (bC B0 e nl NR LB) B X nL → sI B 14 = nI se → (∃ l : Nat, sI B 13 = nI l ∧ l ≤ 40000) → SR B ct gr PA BY OU 0 p S → LJF e B ln (df_X1_readLine_13 n g (nI w) ((qC Bq sn lu 0 ln se od co SW LW), (uC (xC (bC B0 e nl NR LB) cs tp st ns fx C A Sx NM BK) p' κ q x))) (df_X13_labelled_0 n g' S) ∨ LJG n L e c B0 Bq sn lu ln se co od SW LW cs C A p X nL ns bs ws sc B ct gr PA BY OU (df_X1_readLine_13 n g (nI w) ((qC Bq sn lu 0 ln se od co SW LW), (uC (xC (bC B0 e nl NR LB) cs tp st ns fx C A Sx NM BK) p' κ q x))) (df_X13_labelled_0 n g' S) := fun N => by
  induction N with
  | zero => intro p q p' κ τ v x w g g' X nL ns NM BK bs ws nl NR LB sc tp st fx Sx B S h; exact absurd h (Nat.not_lt_zero _)
  | succ N ih =>
    intro p q p' κ τ v x w g g' X nL ns NM BK bs ws nl NR LB sc tp st fx Sx B S hN hg hg' hw hw2 hJ T hR h14 hln h
    obtain ⟨g, rfl⟩ : ∃ m : Nat, g = m + 1 := ⟨g - 1, by omega⟩
    obtain ⟨g', rfl⟩ : ∃ m : Nat, g' = m + 1 := ⟨g' - 1, by omega⟩
    have hT0 := hR.1
    obtain ⟨hn, hL, heL, h127, hend, hce, hO, hst, htC, h0, htR, hch⟩ := id hT0
    obtain ⟨j1, j2, j3, j4, j5, j6, j7, j8, j9, j10⟩ := id hJ
    obtain ⟨kt0, k6, kt1, kt2⟩ := ts_0 T
    have hle := ts_le T
    have hlm := lam_le X nL
    obtain ⟨S1, p2r, s1, s2, s3, s4, s5, s6, s7, s8⟩ := scn_S hT0 h T
    have t300 := ts_300 T
    have qle : q ≤ p2r := qle5 hT0 h T s1 s5 (by omega)
    have eC : df_X1_readLine_13 n (g + 1) (nI w) ((qC Bq sn lu 0 ln se od co SW LW), (uC (xC (bC B0 e nl NR LB) cs tp st ns fx C A Sx NM BK) p' κ q x)) = _ := rl_13 (qC Bq sn lu 0 ln se od co SW LW) (uC (xC (bC B0 e nl NR LB) cs tp st ns fx C A Sx NM BK) p' κ q x) rfl (df_X1_readLine_13 n g) w (by omega) (κ := κ) (q := q) (p' := p') rfl rfl rfl hle.2.1 (by omega) k6
    have eR : df_X13_labelled_0 n (g' + 1) S = _ := lbz_0 (df_X13_labelled_0 n g') (SR_12 h) s1 s3 s4 s5 qle (by omega) t300
    rw [eC, eR]
    by_cases z0 : τ = 0
    · -- the end
      rw [if_pos (kt0.mpr z0), if_pos z0]
      right
      have zk := kt0.mpr z0
      have := s8 (by omega)
      subst this
      refine ⟨X, nL, B, ns, NM, BK, bs, ws, nl, NR, LB, sc, p, tp, st, fx, Sx, GRW_r, hJ, BG_r, hR, Nat.le_refl _, by omega, Or.inl ⟨p2r, q, x, S1, s6, s7, ?_, rfl, s2⟩⟩
      rw [zk]
    rw [if_neg (fun z => z0 (kt0.mp z)), if_neg z0]
    by_cases z1 : τ = 1
    · -- a word
      have zk := kt1.mpr z1
      subst z1
      subst zk
      have := s8 (by omega)
      subst this
      obtain ⟨w1, w2, _, _, _, w31⟩ := ts_w T rfl
      have ee := eT_1 c (show q ≤ e by omega)
      have hA : ∀ t : Nat, t < p2r - q → aP (c (q + t)) = true := fun t ht => ee.2.2.2 (q + t) (by omega) (by omega)
      have hqp : q < p2r := (T.2.2.2.2.2.1 (by omega)).2
      have hz : aP (c (q + (p2r - q))) = false := by
        rw [show q + (p2r - q) = p2r by omega]
        by_cases w : p2r < e
        · rw [w2]; exact ee.2.2.1 (by omega)
        · rw [show p2r = e by omega, hce]; decide
      rw [if_pos rfl, if_pos rfl]
      obtain ⟨q2, p2, κ2, τ2, v2, x2, T2, rl⟩ := rl_107 hT0 (cs := cs) (tp := tp) (st := st) (ns := ns) (fx := fx) (C := C) (A := A) (S := Sx) (NM := NM) (BK := BK) T (qC Bq sn lu 0 ln se od co SW LW) (df_X1_readLine_13 n g) (nI w) (nI q) (nI (p2r - q)) (-1)
      rw [rl]
      obtain ⟨S2, p3r, u1, u2, u3, u4, u5, u6, u7, u8⟩ := scn_S hT0 s2 T2
      have hle2 := ts_le T2
      by_cases z58 : τ2 = 58
      · -- a label
        have := u8 (by omega)
        subst this
        have hk2 : ¬ κ2 = 0 := fun w => by have := (ts_0 T2).1.mp w; omega
        have hp2 := (T2.2.2.2.2.2.1 hk2).2
        rw [if_pos z58]
        obtain ⟨id, ns1, NM1, BK1, bs1, ws1, n1, n2, n3, n4, n5, n6, n7, n8, n9, n10, n11⟩ := nmd_C hR (cs := cs) (tp := tp) (st := st) (fx := fx) (C := C) (A := A) (S := Sx) (ap := p3r) (kd := κ2) (fr := q2) (nm := x2) j1 j2 j3 (by omega) q (p2r - q) (by omega) (by omega) hA
        obtain ⟨g1, g2⟩ := nmd_R hR u2 q (p2r - q) (by omega) hA
        rw [show q + (p2r - q) = p2r by omega] at g1 g2
        have eL : df_X1_readLabel n (nI q) (nI (p2r - q)) (-1) ((qC Bq sn lu 0 ln se od co SW LW), (uC (xC (bC B0 e nl NR LB) cs tp st ns fx C A Sx NM BK) p3r κ2 q2 x2)) = (if 0 ≤ rI (reS (p2r - q) (c q) (c (q + 1)) (c (q + 2)) (c (q + 3))) then df_X1_readLabel_60 n ((qC Bq sn lu 0 ln se od co SW LW), (uC (xC (bC B0 e nl NR LB) cs tp st ns1 fx C A Sx NM1 BK1) p3r κ2 q2 x2)) else (if bI (decide (nmK c X nL q (p2r - q) < nL)) = 0 then (nd_b2 (df_X9_addLabel n (nI sn) (nI se) (-1) (uC (xC (bC B0 e nl NR LB) cs tp st ns1 fx C A Sx NM1 BK1) p3r κ2 q2 x2)) (fun (q20 : Int32) (s21 : St) => nd_b1 (df_X9_define n (nI id) 2 q20 s21) (fun (s25 : St) => some ((qC Bq sn lu 0 ln se od co SW LW), s25)))) else (df_X1_readLabel_60 n ((qC Bq sn lu 0 ln se od co SW LW), (uC (xC (bC B0 e nl NR LB) cs tp st ns1 fx C A Sx NM1 BK1) p3r κ2 q2 x2))))) := by
          unfold df_X1_readLabel df_X1_readLabel_0
          rw [if_pos (show (-1 : Int32) < 0 by decide)]
          rw [show df_X9_nameAt n (nI q) (nI (p2r - q)) ((qC Bq sn lu 0 ln se od co SW LW), (uC (xC (bC B0 e nl NR LB) cs tp st ns fx C A Sx NM BK) p3r κ2 q2 x2)).2 = _ from n1, nb_b2, nb_let]
          show nd_o (sO (uC (xC (bC B0 e nl NR LB) cs tp st ns1 fx C A Sx NM1 BK1) p3r κ2 q2 x2) 0) 8 (nd_b2 (df_X7_registerAt n (nI q) (nI (p2r - q)) (pR nd_st0 0 (sR (uC (xC (bC B0 e nl NR LB) cs tp st ns1 fx C A Sx NM1 BK1) p3r κ2 q2 x2) 7))) _) = _
          rw [n9, o8, n10, nb_b2]
          show nd_let ((qC Bq sn lu 0 ln se od co SW LW), pR (uC (xC (bC B0 e nl NR LB) cs tp st ns1 fx C A Sx NM1 BK1) p3r κ2 q2 x2) 7 (sR (pR nd_st0 0 (sR (uC (xC (bC B0 e nl NR LB) cs tp st ns1 fx C A Sx NM1 BK1) p3r κ2 q2 x2) 7)) 0)) _ = _
          rw [show pR (uC (xC (bC B0 e nl NR LB) cs tp st ns1 fx C A Sx NM1 BK1) p3r κ2 q2 x2) 7 (sR (pR nd_st0 0 (sR (uC (xC (bC B0 e nl NR LB) cs tp st ns1 fx C A Sx NM1 BK1) p3r κ2 q2 x2) 7)) 0) = (uC (xC (bC B0 e nl NR LB) cs tp st ns1 fx C A Sx NM1 BK1) p3r κ2 q2 x2) from nm_r0 _ 7, nb_let]
          show (if 0 ≤ _ then _ else nd_b2 (df_X9_isDefined n (nI id) (uC (xC (bC B0 e nl NR LB) cs tp st ns1 fx C A Sx NM1 BK1) p3r κ2 q2 x2)) _) = _
          rw [n11, nb_b2, nb_let]
          rfl
        have e60 : df_X1_readLabel_60 n ((qC Bq sn lu 0 ln se od co SW LW), (uC (xC (bC B0 e nl NR LB) cs tp st ns1 fx C A Sx NM1 BK1) p3r κ2 q2 x2)) = some (qC Bq sn lu (nI 4) ln se od co SW LW, (uC (xC (bC B0 e nl NR LB) cs tp st ns1 fx C A Sx NM1 BK1) p3r κ2 q2 x2)) := by
          unfold df_X1_readLabel_60
          rw [blm_C, nb_b1]
          rfl
        have eR2 : df_X13_labelled_68 n (df_X13_labelled_0 n g') (nI q) (nI p2r) 0 S1 = (if 0 ≤ rI (reS (p2r - q) (c q) (c (q + 1)) (c (q + 2)) (c (q + 3))) then df_X13_labelled_132 n (df_X13_labelled_0 n g') (nI q) (nI p2r) 0 S2 else (if (if fN (fiP c X q (p2r - q)) 0 nL < nL then nI (fN (fiP c X q (p2r - q)) 0 nL) else -1) < 0 then df_X13_labelled_137 n (df_X13_labelled_0 n g') (nI q) (nI p2r) 0 S2 else df_X13_labelled_132 n (df_X13_labelled_0 n g') (nI q) (nI p2r) 0 S2)) := by
          unfold df_X13_labelled_68
          rw [u1, nb_b1, if_pos (show sI S2 8 = 58 from by rw [u3, z58]; rfl), if_pos rfl, g1, nb_b2, g2, nb_b2]
        have e132 : ∃ S3 : St, df_X13_labelled_132 n (df_X13_labelled_0 n g') (nI q) (nI p2r) 0 S2 = some (0, S3) ∧ FL e B (nI 4 + 16 * sI B 13) S3 := by
          obtain ⟨S3, b1, b2⟩ := blm_S (n := n) u2 4
          have nz := flt_n (B := B) hln 4 (by decide)
          refine ⟨S3, ?_, SR_FL b2 u7⟩
          unfold df_X13_labelled_132
          rw [b1, nb_b1]
          unfold df_X13_labelled_137 df_X13_labelled_166
          rw [if_neg (show ¬ sI S3 12 = 0 from fun w9 => nz ((SR_12 b2).symm.trans w9))]
          exact lab_F (by omega) (SR_12 b2) nz
        have bad : 0 ≤ rI (reS (p2r - q) (c q) (c (q + 1)) (c (q + 2)) (c (q + 3))) ∨ nmK c X nL q (p2r - q) < nL → LJF e B ln (nd_b1 (df_X1_readLabel n (nI q) (nI (p2r - q)) (-1) ((qC Bq sn lu 0 ln se od co SW LW), (uC (xC (bC B0 e nl NR LB) cs tp st ns fx C A Sx NM BK) p3r κ2 q2 x2))) (fun (s24 : St × St) => nd_b1 (df_X9_next n s24.2) (fun (s27 : St) => df_X1_readLine_13 n g (nI w + Int32.ofInt (-1)) (s24.1, s27)))) (df_X13_labelled_68 n (df_X13_labelled_0 n g') (nI q) (nI p2r) 0 S1) := fun hb => by
          obtain ⟨S3, b1, b2⟩ := e132
          obtain ⟨q3, p3, κ3, τ3, v3, x3, m1, m2⟩ := nx_1 hT0 (cs := cs) (tp := tp) (st := st) (ns := ns1) (fx := fx) (C := C) (A := A) (S := Sx) (NM := NM1) (BK := BK1) p3r κ2 q2 x2 (by omega) (fun i i1 i2 => T.2.1 i (by omega) i2)
          have cl : df_X1_readLabel n (nI q) (nI (p2r - q)) (-1) ((qC Bq sn lu 0 ln se od co SW LW), (uC (xC (bC B0 e nl NR LB) cs tp st ns fx C A Sx NM BK) p3r κ2 q2 x2)) = some (qC Bq sn lu (nI 4) ln se od co SW LW, (uC (xC (bC B0 e nl NR LB) cs tp st ns1 fx C A Sx NM1 BK1) p3r κ2 q2 x2)) := by
            rw [eL]
            by_cases a : 0 ≤ rI (reS (p2r - q) (c q) (c (q + 1)) (c (q + 2)) (c (q + 3)))
            · rw [if_pos a, e60]
            · rw [if_neg a, decide_eq_true (hb.resolve_left a), if_neg (show ¬ bI true = 0 by decide), e60]
          refine ⟨4, qC Bq sn lu (nI 4) ln se od co SW LW, uC (xC (bC B0 e nl NR LB) cs tp st ns1 fx C A Sx NM1 BK1) p3 κ3 q3 x3, S3, by decide, by decide, ?_, rfl, rfl, ?_, ⟨B, b2, rfl, rfl, rfl, rfl⟩⟩
          · rw [cl, nb_b1]
            show nd_b1 (df_X9_next n (uC (xC (bC B0 e nl NR LB) cs tp st ns1 fx C A Sx NM1 BK1) p3r κ2 q2 x2)) _ = _
            rw [m1, nb_b1]
            exact rl_F (by omega) (by decide)
          · rw [eR2]
            by_cases a : 0 ≤ rI (reS (p2r - q) (c q) (c (q + 1)) (c (q + 2)) (c (q + 3)))
            · rw [if_pos a, b1]
            · have a2 := hb.resolve_left a
              rw [nmK_f (fun w9 => a (rI_n.mpr w9))] at a2
              have := hR.2.1
              rw [if_neg a, if_pos a2, if_neg (show ¬ nI _ < (0 : Int32) from znl (b := 0) (Nat.zero_le _) (by omega)), b1]
        by_cases hr : 0 ≤ rI (reS (p2r - q) (c q) (c (q + 1)) (c (q + 2)) (c (q + 3)))
        · exact Or.inl (bad (Or.inl hr))
        by_cases hk : nmK c X nL q (p2r - q) < nL
        · exact Or.inl (bad (Or.inr hk))
        have hr' : ¬ reS (p2r - q) (c q) (c (q + 1)) (c (q + 2)) (c (q + 3)) < 32 := fun w9 => hr (rI_n.mpr w9)
        have hk' : ¬ fN (fiP c X q (p2r - q)) 0 nL < nL := by rw [← nmK_f hr']; exact hk
        -- it is new
        obtain ⟨S3, d1, d2⟩ := def_S (n := n) u2 (nL := nL) hR.2.2.1 (by omega) (nI q) (nI p2r) (nI se) 0
        rw [or17 (by omega) (by omega)] at d2
        have hns1 := n2.1
        have nJ := TBJ_w hJ n2 n7 n8 (q := q) (l := p2r - q) (p2 := p3r) (se := se) (sn := sn) (id := id) hle.1 ⟨by omega, by omega⟩ (by omega) hse hz hr' hk n3 n4 n5 (nI (se * 131072 + q))
        have T3e := nx_1 (at_b hT0 (nl' := nl + 1) (NR' := NR) (LB' := lrow LB nl (nI sn) (nI se) 1)) (cs := cs) (tp := tp) (st := st) (ns := ns1) (fx := fx) (C := C) (A := A) (S := Sx) (NM := upd (upd NM1 (5 * id + 2) 2) (5 * id + 3) (nI nl)) (BK := BK1) p3r κ2 q2 x2 (by omega) (fun i i1 i2 => T.2.1 i (by omega) i2)
        obtain ⟨q3, p3, κ3, τ3, v3, x3, m1, T3⟩ := T3e
        have cl : nd_b1 (df_X1_readLabel n (nI q) (nI (p2r - q)) (-1) ((qC Bq sn lu 0 ln se od co SW LW), (uC (xC (bC B0 e nl NR LB) cs tp st ns fx C A Sx NM BK) p3r κ2 q2 x2))) (fun (s24 : St × St) => nd_b1 (df_X9_next n s24.2) (fun (s27 : St) => df_X1_readLine_13 n g (nI w + Int32.ofInt (-1)) (s24.1, s27))) = df_X1_readLine_13 n g (nI (w - 1)) ((qC Bq sn lu 0 ln se od co SW LW), uC (xC (bC B0 e (nl + 1) NR (lrow LB nl (nI sn) (nI se) 1)) cs tp st ns1 fx C A Sx (upd (upd NM1 (5 * id + 2) 2) (5 * id + 3) (nI nl)) BK1) p3 κ3 q3 x3) := by
          rw [eL, if_neg hr, decide_eq_false hk, if_pos (show bI false = 0 from rfl), adl_n (by omega), nb_b2, de_9 id 2 (nI nl) (by omega), nb_b1, nb_b1]
          show nd_b1 (df_X9_next n (uC (xC (bC B0 e (nl + 1) NR (lrow LB nl (nI sn) (nI se) 1)) cs tp st ns1 fx C A Sx (upd (upd NM1 (5 * id + 2) 2) (5 * id + 3) (nI nl)) BK1) p3r κ2 q2 x2)) _ = _
          rw [m1, nb_b1, w1_s (by omega)]
        have rl2 : df_X13_labelled_68 n (df_X13_labelled_0 n g') (nI q) (nI p2r) 0 S1 = df_X13_labelled_0 n g' S3 := by
          rw [eR2, if_neg hr, if_neg hk', if_pos (show (-1 : Int32) < 0 by decide)]
          unfold df_X13_labelled_137 df_X13_labelled_161 df_X13_labelled_166
          rw [if_pos (show sI S2 12 = 0 from SR_12 u2), if_pos rfl, show sI S2 14 + 0 = nI se from by rw [SR_14 u2, h14]; exact Int32.add_zero _, d1, nb_b1]
        rw [cl, rl2]
        have hR3 : RT0 n L e c (bC B0 e (nl + 1) NR (lrow LB nl (nI sn) (nI se) 1)) (dfB B nL (nI (se * 131072 + q)) 0) (nwF X nL (se * 131072 + q)) (nL + 1) := RT0_d (at_b hT0) hR (by omega) (by omega)
        rcases ih p3r q3 p3 κ3 τ3 v3 x3 (w - 1) g g' (nwF X nL (se * 131072 + q)) (nL + 1) ns1 (upd (upd NM1 (5 * id + 2) 2) (5 * id + 3) (nI nl)) BK1 bs1 ws1 (nl + 1) NR (lrow LB nl (nI sn) (nI se) 1) (nwF sc nL sn) tp st fx Sx (dfB B nL (nI (se * 131072 + q)) 0) S3 (by omega) (by omega) (by omega) (by omega) (by omega) nJ T3 hR3 h14 hln d2 with r | r
        · left
          obtain ⟨f, Q', U', S', i1, i2, i3, i4, i5, i6, B9, i7, i8, i9, i10, i11⟩ := r
          exact ⟨f, Q', U', S', i1, i2, i3, i4, i5, i6, B9, i7, i8, i9, i10, i11⟩
        · right
          refine LJG_t r ⟨Nat.le_succ _, fun k hk9 => ⟨nw_2 hk9, (up_n (by omega) : upd (sR B 7) nL 0 k = sR B 7 k), nw_2 hk9⟩, fun k k1 k2 => ?_, n6.1, fun i hi => ⟨(n6.2.1 i hi).1, (n6.2.1 i hi).2.1⟩⟩ BG_d (by omega)
          have : k = nL := by omega
          subst this
          rw [nw_1, nw_1]
          exact ⟨rfl, by omega, by omega⟩
      · -- the statement's name
        rw [if_neg z58]
        right
        have hz68 : df_X13_labelled_68 n (df_X13_labelled_0 n g') (nI q) (nI p2r) 0 S1 = some (1, pI S2 7 (nI q)) := by
          unfold df_X13_labelled_68 df_X13_labelled_91 df_X13_labelled_108
          rw [u1, nb_b1, if_neg (show ¬ sI S2 8 = 58 from by rw [u3]; exact zne (b := 58) z58 (by have := ts_300 T2; omega) (by omega)), if_pos rfl, nb_let, if_pos (show sI (pI S2 7 (nI q)) 12 = 0 from SR_12 (SR_w7 u2 q))]
          exact nar_z (by decide)
        obtain ⟨v0, x0, Tq⟩ := ts_q hT0 T
        refine ⟨X, nL, B, ns, NM, BK, bs, ws, nl, NR, LB, sc, q, tp, st, fx, Sx, GRW_r, TBJ_m hJ hle.1, BG_r, hR, hle.1, by omega, Or.inr ⟨p2r, v0, x0, q2, p2, κ2, τ2, v2, x2, pI S2 7 (nI q), Tq, T2, rfl, hz68, SR_w7 u2 q⟩⟩
    · have zk : ¬ κ = 1 := fun z => z1 (kt1.mp z)
      rw [if_neg zk, if_neg z1]
      by_cases z2 : τ = 2 ∧ p2r = q + 1
      · -- a digit
        obtain ⟨z2, zp⟩ := z2
        subst z2
        have := s8 (by omega)
        subst this
        have zk2 : κ = 2 := (ts_k2 T).mpr rfl
        subst zk2
        have hv := T.2.2.2.2.2.2.2.1 (Or.inl rfl)
        have hdg : aD (c q) = true ∧ v = c q - 48 := by
          have := T.2.2.2.2.2.2.1
          unfold tkK at this
          rcases this with y | y | y | y | y | y | y
          · omega
          · omega
          · exact y.2.2.2.2 zp
          · omega
          · omega
          · omega
          · omega
        have hd9 := aD_v.mp hdg.1
        have hvd : v ≤ 9 ∧ c q = 48 + v := by omega
        have hqe : q < e := (T.2.2.2.2.2.1 (by omega)).1
        have x4 : sI (uC (xC (bC B0 e nl NR LB) cs tp st ns fx C A Sx NM BK) p2r 2 q x) 4 = nI v := hv
        rw [if_pos (show 2 = 2 ∧ p2r = q + 1 from ⟨rfl, zp⟩), if_pos (show 2 = 2 ∧ p2r = q + 1 from ⟨rfl, zp⟩), x4, if_pos (show (0 : Int32) ≤ nI v from zle (a := 0) (Nat.zero_le _) (by omega))]
        obtain ⟨q2, p2, κ2, τ2, v2, x2, T2, rl⟩ := rl_107 hT0 (cs := cs) (tp := tp) (st := st) (ns := ns) (fx := fx) (C := C) (A := A) (S := Sx) (NM := NM) (BK := BK) T (qC Bq sn lu 0 ln se od co SW LW) (df_X1_readLine_13 n g) (nI w) (nI q) (nI (p2r - q)) (nI v)
        rw [rl]
        obtain ⟨S2, p3r, u1, u2, u3, u4, u5, u6, u7, u8⟩ := scn_S hT0 s2 T2
        have hle2 := ts_le T2
        by_cases z58 : τ2 = 58
        · have := u8 (by omega)
          subst this
          have hk2 : ¬ κ2 = 0 := fun w => by have := (ts_0 T2).1.mp w; omega
          have hp2 := (T2.2.2.2.2.2.1 hk2).2
          rw [if_pos z58]
          obtain ⟨S3, d1, d2⟩ := def_S (n := n) u2 (nL := nL) hR.2.2.1 (by omega) (nI q) (nI p2r) (nI (se + 3)) 0
          rw [or17 (by omega) (by omega)] at d2
          obtain ⟨NR', LB', nJ, eA⟩ := TBJ_g hJ (q := q) (p2 := p3r) (d := v) (se := se) (sn := sn) hle.1 (by omega) (by omega) hL hvd.1 hvd.2 hse (nI ((se + 3) * 131072 + q)) (by omega)
          obtain ⟨q3, p3, κ3, τ3, v3, x3, m1, T3⟩ := nx_1 (at_b hT0 (nl' := nl + 1) (NR' := NR') (LB' := LB')) (cs := cs) (tp := tp) (st := st) (ns := ns) (fx := fx) (C := C) (A := A) (S := Sx) (NM := NM) (BK := BK) p3r κ2 q2 x2 (by omega) (fun i i1 i2 => T.2.1 i (by omega) i2)
          have cl : nd_b1 (df_X1_readLabel n (nI q) (nI (p2r - q)) (nI v) ((qC Bq sn lu 0 ln se od co SW LW), (uC (xC (bC B0 e nl NR LB) cs tp st ns fx C A Sx NM BK) p3r κ2 q2 x2))) (fun (s24 : St × St) => nd_b1 (df_X9_next n s24.2) (fun (s27 : St) => df_X1_readLine_13 n g (nI w + Int32.ofInt (-1)) (s24.1, s27))) = df_X1_readLine_13 n g (nI (w - 1)) ((qC Bq sn lu 0 ln se od co SW LW), uC (xC (bC B0 e (nl + 1) NR' LB') cs tp st ns fx C A Sx NM BK) p3 κ3 q3 x3) := by
            unfold df_X1_readLabel df_X1_readLabel_0
            rw [if_neg (show ¬ nI v < (0 : Int32) from znl (b := 0) (Nat.zero_le _) (by omega))]
            rw [show df_X9_addLabel n (sI ((qC Bq sn lu 0 ln se od co SW LW), (uC (xC (bC B0 e nl NR LB) cs tp st ns fx C A Sx NM BK) p3r κ2 q2 x2)).1 0) (sI ((qC Bq sn lu 0 ln se od co SW LW), (uC (xC (bC B0 e nl NR LB) cs tp st ns fx C A Sx NM BK) p3r κ2 q2 x2)).1 4) (nI v) ((qC Bq sn lu 0 ln se od co SW LW), (uC (xC (bC B0 e nl NR LB) cs tp st ns fx C A Sx NM BK) p3r κ2 q2 x2)).2 = _ from eA n B0 e cs tp st fx C A Sx p3r κ2 q2 x2, nb_b2, nb_let, nb_b1]
            show nd_b1 (df_X9_next n (uC (xC (bC B0 e (nl + 1) NR' LB') cs tp st ns fx C A Sx NM BK) p3r κ2 q2 x2)) _ = _
            rw [m1, nb_b1, w1_s (by omega)]
          have rl2 : df_X13_labelled_68 n (df_X13_labelled_0 n g') (nI q) (nI p2r) 1 S1 = df_X13_labelled_0 n g' S3 := by
            unfold df_X13_labelled_68
            rw [u1, nb_b1, if_pos (show sI S2 8 = 58 from by rw [u3, z58]; rfl), if_neg (show ¬ (1 : Int32) = 0 by decide)]
            unfold df_X13_labelled_137 df_X13_labelled_161 df_X13_labelled_166
            rw [if_pos (show sI S2 12 = 0 from SR_12 u2), if_neg (show ¬ (1 : Int32) = 0 by decide), show sI S2 14 + 3 = nI (se + 3) from by rw [SR_14 u2, h14, show (3 : Int32) = nI 3 from rfl, nI_add], d1, nb_b1]
          rw [cl, rl2]
          have hR3 : RT0 n L e c (bC B0 e (nl + 1) NR' LB') (dfB B nL (nI ((se + 3) * 131072 + q)) 0) (nwF X nL ((se + 3) * 131072 + q)) (nL + 1) := RT0_d (at_b hT0) hR (by omega) (by omega)
          rcases ih p3r q3 p3 κ3 τ3 v3 x3 (w - 1) g g' (nwF X nL ((se + 3) * 131072 + q)) (nL + 1) ns NM BK bs ws (nl + 1) NR' LB' (nwF sc nL sn) tp st fx Sx (dfB B nL (nI ((se + 3) * 131072 + q)) 0) S3 (by omega) (by omega) (by omega) (by omega) (by omega) nJ T3 hR3 h14 hln d2 with r | r
          · left
            obtain ⟨f, Q', U', S', i1, i2, i3, i4, i5, i6, B9, i7, i8, i9, i10, i11⟩ := r
            exact ⟨f, Q', U', S', i1, i2, i3, i4, i5, i6, B9, i7, i8, i9, i10, i11⟩
          · right
            refine LJG_t r ⟨Nat.le_succ _, fun k hk9 => ⟨nw_2 hk9, (up_n (by omega) : upd (sR B 7) nL 0 k = sR B 7 k), nw_2 hk9⟩, fun k k1 k2 => ?_, Nat.le_refl _, fun i hi => ⟨rfl, rfl⟩⟩ BG_d (by omega)
            have : k = nL := by omega
            subst this
            rw [nw_1, nw_1]
            exact ⟨rfl, by omega, by omega⟩
        · left
          rw [if_neg z58]
          obtain ⟨S3, b1, b2⟩ := blm_S (n := n) u2 1
          have nz := flt_n (B := B) hln 1 (by decide)
          refine ⟨1, qC Bq sn lu (nI 1) ln se od co SW LW, uC (xC (bC B0 e nl NR LB) cs tp st ns fx C A Sx NM BK) p2 κ2 q2 x2, pI S3 7 (nI q), by decide, by decide, ?_, rfl, rfl, ?_, ⟨B, SR_FL (SR_w7 b2 q) (by omega), rfl, rfl, rfl, rfl⟩⟩
          · unfold df_X1_statementNamed df_X1_statementNamed_0
            rw [if_neg (show ¬ nI v < (0 : Int32) from znl (b := 0) (Nat.zero_le _) (by omega)), blm_C, nb_b1, nb_b2, nb_mN]
            rfl
          · unfold df_X13_labelled_68 df_X13_labelled_91 df_X13_labelled_108
            rw [u1, nb_b1, if_neg (show ¬ sI S2 8 = 58 from by rw [u3]; exact zne (b := 58) z58 (by have := ts_300 T2; omega) (by omega)), if_neg (show ¬ (1 : Int32) = 0 by decide), b1, nb_b1, nb_let, if_neg (show ¬ sI (pI S3 7 (nI q)) 12 = 0 from fun w9 => nz ((SR_12 (SR_w7 b2 q)).symm.trans w9))]
            exact nar_z (by decide)
      · -- no word and no digit
        left
        have zc : ¬ (κ = 2 ∧ p' = q + 1) := fun z => z2 (by
          have := (ts_k2 T).mp z.1
          exact ⟨this, by rw [s8 (by omega)]; exact z.2⟩)
        rw [if_neg zc, if_neg z2]
        obtain ⟨S3, b1, b2⟩ := blm_S (n := n) s2 1
        refine ⟨1, qC Bq sn lu (nI 1) ln se od co SW LW, (uC (xC (bC B0 e nl NR LB) cs tp st ns fx C A Sx NM BK) p' κ q x), S3, by decide, by decide, ?_, rfl, rfl, ?_, ⟨B, SR_FL b2 s7, rfl, rfl, rfl, rfl⟩⟩
        · rw [blm_C, nb_b1]
          rfl
        · rw [b1, nb_b1]

