/-- both read a statement: what is known before it -/
def JH (n L e : Nat) (c : Nat → Nat) (BC B : St) (sn lu ln se cs ns : Nat) (NM BK : Nat → Int32) (bs ws X : Nat → Nat) (nL cu : Nat) (PA BY : Nat → Int32) (q p1 y : Nat) (od : Int32) : Prop := RV n L e c BC B X nL cu ∧ cstS B ∧ HT L c ns NM BK bs ws ∧ NTB c X nL (sR B 7) ns NM bs ws ∧ IDX c X nL ns bs ws ∧ sI B 13 = nI ln ∧ sI B 14 = nI se ∧ se < 2 ∧ sn < 8194 ∧ cs ≤ p1 ∧ 2 * ns ≤ p1 ∧ lu ≤ p1 ∧ PA cu = nI ((4 * se) * 2 ^ 17 + q) ∧ BY cu = nI 0 ∧ y < 128 ∧ odK od ∧ (¬ od = 0 → shT (sgm y) = 9 ∨ shT (sgm y) = 10) ∧ NAr n L c q (p1 - q) y od ∧ (∃ (κ v1 : Nat) (x : Int32), TS n L e c BC q q p1 κ 1 v1 x) ∧ ks_n (ko_w y) ≤ p1 - q
/-- the same fault in both -/
def FG (e : Nat) (B : St) (ft : Int32) (S : St) : Prop := ∃ B' : St, FL e B' ft S ∧ sI B' 0 = sI B 0 ∧ sI B' 2 = sI B 2 ∧ sI B' 16 = sI B 16 ∧ sR B' 2 = sR B 2
def JF (n e : Nat) (B Q U S : St) (ln q y : Nat) : Prop := ∃ (f : Nat) (Q' U' S' : St), 1 ≤ f ∧ f ≤ 15 ∧ df_X1_readStatement n y (Q, U) = some (Q', U') ∧ sI Q' 2 = nI f ∧ sI Q' 3 = nI ln ∧ df_X13_statement n (nI q) 0 S = some S' ∧ FG e B (nI f + 16 * sI B 13) S'
/-- the class's reader, with what doesn't matter left open -/
def UC (BC : St) (cs ns : Nat) (C A NM BK : Nat → Int32) (ap : Nat) (U : St) : Prop := ∃ (BC' : St) (tp st : Nat) (fx : Bool) (S : Nat → Int32) (κ q : Nat) (x : Int32), (BC' = BC ∨ ∃ tr : Int32, BC' = pI BC 11 tr) ∧ U = uC (xC BC' cs tp st ns fx C A S NM BK) ap κ q x
def CDo (NR : Nat → Int32) (c : Nat → Nat) (e ns : Nat) (bs ws : Nat → Nat) (C A : Nat → Int32) (s0 : Nat) (ys : List (Nat × (Nat → Tp))) (s1 : Nat) : Prop := CDS NR c e ns bs ws C A s0 ys s1 ∧ ∀ y : Nat × (Nat → Tp), y ∈ ys → one y.2 y.1
/-- a statement's row in the class against what it is (D): fl flag and level in the reference, bb its bytes there -/
def DRW (NR : Nat → Int32) (c : Nat → Nat) (e ns : Nat) (bs ws : Nat → Nat) (C A LW : Nat → Int32) (s0 s1 u0 u1 : Nat) (le b cd lt : Int32) (fl : Nat) (bb : Int32) (D : Dt) : Prop :=
  (D.1 = 0 ∧ fl = 0 ∧ b = D.2.1 ∧ le = (if D.2.1 &&& 3 = 3 then nI 4 else nI 2) ∧ bb = le ∧ lt = nI D.2.2.1 ∧ (D.2.2.1 = 0 ∨ ltO D.2.2.1 = true) ∧ (¬ D.2.2.1 = 0 → cd = nI s0 ∧ CDo NR c e ns bs ws C A s0 D.2.2.2.1 s1 ∧ ∃ (m : Nat) (P : Nat → Tp), D.2.2.2.1 = [(m, P)])) ∨
  (D.1 = 1 ∧ fl = 8 ∧ (b = D.2.1 ∧ (b = 111 ∨ b = 239)) ∧ le = nI 2 ∧ lt = nI 0 ∧ cd = nI s0 ∧ CDo NR c e ns bs ws C A s0 D.2.2.2.1 s1 ∧ (∃ (m : Nat) (P : Nat → Tp), D.2.2.2.1 = [(m, P)]) ∧ ∃ k : Nat, k ≤ 8 ∧ bb = nI k) ∨
  (D.1 = 2 ∧ ((fl = 16 ∧ le = nI 2) ∨ (fl = 25 ∧ le = nI 4)) ∧ b = D.2.1 ∧ lt = nI 0 ∧ cd = nI s0 ∧ CDo NR c e ns bs ws C A s0 D.2.2.2.1 s1 ∧ (∃ (m : Nat) (P : Nat → Tp), D.2.2.2.1 = [(m, P)]) ∧ ∃ k : Nat, k ≤ 8 ∧ bb = nI k) ∨
  (D.1 = 3 ∧ fl = 0 ∧ b = D.2.1 ∧ le = nI 8 ∧ bb = le ∧ lt = nI 0 ∧ cd = nI s0 ∧ CDo NR c e ns bs ws C A s0 D.2.2.2.1 s1 ∧ ∃ (m : Nat) (P : Nat → Tp), D.2.2.2.1 = [(m, P)]) ∨
  (D.1 = 4 ∧ fl = 0 ∧ b = D.2.1 ∧ (∃ r : Nat, r < 32 ∧ b = nI r) ∧ le = nI (numB b cd).length ∧ bb = le ∧ lt = nI 0 ∧ D.2.2.2.2 = numB b cd) ∨
  (D.1 = 5 ∧ fl = 0 ∧ (D.2.2.1 = 1 ∨ D.2.2.1 = 2 ∨ D.2.2.1 = 4) ∧ b = nI D.2.2.1 ∧ le = nI (D.2.2.1 * D.2.2.2.1.length) ∧ bb = le ∧ lt = nI 0 ∧ cd = nI s0 ∧ CDo NR c e ns bs ws C A s0 D.2.2.2.1 s1 ∧ D.2.2.2.1.length ≤ 32768) ∨
  (D.1 = 6 ∧ fl = 0 ∧ le = nI D.2.2.2.2.length ∧ bb = le ∧ lt = nI 0 ∧ cd = nI u0 ∧ u0 + D.2.2.2.2.length = u1 ∧ ∀ i : Nat, i < D.2.2.2.2.length → LW (u0 + i) = btI (D.2.2.2.2.getD i 0)) ∨
  (D.1 = 7 ∧ fl = 0 ∧ (lt = nI 0 ∧ D.2.2.2.2 = []) ∧ ∃ k : Nat, k ≤ 32768 ∧ le = nI k ∧ bb = le) ∨
  (D.1 = 8 ∧ fl = 0 ∧ (lt = nI 0 ∧ D.2.2.2.2 = []) ∧ ∃ k : Nat, k ≤ 10 ∧ le = 0 ∧ b = (1 : Int32) <<< (nI k &&& 31) ∧ bb = -1 - nI k)
/-- both have read a statement that has a row in the class -/
def JG (n L e : Nat) (c : Nat → Nat) (BC B Bq U S : St) (sn lu ln se co : Nat) (od : Int32) (SW LW : Nat → Int32) (cs ns : Nat) (C A NM : Nat → Int32) (bs ws X : Nat → Nat) (nL cu : Nat) (PA BY OU : Nat → Int32) (q p1 y : Nat) : Prop := ∃ (D : Dt) (fl lw lv sz : Nat) (ba : Option Int32) (le b cd lt : Int32) (lu' : Nat) (LW' : Nat → Int32) (cs' ns' : Nat) (C' A' NM' BK' : Nat → Int32) (bs' ws' : Nat → Nat) (p2 ct' : Nat) (gr' : Bool) (BY' : Nat → Int32) (U' S2 : St),
  df_X1_readStatement n y (qC Bq sn lu 0 ln se od co SW LW, U) = some (qC Bq (sn + 1) lu' 0 ln se od co (rowU SW sn ln se le (nI D.1) b cd lt) LW', U') ∧ UC BC cs' ns' C' A' NM' BK' p2 U' ∧
  df_X13_statement n (nI q) 0 S = some S2 ∧ SR (pI B 15 0) ct' gr' (upd PA cu (nI ((4 * se + fl) * 2 ^ 17 + q))) BY' OU 0 p2 S2 ∧ p1 ≤ p2 ∧ p2 ≤ e ∧ q + 3 ≤ e ∧ PS ns NM bs ws ns' NM' bs' ws' ∧ HT L c ns' NM' BK' bs' ws' ∧ cs ≤ cs' ∧ cs' ≤ p2 + 1 ∧ 2 * ns' ≤ p2 + 1 ∧ lu ≤ lu' ∧ lu' ≤ p2 + 1 ∧ (∀ i : Nat, i < cs → C' i = C i ∧ A' i = A i) ∧ (∀ i : Nat, i < lu → LW' i = LW i) ∧ (∀ k : Nat, ¬ k = cu → BY' k = BY k) ∧ RFB n L e c BC q se lw lv sz ba X (sR B 7) nL D ∧ (∀ v : Int32, ba = some v → BY' cu = v ∧ ¬ v = 0) ∧ lw ≤ fl % 4 ∧ fl % 4 ≤ lv ∧ D.1 ≤ 8 ∧ (D.1 = 1 → lv = 1) ∧ (D.1 = 2 → lv = 2) ∧
  DRW (sR BC 5) c e ns' bs' ws' C' A' LW' cs cs' lu lu' le b cd lt fl (if BY' cu = 0 then nI ct' else BY' cu) D
/-- the end of a statement in both -/
theorem jfin {n L e : Nat} {c : Nat → Nat} {BC B : St} {q y : Nat} {Q U S S1 : St} {Bq : St} {sn lu ln se co : Nat} {od : Int32} {SW LW : Nat → Int32} {BC' : St} {cs tp st ns : Nat} {fx : Bool} {C A Sx NM BK : Nat → Int32} {p2 q2 p2' κ2 τ2 v2 : Nat} {x2 w : Int32} {ct : Nat} {gr : Bool} {PA BY OU : Nat → Int32} (hT : atx n L e c BC B) (hC : df_X1_readStatement n y (Q, U) = df_X1_readStatement_206 n (qC Bq sn lu 0 ln se od co SW LW, uC (xC BC' cs tp st ns fx C A Sx NM BK) p2' κ2 q2 x2)) (hR : df_X13_statement n (nI q) 0 S = df_X13_statement_326 n S1) (h : SR (pI (pI B 15 0) 14 w) ct gr PA BY OU 0 p2 S1) (T : TS n L e c BC p2 q2 p2' κ2 τ2 v2 x2) : JF n e B Q U S ln q y ∨ (τ2 = 0 ∧ df_X1_readStatement n y (Q, U) = some (qC Bq sn lu 0 ln se od co SW LW, uC (xC BC' cs tp st ns fx C A Sx NM BK) p2' κ2 q2 x2) ∧ ∃ S2 : St, df_X13_statement n (nI q) 0 S = some S2 ∧ SR (pI (pI B 15 0) 14 w) ct gr PA BY OU 0 p2' S2) := by
  obtain ⟨k0, k6, _, _⟩ := ts_0 T
  have hT' : atx n L e c BC (pI (pI B 15 0) 14 w) := hT
  obtain ⟨r0, r1⟩ := end_R hT' rfl h T
  by_cases z : τ2 = 0
  · right
    have zk := k0.mpr z
    obtain ⟨S2, a1, a2⟩ := r0 z
    refine ⟨z, ?_, S2, hR.trans a1, a2⟩
    rw [hC, end_C k6, if_pos zk]
  · left
    have zk : ¬ κ2 = 0 := fun w => z (k0.mp w)
    obtain ⟨S2, a1, a2⟩ := r1 z
    refine ⟨1, qC Bq sn lu (nI 1) ln se od co SW LW, uC (xC BC' cs tp st ns fx C A Sx NM BK) p2' κ2 q2 x2, S2, Nat.le_refl 1, by omega, ?_, rfl, rfl, hR.trans a1, ⟨_, a2, rfl, rfl, rfl, rfl⟩⟩
    rw [hC, end_C k6, if_neg zk]
theorem p14_s {B : St} {v : Int32} : pI (pI B 15 v) 14 (sI B 14) = pI B 15 v := pI_s (pI B 15 v) 14
theorem upd_s {f : Nat → Int32} {k : Nat} {v : Int32} (h : f k = v) : upd f k v = f := funext fun i => by
  show (if i = k then v else f i) = f i
  by_cases z : i = k
  · rw [if_pos z, z, h]
  · rw [if_neg z]
theorem one_R {n L e : Nat} {c : Nat → Nat} {BC B : St} {X : Nat → Nat} {nL cu st : Nat} (hV : RV n L e c BC B X nL cu) {PA : Nat → Int32} (hY : PY PA cu st) {p p2 m : Nat} {P : Nat → Tp} (R : RX n L e c BC p true p2 m P) : one P m ∧ p2 ≤ e := by
  have h : SR B 0 false PA PA PA 0 p (uR (xR (yR B 0 false PA PA PA) 0 false false false 0 0 PA) p 0 0 0 0) := ⟨false, false, false, 0, 0, PA, 0, 0, 0, 0, rfl⟩
  obtain ⟨w, S', ms, dv, a1, a2, a3, a4, a5, a6, a7⟩ := exp_y hV hY h R
  exact ⟨one_1 a6, a3⟩
theorem CDS_1 {NR : Nat → Int32} {c : Nat → Nat} {e : Nat} {C0 A0 : Nat → Int32} {s0 ns : Nat} {bs ws : Nat → Nat} {m : Nat} {P : Nat → Tp} {C A : Nat → Int32} (h : CR NR c e C0 A0 s0 ns bs ws m P C A) (h21 : C (s0 + m) = 21) (hm : 0 < m) : CDS NR c e ns bs ws C A s0 [(m, P)] (s0 + m + 1) := ⟨⟨fun _ _ => ⟨rfl, rfl⟩, h.2⟩, h21, hm, rfl⟩
theorem CDo_1 {NR : Nat → Int32} {c : Nat → Nat} {e : Nat} {C0 A0 : Nat → Int32} {s0 ns : Nat} {bs ws : Nat → Nat} {m : Nat} {P : Nat → Tp} {C A : Nat → Int32} (h : CR NR c e C0 A0 s0 ns bs ws m P C A) (h21 : C (s0 + m) = 21) (hm : 0 < m) (ho : one P m) : CDo NR c e ns bs ws C A s0 [(m, P)] (s0 + m + 1) := ⟨CDS_1 h h21 hm, fun y hy => by
  have : y = (m, P) := List.mem_singleton.mp hy
  rw [this]; exact ho⟩
/-- names of three letters, or more is behind them -/
theorem nm_3 : ∀ y : Fin 128, 3 ≤ ks_n (ko_w y.1) ∨ (ks_n (ko_w y.1) = 2 ∧ 97 ≤ (FRM y.1).headD 0) ∨ y.1 = 104 := by decide +kernel
theorem py_J {c : Nat → Nat} {PA : Nat → Int32} {cu se q : Nat} (h : PA cu = nI ((4 * se) * 2 ^ 17 + q)) (hs : se < 2) (hq : q < 131072) : PY PA cu q := ⟨(4 * se) * 2 ^ 17 + q, h, by omega, by omega⟩
theorem ts_le {n L e : Nat} {c : Nat → Nat} {BC : St} {p q p' κ τ v : Nat} {x : Int32} (T : TS n L e c BC p q p' κ τ v x) : p ≤ q ∧ q ≤ p' ∧ p' ≤ e := ⟨T.2.2.1, T.2.2.2.1, T.2.2.2.2.1⟩
theorem Tr_2 {n L e : Nat} {c : Nat → Nat} {BC : St} {l : Nat} {F : List Nat} (hl : 97 ≤ l) {p p2 : Nat} {rs : List Nat} {m : Nat} {P : Nat → Tp} (h : Tr n L e c BC (l :: F) p 0 p2 rs m P) : p + 1 ≤ e := by
  obtain ⟨q, p', κ, τ, v, x, T, h⟩ := h
  rw [if_neg (by omega), if_pos hl] at h
  have hg : tkG c τ q p' ≤ 32 := by
    rcases h with h | h | h
    · omega
    · omega
    · omega
  obtain ⟨k0, k6, _, _⟩ := ts_0 T
  have hk : ¬ κ = 0 := fun z => by
    have := k0.mp z
    unfold tkG at hg
    rw [if_pos (Or.inl this)] at hg
    omega
  have := T.2.2.2.2.2.1 hk
  have := T.2.2.1
  omega
