/-- the class's table of names -/
def sW (c : Nat → Nat) (b l b' l' : Nat) : Prop := l = l' ∧ ∀ t : Nat, t < l → c (b + t) = c (b' + t)
def hsF (c : Nat → Nat) (q : Nat) : Nat → Int32
  | 0 => 0
  | i + 1 => hsF c q i * 31 + nI (c (q + i))
def hkX (x : Int32) : Int32 := (x ^^^ (x >>> ((8 : Int32) &&& 31))) &&& 255
def hk (c : Nat → Nat) (q l : Nat) : Nat := (hkX (hsF c q l)).toNatClampNeg
theorem hk_1 (x : Int32) : hkX x = nI (hkX x).toNatClampNeg ∧ (hkX x).toNatClampNeg < 256 := by
  unfold hkX
  obtain ⟨A, hA, e⟩ := nI_ex (x ^^^ (x >>> ((8 : Int32) &&& 31)))
  rw [e, show (255 : Int32) = nI 255 from rfl, nm_m255 hA, nI_clamp (by omega)]
  exact ⟨rfl, by omega⟩
theorem hs_W {c : Nat → Nat} {b b' : Nat} : ∀ l : Nat, (∀ t : Nat, t < l → c (b + t) = c (b' + t)) → hsF c b l = hsF c b' l := fun l => by
  induction l with
  | zero => intro _; rfl
  | succ l ih =>
    intro h
    show hsF c b l * 31 + nI (c (b + l)) = hsF c b' l * 31 + nI (c (b' + l))
    rw [ih (fun t ht => h t (by omega)), h l (by omega)]
theorem hk_W {c : Nat → Nat} {b l b' l' : Nat} (h : sW c b l b' l') : hk c b l = hk c b' l' := by
  obtain ⟨e, h⟩ := h
  subst e
  unfold hk
  rw [hs_W l h]
def prv (H : Nat → Nat) (h : Nat) : Nat → Nat
  | 0 => 0
  | N + 1 => if H N = h then N + 1 else prv H h N
theorem prv_1 (H : Nat → Nat) (h : Nat) : ∀ N : Nat, prv H h N ≤ N ∧ (∀ j : Nat, prv H h N = j + 1 → H j = h ∧ j < N) ∧ ∀ i : Nat, prv H h N ≤ i → i < N → ¬ H i = h := fun N => by
  induction N with
  | zero => exact ⟨Nat.le_refl 0, fun j hj => absurd (show 0 = j + 1 from hj) (by omega), fun i _ hi => absurd hi (Nat.not_lt_zero i)⟩
  | succ N ih =>
    obtain ⟨a, b, d⟩ := ih
    by_cases y : H N = h
    · have e : prv H h (N + 1) = N + 1 := if_pos y
      rw [e]
      exact ⟨Nat.le_refl _, fun j hj => (show N = j by omega) ▸ ⟨y, by omega⟩, fun i h1 h2 => by omega⟩
    · have e : prv H h (N + 1) = prv H h N := if_neg y
      rw [e]
      refine ⟨by omega, fun j hj => ?_, fun i h1 h2 => ?_⟩
      · obtain ⟨u, v⟩ := b j hj
        exact ⟨u, by omega⟩
      · by_cases z : i = N
        · rw [z]; exact y
        · exact d i h1 (by omega)
theorem prv_c {H G : Nat → Nat} {h : Nat} : ∀ N : Nat, (∀ i : Nat, i < N → H i = G i) → prv H h N = prv G h N := fun N => by
  induction N with
  | zero => intro _; rfl
  | succ N ih =>
    intro z
    show (if H N = h then N + 1 else prv H h N) = if G N = h then N + 1 else prv G h N
    rw [z N (by omega), ih (fun i hi => z i (by omega))]
def HT (L : Nat) (c : Nat → Nat) (ns : Nat) (NM BK : Nat → Int32) (bs ws : Nat → Nat) : Prop := ns ≤ 16384 ∧ (∀ i : Nat, i < ns → NM (5 * i) = nI (bs i) ∧ NM (5 * i + 1) = nI (ws i) ∧ bs i + ws i ≤ L ∧ NM (5 * i + 4) = nI (prv (fun j => hk c (bs j) (ws j)) (hk c (bs i) (ws i)) i)) ∧ (∀ h : Nat, h < 256 → BK h = nI (prv (fun j => hk c (bs j) (ws j)) h ns)) ∧ (∀ i j : Nat, i < ns → j < ns → sW c (bs i) (ws i) (bs j) (ws j) → i = j) ∧ ∀ i : Nat, i < ns → ∀ t : Nat, t < ws i → aP (c (bs i + t)) = true
theorem o8S {α : Type} {x : Option α} {B : St} (h : sO B 0 = some 8) : nd_o (sO B 0) 8 x = x := by rw [h]; exact o8
theorem na_5 {n L : Nat} {c : Nat → Nat} {S : St} (hL : L ≤ 32768) (hO : sO S 0 = some 8) (hS : ∀ i : Nat, i < L → sR S 7 i = nI (c i)) (q l : Nat) (hq : q + l ≤ L) : ∀ j i g : Nat, i + j = l → j < g → df_X9_nameAt_5 n g (nI q) (nI l) (hsF c q i) (nI i) S = df_X9_nameAt_44 n (nI q) (nI l) (hsF c q l) S := fun j => by
  induction j with
  | zero =>
    intro i g h1 h2
    obtain ⟨g, rfl⟩ : ∃ m : Nat, g = m + 1 := ⟨g - 1, by omega⟩
    have h1 : i = l := by omega
    subst h1
    show dF_X9_nameAt_5 n (df_X9_nameAt_5 n g) (nI q) (nI i) (hsF c q i) (nI i) S = _
    unfold dF_X9_nameAt_5
    rw [if_pos (zle (Nat.le_refl i) (by omega))]
  | succ j ih =>
    intro i g h1 h2
    obtain ⟨g, rfl⟩ : ∃ m : Nat, g = m + 1 := ⟨g - 1, by omega⟩
    show dF_X9_nameAt_5 n (df_X9_nameAt_5 n g) (nI q) (nI l) (hsF c q i) (nI i) S = _
    unfold dF_X9_nameAt_5
    rw [if_neg (znle (show i < l by omega) (by omega)), o8S hO, nI_add, if_neg (show ¬ (32768 : Int32) ≤ nI (q + i) from znle (a := 32768) (by omega) (by omega)), o8S hO, nm_ck (by omega) (by omega), nI_clamp (by omega), hS _ (by omega), nb_let, nb_let, show nI i + Int32.ofInt 1 = nI (i + 1) from nI_add i 1]
    exact ih (i + 1) g (by omega) (by omega)
def eqW (c : Nat → Nat) (b q l i : Nat) : Bool := decide (∀ t : Nat, t < l → i ≤ t → c (b + t) = c (q + t))
theorem na_119 {n L : Nat} {c : Nat → Nat} {S : St} {G : Int32 → Int32 → Int32 → Int32 → Int32 → St → Option (Int32 × St)} (hL : L ≤ 32768) (h127 : ∀ i : Nat, c i < 127) (hO : sO S 0 = some 8) (hS : ∀ i : Nat, i < L → sR S 7 i = nI (c i)) (q l b : Nat) (hh id k : Int32) (hq : q + l ≤ L) : ∀ j i g : Nat, ∀ s : Bool, (s = true → b + l ≤ L) → i + j = l → j + 1 < g → df_X9_nameAt_119 n G g (nI q) (nI l) hh id k (nI b) (bI s) (nI i) S = df_X9_nameAt_165 n G (nI q) (nI l) hh id k (bI (s && eqW c b q l i)) S := fun j => by
  have off : ∀ (i g : Nat), 0 < g → df_X9_nameAt_119 n G g (nI q) (nI l) hh id k (nI b) (bI false) (nI i) S = df_X9_nameAt_165 n G (nI q) (nI l) hh id k (bI false) S := fun i g hg => by
    obtain ⟨g, rfl⟩ : ∃ m : Nat, g = m + 1 := ⟨g - 1, by omega⟩
    show dF_X9_nameAt_119 n G (df_X9_nameAt_119 n G g) (nI q) (nI l) hh id k (nI b) (bI false) (nI i) S = _
    unfold dF_X9_nameAt_119
    rw [if_pos (show bI false = 0 from rfl)]
  induction j with
  | zero =>
    intro i g s hs h1 h2
    cases s with
    | false => exact off i g (by omega)
    | true =>
      obtain ⟨g, rfl⟩ : ∃ m : Nat, g = m + 1 := ⟨g - 1, by omega⟩
      have h1 : i = l := by omega
      subst h1
      rw [show eqW c b q i i = true from decide_eq_true (fun t h3 h4 => by omega)]
      show dF_X9_nameAt_119 n G (df_X9_nameAt_119 n G g) (nI q) (nI i) hh id k (nI b) (bI true) (nI i) S = _
      unfold dF_X9_nameAt_119
      rw [if_neg (show ¬ bI true = 0 by decide), if_pos (zle (Nat.le_refl i) (by omega))]
      rfl
  | succ j ih =>
    intro i g s hs h1 h2
    cases s with
    | false => exact off i g (by omega)
    | true =>
      obtain ⟨g, rfl⟩ : ∃ m : Nat, g = m + 1 := ⟨g - 1, by omega⟩
      have hb := hs rfl
      have c1 := h127 (b + i)
      have c2 := h127 (q + i)
      show dF_X9_nameAt_119 n G (df_X9_nameAt_119 n G g) (nI q) (nI l) hh id k (nI b) (bI true) (nI i) S = _
      unfold dF_X9_nameAt_119
      rw [if_neg (show ¬ bI true = 0 by decide), if_neg (znle (show i < l by omega) (by omega)), o8S hO, nI_add, nm_ck (by omega) (by omega), o8S hO, nI_add, nm_ck (by omega) (by omega), nI_clamp (by omega), nI_clamp (by omega), hS _ (by omega), hS _ (by omega)]
      unfold df_X9_nameAt_157
      by_cases y : c (b + i) = c (q + i)
      · rw [if_pos (congrArg nI y), nb_let, show nI i + Int32.ofInt 1 = nI (i + 1) from nI_add i 1]
        have r := ih (i + 1) g true (fun _ => hb) (by omega) (by omega)
        refine Eq.trans r ?_
        rw [show eqW c b q l (i + 1) = eqW c b q l i from decide_eq_decide.mpr ⟨fun z t t1 t2 => by
          by_cases w : t = i
          · rw [w]; exact y
          · exact z t t1 (by omega), fun z t t1 t2 => z t t1 (by omega)⟩]
      · rw [if_neg (zne y (by omega) (by omega)), nb_let, show nI i + Int32.ofInt 1 = nI (i + 1) from nI_add i 1]
        refine Eq.trans (off (i + 1) g (by omega)) ?_
        rw [show eqW c b q l i = false from decide_eq_false (fun z => y (z i (by omega) (Nat.le_refl i)))]
        rfl
/-- along a chain -/
theorem na_71 {n L ns : Nat} {c : Nat → Nat} {S : St} {NM BK : Nat → Int32} {bs ws : Nat → Nat} (hn : 70000 < n) (hL : L ≤ 32768) (h127 : ∀ i : Nat, c i < 127) (hO : sO S 0 = some 8) (hS : ∀ i : Nat, i < L → sR S 7 i = nI (c i)) (hN : sR S 3 = NM) (hH : HT L c ns NM BK bs ws) (q l : Nat) (hq : q + l ≤ L) : ∀ N k g : Nat, N ≤ ns → N ≤ k → k < 2 ^ 20 → N < g → (∀ id : Nat, id < N → sW c (bs id) (ws id) q l → df_X9_nameAt_71 n g (nI q) (nI l) (nI (hk c q l)) (nI (prv (fun j => hk c (bs j) (ws j)) (hk c q l) N) - 1) (nI k) S = some (nI id, S)) ∧ ((∀ id : Nat, id < N → ¬ sW c (bs id) (ws id) q l) → df_X9_nameAt_71 n g (nI q) (nI l) (nI (hk c q l)) (nI (prv (fun j => hk c (bs j) (ws j)) (hk c q l) N) - 1) (nI k) S = df_X9_nameAt_194 n (nI q) (nI l) (nI (hk c q l)) S) := fun N => by
  obtain ⟨n1, H1, H2, H3, H4⟩ := id hH
  induction N using Nat.strongRecOn with
  | _ N ih =>
    intro k g a1 a2 a3 a4
    obtain ⟨g, rfl⟩ : ∃ m : Nat, g = m + 1 := ⟨g - 1, by omega⟩
    obtain ⟨p1, p2, p3⟩ := prv_1 (fun j => hk c (bs j) (ws j)) (hk c q l) N
    cases hj : prv (fun j => hk c (bs j) (ws j)) (hk c q l) N with
    | zero =>
      rw [hj] at p3
      constructor
      · intro id h1 h2
        exact absurd (hk_W h2) (p3 id (Nat.zero_le _) h1)
      · intro _
        show dF_X9_nameAt_71 n (df_X9_nameAt_71 n g) (nI q) (nI l) (nI (hk c q l)) (nI 0 - 1) (nI k) S = _
        unfold dF_X9_nameAt_71
        rw [if_pos (show nI 0 - 1 < (0 : Int32) by decide)]
        split <;> rfl
    | succ j =>
      obtain ⟨e1, e2⟩ := p2 j hj
      have e1 : hk c (bs j) (ws j) = hk c q l := e1
      obtain ⟨b1, b2, b3, b4⟩ := H1 j (by omega)
      have st : df_X9_nameAt_71 n (g + 1) (nI q) (nI l) (nI (hk c q l)) (nI (j + 1) - 1) (nI k) S = df_X9_nameAt_165 n (df_X9_nameAt_71 n g) (nI q) (nI l) (nI (hk c q l)) (nI j) (nI k) (bI (decide (ws j = l) && eqW c (bs j) q l 0)) S := by
        have r := na_119 (n := n) (G := df_X9_nameAt_71 n g) hL h127 hO hS q l (bs j) (nI (hk c q l)) (nI j) (nI k) hq l 0 n (decide (ws j = l)) (fun z => by have := of_decide_eq_true z; omega) (by omega) (by omega)
        rw [← r]
        show dF_X9_nameAt_71 n (df_X9_nameAt_71 n g) (nI q) (nI l) (nI (hk c q l)) (nI (j + 1) - 1) (nI k) S = _
        unfold dF_X9_nameAt_71
        rw [show nI (j + 1) - (1 : Int32) = nI j from pk_sub (b := 1) (by omega), if_neg (show ¬ nI k ≤ (0 : Int32) from znle (b := 0) (by omega) (by omega)), if_neg (show ¬ nI j < (0 : Int32) from znl (b := 0) (by omega) (by omega)), show nI j * (5 : Int32) = nI (5 * j) from (pk_mul j 5).trans (congrArg nI (Nat.mul_comm j 5)), show nI (5 * j) + (0 : Int32) = nI (5 * j) from nI_add (5 * j) 0, show nI (5 * j) + (1 : Int32) = nI (5 * j + 1) from nI_add (5 * j) 1, nm_ck (by omega) (by omega), nI_clamp (by omega), hN, b1, nb_let, nm_ck (by omega) (by omega), nI_clamp (by omega), b2]
        unfold df_X9_nameAt_114
        by_cases y : ws j = l
        · rw [if_pos (congrArg nI y), decide_eq_true y]; rfl
        · rw [if_neg (zne y (by omega) (by omega)), decide_eq_false y]; rfl
      rw [st]
      have q0 := (prv_1 (fun j => hk c (bs j) (ws j)) (hk c q l) j).1
      have go : (decide (ws j = l) && eqW c (bs j) q l 0) = false → df_X9_nameAt_165 n (df_X9_nameAt_71 n g) (nI q) (nI l) (nI (hk c q l)) (nI j) (nI k) (bI (decide (ws j = l) && eqW c (bs j) q l 0)) S = df_X9_nameAt_71 n g (nI q) (nI l) (nI (hk c q l)) (nI (prv (fun j => hk c (bs j) (ws j)) (hk c q l) j) - 1) (nI (k - 1)) S := fun z => by
        rw [z]
        unfold df_X9_nameAt_165
        rw [if_pos (show bI false = 0 from rfl), show nI j * (5 : Int32) = nI (5 * j) from (pk_mul j 5).trans (congrArg nI (Nat.mul_comm j 5)), show nI (5 * j) + (4 : Int32) = nI (5 * j + 4) from nI_add (5 * j) 4, nm_ck (by omega) (by omega), nI_clamp (by omega), hN, b4, e1, nb_let, nb_let, show nI k + Int32.ofInt (-1) = nI (k - 1) by rw [show Int32.ofInt (-1) = -nI 1 by decide, ← Int32.sub_eq_add_neg, pk_sub (by omega)]]
      by_cases y : sW c (bs j) (ws j) q l
      · obtain ⟨y1, y2⟩ := y
        have z : (decide (ws j = l) && eqW c (bs j) q l 0) = true := by
          rw [decide_eq_true y1, show eqW c (bs j) q l 0 = true from decide_eq_true (fun t t1 _ => y2 t (by omega))]; rfl
        rw [z]
        have hit : df_X9_nameAt_165 n (df_X9_nameAt_71 n g) (nI q) (nI l) (nI (hk c q l)) (nI j) (nI k) (bI true) S = some (nI j, S) := by
          unfold df_X9_nameAt_165
          rw [if_neg (show ¬ bI true = 0 by decide)]
        constructor
        · intro id h1 h2
          have : id = j := H3 id j (by omega) (by omega) ⟨h2.1.trans y1.symm, fun t ht => (h2.2 t ht).trans (y2 t (by have := h2.1; omega)).symm⟩
          rw [this]
          exact hit
        · intro h
          exact absurd ⟨y1, y2⟩ (h j (by omega))
      · have z : (decide (ws j = l) && eqW c (bs j) q l 0) = false := by
          by_cases y1 : ws j = l
          · rw [show eqW c (bs j) q l 0 = false from decide_eq_false (fun w => y ⟨y1, fun t ht => w t (by omega) (Nat.zero_le t)⟩), Bool.and_false]
          · rw [decide_eq_false y1, Bool.false_and]
        obtain ⟨i1, i2⟩ := ih j (by omega) (k - 1) g (by omega) (by omega) (by omega) (by omega)
        constructor
        · intro id h1 h2
          have lt : id < j := by
            refine Classical.byContradiction fun w => ?_
            by_cases v : id = j
            · rw [v] at h2; exact y h2
            · exact p3 id (by omega) h1 (hk_W h2)
          exact (go z).trans (i1 id lt h2)
        · intro h
          exact (go z).trans (i2 (fun id h1 => h id (by omega)))
def nwF (f : Nat → Nat) (n v : Nat) : Nat → Nat := fun i => if i = n then v else f i
theorem nw_1 {f : Nat → Nat} {n v : Nat} : nwF f n v n = v := if_pos rfl
theorem nw_2 {f : Nat → Nat} {n v i : Nat} (h : i < n) : nwF f n v i = f i := if_neg (by omega)
theorem up_e {f : Nat → Int32} {k : Nat} {v : Int32} : upd f k v k = v := if_pos rfl
theorem up_n {f : Nat → Int32} {k i : Nat} {v : Int32} (h : ¬ i = k) : upd f k v i = f i := if_neg h
def nmN (NM BK : Nat → Int32) (ns q l h : Nat) : Nat → Int32 := upd (upd (upd (upd NM (5 * ns) (nI q)) (5 * ns + 1) (nI l)) (5 * ns + 2) 0) (5 * ns + 4) (BK h)
theorem na_194 {n L e : Nat} {c : Nat → Nat} {B BR : St} {cs tp st ns : Nat} {fx : Bool} {C A S NM BK : Nat → Int32} {ap kd fr : Nat} {nm : Int32} (hns : ns < 16384) (q l h : Nat) (hh : h < 256) : df_X9_nameAt_194 n (nI q) (nI l) (nI h) (uC (xC B cs tp st ns fx C A S NM BK) ap kd fr nm) = some (nI ns, uC (xC B cs tp st (ns + 1) fx C A S (nmN NM BK ns q l h) (upd BK h (nI (ns + 1)))) ap kd fr nm) := by
  unfold df_X9_nameAt_194 df_X9_nameAt_214
  rw [xC_u8, if_neg (show ¬ (16384 : Int32) ≤ nI ns from znle (a := 16384) hns (by omega)), show nI ns + (1 : Int32) = nI (ns + 1) from nI_add ns 1, xC_w8, nb_let, xC_u8, show nI (ns + 1) - (1 : Int32) = nI ns from pk_sub (b := 1) (by omega), nb_let, show nI ns * (5 : Int32) = nI (5 * ns) from (pk_mul ns 5).trans (congrArg nI (Nat.mul_comm ns 5)), show nI (5 * ns) + (0 : Int32) = nI (5 * ns) from nI_add (5 * ns) 0, show nI (5 * ns) + (1 : Int32) = nI (5 * ns + 1) from nI_add (5 * ns) 1, show nI (5 * ns) + (2 : Int32) = nI (5 * ns + 2) from nI_add (5 * ns) 2, show nI (5 * ns) + (4 : Int32) = nI (5 * ns + 4) from nI_add (5 * ns) 4, nm_ck (by omega) (by omega), nI_clamp (by omega), uC_r, xC_r3, xC_y3, nb_let, nm_ck (by omega) (by omega), nI_clamp (by omega), uC_r, xC_r3, xC_y3, nb_let, nm_ck (by omega) (by omega), nI_clamp (by omega), uC_r, xC_r3, xC_y3, nb_let, nm_ck (by omega) (by omega), nm_ck (by omega) (by omega), nI_clamp (by omega), nI_clamp (by omega), uC_r, uC_r, xC_r3, xC_r4, xC_y3, nb_let, nm_ck (by omega) (by omega), uC_r, xC_r4, xC_y4, nb_let, show nI ns + (1 : Int32) = nI (ns + 1) from nI_add ns 1]
  rfl
theorem na_1 {n L e : Nat} {c : Nat → Nat} {B BR : St} {cs tp st ns : Nat} {fx : Bool} {C A S NM BK : Nat → Int32} {ap kd fr : Nat} {nm : Int32} {bs ws : Nat → Nat} (hT : atx n L e c B BR) (hH : HT L c ns NM BK bs ws) (hns : ns < 16384) (q l : Nat) (hq : q + l ≤ L) (hA : ∀ t : Nat, t < l → aP (c (q + t)) = true) : ∃ (id ns' : Nat) (NM' BK' : Nat → Int32) (bs' ws' : Nat → Nat), df_X9_nameAt n (nI q) (nI l) (uC (xC B cs tp st ns fx C A S NM BK) ap kd fr nm) = some (nI id, uC (xC B cs tp st ns' fx C A S NM' BK') ap kd fr nm) ∧ HT L c ns' NM' BK' bs' ws' ∧ id < ns' ∧ sW c (bs' id) (ws' id) q l ∧ ns ≤ ns' ∧ ns' ≤ ns + 1 ∧ (∀ i : Nat, i < ns → bs' i = bs i ∧ ws' i = ws i ∧ NM' (5 * i + 2) = NM (5 * i + 2) ∧ NM' (5 * i + 3) = NM (5 * i + 3)) ∧ (∀ i : Nat, ns ≤ i → i < ns' → NM' (5 * i + 2) = 0) := by
  obtain ⟨hn, hL, heL, h127, hend, hce, hO, h1, htC, h0, htR, hch⟩ := id hT
  obtain ⟨n1, H1, H2, H3, H4⟩ := id hH
  have k1 := hk_1 (hsF c q l)
  have k1a : hkX (hsF c q l) = nI (hk c q l) := k1.1
  have k1b : hk c q l < 256 := k1.2
  have hd : df_X9_nameAt n (nI q) (nI l) (uC (xC B cs tp st ns fx C A S NM BK) ap kd fr nm) = df_X9_nameAt_71 n n (nI q) (nI l) (nI (hk c q l)) (nI (prv (fun j => hk c (bs j) (ws j)) (hk c q l) ns) - 1) (nI ns) (uC (xC B cs tp st ns fx C A S NM BK) ap kd fr nm) := by
    refine Eq.trans (na_5 (n := n) (S := uC (xC B cs tp st ns fx C A S NM BK) ap kd fr nm) hL hO htC q l hq l 0 n (by omega) (by omega)) ?_
    unfold df_X9_nameAt_44
    rw [show (((hsF c q l) ^^^ ((hsF c q l : Int32) >>> ((8 : Int32) &&& 31))) &&& 255) = nI (hk c q l) from k1a, nb_let, nm_ck (by omega) (by omega), nI_clamp (by omega), uC_r, xC_r4, H2 _ k1b, nb_let, xC_u8, nb_let]
  obtain ⟨w1, w2⟩ := na_71 (S := uC (xC B cs tp st ns fx C A S NM BK) ap kd fr nm) hn hL h127 hO htC rfl hH q l hq ns ns n (Nat.le_refl _) (Nat.le_refl _) (by omega) (by omega)
  by_cases y : ∃ id : Nat, id < ns ∧ sW c (bs id) (ws id) q l
  · obtain ⟨id, y1, y2⟩ := y
    exact ⟨id, ns, NM, BK, bs, ws, hd.trans (w1 id y1 y2), hH, y1, y2, Nat.le_refl _, by omega, fun i hi => ⟨rfl, rfl, rfl, rfl⟩, fun i i1 i2 => by omega⟩
  · have nw : ∀ id : Nat, id < ns → ¬ sW c (bs id) (ws id) q l := fun id z1 z2 => y ⟨id, z1, z2⟩
    have r := na_194 (n := n) (L := L) (e := e) (c := c) (B := B) (BR := BR) (cs := cs) (tp := tp) (st := st) (fx := fx) (C := C) (A := A) (S := S) (NM := NM) (BK := BK) (ap := ap) (kd := kd) (fr := fr) (nm := nm) hns q l (hk c q l) k1b
    have nA : ∀ i : Nat, (¬ i = 5 * ns) → (¬ i = 5 * ns + 1) → (¬ i = 5 * ns + 2) → (¬ i = 5 * ns + 4) → nmN NM BK ns q l (hk c q l) i = NM i := fun i a b d f => by
      unfold nmN
      rw [up_n f, up_n d, up_n b, up_n a]
    refine ⟨ns, ns + 1, nmN NM BK ns q l (hk c q l), upd BK (hk c q l) (nI (ns + 1)), nwF bs ns q, nwF ws ns l, hd.trans ((w2 nw).trans r), ⟨by omega, fun i hi => ?_, fun h hh => ?_, fun i j hi hj hs => ?_, fun i hi t ht => ?_⟩, by omega, ?_, by omega, by omega, fun i hi => ⟨nw_2 hi, nw_2 hi, nA _ (by omega) (by omega) (by omega) (by omega), nA _ (by omega) (by omega) (by omega) (by omega)⟩, fun i i1 i2 => ?_⟩
    · by_cases z : i = ns
      · subst z
        rw [nw_1, nw_1]
        refine ⟨?_, ?_, hq, ?_⟩
        · unfold nmN
          rw [up_n (by omega), up_n (by omega), up_n (by omega), up_e]
        · unfold nmN
          rw [up_n (by omega), up_n (by omega), up_e]
        · unfold nmN
          rw [up_e, H2 _ k1b]
          congr 1
          exact prv_c i (fun j hj => by
            show hk c (bs j) (ws j) = hk c (nwF bs i q j) (nwF ws i l j)
            rw [nw_2 hj, nw_2 hj])
      · obtain ⟨b1, b2, b3, b4⟩ := H1 i (by omega)
        rw [nA _ (by omega) (by omega) (by omega) (by omega), nA _ (by omega) (by omega) (by omega) (by omega), nA _ (by omega) (by omega) (by omega) (by omega), nw_2 (by omega), nw_2 (by omega)]
        refine ⟨b1, b2, b3, b4.trans ?_⟩
        congr 1
        exact prv_c i (fun j hj => by
          show hk c (bs j) (ws j) = hk c (nwF bs ns q j) (nwF ws ns l j)
          rw [nw_2 (by omega), nw_2 (by omega)])
    · have pc : prv (fun j => hk c (nwF bs ns q j) (nwF ws ns l j)) h ns = prv (fun j => hk c (bs j) (ws j)) h ns := prv_c ns (fun j hj => by
          show hk c (nwF bs ns q j) (nwF ws ns l j) = hk c (bs j) (ws j)
          rw [nw_2 hj, nw_2 hj])
      have e0 : prv (fun j => hk c (nwF bs ns q j) (nwF ws ns l j)) h (ns + 1) = if hk c (nwF bs ns q ns) (nwF ws ns l ns) = h then ns + 1 else prv (fun j => hk c (nwF bs ns q j) (nwF ws ns l j)) h ns := rfl
      rw [e0, pc, nw_1, nw_1]
      by_cases z : hk c q l = h
      · rw [if_pos z, z, up_e]
      · rw [if_neg z, up_n (fun w => z w.symm)]
        exact H2 h hh
    · by_cases z1 : i = ns
      · by_cases z2 : j = ns
        · rw [z1, z2]
        · rw [z1, nw_1, nw_1, nw_2 (show j < ns by omega), nw_2 (show j < ns by omega)] at hs
          exact absurd ⟨hs.1.symm, fun t ht => (hs.2 t (by have := hs.1; omega)).symm⟩ (nw j (by omega))
      · rw [nw_2 (show i < ns by omega), nw_2 (show i < ns by omega)] at hs
        by_cases z2 : j = ns
        · rw [z2, nw_1, nw_1] at hs
          exact absurd hs (nw i (by omega))
        · rw [nw_2 (show j < ns by omega), nw_2 (show j < ns by omega)] at hs
          exact H3 i j (by omega) (by omega) hs
    · by_cases z : i = ns
      · subst z
        rw [nw_1] at ht ⊢
        exact hA t ht
      · rw [nw_2 (by omega)] at ht ⊢
        exact H4 i (by omega) t ht
    · rw [nw_1, nw_1]
      exact ⟨rfl, fun t _ => rfl⟩
    · have z : i = ns := by omega
      subst z
      unfold nmN
      rw [up_n (by omega), up_e]
