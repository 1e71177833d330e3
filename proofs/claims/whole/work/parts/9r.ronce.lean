/-! THE CLASS AGAINST THE REFERENCE: matches at once -/
def yj_cn (p : Nat → Bool) : Nat → Nat
  | 0 => 0
  | n + 1 => yj_cn p n + (if p n = true then 1 else 0)
theorem yj_cnE {p q : Nat → Bool} : ∀ {n : Nat}, (∀ i, i < n → p i = q i) → yj_cn p n = yj_cn q n
  | 0, _ => rfl
  | n + 1, h => by
    show yj_cn p n + (if p n = true then 1 else 0) = yj_cn q n + (if q n = true then 1 else 0)
    rw [h n (Nat.lt_succ_self _), yj_cnE (fun i hi => h i (by omega))]
theorem yj_cnL (p : Nat → Bool) : ∀ n : Nat, yj_cn p n ≤ n
  | 0 => Nat.le_refl _
  | n + 1 => by
    have := yj_cnL p n
    show yj_cn p n + (if p n = true then 1 else 0) ≤ n + 1
    split <;> omega
theorem yj_cn1 {p : Nat → Bool} : ∀ {n : Nat}, 0 < yj_cn p n → ∃ i, i < n ∧ p i = true
  | 0, h => absurd h (Nat.not_lt_zero _)
  | n + 1, h => by
    by_cases q : p n = true
    · exact ⟨n, by omega, q⟩
    · have h2 : 0 < yj_cn p n + (if p n = true then 1 else 0) := h
      rw [if_neg q] at h2
      obtain ⟨i, x, y⟩ := yj_cn1 (p := p) (n := n) (by omega)
      exact ⟨i, by omega, y⟩
/-- one fewer -/
def yj_mi (S : Nat → Bool) (a : Nat) (i : Nat) : Bool := S i && decide (i ≠ a)
theorem yj_miT {S : Nat → Bool} {a i : Nat} : yj_mi S a i = true ↔ S i = true ∧ i ≠ a := by
  unfold yj_mi; rw [Bool.and_eq_true, decide_eq_true_iff]
theorem yj_cnM (S : Nat → Bool) (a : Nat) : ∀ n : Nat, yj_cn (yj_mi S a) n + (if S a = true ∧ a < n then 1 else 0) = yj_cn S n
  | 0 => by
    show 0 + _ = 0
    rw [if_neg (by omega)]
  | n + 1 => by
    have ih := yj_cnM S a n
    show yj_cn (yj_mi S a) n + (if yj_mi S a n = true then 1 else 0) + _ = yj_cn S n + (if S n = true then 1 else 0)
    by_cases e : n = a
    · subst e
      rw [if_neg (show ¬ (S n = true ∧ n < n) from fun q => absurd q.2 (Nat.lt_irrefl _))] at ih
      rw [if_neg (show ¬ yj_mi S n n = true from fun q => (yj_miT.mp q).2 rfl)]
      by_cases g : S n = true
      · rw [if_pos g, if_pos ⟨g, Nat.lt_succ_self _⟩]; omega
      · rw [if_neg g, if_neg (fun q => g q.1)]; omega
    · by_cases g : S n = true
      · rw [if_pos g, if_pos (yj_miT.mpr ⟨g, e⟩)]
        by_cases k : S a = true ∧ a < n
        · rw [if_pos k] at ih; rw [if_pos ⟨k.1, by omega⟩]; omega
        · rw [if_neg k] at ih; rw [if_neg (fun q => k ⟨q.1, by omega⟩)]; omega
      · rw [if_neg g, if_neg (fun q => g (yj_miT.mp q).1)]
        by_cases k : S a = true ∧ a < n
        · rw [if_pos k] at ih; rw [if_pos ⟨k.1, by omega⟩]; omega
        · rw [if_neg k] at ih; rw [if_neg (fun q => k ⟨q.1, by omega⟩)]; omega
def yj_an (S J : Nat → Bool) (i : Nat) : Bool := S i && J i
theorem yj_anT {S J : Nat → Bool} {i : Nat} : yj_an S J i = true ↔ S i = true ∧ J i = true := by unfold yj_an; rw [Bool.and_eq_true]
theorem yj_anM (S J : Nat → Bool) (a : Nat) : yj_an (yj_mi S a) J = yj_mi (yj_an S J) a := by
  funext i
  show ((S i && decide (i ≠ a)) && J i) = ((S i && J i) && decide (i ≠ a))
  cases S i <;> cases J i <;> cases decide (i ≠ a) <;> rfl
def yj_rm (S : Nat → Bool) (x : Nat) : Nat → Bool := yj_mi (yj_mi (yj_mi S (x / 100)) (x / 10 % 10)) (x % 10)
theorem yj_rmT {S : Nat → Bool} {x i : Nat} : yj_rm S x i = true ↔ S i = true ∧ i ≠ x / 100 ∧ i ≠ x / 10 % 10 ∧ i ≠ x % 10 := by
  unfold yj_rm; rw [yj_miT, yj_miT, yj_miT]
  exact ⟨fun h => ⟨h.1.1.1, h.1.1.2, h.1.2, h.2⟩, fun h => ⟨⟨⟨h.1, h.2.1⟩, h.2.2.1⟩, h.2.2.2⟩⟩
theorem yj_rmC (S : Nat → Bool) (x y : Nat) : yj_rm (yj_rm S x) y = yj_rm (yj_rm S y) x := by
  funext i
  rw [Bool.eq_iff_iff, yj_rmT, yj_rmT, yj_rmT, yj_rmT]
  exact ⟨fun h => ⟨⟨h.1.1, h.2⟩, h.1.2⟩, fun h => ⟨⟨h.1.1, h.2⟩, h.1.2⟩⟩
/-- how many matches at most -/
def yj_cap (J S : Nat → Bool) : Nat := min (yj_cn (yj_an S J) 10) (yj_cn S 10 / 3)
def yj_mat (J S : Nat → Bool) (x : Nat) : Prop := x < 1000 ∧ x / 100 < x / 10 % 10 ∧ x % 10 ≠ x / 100 ∧ x % 10 ≠ x / 10 % 10 ∧ S (x / 100) = true ∧ S (x / 10 % 10) = true ∧ S (x % 10) = true ∧ J (x % 10) = true
def yj_b1 (v : Bool) : Nat := if v = true then 1 else 0
theorem yj_rm3 {J S : Nat → Bool} {a e u : Nat} (ha : a < 10) (he : e < 10) (hu : u < 10) (h1 : a ≠ e) (h2 : u ≠ a) (h3 : u ≠ e) (sa : S a = true) (se : S e = true) (su : S u = true) : yj_cn (yj_mi (yj_mi (yj_mi S a) e) u) 10 + 3 = yj_cn S 10 ∧ yj_cn (yj_an (yj_mi (yj_mi (yj_mi S a) e) u) J) 10 + yj_b1 (J a) + yj_b1 (J e) + yj_b1 (J u) = yj_cn (yj_an S J) 10 := by
  have c1 := yj_cnM S a 10
  have c2 := yj_cnM (yj_mi S a) e 10
  have c3 := yj_cnM (yj_mi (yj_mi S a) e) u 10
  rw [if_pos ⟨sa, ha⟩] at c1
  rw [if_pos ⟨yj_miT.mpr ⟨se, fun q => h1 q.symm⟩, he⟩] at c2
  rw [if_pos ⟨yj_miT.mpr ⟨yj_miT.mpr ⟨su, h2⟩, h3⟩, hu⟩] at c3
  refine ⟨by omega, ?_⟩
  rw [yj_anM, yj_anM, yj_anM]
  have d1 := yj_cnM (yj_an S J) a 10
  have d2 := yj_cnM (yj_mi (yj_an S J) a) e 10
  have d3 := yj_cnM (yj_mi (yj_mi (yj_an S J) a) e) u 10
  have k1 : (if yj_an S J a = true ∧ a < 10 then 1 else 0) = yj_b1 (J a) := by
    unfold yj_b1
    by_cases q : J a = true
    · rw [if_pos q, if_pos ⟨yj_anT.mpr ⟨sa, q⟩, ha⟩]
    · rw [if_neg q, if_neg (fun w => q (yj_anT.mp w.1).2)]
  have k2 : (if yj_mi (yj_an S J) a e = true ∧ e < 10 then 1 else 0) = yj_b1 (J e) := by
    unfold yj_b1
    by_cases q : J e = true
    · rw [if_pos q, if_pos ⟨yj_miT.mpr ⟨yj_anT.mpr ⟨se, q⟩, fun z => h1 z.symm⟩, he⟩]
    · rw [if_neg q, if_neg (fun w => q (yj_anT.mp (yj_miT.mp w.1).1).2)]
  have k3 : (if yj_mi (yj_mi (yj_an S J) a) e u = true ∧ u < 10 then 1 else 0) = yj_b1 (J u) := by
    unfold yj_b1
    by_cases q : J u = true
    · rw [if_pos q, if_pos ⟨yj_miT.mpr ⟨yj_miT.mpr ⟨yj_anT.mpr ⟨su, q⟩, h2⟩, h3⟩, hu⟩]
    · rw [if_neg q, if_neg (fun w => q (yj_anT.mp (yj_miT.mp (yj_miT.mp w.1).1).1).2)]
  rw [k1] at d1
  rw [k2] at d2
  rw [k3] at d3
  omega
theorem yj_capM {J S : Nat → Bool} {x : Nat} (h : yj_mat J S x) : yj_cap J (yj_rm S x) + 1 ≤ yj_cap J S := by
  obtain ⟨h0, h1, h2, h3, h4, h5, h6, h7⟩ := h
  obtain ⟨c, d⟩ := yj_rm3 (J := J) (S := S) (a := x / 100) (e := x / 10 % 10) (u := x % 10) (by omega) (by omega) (by omega) (by omega) h2 h3 h4 h5 h6
  have e : yj_b1 (J (x % 10)) = 1 := by unfold yj_b1; rw [if_pos h7]
  unfold yj_cap yj_rm
  omega
theorem yj_put3 {J S : Nat → Bool} {a e u : Nat} (ha : a < 10) (he : e < 10) (hu : u < 10) (h1 : a ≠ e) (h2 : u ≠ a) (h3 : u ≠ e) (sa : S a = true) (se : S e = true) (su : S u = true) (ju : J u = true) : ∃ x, yj_mat J S x ∧ yj_cn (yj_rm S x) 10 + 3 = yj_cn S 10 ∧ yj_cn (yj_an (yj_rm S x) J) 10 + yj_b1 (J a) + yj_b1 (J e) + 1 = yj_cn (yj_an S J) 10 := by
  have eu : yj_b1 (J u) = 1 := by unfold yj_b1; rw [if_pos ju]
  have key : ∀ a e : Nat, a < 10 → e < 10 → a < e → u ≠ a → u ≠ e → S a = true → S e = true → ∃ x, yj_mat J S x ∧ yj_cn (yj_rm S x) 10 + 3 = yj_cn S 10 ∧ yj_cn (yj_an (yj_rm S x) J) 10 + yj_b1 (J a) + yj_b1 (J e) + 1 = yj_cn (yj_an S J) 10 := by
    intro a e ha he h1 h2 h3 sa se
    obtain ⟨c, d⟩ := yj_rm3 (J := J) ha he hu (by omega) h2 h3 sa se su
    have x1 : (100 * a + 10 * e + u) / 100 = a := by omega
    have x2 : (100 * a + 10 * e + u) / 10 % 10 = e := by omega
    have x3 : (100 * a + 10 * e + u) % 10 = u := by omega
    refine ⟨100 * a + 10 * e + u, ?_, ?_⟩
    · unfold yj_mat
      rw [x1, x2, x3]
      exact ⟨by omega, h1, h2, h3, sa, se, su, ju⟩
    · unfold yj_rm
      rw [x1, x2, x3]
      omega
  by_cases q : a < e
  · exact key a e ha he q h2 h3 sa se
  · obtain ⟨x, y1, y2, y3⟩ := key e a he ha (by omega) h3 h2 se sa
    exact ⟨x, y1, y2, by omega⟩
theorem yj_cnS (S J : Nat → Bool) : ∀ n : Nat, yj_cn (yj_an S J) n + yj_cn (yj_an S (fun i => !J i)) n = yj_cn S n
  | 0 => rfl
  | n + 1 => by
    have ih := yj_cnS S J n
    show yj_cn (yj_an S J) n + (if yj_an S J n = true then 1 else 0) + (yj_cn (yj_an S (fun i => !J i)) n + (if yj_an S (fun i => !J i) n = true then 1 else 0)) = yj_cn S n + (if S n = true then 1 else 0)
    rw [show yj_an S J n = (S n && J n) from rfl, show yj_an S (fun i => !J i) n = (S n && !J n) from rfl]
    generalize S n = v
    generalize J n = w
    generalize yj_cn (yj_an S J) n = x1 at ih ⊢
    generalize yj_cn (yj_an S (fun i => !J i)) n = x2 at ih ⊢
    generalize yj_cn S n = x3 at ih ⊢
    cases v <;> cases w <;> simp <;> omega
/-- another one -/
theorem yj_cn2 {p : Nat → Bool} {a n : Nat} (h : 1 < yj_cn p n) : ∃ i, i < n ∧ p i = true ∧ i ≠ a := by
  have c := yj_cnM p a n
  obtain ⟨i, h1, h2⟩ := yj_cn1 (p := yj_mi p a) (n := n) (by split at c <;> omega)
  exact ⟨i, h1, (yj_miT.mp h2).1, (yj_miT.mp h2).2⟩
theorem yj_cn3 {p : Nat → Bool} {a e n : Nat} (h : 2 < yj_cn p n) : ∃ i, i < n ∧ p i = true ∧ i ≠ a ∧ i ≠ e := by
  have c := yj_cnM p a n
  obtain ⟨i, h1, h2, h3⟩ := yj_cn2 (p := yj_mi p a) (a := e) (n := n) (by split at c <;> omega)
  exact ⟨i, h1, (yj_miT.mp h2).1, (yj_miT.mp h2).2, h3⟩
theorem yj_room {J S : Nat → Bool} (h : 1 ≤ yj_cap J S) : ∃ x, yj_mat J S x ∧ yj_cap J S ≤ yj_cap J (yj_rm S x) + 1 := by
  have s := yj_cnS S J 10
  have h' := h
  unfold yj_cap at h'
  have nJ : ∀ {i : Nat}, yj_an S (fun i => !J i) i = true → S i = true ∧ yj_b1 (J i) = 0 := by
    intro i q
    obtain ⟨q1, q2⟩ := yj_anT.mp q
    refine ⟨q1, ?_⟩
    unfold yj_b1
    rw [if_neg]
    intro w
    rw [w] at q2
    exact absurd q2 (by decide)
  have yJ : ∀ {i : Nat}, J i = true → yj_b1 (J i) = 1 := fun q => by unfold yj_b1; rw [if_pos q]
  obtain ⟨u, u1, u2⟩ := yj_cn1 (p := yj_an S J) (n := 10) (by omega)
  obtain ⟨u3, u4⟩ := yj_anT.mp u2
  by_cases c2 : 2 ≤ yj_cn (yj_an S (fun i => !J i)) 10
  · obtain ⟨a, a1, a2⟩ := yj_cn1 (p := yj_an S (fun i => !J i)) (n := 10) (by omega)
    obtain ⟨e, e1, e2, e3⟩ := yj_cn2 (p := yj_an S (fun i => !J i)) (a := a) (n := 10) (by omega)
    have fa := nJ a2
    have fe := nJ e2
    have ya := yJ u4
    have ua : u ≠ a := fun q => by rw [← q] at fa; omega
    have ue : u ≠ e := fun q => by rw [← q] at fe; omega
    obtain ⟨x, x1, x2, x3⟩ := yj_put3 (J := J) a1 e1 u1 (fun q => e3 q.symm) ua ue fa.1 fe.1 u3 u4
    refine ⟨x, x1, ?_⟩
    unfold yj_cap
    omega
  · by_cases c1 : 1 ≤ yj_cn (yj_an S (fun i => !J i)) 10
    · obtain ⟨a, a1, a2⟩ := yj_cn1 (p := yj_an S (fun i => !J i)) (n := 10) (by omega)
      obtain ⟨e, e1, e2, e3⟩ := yj_cn2 (p := yj_an S J) (a := u) (n := 10) (by omega)
      obtain ⟨e4, e5⟩ := yj_anT.mp e2
      have fa := nJ a2
      have ya := yJ u4
      have ye := yJ e5
      have ua : u ≠ a := fun q => by rw [← q] at fa; omega
      have ea : a ≠ e := fun q => by rw [q] at fa; omega
      obtain ⟨x, x1, x2, x3⟩ := yj_put3 (J := J) a1 e1 u1 ea ua (fun q => e3 q.symm) fa.1 e4 u3 u4
      refine ⟨x, x1, ?_⟩
      unfold yj_cap
      omega
    · obtain ⟨a, a1, a2, a3⟩ := yj_cn2 (p := yj_an S J) (a := u) (n := 10) (by omega)
      obtain ⟨e, e1, e2, e3, e4⟩ := yj_cn3 (p := yj_an S J) (a := u) (e := a) (n := 10) (by omega)
      obtain ⟨a4, a5⟩ := yj_anT.mp a2
      obtain ⟨e5, e6⟩ := yj_anT.mp e2
      have ya := yJ a5
      have ye := yJ e6
      obtain ⟨x, x1, x2, x3⟩ := yj_put3 (J := J) a1 e1 u1 (fun q => e4 q.symm) (fun q => a3 q.symm) (fun q => e3 q.symm) a4 e5 u3 u4
      refine ⟨x, x1, ?_⟩
      unfold yj_cap
      omega
/-- a match behind which there's room for all -/
def yj_gd (J S : Nat → Bool) (k x : Nat) : Prop := yj_mat J S x ∧ k ≤ yj_cap J (yj_rm S x) + 1
def yj_ig (J S : Nat → Bool) (k x : Nat) : Prop := yj_gd J S k x ∧ ∀ y, y < x → ¬ yj_gd J S k y
theorem yj_least {P : Nat → Prop} : ∀ n : Nat, P n → ∃ x, P x ∧ ∀ y, y < x → ¬ P y := by
  intro n
  induction n using Nat.strongRecOn with
  | _ n ih =>
    intro h
    by_cases q : ∃ y, y < n ∧ P y
    · obtain ⟨y, y1, y2⟩ := q; exact ih y y1 y2
    · exact ⟨n, h, fun y hy w => q ⟨y, hy, w⟩⟩
theorem yj_later {J S : Nat → Bool} {k x y : Nat} (h1 : yj_ig J S (k + 1) x) (h2 : yj_gd J (yj_rm S x) k y) : x < y := by
  obtain ⟨m, hk⟩ := h2
  obtain ⟨m0, m1, m2, m3, m4, m5, m6, m7⟩ := m
  rw [yj_rmT] at m4 m5 m6
  obtain ⟨p0, p1, p2, p3, p4, p5, p6, p7⟩ := h1.1.1
  refine Nat.lt_of_not_le fun le => ?_
  have ne : y ≠ x := fun q => m4.2.1 (by rw [q])
  refine h1.2 y (by omega) ⟨⟨m0, m1, m2, m3, m4.1, m5.1, m6.1, m7⟩, ?_⟩
  have c := yj_capM (J := J) (S := yj_rm S y) (x := x) ⟨p0, p1, p2, p3, yj_rmT.mpr ⟨p4, fun q => m4.2.1 q.symm, fun q => m5.2.1 q.symm, fun q => m6.2.1 q.symm⟩, yj_rmT.mpr ⟨p5, fun q => m4.2.2.1 q.symm, fun q => m5.2.2.1 q.symm, fun q => m6.2.2.1 q.symm⟩, yj_rmT.mpr ⟨p6, fun q => m4.2.2.2 q.symm, fun q => m5.2.2.2 q.symm, fun q => m6.2.2.2 q.symm⟩, p7⟩
  rw [yj_rmC S y x] at c
  omega
/-- the first list of k matches -/
def yj_pa (J : Nat → Bool) : Nat → (Nat → Bool) → List Nat → Prop
  | 0, _, l => l = []
  | k + 1, S, l => ∃ x l', l = x :: l' ∧ yj_ig J S (k + 1) x ∧ yj_pa J k (yj_rm S x) l'
theorem yj_paX {J : Nat → Bool} : ∀ (k : Nat) (S : Nat → Bool), k ≤ yj_cap J S → ∃ l, yj_pa J k S l
  | 0, S, _ => ⟨[], rfl⟩
  | k + 1, S, h => by
    obtain ⟨x, x1, x2⟩ := yj_room (J := J) (S := S) (by omega)
    obtain ⟨y, y1, y2⟩ := yj_least (P := yj_gd J S (k + 1)) x ⟨x1, by omega⟩
    obtain ⟨l, hl⟩ := yj_paX (J := J) k (yj_rm S y) (by have := y1.2; omega)
    exact ⟨y :: l, y, l, rfl, ⟨y1, y2⟩, hl⟩
theorem yj_paH {J S : Nat → Bool} {k x y : Nat} {l : List Nat} (h1 : yj_ig J S (k + 1) x) (h2 : yj_pa J k (yj_rm S x) (y :: l)) : x < y := by
  cases k with
  | zero => exact absurd h2 (by unfold yj_pa; exact List.cons_ne_nil _ _)
  | succ k =>
    obtain ⟨z, l', e, g, -⟩ := h2
    rw [List.cons.injEq] at e
    rw [e.1]
    exact yj_later h1 g.1
