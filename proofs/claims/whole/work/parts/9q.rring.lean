/-! THE CLASS AGAINST THE REFERENCE: rings -/
/-- a walk of k + 1 steps -/
def yj_wk (e : Nat → Nat → Prop) : Nat → Nat → Nat → Prop
  | 0, p, q => e p q
  | k + 1, p, q => ∃ r, yj_wk e k p r ∧ e r q
theorem yj_wkL {e : Nat → Nat → Prop} {np : Nat} (he : ∀ w l, e w l → w < np ∧ l < np) : ∀ {k p q : Nat}, yj_wk e k p q → p < np ∧ q < np
  | 0, p, q, h => he p q h
  | k + 1, p, q, ⟨r, h1, h2⟩ => ⟨(yj_wkL he h1).1, (he r q h2).2⟩
theorem yj_wkT {e : Nat → Nat → Prop} {a p r : Nat} (h : yj_wk e a p r) : ∀ {b q : Nat}, yj_wk e b r q → yj_wk e (a + b + 1) p q
  | 0, q, g => ⟨r, h, g⟩
  | b + 1, q, ⟨s, g1, g2⟩ => ⟨s, yj_wkT h g1, g2⟩
/-- the places of a walk -/
theorem yj_wkS {e : Nat → Nat → Prop} : ∀ {k p q : Nat}, yj_wk e k p q → ∃ f : Nat → Nat, f 0 = p ∧ f (k + 1) = q ∧ ∀ i, i ≤ k → e (f i) (f (i + 1))
  | 0, p, q, h => ⟨fun i => if i = 0 then p else q, rfl, rfl, fun i hi => by
      have : i = 0 := by omega
      subst this; exact h⟩
  | k + 1, p, q, ⟨r, h1, h2⟩ => by
    obtain ⟨f, f0, f1, f2⟩ := yj_wkS h1
    refine ⟨fun i => if i = k + 2 then q else f i, ?_, ?_, fun i hi => ?_⟩
    · show (if 0 = k + 2 then q else f 0) = p
      rw [if_neg (by omega)]; exact f0
    · show (if k + 1 + 1 = k + 2 then q else f (k + 1 + 1)) = q
      rw [if_pos rfl]
    · show e (if i = k + 2 then q else f i) (if i + 1 = k + 2 then q else f (i + 1))
      rw [if_neg (show ¬ i = k + 2 by omega)]
      by_cases g : i + 1 = k + 2
      · rw [if_pos g, show i = k + 1 by omega, f1]; exact h2
      · rw [if_neg g]; exact f2 i (by omega)
theorem yj_wkC {e : Nat → Nat → Prop} {f : Nat → Nat} {k : Nat} (h : ∀ i, i ≤ k → e (f i) (f (i + 1))) {i : Nat} : ∀ {n : Nat}, i + n ≤ k → yj_wk e n (f i) (f (i + n + 1))
  | 0, g => h i (by omega)
  | n + 1, g => ⟨f (i + n + 1), yj_wkC h (by omega), h (i + n + 1) (by omega)⟩
theorem yj_ph : ∀ (n : Nat) (f : Nat → Nat), (∀ i, i ≤ n → f i < n) → ∃ i j, i < j ∧ j ≤ n ∧ f i = f j
  | 0, f, h => absurd (h 0 (Nat.le_refl _)) (Nat.not_lt_zero _)
  | n + 1, f, h => by
    by_cases q : ∃ i, i ≤ n ∧ f i = f (n + 1)
    · obtain ⟨i, h1, h2⟩ := q
      exact ⟨i, n + 1, by omega, Nat.le_refl _, h2⟩
    · have q2 : ∀ i, i ≤ n → f i ≠ f (n + 1) := fun i hi z => q ⟨i, hi, z⟩
      have hn := h (n + 1) (Nat.le_refl _)
      obtain ⟨i, j, h1, h2, h3⟩ := yj_ph n (fun i => if f i = n then f (n + 1) else f i) (fun i hi => by
        have a := h i (by omega)
        have c := q2 i hi
        show (if f i = n then f (n + 1) else f i) < n
        split <;> omega)
      refine ⟨i, j, h1, by omega, ?_⟩
      have c1 := q2 i (by omega)
      have c2 := q2 j (by omega)
      replace h3 : (if f i = n then f (n + 1) else f i) = (if f j = n then f (n + 1) else f j) := h3
      by_cases x : f i = n
      · by_cases y : f j = n
        · omega
        · rw [if_pos x, if_neg y] at h3; exact absurd h3.symm c2
      · by_cases y : f j = n
        · rw [if_neg x, if_pos y] at h3; exact absurd h3 c1
        · rw [if_neg x, if_neg y] at h3; exact h3
/-- a ring has a short ring -/
theorem yj_short {e : Nat → Nat → Prop} {np : Nat} (he : ∀ w l, e w l → w < np ∧ l < np) {k p : Nat} (h : yj_wk e k p p) : ∃ j q, j < np ∧ q < np ∧ yj_wk e j q q := by
  by_cases g : k < np
  · exact ⟨k, p, g, (yj_wkL he h).1, h⟩
  · obtain ⟨f, -, -, f2⟩ := yj_wkS h
    obtain ⟨i, j, h1, h2, h3⟩ := yj_ph np f (fun i hi => (he _ _ (f2 i (by omega))).1)
    have w := yj_wkC f2 (i := i) (n := j - i - 1) (by omega)
    rw [show i + (j - i - 1) + 1 = j by omega, ← h3] at w
    exact ⟨j - i - 1, f i, by omega, (yj_wkL he w).1, w⟩
/-- by way of the first m -/
def yj_D (e : Nat → Nat → Prop) : Nat → Nat → Nat → Nat → Prop
  | 0, p, q, n => e p q ∧ n = 1
  | m + 1, p, q, n => yj_D e m p q n ∨ ∃ a b, yj_D e m p m a ∧ yj_D e m m q b ∧ n = a + b
theorem yj_DT {e : Nat → Nat → Prop} : ∀ (m r p q a b : Nat), r < m → yj_D e m p r a → yj_D e m r q b → ∃ n, n ≤ a + b ∧ yj_D e m p q n
  | 0, r, p, q, a, b, hr, _, _ => absurd hr (Nat.not_lt_zero _)
  | m + 1, r, p, q, a, b, hr, h1, h2 => by
    have IH := yj_DT (e := e) m
    by_cases g : r = m
    · subst g
      obtain ⟨a', ha, d1⟩ : ∃ a', a' ≤ a ∧ yj_D e r p r a' := by
        rcases h1 with h | ⟨x, y, g1, _, g3⟩
        · exact ⟨a, Nat.le_refl _, h⟩
        · exact ⟨x, by omega, g1⟩
      obtain ⟨b', hb, d2⟩ : ∃ b', b' ≤ b ∧ yj_D e r r q b' := by
        rcases h2 with h | ⟨x, y, _, g2, g3⟩
        · exact ⟨b, Nat.le_refl _, h⟩
        · exact ⟨y, by omega, g2⟩
      exact ⟨a' + b', by omega, Or.inr ⟨a', b', d1, d2, rfl⟩⟩
    · have hr2 : r < m := by omega
      rcases h1 with h1 | ⟨a1, a2, x1, x2, x3⟩
      · rcases h2 with h2 | ⟨b1, b2, y1, y2, y3⟩
        · obtain ⟨n, hn, d⟩ := IH r p q a b hr2 h1 h2
          exact ⟨n, hn, Or.inl d⟩
        · obtain ⟨n, hn, d⟩ := IH r p m a b1 hr2 h1 y1
          exact ⟨n + b2, by omega, Or.inr ⟨n, b2, d, y2, rfl⟩⟩
      · rcases h2 with h2 | ⟨b1, b2, y1, y2, y3⟩
        · obtain ⟨n, hn, d⟩ := IH r m q a2 b hr2 x2 h2
          exact ⟨a1 + n, by omega, Or.inr ⟨a1, n, x1, d, rfl⟩⟩
        · exact ⟨a1 + b2, by omega, Or.inr ⟨a1, b2, x1, y2, rfl⟩⟩
theorem yj_D0 {e : Nat → Nat → Prop} {p q : Nat} (h : e p q) : ∀ m : Nat, yj_D e m p q 1
  | 0 => ⟨h, rfl⟩
  | m + 1 => Or.inl (yj_D0 h m)
theorem yj_DW {e : Nat → Nat → Prop} {np : Nat} (he : ∀ w l, e w l → w < np ∧ l < np) : ∀ {k p q : Nat}, yj_wk e k p q → ∃ n, n ≤ k + 1 ∧ yj_D e np p q n
  | 0, p, q, h => ⟨1, by omega, yj_D0 h np⟩
  | k + 1, p, q, ⟨r, h1, h2⟩ => by
    obtain ⟨n, hn, d⟩ := yj_DW he h1
    obtain ⟨n2, hn2, d2⟩ := yj_DT np r p q n 1 (he r q h2).1 d (yj_D0 h2 np)
    exact ⟨n2, by omega, d2⟩
/-- the reference's table: what it holds, and what it is not above -/
def yj_ro (e : Nat → Nat → Prop) (np : Nat) (R : Nat → Nat → Int32) (ρ : Nat → Nat → Nat) : Prop := ∀ p q, p < np → q < np → R 69 (10 * p + q) = nI (ρ p q) ∧ ρ p q ≤ 1000000 ∧ (ρ p q < 1000000 → ∃ k, ρ p q = k + 1 ∧ yj_wk e k p q)
theorem yj_fw79 {e : Nat → Nat → Prop} {np m p : Nat} (hn : np ≤ 10) (hm : m < np) (hp : p < np) (ρ0 : Nat → Nat → Nat) : ∀ (r t : Nat) (R : Nat → Nat → Int32), t + r = np → (∃ ρ, yj_ro e np R ρ ∧ (∀ x y, x < np → y < np → ρ x y ≤ ρ0 x y) ∧ ∀ x y, x < np → y < np → (x < p ∨ (x = p ∧ y < t)) → ρ x y ≤ ρ0 x m + ρ0 m y) → ∃ ρ, yj_ro e np (gw_X9_ring_79 p m r t R) ρ ∧ (∀ x y, x < np → y < np → ρ x y ≤ ρ0 x y) ∧ ∀ x y, x < np → y < np → (x < p ∨ x = p) → ρ x y ≤ ρ0 x m + ρ0 m y
  | 0, t, R, ht, ⟨ρ, h1, h2, h3⟩ => ⟨ρ, h1, h2, fun x y hx hy q => h3 x y hx hy (by omega)⟩
  | r + 1, t, R, ht, ⟨ρ, h1, h2, h3⟩ => by
    have IH := yj_fw79 (e := e) hn hm hp ρ0 r (t + 1)
    obtain ⟨a1, a2, a3⟩ := h1 p t hp (by omega)
    obtain ⟨b1, b2, b3⟩ := h1 p m hp hm
    obtain ⟨c1, c2, c3⟩ := h1 m t hm (by omega)
    have le1 := h2 p m hp hm
    have le2 := h2 m t hm (by omega)
    have key : ∀ v : Nat, v ≤ ρ p t → v ≤ ρ p m + ρ m t → (v = ρ p t ∨ (v = ρ p m + ρ m t ∧ v < ρ p t)) → ∃ ρ', yj_ro e np (z_up R 69 (10 * p + t) (nI v)) ρ' ∧ (∀ x y, x < np → y < np → ρ' x y ≤ ρ0 x y) ∧ ∀ x y, x < np → y < np → (x < p ∨ (x = p ∧ y < t + 1)) → ρ' x y ≤ ρ0 x m + ρ0 m y := by
      intro v v1 v2 v3
      refine ⟨fun x y => if x = p ∧ y = t then v else ρ x y, fun x y hx hy => ?_, fun x y hx hy => ?_, fun x y hx hy q => ?_⟩
      · show z_up R 69 (10 * p + t) (nI v) 69 (10 * x + y) = nI (if x = p ∧ y = t then v else ρ x y) ∧ (if x = p ∧ y = t then v else ρ x y) ≤ 1000000 ∧ ((if x = p ∧ y = t then v else ρ x y) < 1000000 → ∃ k, (if x = p ∧ y = t then v else ρ x y) = k + 1 ∧ yj_wk e k x y)
        by_cases g : x = p ∧ y = t
        · rw [if_pos g, g.1, g.2, z_up_s]
          refine ⟨rfl, by omega, fun lt => ?_⟩
          rcases v3 with z | ⟨z, z2⟩
          · obtain ⟨k, k1, k2⟩ := a3 (by omega)
            exact ⟨k, by omega, k2⟩
          · obtain ⟨k, k1, k2⟩ := b3 (by omega)
            obtain ⟨j, j1, j2⟩ := c3 (by omega)
            exact ⟨k + j + 1, by omega, yj_wkT k2 j2⟩
        · rw [if_neg g, z_up_j _ _ (by omega)]
          exact h1 x y hx hy
      · show (if x = p ∧ y = t then v else ρ x y) ≤ _
        by_cases g : x = p ∧ y = t
        · rw [if_pos g, g.1, g.2]; exact Nat.le_trans v1 (h2 p t hp (by omega))
        · rw [if_neg g]; exact h2 x y hx hy
      · show (if x = p ∧ y = t then v else ρ x y) ≤ _
        by_cases g : x = p ∧ y = t
        · rw [if_pos g, g.1, g.2]; omega
        · rw [if_neg g]; exact h3 x y hx hy (by omega)
    unfold gw_X9_ring_79
    rw [a1, b1, c1, nI_add]
    by_cases g : ρ p t ≤ ρ p m + ρ m t
    · rw [if_pos (nI_le g (by omega))]
      exact IH _ (by omega) (key _ (Nat.le_refl _) g (Or.inl rfl))
    · rw [if_neg (nI_ge (by omega) (by omega))]
      exact IH _ (by omega) (key _ (by omega) (Nat.le_refl _) (Or.inr ⟨rfl, by omega⟩))
theorem yj_fw68 {e : Nat → Nat → Prop} {np m : Nat} (hn : np ≤ 10) (hm : m < np) (ρ0 : Nat → Nat → Nat) : ∀ (r t : Nat) (R : Nat → Nat → Int32), t + r = np → (∃ ρ, yj_ro e np R ρ ∧ (∀ x y, x < np → y < np → ρ x y ≤ ρ0 x y) ∧ ∀ x y, x < np → y < np → x < t → ρ x y ≤ ρ0 x m + ρ0 m y) → ∃ ρ, yj_ro e np (gw_X9_ring_68 np m r t R) ρ ∧ (∀ x y, x < np → y < np → ρ x y ≤ ρ0 x y) ∧ ∀ x y, x < np → y < np → ρ x y ≤ ρ0 x m + ρ0 m y
  | 0, t, R, ht, ⟨ρ, h1, h2, h3⟩ => ⟨ρ, h1, h2, fun x y hx hy => h3 x y hx hy (by omega)⟩
  | r + 1, t, R, ht, ⟨ρ, h1, h2, h3⟩ => by
    unfold gw_X9_ring_68
    obtain ⟨ρ', k1, k2, k3⟩ := yj_fw79 (e := e) hn hm (show t < np by omega) ρ0 np 0 R (by omega) ⟨ρ, h1, h2, fun x y hx hy q => h3 x y hx hy (by omega)⟩
    exact yj_fw68 hn hm ρ0 r (t + 1) _ (by omega) ⟨ρ', k1, k2, fun x y hx hy q => k3 x y hx hy (by omega)⟩
theorem yj_fw58 {e : Nat → Nat → Prop} {np : Nat} (hn : np ≤ 10) (he : ∀ w l, e w l → w < np ∧ l < np) : ∀ (r t : Nat) (R : Nat → Nat → Int32), t + r = np → (∃ ρ, yj_ro e np R ρ ∧ ∀ x y n, yj_D e t x y n → x < np → y < np → ρ x y ≤ n) → ∃ ρ, yj_ro e np (gw_X9_ring_58 np r t R) ρ ∧ ∀ x y n, yj_D e np x y n → x < np → y < np → ρ x y ≤ n
  | 0, t, R, ht, ⟨ρ, h1, h2⟩ => by
    have : t = np := by omega
    subst this
    exact ⟨ρ, h1, h2⟩
  | r + 1, t, R, ht, ⟨ρ, h1, h2⟩ => by
    unfold gw_X9_ring_58
    obtain ⟨ρ', k1, k2, k3⟩ := yj_fw68 (e := e) hn (show t < np by omega) ρ np 0 R (by omega) ⟨ρ, h1, fun _ _ _ _ => Nat.le_refl _, fun x y hx hy q => absurd q (Nat.not_lt_zero _)⟩
    refine yj_fw58 hn he r (t + 1) _ (by omega) ⟨ρ', k1, fun x y n hd hx hy => ?_⟩
    rcases hd with hd | ⟨a, c, d1, d2, d3⟩
    · exact Nat.le_trans (k2 x y hx hy) (h2 x y n hd hx hy)
    · have g := k3 x y hx hy
      have g1 := h2 x t a d1 hx (by omega)
      have g2 := h2 t y c d2 (by omega) hy
      omega
theorem yj_r23 : ∀ (r t : Nat) (R : Nat → Nat → Int32), (∀ a j, a ≠ 69 → gw_X9_ring_23 r t R a j = R a j) ∧ (∀ j, j < t → gw_X9_ring_23 r t R 69 j = R 69 j) ∧ ∀ j, t ≤ j → j < t + r → gw_X9_ring_23 r t R 69 j = if R 67 j ≤ 0 then 1000000 else 1
  | 0, t, R => ⟨fun _ _ _ => rfl, fun _ _ => rfl, fun j h1 h2 => absurd h2 (by omega)⟩
  | r + 1, t, R => by
    have key : ∀ v : Int32, v = (if R 67 t ≤ 0 then 1000000 else 1) → (∀ a j, a ≠ 69 → gw_X9_ring_23 r (t + 1) (z_up R 69 t v) a j = R a j) ∧ (∀ j, j < t → gw_X9_ring_23 r (t + 1) (z_up R 69 t v) 69 j = R 69 j) ∧ ∀ j, t ≤ j → j < t + (r + 1) → gw_X9_ring_23 r (t + 1) (z_up R 69 t v) 69 j = if R 67 j ≤ 0 then 1000000 else 1 := by
      intro v hv
      obtain ⟨h1, h2, h3⟩ := yj_r23 r (t + 1) (z_up R 69 t v)
      refine ⟨fun a j q => (h1 a j q).trans (z_up_k _ _ q), fun j hj => (h2 j (by omega)).trans (z_up_j _ _ (by omega)), fun j g1 g2 => ?_⟩
      by_cases e : j = t
      · subst e; rw [h2 j (by omega), z_up_s, hv]
      · rw [h3 j (by omega) (by omega), z_up_k _ _ (by omega)]
    unfold gw_X9_ring_23
    by_cases q : R 67 t ≤ 0
    · rw [if_pos q]; exact key _ (by rw [if_pos q])
    · rw [if_neg q]; exact key _ (by rw [if_neg q])
