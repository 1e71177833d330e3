/-! THE CLASS AGAINST THE REFERENCE: rings -/
/-- a walk of k + 1 steps -/
def yj_wk (e : Nat → Nat → Prop) : Nat → Nat → Nat → Prop
  | 0, p, q => e p q
  | k + 1, p, q => ∃ r, yj_wk e k p r ∧ e r q
theorem yj_wkL {e : Nat → Nat → Prop} {np : Nat} (he : ∀ w l, e w l → w < np ∧ l < np) : ∀ {k p q : Nat}, yj_wk e k p q → p < np ∧ q < np
  | 0, p, q, h => he p q h
  | k + 1, p, q, ⟨r, h1, h2⟩ => ⟨(yj_wkL he h1).1, (he r q h2).2⟩
theorem yj_wkT {e : Nat → Nat → Prop} {a p r : Nat} (h : yj_wk e a p r) : ∀ {b q : Nat}, yj_wk e b r q → yj_wk e (a + b + 1) p q
  | 0, q, g => ⟨r, h, g⟩
  | b + 1, q, ⟨s, g1, g2⟩ => ⟨s, yj_wkT h g1, g2⟩
/-- the places of a walk -/
theorem yj_wkS {e : Nat → Nat → Prop} : ∀ {k p q : Nat}, yj_wk e k p q → ∃ f : Nat → Nat, f 0 = p ∧ f (k + 1) = q ∧ ∀ i, i ≤ k → e (f i) (f (i + 1))
  | 0, p, q, h => ⟨fun i => if i = 0 then p else q, rfl, rfl, fun i hi => by
      have : i = 0 := by omega
      subst this; exact h⟩
  | k + 1, p, q, ⟨r, h1, h2⟩ => by
    obtain ⟨f, f0, f1, f2⟩ := yj_wkS h1
    refine ⟨fun i => if i = k + 2 then q else f i, ?_, ?_, fun i hi => ?_⟩
    · show (if 0 = k + 2 then q else f 0) = p
      rw [if_neg (by omega)]; exact f0
    · show (if k + 1 + 1 = k + 2 then q else f (k + 1 + 1)) = q
      rw [if_pos rfl]
    · show e (if i = k + 2 then q else f i) (if i + 1 = k + 2 then q else f (i + 1))
      rw [if_neg (show ¬ i = k + 2 by omega)]
      by_cases g : i + 1 = k + 2
      · rw [if_pos g, show i = k + 1 by omega, f1]; exact h2
      · rw [if_neg g]; exact f2 i (by omega)
theorem yj_wkC {e : Nat → Nat → Prop} {f : Nat → Nat} {k : Nat} (h : ∀ i, i ≤ k → e (f i) (f (i + 1))) {i : Nat} : ∀ {n : Nat}, i + n ≤ k → yj_wk e n (f i) (f (i + n + 1))
  | 0, g => h i (by omega)
  | n + 1, g => ⟨f (i + n + 1), yj_wkC h (by omega), h (i + n + 1) (by omega)⟩
theorem yj_ph : ∀ (n : Nat) (f : Nat → Nat), (∀ i, i ≤ n → f i < n) → ∃ i j, i < j ∧ j ≤ n ∧ f i = f j
  | 0, f, h => absurd (h 0 (Nat.le_refl _)) (Nat.not_lt_zero _)
  | n + 1, f, h => by
    by_cases q : ∃ i, i ≤ n ∧ f i = f (n + 1)
    · obtain ⟨i, h1, h2⟩ := q
      exact ⟨i, n + 1, by omega, Nat.le_refl _, h2⟩
    · have q2 : ∀ i, i ≤ n → f i ≠ f (n + 1) := fun i hi z => q ⟨i, hi, z⟩
      have hn := h (n + 1) (Nat.le_refl _)
      obtain ⟨i, j, h1, h2, h3⟩ := yj_ph n (fun i => if f i = n then f (n + 1) else f i) (fun i hi => by
        have a := h i (by omega)
        have c := q2 i hi
        show (if f i = n then f (n + 1) else f i) < n
        split <;> omega)
      refine ⟨i, j, h1, by omega, ?_⟩
      have c1 := q2 i (by omega)
      have c2 := q2 j (by omega)
      replace h3 : (if f i = n then f (n + 1) else f i) = (if f j = n then f (n + 1) else f j) := h3
      by_cases x : f i = n
      · by_cases y : f j = n
        · omega
        · rw [if_pos x, if_neg y] at h3; exact absurd h3.symm c2
      · by_cases y : f j = n
        · rw [if_neg x, if_pos y] at h3; exact absurd h3 c1
        · rw [if_neg x, if_neg y] at h3; exact h3
/-- a ring has a short ring -/
theorem yj_short {e : Nat → Nat → Prop} {np : Nat} (he : ∀ w l, e w l → w < np ∧ l < np) {k p : Nat} (h : yj_wk e k p p) : ∃ j q, j < np ∧ q < np ∧ yj_wk e j q q := by
  by_cases g : k < np
  · exact ⟨k, p, g, (yj_wkL he h).1, h⟩
  · obtain ⟨f, -, -, f2⟩ := yj_wkS h
    obtain ⟨i, j, h1, h2, h3⟩ := yj_ph np f (fun i hi => (he _ _ (f2 i (by omega))).1)
    have w := yj_wkC f2 (i := i) (n := j - i - 1) (by omega)
    rw [show i + (j - i - 1) + 1 = j by omega, ← h3] at w
    exact ⟨j - i - 1, f i, by omega, (yj_wkL he w).1, w⟩
/-- by way of the first m -/
def yj_D (e : Nat → Nat → Prop) : Nat → Nat → Nat → Nat → Prop
  | 0, p, q, n => e p q ∧ n = 1
  | m + 1, p, q, n => yj_D e m p q n ∨ ∃ a b, yj_D e m p m a ∧ yj_D e m m q b ∧ n = a + b
theorem yj_DT {e : Nat → Nat → Prop} : ∀ (m r p q a b : Nat), r < m → yj_D e m p r a → yj_D e m r q b → ∃ n, n ≤ a + b ∧ yj_D e m p q n
  | 0, r, p, q, a, b, hr, _, _ => absurd hr (Nat.not_lt_zero _)
  | m + 1, r, p, q, a, b, hr, h1, h2 => by
    have IH := yj_DT (e := e) m
    by_cases g : r = m
    · subst g
      obtain ⟨a', ha, d1⟩ : ∃ a', a' ≤ a ∧ yj_D e r p r a' := by
        rcases h1 with h | ⟨x, y, g1, _, g3⟩
        · exact ⟨a, Nat.le_refl _, h⟩
        · exact ⟨x, by omega, g1⟩
      obtain ⟨b', hb, d2⟩ : ∃ b', b' ≤ b ∧ yj_D e r r q b' := by
        rcases h2 with h | ⟨x, y, _, g2, g3⟩
        · exact ⟨b, Nat.le_refl _, h⟩
        · exact ⟨y, by omega, g2⟩
      exact ⟨a' + b', by omega, Or.inr ⟨a', b', d1, d2, rfl⟩⟩
    · have hr2 : r < m := by omega
      rcases h1 with h1 | ⟨a1, a2, x1, x2, x3⟩
      · rcases h2 with h2 | ⟨b1, b2, y1, y2, y3⟩
        · obtain ⟨n, hn, d⟩ := IH r p q a b hr2 h1 h2
          exact ⟨n, hn, Or.inl d⟩
        · obtain ⟨n, hn, d⟩ := IH r p m a b1 hr2 h1 y1
          exact ⟨n + b2, by omega, Or.inr ⟨n, b2, d, y2, rfl⟩⟩
      · rcases h2 with h2 | ⟨b1, b2, y1, y2, y3⟩
        · obtain ⟨n, hn, d⟩ := IH r m q a2 b hr2 x2 h2
          exact ⟨a1 + n, by omega, Or.inr ⟨a1, n, x1, d, rfl⟩⟩
        · exact ⟨a1 + b2, by omega, Or.inr ⟨a1, b2, x1, y2, rfl⟩⟩
theorem yj_D0 {e : Nat → Nat → Prop} {p q : Nat} (h : e p q) : ∀ m : Nat, yj_D e m p q 1
  | 0 => ⟨h, rfl⟩
  | m + 1 => Or.inl (yj_D0 h m)
theorem yj_DW {e : Nat → Nat → Prop} {np : Nat} (he : ∀ w l, e w l → w < np ∧ l < np) : ∀ {k p q : Nat}, yj_wk e k p q → ∃ n, n ≤ k + 1 ∧ yj_D e np p q n
  | 0, p, q, h => ⟨1, by omega, yj_D0 h np⟩
  | k + 1, p, q, ⟨r, h1, h2⟩ => by
    obtain ⟨n, hn, d⟩ := yj_DW he h1
    obtain ⟨n2, hn2, d2⟩ := yj_DT np r p q n 1 (he r q h2).1 d (yj_D0 h2 np)
    exact ⟨n2, by omega, d2⟩
/-- the reference's table: what it holds, and what it is not above -/
def yj_ro (e : Nat → Nat → Prop) (np : Nat) (R : Nat → Nat → Int32) (ρ : Nat → Nat → Nat) : Prop := ∀ p q, p < np → q < np → R 69 (10 * p + q) = nI (ρ p q) ∧ ρ p q ≤ 1000000 ∧ (ρ p q < 1000000 → ∃ k, ρ p q = k + 1 ∧ yj_wk e k p q)
theorem yj_fw79 {e : Nat → Nat → Prop} {np m p : Nat} (hn : np ≤ 10) (hm : m < np) (hp : p < np) (ρ0 : Nat → Nat → Nat) : ∀ (r t : Nat) (R : Nat → Nat → Int32), t + r = np → (∃ ρ, yj_ro e np R ρ ∧ (∀ x y, x < np → y < np → ρ x y ≤ ρ0 x y) ∧ ∀ x y, x < np → y < np → (x < p ∨ (x = p ∧ y < t)) → ρ x y ≤ ρ0 x m + ρ0 m y) → ∃ ρ, yj_ro e np (gw_X9_ring_79 p m r t R) ρ ∧ (∀ x y, x < np → y < np → ρ x y ≤ ρ0 x y) ∧ ∀ x y, x < np → y < np → (x < p ∨ x = p) → ρ x y ≤ ρ0 x m + ρ0 m y
  | 0, t, R, ht, ⟨ρ, h1, h2, h3⟩ => ⟨ρ, h1, h2, fun x y hx hy q => h3 x y hx hy (by omega)⟩
  | r + 1, t, R, ht, ⟨ρ, h1, h2, h3⟩ => by
    have IH := yj_fw79 (e := e) hn hm hp ρ0 r (t + 1)
    obtain ⟨a1, a2, a3⟩ := h1 p t hp (by omega)
    obtain ⟨b1, b2, b3⟩ := h1 p m hp hm
    obtain ⟨c1, c2, c3⟩ := h1 m t hm (by omega)
    have le1 := h2 p m hp hm
    have le2 := h2 m t hm (by omega)
    have key : ∀ v : Nat, v ≤ ρ p t → v ≤ ρ p m + ρ m t → (v = ρ p t ∨ (v = ρ p m + ρ m t ∧ v < ρ p t)) → ∃ ρ', yj_ro e np (z_up R 69 (10 * p + t) (nI v)) ρ' ∧ (∀ x y, x < np → y < np → ρ' x y ≤ ρ0 x y) ∧ ∀ x y, x < np → y < np → (x < p ∨ (x = p ∧ y < t + 1)) → ρ' x y ≤ ρ0 x m + ρ0 m y := by
      intro v v1 v2 v3
      refine ⟨fun x y => if x = p ∧ y = t then v else ρ x y, fun x y hx hy => ?_, fun x y hx hy => ?_, fun x y hx hy q => ?_⟩
      · show z_up R 69 (10 * p + t) (nI v) 69 (10 * x + y) = nI (if x = p ∧ y = t then v else ρ x y) ∧ (if x = p ∧ y = t then v else ρ x y) ≤ 1000000 ∧ ((if x = p ∧ y = t then v else ρ x y) < 1000000 → ∃ k, (if x = p ∧ y = t then v else ρ x y) = k + 1 ∧ yj_wk e k x y)
        by_cases g : x = p ∧ y = t
        · rw [if_pos g, g.1, g.2, z_up_s]
          refine ⟨rfl, by omega, fun lt => ?_⟩
          rcases v3 with z | ⟨z, z2⟩
          · obtain ⟨k, k1, k2⟩ := a3 (by omega)
            exact ⟨k, by omega, k2⟩
          · obtain ⟨k, k1, k2⟩ := b3 (by omega)
            obtain ⟨j, j1, j2⟩ := c3 (by omega)
            exact ⟨k + j + 1, by omega, yj_wkT k2 j2⟩
        · rw [if_neg g, z_up_j _ _ (by omega)]
          exact h1 x y hx hy
      · show (if x = p ∧ y = t then v else ρ x y) ≤ _
        by_cases g : x = p ∧ y = t
        · rw [if_pos g, g.1, g.2]; exact Nat.le_trans v1 (h2 p t hp (by omega))
        · rw [if_neg g]; exact h2 x y hx hy
      · show (if x = p ∧ y = t then v else ρ x y) ≤ _
        by_cases g : x = p ∧ y = t
        · rw [if_pos g, g.1, g.2]; omega
        · rw [if_neg g]; exact h3 x y hx hy (by omega)
    unfold gw_X9_ring_79
    rw [a1, b1, c1, nI_add]
    by_cases g : ρ p t ≤ ρ p m + ρ m t
    · rw [if_pos (nI_le g (by omega))]
      exact IH _ (by omega) (key _ (Nat.le_refl _) g (Or.inl rfl))
    · rw [if_neg (nI_ge (by omega) (by omega))]
      exact IH _ (by omega) (key _ (by omega) (Nat.le_refl _) (Or.inr ⟨rfl, by omega⟩))
theorem yj_fw68 {e : Nat → Nat → Prop} {np m : Nat} (hn : np ≤ 10) (hm : m < np) (ρ0 : Nat → Nat → Nat) : ∀ (r t : Nat) (R : Nat → Nat → Int32), t + r = np → (∃ ρ, yj_ro e np R ρ ∧ (∀ x y, x < np → y < np → ρ x y ≤ ρ0 x y) ∧ ∀ x y, x < np → y < np → x < t → ρ x y ≤ ρ0 x m + ρ0 m y) → ∃ ρ, yj_ro e np (gw_X9_ring_68 np m r t R) ρ ∧ (∀ x y, x < np → y < np → ρ x y ≤ ρ0 x y) ∧ ∀ x y, x < np → y < np → ρ x y ≤ ρ0 x m + ρ0 m y
  | 0, t, R, ht, ⟨ρ, h1, h2, h3⟩ => ⟨ρ, h1, h2, fun x y hx hy => h3 x y hx hy (by omega)⟩
  | r + 1, t, R, ht, ⟨ρ, h1, h2, h3⟩ => by
    unfold gw_X9_ring_68
    obtain ⟨ρ', k1, k2, k3⟩ := yj_fw79 (e := e) hn hm (show t < np by omega) ρ0 np 0 R (by omega) ⟨ρ, h1, h2, fun x y hx hy q => h3 x y hx hy (by omega)⟩
    exact yj_fw68 hn hm ρ0 r (t + 1) _ (by omega) ⟨ρ', k1, k2, fun x y hx hy q => k3 x y hx hy (by omega)⟩
theorem yj_fw58 {e : Nat → Nat → Prop} {np : Nat} (hn : np ≤ 10) (he : ∀ w l, e w l → w < np ∧ l < np) : ∀ (r t : Nat) (R : Nat → Nat → Int32), t + r = np → (∃ ρ, yj_ro e np R ρ ∧ ∀ x y n, yj_D e t x y n → x < np → y < np → ρ x y ≤ n) → ∃ ρ, yj_ro e np (gw_X9_ring_58 np r t R) ρ ∧ ∀ x y n, yj_D e np x y n → x < np → y < np → ρ x y ≤ n
  | 0, t, R, ht, ⟨ρ, h1, h2⟩ => by
    have : t = np := by omega
    subst this
    exact ⟨ρ, h1, h2⟩
  | r + 1, t, R, ht, ⟨ρ, h1, h2⟩ => by
    unfold gw_X9_ring_58
    obtain ⟨ρ', k1, k2, k3⟩ := yj_fw68 (e := e) hn (show t < np by omega) ρ np 0 R (by omega) ⟨ρ, h1, fun _ _ _ _ => Nat.le_refl _, fun x y hx hy q => absurd q (Nat.not_lt_zero _)⟩
    refine yj_fw58 hn he r (t + 1) _ (by omega) ⟨ρ', k1, fun x y n hd hx hy => ?_⟩
    rcases hd with hd | ⟨a, c, d1, d2, d3⟩
    · exact Nat.le_trans (k2 x y hx hy) (h2 x y n hd hx hy)
    · have g := k3 x y hx hy
      have g1 := h2 x t a d1 hx (by omega)
      have g2 := h2 t y c d2 (by omega) hy
      omega
theorem yj_r23 : ∀ (r t : Nat) (R : Nat → Nat → Int32), (∀ a j, a ≠ 69 → gw_X9_ring_23 r t R a j = R a j) ∧ (∀ j, j < t → gw_X9_ring_23 r t R 69 j = R 69 j) ∧ ∀ j, t ≤ j → j < t + r → gw_X9_ring_23 r t R 69 j = if R 67 j ≤ 0 then 1000000 else 1
  | 0, t, R => ⟨fun _ _ _ => rfl, fun _ _ => rfl, fun j h1 h2 => absurd h2 (by omega)⟩
  | r + 1, t, R => by
    have key : ∀ v : Int32, v = (if R 67 t ≤ 0 then 1000000 else 1) → (∀ a j, a ≠ 69 → gw_X9_ring_23 r (t + 1) (z_up R 69 t v) a j = R a j) ∧ (∀ j, j < t → gw_X9_ring_23 r (t + 1) (z_up R 69 t v) 69 j = R 69 j) ∧ ∀ j, t ≤ j → j < t + (r + 1) → gw_X9_ring_23 r (t + 1) (z_up R 69 t v) 69 j = if R 67 j ≤ 0 then 1000000 else 1 := by
      intro v hv
      obtain ⟨h1, h2, h3⟩ := yj_r23 r (t + 1) (z_up R 69 t v)
      refine ⟨fun a j q => (h1 a j q).trans (z_up_k _ _ q), fun j hj => (h2 j (by omega)).trans (z_up_j _ _ (by omega)), fun j g1 g2 => ?_⟩
      by_cases e : j = t
      · subst e; rw [h2 j (by omega), z_up_s, hv]
      · rw [h3 j (by omega) (by omega), z_up_k _ _ (by omega)]
    unfold gw_X9_ring_23
    by_cases q : R 67 t ≤ 0
    · rw [if_pos q]; exact key _ (by rw [if_pos q])
    · rw [if_neg q]; exact key _ (by rw [if_neg q])
/-- who beat whom -/
def yj_e (c : Nat → Nat → Nat) (w l : Nat) : Prop := 0 < c w l
theorem yj_bitT {V i : Nat} (hi : i < 10) : (nI V &&& ((1 : Int32) <<< (nI i &&& 31)) = 0) ↔ (V.testBit i = false) := by
  have p1 : 0 < 2 ^ i := Nat.pow_pos (by decide)
  have p2 : 2 ^ i ≤ 512 := Nat.pow_le_pow_right (n := 2) (by decide) (show i ≤ 9 by omega)
  rw [z_shl1 i (by omega), fa_and]
  cases h : V.testBit i
  · have : V &&& 2 ^ i = 0 := by
      apply Nat.eq_of_testBit_eq
      intro j
      rw [Nat.testBit_and, Nat.testBit_two_pow, Nat.zero_testBit]
      by_cases q : i = j
      · subst q; rw [h]; rfl
      · rw [decide_eq_false q, Bool.and_false]
    rw [this]; exact ⟨fun _ => rfl, fun _ => rfl⟩
  · have : V &&& 2 ^ i = 2 ^ i := by
      apply Nat.eq_of_testBit_eq
      intro j
      rw [Nat.testBit_and, Nat.testBit_two_pow]
      by_cases q : i = j
      · subst q; rw [h]; rfl
      · rw [decide_eq_false q, Bool.and_false]
    rw [this]
    exact ⟨fun q => absurd q (nI_ne0 p1 (by omega)), fun q => absurd q (by decide)⟩
theorem yj_beat {np t V : Nat} {c : Nat → Nat → Nat} {C R : Nat → Nat → Int32} {CL : Nat → Nat → Int64} (h : yj_K np t c C R CL) : ∀ n : Nat, n ≤ 10 → ∃ G, G < 1024 ∧ g_X2_beatenBy_4 C (nI V) n = nI G ∧ ∀ l, l < 10 → (G.testBit l = true ↔ ∃ i, i < n ∧ V.testBit i = true ∧ yj_e c i l)
  | 0, _ => ⟨0, by omega, rfl, fun l _ => by simp⟩
  | n + 1, hn => by
    obtain ⟨G, g1, g2, g3⟩ := yj_beat (V := V) h n (by omega)
    obtain ⟨B, b1, b2, b3⟩ := h.2.1 n (by omega)
    show ∃ G, G < 1024 ∧ gb_X2_beatenBy_4 C (nI V) n (g_X2_beatenBy_4 C (nI V) n) = nI G ∧ _
    unfold gb_X2_beatenBy_4
    rw [g2, b2]
    by_cases q : V.testBit n = false
    · rw [if_pos ((yj_bitT (by omega)).mpr q)]
      refine ⟨G, g1, by simp, fun l hl => ?_⟩
      rw [g3 l hl]
      constructor
      · rintro ⟨i, x, y⟩; exact ⟨i, by omega, y⟩
      · rintro ⟨i, x, y, z⟩
        have : i ≠ n := fun w => by rw [w, q] at y; exact absurd y (by decide)
        exact ⟨i, by omega, y, z⟩
    · rw [if_neg (fun w => q ((yj_bitT (by omega)).mp w)), fa_or]
      have q2 : V.testBit n = true := by cases w : V.testBit n; exact absurd w q; rfl
      refine ⟨G ||| B, Nat.or_lt_two_pow (n := 10) g1 b1, rfl, fun l hl => ?_⟩
      rw [Nat.testBit_or, b3 l hl, Bool.or_eq_true, g3 l hl, decide_eq_true_iff]
      constructor
      · rintro (⟨i, x, y⟩ | x)
        · exact ⟨i, by omega, y⟩
        · exact ⟨n, by omega, q2, x⟩
      · rintro ⟨i, x, y, z⟩
        by_cases w : i = n
        · subst w; exact Or.inr z
        · exact Or.inl ⟨i, by omega, y, z⟩
theorem yj_rgT {np t : Nat} {c : Nat → Nat → Nat} {C R : Nat → Nat → Int32} {CL : Nat → Nat → Int64} (h : yj_K np t c C R CL) (hn : np ≤ 10) {one : Nat} (ho : one < np) : ∀ (r s V : Nat), s + r = np → V < 1024 → (∀ l, l < 10 → (V.testBit l = true ↔ yj_wk (yj_e c) s one l)) → (∀ k, k < s → ¬ yj_wk (yj_e c) k one one) → (gx_X2_ringThrough_9 C np one r s (nI V) = 0 ∧ ∀ k, k < np → ¬ yj_wk (yj_e c) k one one) ∨ ∃ k, k < np ∧ gx_X2_ringThrough_9 C np one r s (nI V) = nI (k + 1) ∧ yj_wk (yj_e c) k one one ∧ ∀ j, j < k → ¬ yj_wk (yj_e c) j one one
  | 0, s, V, hs, _, _, h4 => Or.inl ⟨rfl, fun k hk => h4 k (by omega)⟩
  | r + 1, s, V, hs, hV, h3, h4 => by
    have he : ∀ w l, yj_e c w l → w < np ∧ l < np := by
      intro w l x
      refine ⟨Nat.lt_of_not_le fun q => ?_, Nat.lt_of_not_le fun q => ?_⟩
      · unfold yj_e at x; rw [h.2.2.2.2 w l (Or.inl q)] at x; exact absurd x (Nat.not_lt_zero _)
      · unfold yj_e at x; rw [h.2.2.2.2 w l (Or.inr (Or.inl q))] at x; exact absurd x (Nat.not_lt_zero _)
    unfold gx_X2_ringThrough_9
    by_cases q : V.testBit one = false
    · rw [if_pos ((yj_bitT (by omega)).mpr q)]
      obtain ⟨G, g1, g2, g3⟩ := yj_beat (V := V) h np hn
      have e2 : f_X2_beatenBy C np (nI V) = nI G := g2
      rw [e2]
      refine yj_rgT h hn ho r (s + 1) G (by omega) g1 (fun l hl => ?_) (fun k hk => ?_)
      · rw [g3 l hl]
        constructor
        · rintro ⟨i, x, y, z⟩
          exact ⟨i, (h3 i (by omega)).mp y, z⟩
        · rintro ⟨i, x, z⟩
          have := (he i l z).1
          exact ⟨i, this, (h3 i (by omega)).mpr x, z⟩
      · by_cases w : k = s
        · subst w
          intro z
          rw [(h3 one (by omega)).mpr z] at q
          exact absurd q (by decide)
        · exact h4 k (by omega)
    · rw [if_neg (fun w => q ((yj_bitT (by omega)).mp w))]
      have q2 : V.testBit one = true := by cases w : V.testBit one; exact absurd w q; rfl
      exact Or.inr ⟨s, by omega, rfl, (h3 one (by omega)).mp q2, h4⟩
theorem yj_through {np t : Nat} {c : Nat → Nat → Nat} {C R : Nat → Nat → Int32} {CL : Nat → Nat → Int64} (h : yj_K np t c C R CL) (hn : np ≤ 10) {one : Nat} (ho : one < np) : (f_X2_ringThrough C np one = 0 ∧ ∀ k, k < np → ¬ yj_wk (yj_e c) k one one) ∨ ∃ k, k < np ∧ f_X2_ringThrough C np one = nI (k + 1) ∧ yj_wk (yj_e c) k one one ∧ ∀ j, j < k → ¬ yj_wk (yj_e c) j one one := by
  obtain ⟨B, b1, b2, b3⟩ := h.2.1 one (by omega)
  unfold f_X2_ringThrough
  rw [b2]
  refine yj_rgT h hn ho np 0 B (by omega) b1 (fun l hl => ?_) (fun k hk => absurd hk (Nat.not_lt_zero _))
  rw [b3 l hl, decide_eq_true_iff]; rfl
theorem yj_small {np t : Nat} {c : Nat → Nat → Nat} {C R : Nat → Nat → Int32} {CL : Nat → Nat → Int64} (h : yj_K np t c C R CL) (hn : np ≤ 10) : ∀ n : Nat, n ≤ np → (g_X2_smallestRing_4 C np n = 0 ∧ ∀ p, p < n → ∀ k, k < np → ¬ yj_wk (yj_e c) k p p) ∨ ∃ k, k < np ∧ g_X2_smallestRing_4 C np n = nI (k + 1) ∧ (∃ p, p < n ∧ yj_wk (yj_e c) k p p) ∧ ∀ p, p < n → ∀ j, j < k → ¬ yj_wk (yj_e c) j p p
  | 0, _ => Or.inl ⟨rfl, fun p hp => absurd hp (Nat.not_lt_zero _)⟩
  | n + 1, hn1 => by
    have IH := yj_small h hn n (by omega)
    have T := yj_through h hn (show n < np by omega)
    show (gb_X2_smallestRing_4 C np n (g_X2_smallestRing_4 C np n) = 0 ∧ _) ∨ ∃ k, k < np ∧ gb_X2_smallestRing_4 C np n (g_X2_smallestRing_4 C np n) = nI (k + 1) ∧ _
    unfold gb_X2_smallestRing_4
    have sp : ∀ {P : Nat → Prop}, (∀ p, p < n → P p) → P n → ∀ p, p < n + 1 → P p := fun h1 h2 p hp => by
      by_cases e : p = n
      · subst e; exact h2
      · exact h1 p (by omega)
    rcases T with ⟨t1, t2⟩ | ⟨k, k1, k2, k3, k4⟩
    · rw [if_pos t1]
      rcases IH with ⟨i1, i2⟩ | ⟨j, j1, j2, ⟨p, p1, p2⟩, j4⟩
      · exact Or.inl ⟨i1, sp i2 t2⟩
      · exact Or.inr ⟨j, j1, j2, ⟨p, by omega, p2⟩, sp j4 (fun i hi => t2 i (by omega))⟩
    · rw [k2, if_neg (nI_ne0 (by omega) (by omega))]
      rcases IH with ⟨i1, i2⟩ | ⟨j, j1, j2, ⟨p, p1, p2⟩, j4⟩
      · rw [i1, if_pos rfl]
        exact Or.inr ⟨k, k1, rfl, ⟨n, by omega, k3⟩, sp (fun p hp j hj => i2 p hp j (by omega)) k4⟩
      · rw [j2, if_neg (nI_ne0 (by omega) (by omega))]
        by_cases q : j + 1 ≤ k + 1
        · rw [if_pos (nI_le q (by omega))]
          exact Or.inr ⟨j, j1, rfl, ⟨p, by omega, p2⟩, sp j4 (fun i hi => k4 i (by omega))⟩
        · rw [if_neg (nI_ge (by omega) (by omega))]
          exact Or.inr ⟨k, k1, rfl, ⟨n, by omega, k3⟩, sp (fun p hp i hi => j4 p hp i (by omega)) k4⟩
theorem yj_rg183 {np : Nat} (hn : np ≤ 10) (R : Nat → Nat → Int32) (L : Nat → Nat → Int64) (sh : Int32) {ρ : Nat → Nat → Nat} (hρ : ∀ p, p < np → (gw_X9_ring_58 np np 0 (gw_X9_ring_23 100 0 (m_X9_takesResults R L np sh.toNatClampNeg))) 69 (10 * p + p) = nI (ρ p p) ∧ ρ p p ≤ 1000000) : ∀ (r t v : Nat), t + r = np → v ≤ 1000000 → ∃ z, z ≤ 1000000 ∧ gx_X9_ring_183 R L np sh r t (nI v) = (if z = 1000000 then (-2) else nI z) ∧ z ≤ v ∧ (∀ p, t ≤ p → p < np → z ≤ ρ p p) ∧ (z = v ∨ ∃ p, p < np ∧ z = ρ p p)
  | 0, t, v, ht, hv => by
    refine ⟨v, hv, ?_, Nat.le_refl _, fun p h1 h2 => absurd h2 (by omega), Or.inl rfl⟩
    unfold gx_X9_ring_183
    by_cases q : v = 1000000
    · rw [if_pos q, q, if_pos (show nI 1000000 = 1000000 from rfl)]
    · rw [if_neg q, if_neg (show ¬ nI v = (1000000 : Int32) from fun w => q ((nI_eq (b := 1000000) (by omega) (by omega)).mp w))]
  | r + 1, t, v, ht, hv => by
    obtain ⟨a1, a2⟩ := hρ t (by omega)
    unfold gx_X9_ring_183
    rw [a1]
    by_cases q : v ≤ ρ t t
    · rw [if_pos (nI_le q (by omega))]
      obtain ⟨z, z1, z2, z3, z4, z5⟩ := yj_rg183 hn R L sh hρ r (t + 1) v (by omega) hv
      refine ⟨z, z1, z2, z3, fun p h1 h2 => ?_, z5⟩
      by_cases e : p = t
      · subst e; omega
      · exact z4 p (by omega) h2
    · rw [if_neg (nI_ge (by omega) (by omega))]
      obtain ⟨z, z1, z2, z3, z4, z5⟩ := yj_rg183 hn R L sh hρ r (t + 1) (ρ t t) (by omega) a2
      refine ⟨z, z1, z2, by omega, fun p h1 h2 => ?_, ?_⟩
      · by_cases e : p = t
        · subst e; omega
        · exact z4 p (by omega) h2
      · rcases z5 with z5 | z5
        · exact Or.inr ⟨t, by omega, z5⟩
        · exact Or.inr z5
theorem yj_s_ring {b : Bool} {np nq dn km tm sz bo rn : Nat} {C R : Nat → Nat → Int32} {CL RL : Nat → Nat → Int64} (h : yj_J b np nq dn km tm sz bo rn C R CL RL) (d : Int32) : f_X8_ring C CL np d = f_X9_ring R RL np d := by
  have hn := yj_Y2 h.1
  unfold f_X8_ring f_X9_ring
  rcases yj_brow h d with ⟨q1, q2, D, m, h1, rfl, h2, h3, h4, h5⟩ | ⟨q1, q2, q3⟩
  · rw [if_pos q1, q2, if_pos (show (0 : Int32) ≤ 1 by decide)]
    have K := yj_res hn h1 h2 h3 h4 h5 h.1.1.1
    have cD : (nI D).toNatClampNeg = D := nI_clamp (by omega)
    obtain ⟨⟨c, k⟩, -⟩ := K
    have he : ∀ w l, yj_e c w l → w < np ∧ l < np := by
      intro w l x
      refine ⟨Nat.lt_of_not_le fun q => ?_, Nat.lt_of_not_le fun q => ?_⟩
      · unfold yj_e at x; rw [k.2.2.2.2 w l (Or.inl q)] at x; exact absurd x (Nat.not_lt_zero _)
      · unfold yj_e at x; rw [k.2.2.2.2 w l (Or.inr (Or.inl q))] at x; exact absurd x (Nat.not_lt_zero _)
    obtain ⟨-, -, r3⟩ := yj_r23 100 0 (m_X9_takesResults R RL np D)
    have cl : ∀ w l, w < 10 → c w l ≤ 20 := fun w l hw => Nat.le_trans (yj_smL (f := fun w => c w l) (n := 10) hw) (k.2.2.2.1 l)
    obtain ⟨ρ, f1, f2⟩ := yj_fw58 (e := yj_e c) hn he np 0 (gw_X9_ring_23 100 0 (m_X9_takesResults R RL np D)) (by omega) ⟨fun p q => if 0 < c p q then 1 else 1000000, fun p q hp hq => by
      show _ = nI (if 0 < c p q then 1 else 1000000) ∧ (if 0 < c p q then 1 else 1000000) ≤ 1000000 ∧ ((if 0 < c p q then 1 else 1000000) < 1000000 → ∃ k, (if 0 < c p q then 1 else 1000000) = k + 1 ∧ _)
      rw [r3 _ (by omega) (by omega), k.1 p q (by omega) (by omega)]
      have := cl p q (by omega)
      by_cases g : 0 < c p q
      · rw [if_pos g, if_neg (nI_nle g (by omega))]
        exact ⟨rfl, by omega, fun _ => ⟨0, rfl, g⟩⟩
      · rw [if_neg g, show c p q = 0 by omega, if_pos (by decide)]
        exact ⟨rfl, by omega, fun x => absurd x (by omega)⟩, fun x y n hd _ _ => by
      obtain ⟨d1, d2⟩ := hd
      show (if 0 < c x y then 1 else 1000000) ≤ n
      rw [if_pos (show 0 < c x y from d1)]; omega⟩
    obtain ⟨z, z1, z2, z3, z4, z5⟩ := yj_rg183 hn R RL (nI D) (ρ := ρ) (by rw [cD]; exact fun p hp => ⟨(f1 p p hp hp).1, (f1 p p hp hp).2.1⟩) np 0 1000000 (by omega) (Nat.le_refl _)
    have z2' : gx_X9_ring_183 R RL np (nI D) np 0 1000000 = if z = 1000000 then (-2) else nI z := z2
    rw [z2', cD]
    have S := yj_small k hn np (Nat.le_refl _)
    have S' : f_X2_smallestRing (m_X2_read C CL np (42 + 2 * D)) np = g_X2_smallestRing_4 (m_X2_read C CL np (42 + 2 * D)) np np := rfl
    rw [S']
    rcases S with ⟨s1, s2⟩ | ⟨j, j1, j2, ⟨p, p1, p2⟩, j4⟩
    · rw [s1, if_pos rfl]
      by_cases e : z = 1000000
      · rw [if_pos e]
      · exfalso
        rcases z5 with w | ⟨p, p1, p2⟩
        · exact e w
        · obtain ⟨i, -, i2⟩ := (f1 p p p1 p1).2.2 (by omega)
          obtain ⟨j, q, x1, x2, x3⟩ := yj_short he i2
          exact s2 q x2 j x1 x3
    · rw [j2, if_neg (nI_ne0 (by omega) (by omega))]
      obtain ⟨n, n1, n2⟩ := yj_DW he p2
      have l1 := f2 p p n n2 p1 p1
      have l2 := z4 p (by omega) p1
      rw [if_neg (show ¬ z = 1000000 by omega)]
      rcases z5 with w | ⟨p', p1', p2'⟩
      · omega
      · obtain ⟨i, i1, i2⟩ := (f1 p' p' p1' p1').2.2 (by omega)
        have : ¬ i < j := fun w => j4 p' p1' i w i2
        rw [show z = j + 1 by omega]
  · rw [if_neg q1, if_neg q2, q3]
