/-! THE CLASS AGAINST THE REFERENCE: order, the fewest upsets -/
/-- upsets of p by those behind, in all -/
def yj_up (c : Nat → Nat → Nat) (p S : Nat) : Nat → Nat
  | 0 => 0
  | n + 1 => yj_up c p S n + (if S.testBit n = true then c n p else 0)
theorem yj_upL (c : Nat → Nat → Nat) (p S : Nat) : ∀ n : Nat, yj_up c p S n ≤ yj_sm (fun w => c w p) n
  | 0 => Nat.le_refl _
  | n + 1 => by
    have := yj_upL c p S n
    show yj_up c p S n + (if S.testBit n = true then c n p else 0) ≤ yj_sm (fun w => c w p) n + c n p
    split <;> omega
theorem yj_smM {f : Nat → Nat} : ∀ {n m : Nat}, n ≤ m → yj_sm f n ≤ yj_sm f m
  | n, 0, h => by rw [show n = 0 by omega]; exact Nat.le_refl _
  | n, m + 1, h => by
    by_cases e : n = m + 1
    · rw [e]; exact Nat.le_refl _
    · have := yj_smM (f := f) (n := n) (m := m) (by omega)
      show yj_sm f n ≤ yj_sm f m + f m
      omega
theorem yj_up20 {np t : Nat} {c : Nat → Nat → Nat} {C R : Nat → Nat → Int32} {CL : Nat → Nat → Int64} (h : yj_K np t c C R CL) (p S : Nat) {n : Nat} (hn : n ≤ 10) : yj_up c p S n ≤ t := Nat.le_trans (yj_upL c p S n) (Nat.le_trans (yj_smM hn) (h.2.2.2.1 p))
/-- the value if p is last of x -/
def yj_vl (c : Nat → Nat → Nat) (np : Nat) (F : Nat → Nat) (x p : Nat) : Nat := F (yj_bh x p) + yj_up c p (yj_bh x p) np
/-- the fewest upsets -/
def yj_rec (c : Nat → Nat → Nat) (np : Nat) (F : Nat → Nat) (x : Nat) : Prop := (∀ p, p < np → x.testBit p = true → F x ≤ yj_vl c np F x p) ∧ ∃ p, p < np ∧ x.testBit p = true ∧ F x = yj_vl c np F x p
theorem yj_bhL {x p : Nat} (hx : x < 1024) (hp : p < 10) (h : x.testBit p = true) : yj_bh x p < x := by
  have a := (yj_bhE (left := x) (p := p) (by omega)).2
  have b := (yj_bhB hx hp).2 p hp
  have : yj_bh x p ≠ x := fun q => by
    rw [q, h] at b
    simp at b
  omega
theorem yj_some {np x : Nat} (h0 : 0 < x) (h1 : x < 2 ^ np) (hn : np ≤ 10) : ∃ p, p < np ∧ x.testBit p = true := by
  refine Classical.byContradiction fun q => ?_
  have : x = 0 := by
    apply Nat.eq_of_testBit_eq
    intro i
    rw [Nat.zero_testBit]
    by_cases hi : i < np
    · cases w : x.testBit i
      · rfl
      · exact absurd ⟨i, hi, w⟩ q
    · exact Nat.testBit_lt_two_pow (Nat.lt_of_lt_of_le h1 (Nat.pow_le_pow_right (n := 2) (by decide) (show np ≤ i by omega)))
  omega
/-- the reference's sum -/
theorem yj_upR {np t : Nat} {c : Nat → Nat → Nat} {C R R' : Nat → Nat → Int32} {CL : Nat → Nat → Int64} (h : yj_K np t c C R CL) (hR : ∀ j, R' 67 j = R 67 j) {p S : Nat} (hp : p < 10) (hS : S < 1024) : ∀ n : Nat, n ≤ 10 → g_X9_upsetBy_5 R' p (nI S) n = nI (yj_up c p S n)
  | 0, _ => rfl
  | n + 1, hn => by
    show gb_X9_upsetBy_5 R' p (nI S) n (g_X9_upsetBy_5 R' p (nI S) n) = nI (yj_up c p S n + (if S.testBit n = true then c n p else 0))
    unfold gb_X9_upsetBy_5
    rw [yj_upR h hR hp hS n (by omega), yj_inS S hS n (by omega), hR, h.1 n p (by omega) hp]
    by_cases q : S.testBit n = true
    · rw [if_pos q, if_pos q, if_neg (by decide), nI_add]
    · rw [if_neg q, if_neg q, if_pos rfl]
      exact nI_add _ 0
/-- the inner loop -/
theorem yj_o68 {np x : Nat} {c : Nat → Nat → Nat} {C R : Nat → Nat → Int32} {CL : Nat → Nat → Int64} (h : yj_K np 20 c C R CL) (hn : np ≤ 10) (hx : x < 1024) (F : Nat → Nat) (hF : ∀ y, y < x → F y ≤ 20 * y) : ∀ (r t v : Nat) (R' : Nat → Nat → Int32), t + r = np → (∀ j, R' 67 j = R 67 j) → (∀ y, y < x → R' 68 y = nI (F y)) → R' 68 x = nI v → v ≤ 1000000 → (∀ p, p < t → x.testBit p = true → v ≤ yj_vl c np F x p) → (v = 1000000 ∨ ∃ p, p < t ∧ x.testBit p = true ∧ v = yj_vl c np F x p) → (∀ a j, a ≠ 68 ∨ j ≠ x → gw_X9_order_68 np x r t R' a j = R' a j) ∧ ∃ w, w ≤ 1000000 ∧ gw_X9_order_68 np x r t R' 68 x = nI w ∧ (∀ p, p < np → x.testBit p = true → w ≤ yj_vl c np F x p) ∧ (w = 1000000 ∨ ∃ p, p < np ∧ x.testBit p = true ∧ w = yj_vl c np F x p)
  | 0, t, v, R', ht, h67, h68, hv, hv2, h1, h2 => ⟨fun _ _ _ => rfl, v, hv2, hv, fun p hp => h1 p (by omega), by
      rcases h2 with q | ⟨p, p1, p2⟩
      · exact Or.inl q
      · exact Or.inr ⟨p, by omega, p2⟩⟩
  | r + 1, t, v, R', ht, h67, h68, hv, hv2, h1, h2 => by
    unfold gw_X9_order_68
    rw [yj_inS x hx t (by omega)]
    by_cases q : x.testBit t = true
    · have lt := yj_bhL hx (show t < 10 by omega) q
      have bh := (yj_bhB hx (show t < 10 by omega)).1
      have e1 : R' 68 (yj_bh x t) + f_X9_upsetBy R' np t (nI (yj_bh x t)) = nI (yj_vl c np F x t) := by
        unfold f_X9_upsetBy
        rw [h68 _ lt, yj_upR h h67 (by omega) bh np hn, nI_add]
        rfl
      have u := yj_up20 h t (yj_bh x t) hn
      have f := hF _ lt
      have vl : yj_vl c np F x t ≤ 1000000 := by unfold yj_vl; omega
      rw [if_pos q, if_neg (show ¬ (1 : Int32) = 0 by decide), e1, hv]
      have key : ∀ w : Nat, w ≤ v → w ≤ yj_vl c np F x t → (w = v ∨ w = yj_vl c np F x t) → (∀ a j, a ≠ 68 ∨ j ≠ x → gw_X9_order_68 np x r (t + 1) (z_up R' 68 x (nI w)) a j = R' a j) ∧ ∃ w', w' ≤ 1000000 ∧ gw_X9_order_68 np x r (t + 1) (z_up R' 68 x (nI w)) 68 x = nI w' ∧ (∀ p, p < np → x.testBit p = true → w' ≤ yj_vl c np F x p) ∧ (w' = 1000000 ∨ ∃ p, p < np ∧ x.testBit p = true ∧ w' = yj_vl c np F x p) := by
        intro w w1 w2 w3
        obtain ⟨g1, g2⟩ := yj_o68 h hn hx F hF r (t + 1) w (z_up R' 68 x (nI w)) (by omega) (fun j => (z_up_k _ _ (by omega)).trans (h67 j)) (fun y hy => (z_up_j _ _ (by omega)).trans (h68 y hy)) (z_up_s _ _ _ _) (by omega) (fun p hp hb => by
          by_cases e : p = t
          · subst e; exact w2
          · exact Nat.le_trans w1 (h1 p (by omega) hb)) (by
          rcases w3 with e | e
          · rcases h2 with z | ⟨p, p1, p2, p3⟩
            · exact Or.inl (by omega)
            · exact Or.inr ⟨p, by omega, p2, by omega⟩
          · exact Or.inr ⟨t, by omega, q, e⟩)
        refine ⟨fun a j z => (g1 a j z).trans ?_, g2⟩
        unfold z_up
        by_cases z2 : a = 68
        · rw [if_pos z2, if_neg (by omega)]
        · rw [if_neg z2]
      by_cases le : v ≤ yj_vl c np F x t
      · rw [if_pos (nI_le le (by omega))]
        exact key v (Nat.le_refl _) le (Or.inl rfl)
      · rw [if_neg (nI_ge (by omega) (by omega))]
        exact key _ (by omega) (Nat.le_refl _) (Or.inr rfl)
    · rw [if_neg q, if_pos rfl]
      exact yj_o68 h hn hx F hF r (t + 1) v R' (by omega) h67 h68 hv hv2 (fun p hp hb => by
        by_cases e : p = t
        · subst e; exact absurd hb q
        · exact h1 p (by omega) hb) (by
        rcases h2 with z | ⟨p, p1, p2⟩
        · exact Or.inl z
        · exact Or.inr ⟨p, by omega, p2⟩)
/-- the table so far -/
def yj_tab (c : Nat → Nat → Nat) (np t : Nat) (F : Nat → Nat) (R : Nat → Nat → Int32) : Prop := F 0 = 0 ∧ ∀ y, y < t → R 68 y = nI (F y) ∧ F y ≤ 20 * y ∧ (0 < y → yj_rec c np F y)
theorem yj_recC {c : Nat → Nat → Nat} {np x : Nat} {F G : Nat → Nat} (hn : np ≤ 10) (hx : x < 1024) (h : ∀ y, y ≤ x → G y = F y) (r : yj_rec c np F x) : yj_rec c np G x := by
  have e : ∀ p, p < np → x.testBit p = true → yj_vl c np G x p = yj_vl c np F x p := by
    intro p hp hb
    unfold yj_vl
    rw [h _ (Nat.le_of_lt (yj_bhL hx (by omega) hb))]
  obtain ⟨r1, p, p1, p2, p3⟩ := r
  refine ⟨fun p hp hb => by rw [h x (Nat.le_refl _), e p hp hb]; exact r1 p hp hb, p, p1, p2, by rw [h x (Nat.le_refl _), e p p1 p2]; exact p3⟩
theorem yj_o50 {np : Nat} {c : Nat → Nat → Nat} {C R : Nat → Nat → Int32} {CL : Nat → Nat → Int64} (h : yj_K np 20 c C R CL) (hn : np ≤ 10) : ∀ (r t : Nat) (R' : Nat → Nat → Int32), t + r = 2 ^ np → 0 < t → (∀ j, R' 67 j = R 67 j) → (∃ F, yj_tab c np t F R') → (∀ a j, a ≠ 68 ∨ j = 0 → gw_X9_order_50 np r t R' a j = R' a j) ∧ ∃ F, yj_tab c np (2 ^ np) F (gw_X9_order_50 np r t R')
  | 0, t, R', ht, h0, h67, hT => ⟨fun _ _ _ => rfl, by rw [← show t = 2 ^ np by omega]; exact hT⟩
  | r + 1, t, R', ht, h0, h67, ⟨F, hF0, hF⟩ => by
    have p10 : 2 ^ np ≤ 1024 := Nat.pow_le_pow_right (n := 2) (by decide) hn
    obtain ⟨g1, w, w1, w2, w3, w4⟩ := yj_o68 h hn (show t < 1024 by omega) F (fun y hy => (hF y hy).2.1) np 0 1000000 (z_up R' 68 t 1000000) (by omega) (fun j => (z_up_k _ _ (by omega)).trans (h67 j)) (fun y hy => (z_up_j _ _ (by omega)).trans (hF y hy).1) (z_up_s _ _ _ _) (Nat.le_refl _) (fun p hp => absurd hp (Nat.not_lt_zero _)) (Or.inl rfl)
    obtain ⟨p, p1, p2⟩ := yj_some h0 (show t < 2 ^ np by omega) hn
    have vp : ∀ p, p < np → t.testBit p = true → yj_vl c np F t p ≤ 20 * t := by
      intro p hp hb
      have lt := yj_bhL (show t < 1024 by omega) (show p < 10 by omega) hb
      have u := yj_up20 h p (yj_bh t p) hn
      have f := (hF _ lt).2.1
      unfold yj_vl
      omega
    have v1 := vp p p1 p2
    have v2 := w3 p p1 p2
    rcases w4 with z | ⟨q, q1, q2, q3⟩
    · exact absurd z (by omega)
    · have gF : ∀ a j, a ≠ 68 ∨ j ≠ t → gw_X9_order_68 np t np 0 (z_up R' 68 t 1000000) a j = R' a j := by
        intro a j z
        rw [g1 a j z]
        unfold z_up
        by_cases z2 : a = 68
        · rw [if_pos z2, if_neg (by omega)]
        · rw [if_neg z2]
      obtain ⟨k1, k2⟩ := yj_o50 h hn r (t + 1) (gw_X9_order_68 np t np 0 (z_up R' 68 t 1000000)) (by omega) (by omega) (fun j => (gF 67 j (by omega)).trans (h67 j)) ⟨fun y => if y = t then w else F y, by
          show (if 0 = t then w else F 0) = 0
          rw [if_neg (by omega)]; exact hF0, fun y hy => by
        show gw_X9_order_68 np t np 0 (z_up R' 68 t 1000000) 68 y = nI (if y = t then w else F y) ∧ (if y = t then w else F y) ≤ 20 * y ∧ (0 < y → yj_rec c np (fun y => if y = t then w else F y) y)
        by_cases e : y = t
        · subst e
          rw [if_pos rfl]
          refine ⟨w2, by omega, fun _ => ?_⟩
          have e2 : ∀ p, p < np → y.testBit p = true → yj_vl c np (fun z => if z = y then w else F z) y p = yj_vl c np F y p := by
            intro p hp hb
            have lt := yj_bhL (show y < 1024 by omega) (show p < 10 by omega) hb
            show (if yj_bh y p = y then w else F (yj_bh y p)) + _ = F (yj_bh y p) + _
            rw [if_neg (show ¬ yj_bh y p = y by omega)]
          refine ⟨fun p hp hb => ?_, q, q1, q2, ?_⟩
          · rw [e2 p hp hb]
            show (if y = y then w else F y) ≤ _
            rw [if_pos rfl]; exact w3 p hp hb
          · rw [e2 q q1 q2]
            show (if y = y then w else F y) = _
            rw [if_pos rfl]; exact q3
        · rw [if_neg e]
          obtain ⟨f1, f2, f3⟩ := hF y (by omega)
          refine ⟨(gF 68 y (by omega)).trans f1, f2, fun y0 => ?_⟩
          exact yj_recC hn (by omega) (fun z hz => by
            show (if z = t then w else F z) = F z
            rw [if_neg (by omega)]) (f3 y0)⟩
      unfold gw_X9_order_50
      exact ⟨fun a j z => (k1 a j z).trans (gF a j (by omega)), k2⟩
/-- who attains it -/
def yj_at (c : Nat → Nat → Nat) (np : Nat) (F : Nat → Nat) (x p : Nat) : Prop := x.testBit p = true ∧ F x = yj_vl c np F x p
theorem yj_nxA {np x : Nat} {c : Nat → Nat → Nat} {C R R' : Nat → Nat → Int32} {CL : Nat → Nat → Int64} (h : yj_K np 20 c C R CL) (hn : np ≤ 10) (h67 : ∀ j, R' 67 j = R 67 j) {F : Nat → Nat} (hT : yj_tab c np (2 ^ np) F R') (hx : x < 2 ^ np) : ∀ (q : Nat) (v : Int32), q ≤ np → (∃ p, p < q ∧ yj_at c np F x p ∧ (∀ y, y < p → ¬ yj_at c np F x y) ∧ yj_nxt np R' x q v = nI p) ∨ ((∀ y, y < q → ¬ yj_at c np F x y) ∧ yj_nxt np R' x q v = v)
  | 0, v, _ => Or.inr ⟨fun y hy => absurd hy (Nat.not_lt_zero _), rfl⟩
  | q + 1, v, hq => by
    have p10 : 2 ^ np ≤ 1024 := Nat.pow_le_pow_right (n := 2) (by decide) hn
    have A : (¬ f_X9_isIn (nI x) (nI q) = 0 ∧ R' 68 (yj_bh x q) + f_X9_upsetBy R' np q (nI (yj_bh x q)) = R' 68 x) ↔ yj_at c np F x q := by
      rw [yj_inS x (by omega) q (by omega)]
      by_cases w : x.testBit q = true
      · have lt := yj_bhL (show x < 1024 by omega) (show q < 10 by omega) w
        have bh := (yj_bhB (show x < 1024 by omega) (show q < 10 by omega)).1
        have u := yj_up20 h q (yj_bh x q) hn
        obtain ⟨f1, f2, -⟩ := hT.2 _ (show yj_bh x q < 2 ^ np by omega)
        obtain ⟨f3, f4, -⟩ := hT.2 x hx
        have e1 : R' 68 (yj_bh x q) + f_X9_upsetBy R' np q (nI (yj_bh x q)) = nI (yj_vl c np F x q) := by
          unfold f_X9_upsetBy
          rw [f1, yj_upR h h67 (by omega) bh np hn, nI_add]
          rfl
        have vl : yj_vl c np F x q ≤ 1000000 := by unfold yj_vl; omega
        rw [if_pos w, e1, f3, nI_eq (by omega) (by omega)]
        unfold yj_at
        constructor
        · rintro ⟨-, e⟩; exact ⟨w, e.symm⟩
        · rintro ⟨-, e⟩; exact ⟨by decide, e.symm⟩
      · rw [if_neg w]
        constructor
        · rintro ⟨e, -⟩; exact absurd rfl e
        · rintro ⟨e, -⟩; exact absurd e w
    have step : ∀ v', (yj_at c np F x q → v' = nI q) → (¬ yj_at c np F x q → v' = v) → (∃ p, p < q + 1 ∧ yj_at c np F x p ∧ (∀ y, y < p → ¬ yj_at c np F x y) ∧ yj_nxt np R' x q v' = nI p) ∨ ((∀ y, y < q + 1 → ¬ yj_at c np F x y) ∧ yj_nxt np R' x q v' = v) := by
      intro v' s1 s2
      rcases yj_nxA h hn h67 hT hx q v' (by omega) with ⟨p, p1, p2, p3, p4⟩ | ⟨p1, p2⟩
      · exact Or.inl ⟨p, by omega, p2, p3, p4⟩
      · by_cases w : yj_at c np F x q
        · exact Or.inl ⟨q, by omega, w, p1, by rw [p2, s1 w]⟩
        · refine Or.inr ⟨fun y hy => ?_, by rw [p2, s2 w]⟩
          by_cases e : y = q
          · rw [e]; exact w
          · exact p1 y (by omega)
    unfold yj_nxt
    by_cases a1 : f_X9_isIn (nI x) (nI q) = 0
    · rw [if_pos a1]
      exact step v (fun w => absurd a1 (A.mpr w).1) (fun _ => rfl)
    · rw [if_neg a1]
      by_cases a2 : R' 68 (yj_bh x q) + f_X9_upsetBy R' np q (nI (yj_bh x q)) = R' 68 x
      · rw [if_pos a2]
        exact step (nI q) (fun _ => rfl) (fun w => absurd (A.mp ⟨a1, a2⟩) w)
      · rw [if_neg a2]
        exact step v (fun w => absurd (A.mpr w).2 a2) (fun _ => rfl)
/-- the leader of x -/
theorem yj_nxB {np x : Nat} {c : Nat → Nat → Nat} {C R R' : Nat → Nat → Int32} {CL : Nat → Nat → Int64} (h : yj_K np 20 c C R CL) (hn : np ≤ 10) (h67 : ∀ j, R' 67 j = R 67 j) {F : Nat → Nat} (hT : yj_tab c np (2 ^ np) F R') (h0 : 0 < x) (hx : x < 2 ^ np) : ∃ p, p < np ∧ yj_at c np F x p ∧ (∀ y, y < p → ¬ yj_at c np F x y) ∧ yj_nxt np R' x np (-1) = nI p := by
  rcases yj_nxA h hn h67 hT hx np (-1) (Nat.le_refl _) with g | ⟨p1, -⟩
  · exact g
  · obtain ⟨-, p, q1, q2, q3⟩ := (hT.2 x hx).2.2 h0
    exact absurd ⟨q2, q3⟩ (p1 p q1)
