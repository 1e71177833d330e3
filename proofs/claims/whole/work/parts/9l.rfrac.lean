/-! THE CLASS AGAINST THE REFERENCE: fractions; streak, thrown; players from a row -/
theorem yj_lc0 {n : Nat} (h : n < 2 ^ 63) : lg_cmp (lN n) 0 = 0 ↔ n = 0 := by
  rw [yj_cmpE, show (0 : Int64) = lN 0 from rfl, pk_lEQ h (by omega)]
theorem yj_mod2 {b c : Nat} (h0 : 0 < c) (h : c < b) : 2 * (b % c) < b := by
  have h1 : b % c < c := Nat.mod_lt _ h0
  have h2 : b % c = (b - c) % c := Nat.mod_eq_sub_mod (by omega)
  have h3 : (b - c) % c ≤ b - c := Nat.mod_le _ _
  omega
theorem yj_gcL (x y : Int64) (part : Int32) : ∀ (k r t a b : Nat), a < 2 ^ 63 → b < 2 ^ 63 → b < 2 ^ k → 2 * k ≤ r → gx_X8_lowest_25 x y part r t (lN a) (lN b) = if part = 0 then (x / (if lN (Nat.gcd a b) < 1 then 1 else lN (Nat.gcd a b))) else (y / (if lN (Nat.gcd a b) < 1 then 1 else lN (Nat.gcd a b))) := by
  have z : ∀ (r t a : Nat), gx_X8_lowest_25 x y part r t (lN a) (lN 0) = if part = 0 then (x / (if lN (Nat.gcd a 0) < 1 then 1 else lN (Nat.gcd a 0))) else (y / (if lN (Nat.gcd a 0) < 1 then 1 else lN (Nat.gcd a 0))) := by
    intro r t a
    rw [Nat.gcd_zero_right]
    cases r with
    | zero => rfl
    | succ r =>
      unfold gx_X8_lowest_25
      rw [if_pos (by decide)]
  intro k
  induction k with
  | zero =>
    intro r t a b ha hb hk _
    have : b = 0 := by omega
    subst this
    exact z r t a
  | succ k ih =>
    intro r t a b ha hb hk hr
    by_cases b0 : b = 0
    · subst b0; exact z r t a
    · obtain ⟨r, rfl⟩ : ∃ q, r = q + 2 := ⟨r - 2, by omega⟩
      have hab : a % b < b := Nat.mod_lt _ (by omega)
      rw [gx_X8_lowest_25, if_neg (fun q => b0 ((yj_lc0 hb).mp q)), pk_lRem ha (by omega) hb, Nat.gcd_comm a b, Nat.gcd_rec b a, Nat.gcd_comm (a % b) b]
      by_cases c0 : a % b = 0
      · rw [c0]; exact z (r + 1) (t + 1) b
      · rw [gx_X8_lowest_25, if_neg (fun q => c0 ((yj_lc0 (by omega)).mp q)), pk_lRem hb (by omega) (by omega), Nat.gcd_comm b (a % b), Nat.gcd_rec (a % b) b, Nat.gcd_comm (b % (a % b)) (a % b)]
        have m := yj_mod2 (b := b) (c := a % b) (by omega) hab
        have p : 2 ^ (k + 1) = 2 * 2 ^ k := by rw [Nat.pow_succ]; omega
        exact ih r (t + 1 + 1) (a % b) (b % (a % b)) (by omega) (by omega) (by omega) (by omega)
theorem yj_gcR (x y : Int64) (part : Int32) : ∀ (r t a b : Nat), a < 2 ^ 63 → b < 2 ^ 63 → b < r → gx_X9_partOf_16 x y part r t (lN a) (lN b) = if part = 0 then x / lN (Nat.gcd a b) else y / lN (Nat.gcd a b)
  | 0, _, _, _, _, _, h => absurd h (Nat.not_lt_zero _)
  | r + 1, t, a, b, ha, hb, h => by
    unfold gx_X9_partOf_16
    by_cases b0 : b = 0
    · subst b0
      rw [if_pos (show lg_cmp (lN 0) 0 = 0 by decide), Nat.gcd_zero_right]
    · have hab : a % b < b := Nat.mod_lt _ (by omega)
      rw [if_neg (fun q => b0 ((yj_lc0 hb).mp q)), pk_lRem ha (by omega) hb, Nat.gcd_comm a b, Nat.gcd_rec b a, Nat.gcd_comm (a % b) b]
      exact yj_gcR x y part r (t + 1) b (a % b) hb (by omega) (by omega)
theorem yj_low {x y : Nat} (hx : x < 2 ^ 40) (hy0 : 0 < y) (hy : y < 2 ^ 40) {part : Int32} (hp : part = 0 ∨ part = 1) : f_X8_lowest (lN x) (lN y) part = f_X9_partOf (lN x) (lN y) part := by
  have hx63 : x < 2 ^ 63 := by omega
  have hy63 : y < 2 ^ 63 := by omega
  unfold f_X8_lowest f_X9_partOf
  have c1 : ¬ lg_cmp (lN y) 0 ≤ 0 := by
    have : 0 < lg_cmp (lN y) 0 := (yj_cmpG _ _).mpr (by rw [show (0 : Int64) = lN 0 from rfl, pk_lLT (by omega) hy63]; omega)
    exact Int32.not_le.mpr this
  have c2 : 0 ≤ lg_cmp (lN x) 0 := Int32.not_lt.mp (fun q => by
    have := (yj_cmpL _ _).mp q
    rw [show (0 : Int64) = lN 0 from rfl, pk_lLT hx63 (by omega)] at this
    omega)
  rw [if_neg c1, if_pos c2, yj_gcL _ _ _ 40 100 0 y x hy63 hx63 hx (by omega)]
  by_cases x0 : x = 0
  · subst x0
    rw [if_pos (show lg_cmp (lN 0) 0 = 0 by decide), Nat.gcd_zero_right]
    have n1 : ¬ lN y < 1 := by
      rw [show (1 : Int64) = lN 1 from rfl, pk_lLT hy63 (by omega)]; omega
    rw [if_neg n1]
    rcases hp with rfl | rfl
    · rw [if_pos rfl, pk_lDiv (by omega) hy0 hy63, Nat.zero_div]; rfl
    · rw [if_neg (by decide), pk_lDiv hy63 hy0 hy63, Nat.div_self hy0]; rfl
  · have g0 : 0 < Nat.gcd y x := Nat.gcd_pos_of_pos_left x hy0
    have gle : Nat.gcd y x ≤ y := Nat.gcd_le_left x hy0
    have n1 : ¬ lN (Nat.gcd y x) < 1 := by
      rw [show (1 : Int64) = lN 1 from rfl, pk_lLT (by omega) (by omega)]; omega
    rw [if_neg (fun q => x0 ((yj_lc0 hx63).mp q)), if_neg n1, pk_lT hy63, Int.toNat_natCast, yj_gcR _ _ _ (y + 1) 0 x y hx63 hy63 (by omega), Nat.gcd_comm x y]
theorem yj_partC {part : Int32} (h : ¬ f_X9_within part.toInt64 0 1 = 0) : part = 0 ∨ part = 1 := by
  rw [yj_w01] at h
  by_cases h0 : part < 0
  · rw [if_pos h0] at h; exact absurd rfl h
  · rw [if_neg h0] at h
    by_cases h1 : 1 < part
    · rw [if_pos h1] at h; exact absurd rfl h
    · obtain ⟨n, hn, rfl⟩ := yj_rc (N := 1) (by omega) rfl h0 h1
      have : n = 0 ∨ n = 1 := by omega
      rcases this with rfl | rfl
      · exact Or.inl rfl
      · exact Or.inr rfl
theorem yj_pow12 {t x : Nat} (ht : t ≤ 8) (h : x ≤ 12 ^ t) : x < 2 ^ 39 := by
  have : 12 ^ t ≤ 12 ^ 8 := Nat.pow_le_pow_right (by decide) ht
  have e : 12 ^ 8 = 429981696 := by decide
  omega
theorem yj_s_streak {b : Bool} {np nq dn km tm sz bo rn : Nat} {C R : Nat → Nat → Int32} {CL RL : Nat → Nat → Int64} (h : yj_J b np nq dn km tm sz bo rn C R CL RL) (abu k part : Int32) : f_X8_streak b C sz abu k part = f_X9_streak R np abu k part ∧ yj_B b (m_X8_streak b C sz abu k part) (m_X9_streak R np abu k part) CL RL := by
  have hn := yj_Y2 h.1
  have h' := yj_begJ h np
  unfold f_X8_streak f_X9_streak m_X8_streak m_X9_streak
  rw [yj_isThree hn h.1.1.1, yj_isPart, yj_w06]
  by_cases o : f_X9_isAbu np abu = 0
  · simp only [o, reduceIte]; exact ⟨trivial, yj_mk h⟩
  · by_cases k0 : k < 0
    · simp only [o, k0, reduceIte]; exact ⟨trivial, yj_mk h⟩
    · by_cases k6 : 6 < k
      · simp only [o, k0, k6, reduceIte]; exact ⟨trivial, yj_mk h⟩
      · by_cases p : f_X9_within part.toInt64 0 1 = 0
        · simp only [o, k0, k6, p, yj_d10, reduceIte]; exact ⟨trivial, yj_mk h⟩
        · obtain ⟨a, e, u, ⟨ha, he, hu⟩, hd, ea, ee, eu⟩ := yj_abu hn o
          have ca : (nI a).toNatClampNeg = a := nI_clamp (by omega)
          have ce : (nI e).toNatClampNeg = e := nI_clamp (by omega)
          have cu : (nI u).toNatClampNeg = u := nI_clamp (by omega)
          have E := yj_odds (yj_Y1 h.1) h'.2.2.2.2.1 (Or.inl rfl) ha he hu hd
          simp only [o, k0, k6, p, yj_d10, reduceIte]
          rw [ee, ea, eu, ca, ce, cu]
          refine ⟨?_, yj_mk (yj_J0 h' (yj_eCo (z_Fr_rf C) b sz 1 _ _ _) (yj_eRo (yj_eRrf _) a e u))⟩
          obtain ⟨q, hq, eq⟩ := z_12b (m_X9_begins R np) a e u
          have cls : ∀ i : Nat, g_X8_streak_69 b C sz abu i = (lN (q ^ i), lN (12 ^ i)) := by
            intro i
            induction i with
            | zero => rfl
            | succ i ih =>
              show gb_X8_streak_69 b C sz abu i (g_X8_streak_69 b C sz abu i) = _
              unfold gb_X8_streak_69
              rw [ih, ee, ea, eu, E, eq, show (12 : Int64) = lN 12 from rfl, lN_mul, lN_mul, Nat.pow_succ, Nat.pow_succ]
          have refl : ∀ (r t : Nat), gx_X9_streak_68 R np abu part r t (lN (q ^ t)) (lN (12 ^ t)) = f_X9_partOf (lN (q ^ (t + r))) (lN (12 ^ (t + r))) part := by
            intro r
            induction r with
            | zero => exact fun t => rfl
            | succ r ih =>
              intro t
              unfold gx_X9_streak_68
              rw [ee, ea, eu, ca, ce, cu, eq, show (12 : Int64) = lN 12 from rfl, lN_mul, lN_mul, ← Nat.pow_succ, ← Nat.pow_succ, ih (t + 1), show t + 1 + r = t + (r + 1) by omega]
          obtain ⟨K, hK, rfl⟩ := yj_rc (N := 6) (by omega) rfl k0 k6
          rw [nI_clamp (by omega), cls K]
          have r := refl K 0
          rw [Nat.zero_add] at r
          have r2 : gx_X9_streak_68 R np abu part K 0 1 1 = f_X9_partOf (lN (q ^ K)) (lN (12 ^ K)) part := r
          rw [r2]
          have b1 : q ^ K ≤ 12 ^ K := Nat.pow_le_pow_left hq K
          have b2 := yj_pow12 (t := K) (by omega) (Nat.le_refl _)
          exact yj_low (by omega) (Nat.pow_pos (by decide)) (by omega) (yj_partC p)
/-- a shelf as a row of bytes -/
theorem yj_bytes {b : Bool} {np nq dn km tm sz bo rn : Nat} {C R : Nat → Nat → Int32} {CL RL : Nat → Nat → Int64} (h : yj_J b np nq dn km tm sz bo rn C R CL RL) (d : Int32) : (f_X8_bytesRefusal C d = f_X9_rowIs R d 0 ∧ f_X9_rowIs R d 0 < 0 ∧ (f_X9_rowIs R d 0 = (-1) ↔ f_X9_isShelf d = 0)) ∨ (f_X8_bytesRefusal C d = 0 ∧ f_X9_rowIs R d 0 = 1 ∧ ¬ f_X9_isShelf d = 0 ∧ ∃ D m, D < 6 ∧ d = nI D ∧ m ≤ 60 ∧ C (42 + 2 * D) 2 = nI m ∧ R 76 D = nI m ∧ ∀ j, j < 60 → CL (43 + 2 * D) j = RL 77 (60 * D + j) ∧ (RL 77 (60 * D + j)).toInt32.toInt64 = RL 77 (60 * D + j)) := by
  have hb := h.2.2.2.2.2.1.1.2.2
  unfold f_X8_bytesRefusal f_X9_rowIs
  rw [yj_isShelf, show (50 : Int32) + 0 = 50 by decide]
  by_cases o : f_X9_isShelf d = 0
  · rw [if_pos o, if_pos o]; exact Or.inl ⟨rfl, by decide, ⟨fun _ => o, fun _ => rfl⟩⟩
  · rw [if_neg o, if_neg o]
    obtain ⟨e1, e2⟩ := yj_shelf o
    generalize d.toNatClampNeg = D at e1 e2 ⊢
    rcases yj_placeS (h.2.2.2.2.2.2.1 D e2) hb d with (⟨q1, q2⟩ | ⟨q1, w, q2, q3⟩) | ⟨s, m, k1, k2, k3, k4, k5, k6, k7⟩
    · rw [q1, q2, if_pos rfl, if_neg (by decide)]; exact Or.inl ⟨rfl, by decide, ⟨fun q => absurd q (by decide), fun q => absurd q o⟩⟩
    · have w4 : ¬ nI w = 50 := fun q => absurd ((nI_eq (b := 50) (by omega) (by omega)).mp q) (by omega)
      rw [q1, q3, if_neg (by decide), if_neg (by decide), if_pos (nI_pos' (by omega)), if_neg w4]
      exact Or.inl ⟨rfl, by decide, ⟨fun q => absurd q (by decide), fun q => absurd q o⟩⟩
    · obtain ⟨s1, s2, s3, s4, -⟩ := yj_sI s k1
      rw [k3, k4, if_neg s1, if_pos s4]
      by_cases s0 : s = 0
      · subst s0
        rw [if_pos (show nI 0 = 0 from rfl), if_pos (show nI (50 + 0) = 50 from rfl)]
        exact Or.inr ⟨rfl, rfl, o, D, m, e2, e1, k2, k5, k6, fun j hj => ⟨(k7 j hj).1, (k7 j hj).2 (by omega)⟩⟩
      · have n1 : ¬ nI s = 0 := nI_ne0 (by omega) (by omega)
        have n2 : ¬ nI (50 + s) = 50 := fun q => absurd ((nI_eq (b := 50) (by omega) (by omega)).mp q) (by omega)
        rw [if_neg n1, if_neg n2]
        exact Or.inl ⟨rfl, by decide, ⟨fun q => absurd q (by decide), fun q => absurd q o⟩⟩
theorem yj_valC {C : Nat → Nat → Int32} {CL : Nat → Nat → Int64} {D m t : Nat} (hm : m ≤ 60) (hc : C (42 + 2 * D) 2 = nI m) (ht : t < m) : f_X4_valueAt C CL (42 + 2 * D) (nI t) = CL (43 + 2 * D) t := by
  unfold f_X4_valueAt f_X4_hasPlaces
  rw [hc, if_neg (nI_pos (by omega)), if_neg (show ¬ (1 : Int32) < 0 by decide), if_neg (fun q => absurd ((yj_lt1 hm _).mp q) (nI_ge ht (by omega))), if_neg (show ¬ (1 : Int32) = 0 by decide), nI_clamp (by omega), show 42 + 2 * D + 1 = 43 + 2 * D by omega]
theorem yj_thr {b : Bool} {np sz D m : Nat} {C R : Nat → Nat → Int32} {CL RL : Nat → Nat → Int64} {sh abu part : Int32} (hp : part = 0 ∨ part = 1) {q : Int32} {x0 x1 : Nat} (h0 : x0 ≤ 12) (h1 : x1 ≤ 12) (eC : f_X1_oddsOn b C sz 1 (abu / 100) ((abu / 10) - (abu / 10) / 10 * 10) (abu - abu / 10 * 10) = q) (eR : f_X9_oddsOf (m_X9_begins R np) ((abu / 100).toNatClampNeg) (((abu / 10) - (abu / 10) / 10 * 10).toNatClampNeg) ((abu - abu / 10 * 10).toNatClampNeg) = q) (q0 : q.toInt64 = lN x0) (q1 : (12 - q).toInt64 = lN x1) (hsh : sh.toNatClampNeg = D) (hm : m ≤ 60) (cm : C (42 + 2 * D) 2 = nI m) (cm' : m_X1_oddsOn b C sz 1 (abu / 100) ((abu / 10) - (abu / 10) / 10 * 10) (abu - abu / 10 * 10) (42 + 2 * D) 2 = nI m) (rm : m_X9_oddsOf (m_X9_begins R np) ((abu / 100).toNatClampNeg) (((abu / 10) - (abu / 10) / 10 * 10).toNatClampNeg) ((abu - abu / 10 * 10).toNatClampNeg) 76 D = nI m) (hv : ∀ j, j < 60 → CL (43 + 2 * D) j = RL 77 (60 * D + j) ∧ (RL 77 (60 * D + j)).toInt32.toInt64 = RL 77 (60 * D + j)) : ∀ (r t v w : Nat), t + r = 8 → 0 < v → v ≤ 12 ^ t → w ≤ 12 ^ t → gx_X8_thrownBy_72 b C CL sz sh abu part r t (lN v) (lN w) = gx_X9_thrownBy_65 R RL np sh abu part r t (lN v) (lN w) := by
  have fin : ∀ t v w : Nat, t ≤ 8 → 0 < v → v ≤ 12 ^ t → w ≤ 12 ^ t → f_X8_lowest (lN v) (lN v + lN w) part = f_X9_partOf (lN v) (lN v + lN w) part := by
    intro t v w ht hv0 hv1 hw
    have b1 := yj_pow12 ht hv1
    have b2 := yj_pow12 ht hw
    rw [lN_add]
    exact yj_low (by omega) (by omega) (by omega) hp
  intro r
  induction r with
  | zero =>
    intro t v w ht hv0 hv1 hw
    unfold gx_X8_thrownBy_72 gx_X9_thrownBy_65
    simp only [ite_self]
    exact fin t v w (by omega) hv0 hv1 hw
  | succ r ih =>
    intro t v w ht hv0 hv1 hw
    unfold gx_X8_thrownBy_72 gx_X9_thrownBy_65
    rw [eC, eR, q0, q1, hsh, cm, rm, nI_clamp (by omega)]
    by_cases le : nI m ≤ nI t
    · rw [if_pos le, if_pos le]
      exact fin t v w (by omega) hv0 hv1 hw
    · rw [if_neg le, if_neg le]
      have htm : t < m := Nat.lt_of_not_le (fun x => le (nI_le x (by omega)))
      rw [yj_valC hm cm' htm, (hv t (by omega)).1]
      have hfit := (hv t (by omega)).2
      generalize RL 77 (60 * D + t) = y at hfit ⊢
      generalize y.toInt32 = z at hfit
      subst hfit
      have e0 : lg_cmp z.toInt64 0 = 0 ↔ z = 0 := by rw [yj_cmpE, yj_l0, yj_inj]
      have e1 : lg_cmp z.toInt64 1 = 0 ↔ z = 1 := by rw [yj_cmpE, yj_l1, yj_inj]
      have m11 : lN v * 11 = lN (v * 11) := by rw [show (11 : Int64) = lN 11 from rfl, lN_mul]
      have m1 : lN v * 1 = lN (v * 1) := by rw [show (1 : Int64) = lN 1 from rfl, lN_mul]
      have p12 : 12 ^ (t + 1) = 12 ^ t * 12 := by rw [Nat.pow_succ]
      have w0 : w * x0 ≤ 12 ^ (t + 1) := by rw [p12]; exact Nat.mul_le_mul hw h0
      have w1 : w * x1 ≤ 12 ^ (t + 1) := by rw [p12]; exact Nat.mul_le_mul hw h1
      rw [yj_w01, m11, m1, lN_mul, lN_mul]
      by_cases z0 : z = 0
      · have n1 : ¬ lg_cmp z.toInt64 1 = 0 := fun x => by rw [e1.mp x] at z0; exact absurd z0 (by decide)
        have k0 := e0.mpr z0
        have win : (if z < 0 then (0 : Int32) else if 1 < z then 0 else 1) = 1 := by rw [z0]; decide
        simp only [k0, n1, win, yj_d10, reduceIte]
        exact ih (t + 1) _ _ (by omega) (by omega) (by omega) w1
      · have n0 : ¬ lg_cmp z.toInt64 0 = 0 := fun x => z0 (e0.mp x)
        by_cases z1 : z = 1
        · have k1 := e1.mpr z1
          have win : (if z < 0 then (0 : Int32) else if 1 < z then 0 else 1) = 1 := by rw [z1]; decide
          simp only [n0, k1, win, yj_d10, reduceIte]
          exact ih (t + 1) _ _ (by omega) (by omega) (by omega) w0
        · have n1 : ¬ lg_cmp z.toInt64 1 = 0 := fun x => z1 (e1.mp x)
          have win : (if z < 0 then (0 : Int32) else if 1 < z then 0 else 1) = 0 := by
            by_cases a : z < 0
            · rw [if_pos a]
            · rw [if_neg a]
              by_cases c : 1 < z
              · rw [if_pos c]
              · obtain ⟨n, hn, rfl⟩ := yj_rc (N := 1) (by omega) rfl a c
                have : n = 0 ∨ n = 1 := by omega
                rcases this with rfl | rfl
                · exact absurd rfl z0
                · exact absurd rfl z1
          simp only [n0, n1, win, reduceIte]
          exact fin t v w (by omega) hv0 hv1 hw
theorem yj_s_thrownBy {b : Bool} {np nq dn km tm sz bo rn : Nat} {C R : Nat → Nat → Int32} {CL RL : Nat → Nat → Int64} (h : yj_J b np nq dn km tm sz bo rn C R CL RL) (sh abu part : Int32) : f_X8_thrownBy b C CL sz sh abu part = f_X9_thrownBy R RL np sh abu part ∧ yj_B b (m_X8_thrownBy b C CL sz sh abu part) (m_X9_thrownBy R RL np sh abu part) CL RL := by
  have hn := yj_Y2 h.1
  have h' := yj_begJ h np
  unfold f_X8_thrownBy f_X9_thrownBy m_X8_thrownBy m_X9_thrownBy
  rw [yj_isThree hn h.1.1.1, yj_isPart]
  rcases yj_bytes h sh with ⟨e1, e2, -⟩ | ⟨e1, e2, -, D, m, hD, rfl, hm, cm, rm, hv⟩
  · have n0 : ¬ f_X8_bytesRefusal C sh = 0 := fun q => by rw [← e1, q] at e2; exact absurd e2 (by decide)
    rw [if_neg n0, if_neg n0, if_pos e2, if_pos e2]; exact ⟨rfl, yj_mk h⟩
  · have n1 : ¬ (1 : Int32) < 0 := by decide
    rw [e1, e2, if_pos rfl, if_pos rfl, if_neg n1, if_neg n1]
    by_cases o : f_X9_isAbu np abu = 0
    · simp only [o, reduceIte]; exact ⟨trivial, yj_mk h⟩
    · by_cases p : f_X9_within part.toInt64 0 1 = 0
      · simp only [o, p, reduceIte]; exact ⟨trivial, yj_mk h⟩
      · obtain ⟨a, e, u, ⟨ha, he, hu⟩, hd, ea, ee, eu⟩ := yj_abu hn o
        have ca : (nI a).toNatClampNeg = a := nI_clamp (by omega)
        have ce : (nI e).toNatClampNeg = e := nI_clamp (by omega)
        have cu : (nI u).toNatClampNeg = u := nI_clamp (by omega)
        have E := yj_odds (yj_Y1 h.1) h'.2.2.2.2.1 (Or.inl rfl) ha he hu hd
        simp only [o, p, reduceIte]
        obtain ⟨x0, hx0, q0⟩ := z_12a (m_X9_begins R np) a e u
        obtain ⟨x1, hx1, q1⟩ := z_12b (m_X9_begins R np) a e u
        have hC := yj_eCo (z_Fr_rf C) b sz 1 (nI a) (nI e) (nI u)
        have hR := yj_eRo (yj_eRrf (m_X9_begins R np)) a e u
        refine ⟨yj_thr (yj_partC p) (q := f_X9_oddsOf (m_X9_begins R np) a e u) hx0 hx1 (by rw [ee, ea, eu]; exact E) (by rw [ee, ea, eu, ca, ce, cu]) q0 q1 (nI_clamp (by omega)) hm cm (by rw [ee, ea, eu, hC _ _ (by omega) (by omega)]; exact cm) (by rw [ee, ea, eu, ca, ce, cu, hR _ _ (by omega) (by omega), yj_begF _ _ _ _ (Or.inl (by unfold yj_kR; omega))]; exact rm) hv 8 0 1 1 rfl (by omega) (by omega) (by omega), ?_⟩
        rw [ee, ea, eu, ca, ce, cu]
        exact yj_mk (yj_J0 h' hC hR)
theorem yj_sub2 {m I t : Nat} (hm : m ≤ 60) (hI : I < 2 ^ 31) (ht : t ≤ 10) : ((nI m - 3) - (3 * nI t) < nI I ↔ (m : Int) < I + 3 * t + 3) := by
  have e1 : (nI m - 3).toInt = (m : Int) - 3 := by
    have := pk_sub_toInt (a := m) (b := 3) (by omega) (by omega)
    exact this
  have e0 : (3 : Int32) * nI t = nI (3 * t) := by
    show nI 3 * nI t = _
    rw [pk_mul]
  have e2 : ((nI m - 3) - (3 * nI t)).toInt = (m : Int) - 3 - 3 * t := by
    rw [e0, Int32.toInt_sub, e1, nI_toInt (by omega)]
    rw [Int.bmod_eq_of_le (by omega) (by omega)]
    omega
  rw [Int32.lt_iff_toInt_lt, e2, nI_toInt hI]
  omega
theorem yj_plL {b : Bool} {np nq dn km tm sz bo rn D m I : Nat} {sh i : Int32} {CL RL : Nat → Nat → Int64} (hsh : sh.toNatClampNeg = D) (hi : i = nI I) (hI : I < 2 ^ 31) (hm : m ≤ 60) (hv : ∀ j, j < 60 → CL (43 + 2 * D) j = RL 77 (60 * D + j) ∧ (RL 77 (60 * D + j)).toInt32.toInt64 = RL 77 (60 * D + j)) : ∀ (r t : Nat) (C R : Nat → Nat → Int32), t + r ≤ 10 → (t = 0 ∨ I + 3 * t ≤ 60) → yj_J b (np + t) nq dn km tm sz bo rn C R CL RL → C (42 + 2 * D) 2 = nI m → R 76 D = nI m → (gx_X8_players_56 CL np sh r t (nI (I + 3 * t)) C).1 = (gx_X9_players_69 RL np sh i r t R).1 ∧ yj_B b (gx_X8_players_56 CL np sh r t (nI (I + 3 * t)) C).2 (gx_X9_players_69 RL np sh i r t R).2 CL RL
  | 0, t, C, R, ht, hb, h, hc, hr => ⟨rfl, yj_mk h⟩
  | r + 1, t, C, R, ht, hb, h, hc, hr => by
    have hn := yj_Y2 h.1
    subst hi
    unfold gx_X8_players_56 gx_X9_players_69
    rw [hsh, hc, hr, if_neg (nI_pos (by omega))]
    have s1 := yj_sub2 (m := m) (I := I) (t := t) hm hI (by omega)
    have s2 := (yj_subLt (n := 3) hm (by omega) (I + 3 * t) (by omega)).1
    have s3 : nI m - 3 < nI (I + 3 * t) ↔ (nI m - 3) - (3 * nI t) < nI I := by
      rw [s1]
      refine s2.trans ?_
      omega
    by_cases c1 : (nI m - 3) - (3 * nI t) < nI I
    · rw [if_pos (s3.mpr c1), if_pos c1]; exact ⟨rfl, yj_mk h⟩
    · rw [if_neg (fun x => c1 (s3.mp x)), if_neg c1]
      have fits : I + 3 * t + 3 ≤ m := by
        have : ¬ ((m : Int) < I + 3 * t + 3) := fun x => c1 (s1.mpr x)
        omega
      by_cases c2 : np + t = 10
      · have full : ¬ f_X7_isFull C 1 = 0 := by
          unfold f_X7_isFull
          rw [h.1.1.1, c2, if_neg (by decide)]
          decide
        rw [if_neg full, if_pos (show 10 ≤ nI (np + t) by rw [c2]; decide)]; exact ⟨rfl, yj_mk h⟩
      · have full := yj_full (C := C) h.1.1.1 (show np + t < 10 by omega)
        rw [if_pos full, if_neg (show ¬ 10 ≤ nI (np + t) by rw [show (10 : Int32) = nI 10 from rfl, nI_leI (by omega) (by omega)]; omega)]
        have v0 := yj_valC (CL := CL) hm hc (show I + 3 * t < m by omega)
        have v1 := yj_valC (CL := CL) hm hc (show I + 3 * t + 1 < m by omega)
        have v2 := yj_valC (CL := CL) hm hc (show I + 3 * t + 2 < m by omega)
        have a1 : nI (I + 3 * t) + 1 = nI (I + 3 * t + 1) := nI_1 _
        have a2 : nI (I + 3 * t) + 2 = nI (I + 3 * t + 2) := nI_add _ 2
        have a3 : nI (I + 3 * t) + 3 = nI (I + 3 * (t + 1)) := (nI_add _ 3).trans (by congr 1)
        have cI : (nI I).toNatClampNeg = I := nI_clamp hI
        rw [a1, a2, a3, v0, v1, v2, cI, (hv (I + 3 * t) (by omega)).1, (hv (I + 3 * t + 1) (by omega)).1, (hv (I + 3 * t + 2) (by omega)).1]
        rw [show 60 * D + I + 3 * t = 60 * D + (I + 3 * t) by omega, show 60 * D + (I + 3 * t) + 1 = 60 * D + (I + 3 * t + 1) by omega, show 60 * D + (I + 3 * t) + 2 = 60 * D + (I + 3 * t + 2) by omega]
        have f0 := (hv (I + 3 * t) (by omega)).2
        have f1 := (hv (I + 3 * t + 1) (by omega)).2
        have f2 := (hv (I + 3 * t + 2) (by omega)).2
        generalize RL 77 (60 * D + (I + 3 * t)) = x at f0 ⊢
        generalize RL 77 (60 * D + (I + 3 * t + 1)) = y at f1 ⊢
        generalize RL 77 (60 * D + (I + 3 * t + 2)) = z at f2 ⊢
        rw [yj_within0, yj_within1, yj_within2, f0, f1, f2]
        rcases yj_mayCome x y z with m0 | ⟨m1, m2, m3, m4⟩
        · rw [if_pos m0]
          by_cases q1 : f_X9_within x 0 9 = 0
          · rw [if_pos q1]; exact ⟨rfl, yj_mk h⟩
          · rw [if_neg q1]
            by_cases q2 : f_X9_within y 0 99 = 0
            · rw [if_pos q2]; exact ⟨rfl, yj_mk h⟩
            · rw [if_neg q2]
              by_cases q3 : f_X9_within z 0 255 = 0
              · rw [if_pos q3]; exact ⟨rfl, yj_mk h⟩
              · exfalso
                unfold f_X9_mayCome at m0
                rw [if_neg q1, if_neg q2, if_neg q3] at m0
                exact absurd m0 (by decide)
        · rw [if_neg m1, if_neg m2, if_neg m3, if_neg (by rw [m4]; decide)]
          rw [← f0] at m1
          rw [← f1] at m2
          rw [← f2] at m3
          have J' := yj_joinJ h (show np + t < 10 by omega) (yj_wr9 m1) (yj_wr99 m2) (yj_wr255 m3)
          refine yj_plL hsh rfl hI hm hv r (t + 1) _ _ (by omega) (Or.inr (by omega)) J' ?_ ?_
          · rw [yj_jnF _ _ _ _ _ _ _ (by omega)]; exact hc
          · rw [yj_adF _ _ _ _ _ _ _ (by omega) (by omega)]; exact hr
theorem yj_s_players {b : Bool} {np nq dn km tm sz bo rn : Nat} {C R : Nat → Nat → Int32} {CL RL : Nat → Nat → Int64} (h : yj_J b np nq dn km tm sz bo rn C R CL RL) (d i n : Int32) : f_X8_players C CL np d i n = f_X9_players R RL np d i n ∧ yj_B b (m_X8_players C CL np d i n) (m_X9_players R RL np d i n) CL RL := by
  have hb := h.2.2.2.2.2.1.1.2.2
  unfold f_X8_players f_X9_players m_X8_players m_X9_players
  rw [yj_isShelf, yj_w110]
  by_cases o : f_X9_isShelf d = 0
  · simp only [o, reduceIte]; exact ⟨trivial, yj_mk h⟩
  · by_cases n1 : n < 1
    · simp only [o, n1, reduceIte]; exact ⟨trivial, yj_mk h⟩
    · by_cases n10 : 10 < n
      · have n10' : ¬ n ≤ 10 := Int32.not_le.mpr n10
        simp only [o, n1, n10, n10', reduceIte]; exact ⟨trivial, yj_mk h⟩
      · have n10' : n ≤ 10 := Int32.not_lt.mp n10
        simp only [o, n1, n10, n10', yj_d10, reduceIte]
        obtain ⟨e1, e2⟩ := yj_shelf o
        have hsh : d.toNatClampNeg = d.toNatClampNeg := rfl
        rcases yj_placeS (h.2.2.2.2.2.2.1 _ e2) hb d with (⟨q1, q2⟩ | ⟨q1, w, q2, q3⟩) | ⟨s, m, k1, k2, k3, k4, k5, k6, k7⟩
        · rw [q1, q2]
          rw [if_neg (show ¬ (-1 : Int32) = 1 by decide), if_pos (show (-1 : Int32) = -1 from rfl), if_pos (show (-1 : Int32) < 0 by decide), if_neg (show ¬ (-1 : Int32) = 51 by decide), if_neg (show ¬ (-1 : Int32) = 1 by decide), if_pos (show (-1 : Int32) = -1 from rfl), if_pos (show (-1 : Int32) < 0 by decide), if_neg (show ¬ (-1 : Int32) = 51 by decide)]
          exact ⟨rfl, yj_mk h⟩
        · have w1 : ¬ nI w < 0 := nI_pos (by omega)
          have w2 : ¬ nI w = 51 := fun q => absurd ((nI_eq (b := 51) (by omega) (by omega)).mp q) (by omega)
          rw [q1, q3]
          rw [if_neg (show ¬ (5 : Int32) = 1 by decide), if_neg (show ¬ (5 : Int32) = -1 by decide), if_neg w1, if_neg w2, if_neg (show ¬ (5 : Int32) = 1 by decide), if_neg (show ¬ (5 : Int32) = -1 by decide), if_neg w1, if_neg w2]
          exact ⟨rfl, yj_mk h⟩
        · obtain ⟨s1, s2, s3, s4, s5, s6, -⟩ := yj_sI s k1
          rw [k3, k4, if_neg s6, if_neg s6]
          by_cases s0 : s = 1
          · subst s0
            rw [if_pos (show nI 1 = 1 from rfl), if_pos (show nI (50 + 1) = 51 from rfl), if_pos (show nI 1 = 1 from rfl), if_pos (show nI (50 + 1) = 51 from rfl)]
            obtain ⟨N, hN, rfl⟩ := yj_rc (x := n) (N := 10) (c := 10) (by omega) rfl (fun q => n1 (by rw [Int32.lt_iff_toInt_lt] at q ⊢; rw [show (0 : Int32).toInt = 0 from rfl] at q; rw [show (1 : Int32).toInt = 1 from rfl]; omega)) n10
            by_cases i0 : i < 0
            · rw [if_pos i0, if_pos i0]
              have e : ∀ r, gx_X8_players_56 CL np d r 0 i C = (nI 0, C) := by
                intro r
                cases r with
                | zero => rfl
                | succ r => unfold gx_X8_players_56; rw [if_pos i0]
              rw [e]
              exact ⟨rfl, yj_mk h⟩
            · rw [if_neg i0, if_neg i0]
              obtain ⟨I, hI, rfl⟩ := nI_of i0
              exact yj_plL hsh rfl hI k2 (fun j hj => ⟨(k7 j hj).1, (k7 j hj).2 (by omega)⟩) _ 0 C R (by rw [nI_clamp (by omega)]; omega) (Or.inl rfl) h k5 k6
          · have n1 : ¬ nI s = 1 := fun q => absurd ((nI_eq (b := 1) (by omega) (by omega)).mp q) s0
            have n2 : ¬ nI (50 + s) = 51 := fun q => absurd ((nI_eq (b := 51) (by omega) (by omega)).mp q) (by omega)
            rw [if_neg n1, if_neg s1, if_neg n2, if_neg n1, if_neg s1, if_neg n2]
            exact ⟨rfl, yj_mk h⟩
