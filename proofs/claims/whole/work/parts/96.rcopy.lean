/-! THE CLASS AGAINST THE REFERENCE: yards copied, rows kept -/
set_option maxHeartbeats 4000000 in
theorem yj_lb19 (I : Nat → Nat → Int32) (nq : Nat) : (∀ j, m_X7_layBack_19_1 I nq 21 j = if j < nq then I 3 j else I 21 j) ∧ (∀ j, m_X7_layBack_19_1 I nq 22 j = if j < nq then I 4 j else I 22 j) ∧ (∀ j, m_X7_layBack_19_1 I nq 23 j = if j < nq then I 5 j else I 23 j) ∧ (∀ j, m_X7_layBack_19_1 I nq 24 j = if j < 5 then I 6 j else I 24 j) ∧ m_X7_layBack_19_1 I nq 19 5 = I 1 5 ∧ m_X7_layBack_19_1 I nq 19 6 = I 1 6 := by
  unfold m_X7_layBack_19_1
  refine ⟨fun j => ?_, fun j => ?_, fun j => ?_, fun j => ?_, ?_, ?_⟩ <;> simp [z_up, z_ro, va_cpy]
set_option maxHeartbeats 4000000 in
theorem yj_lb79 (I : Nat → Nat → Int32) (nq : Nat) : (∀ j, m_X7_layBack_79_1 I nq 81 j = if j < nq then I 3 j else I 81 j) ∧ (∀ j, m_X7_layBack_79_1 I nq 82 j = if j < nq then I 4 j else I 82 j) ∧ (∀ j, m_X7_layBack_79_1 I nq 83 j = if j < nq then I 5 j else I 83 j) ∧ (∀ j, m_X7_layBack_79_1 I nq 84 j = if j < 5 then I 6 j else I 84 j) ∧ m_X7_layBack_79_1 I nq 79 5 = I 1 5 ∧ m_X7_layBack_79_1 I nq 79 6 = I 1 6 := by
  unfold m_X7_layBack_79_1
  refine ⟨fun j => ?_, fun j => ?_, fun j => ?_, fun j => ?_, ?_, ?_⟩ <;> simp [z_up, z_ro, va_cpy]
set_option maxHeartbeats 4000000 in
theorem yj_lb7 (I : Nat → Nat → Int32) (nq : Nat) : (∀ j, m_X7_layBack_7_1 I nq 9 j = if j < nq then I 3 j else I 9 j) ∧ (∀ j, m_X7_layBack_7_1 I nq 10 j = if j < nq then I 4 j else I 10 j) ∧ (∀ j, m_X7_layBack_7_1 I nq 11 j = if j < nq then I 5 j else I 11 j) ∧ (∀ j, m_X7_layBack_7_1 I nq 12 j = if j < 5 then I 6 j else I 12 j) ∧ m_X7_layBack_7_1 I nq 7 5 = I 1 5 ∧ m_X7_layBack_7_1 I nq 7 6 = I 1 6 := by
  unfold m_X7_layBack_7_1
  refine ⟨fun j => ?_, fun j => ?_, fun j => ?_, fun j => ?_, ?_, ?_⟩ <;> simp [z_up, z_ro, va_cpy]
set_option maxHeartbeats 4000000 in
theorem yj_lb1 (I : Nat → Nat → Int32) (nq : Nat) : (∀ j, m_X7_layBack_1_7 I nq 3 j = if j < nq then I 9 j else I 3 j) ∧ (∀ j, m_X7_layBack_1_7 I nq 4 j = if j < nq then I 10 j else I 4 j) ∧ (∀ j, m_X7_layBack_1_7 I nq 5 j = if j < nq then I 11 j else I 5 j) ∧ (∀ j, m_X7_layBack_1_7 I nq 6 j = if j < 5 then I 12 j else I 6 j) ∧ m_X7_layBack_1_7 I nq 1 5 = I 7 5 ∧ m_X7_layBack_1_7 I nq 1 6 = I 7 6 := by
  unfold m_X7_layBack_1_7
  refine ⟨fun j => ?_, fun j => ?_, fun j => ?_, fun j => ?_, ?_, ?_⟩ <;> simp [z_up, z_ro, va_cpy]
theorem yj_lb7F (I : Nat → Nat → Int32) (nq a j : Nat) (h0 : a ≠ 7 ∨ (j ≠ 5 ∧ j ≠ 6)) (h1 : a ≠ 9) (h2 : a ≠ 10) (h3 : a ≠ 11) (h4 : a ≠ 12) : m_X7_layBack_7_1 I nq a j = I a j := by
  unfold m_X7_layBack_7_1
  rcases h0 with h0 | h0
  · rw [z_up_k _ _ h0, z_up_k _ _ h0, z_ro_k _ _ _ h4, z_ro_k _ _ _ h3, z_ro_k _ _ _ h2, z_ro_k _ _ _ h1]
  · have u : ∀ (M : Nat → Nat → Int32) (c : Nat) (w : Int32), c = 5 ∨ c = 6 → z_up M 7 c w a j = M a j := by
      intro M c w hc
      unfold z_up
      by_cases p : a = 7
      · rw [if_pos p, if_neg (by omega)]
      · rw [if_neg p]
    rw [u _ _ _ (Or.inr rfl), u _ _ _ (Or.inl rfl), z_ro_k _ _ _ h4, z_ro_k _ _ _ h3, z_ro_k _ _ _ h2, z_ro_k _ _ _ h1]
theorem yj_lb1F (I : Nat → Nat → Int32) (nq a j : Nat) (h0 : a ≠ 1 ∨ (j ≠ 5 ∧ j ≠ 6)) (h1 : a ≠ 3) (h2 : a ≠ 4) (h3 : a ≠ 5) (h4 : a ≠ 6) : m_X7_layBack_1_7 I nq a j = I a j := by
  unfold m_X7_layBack_1_7
  rcases h0 with h0 | h0
  · rw [z_up_k _ _ h0, z_up_k _ _ h0, z_ro_k _ _ _ h4, z_ro_k _ _ _ h3, z_ro_k _ _ _ h2, z_ro_k _ _ _ h1]
  · have u : ∀ (M : Nat → Nat → Int32) (c : Nat) (w : Int32), c = 5 ∨ c = 6 → z_up M 1 c w a j = M a j := by
      intro M c w hc
      unfold z_up
      by_cases p : a = 1
      · rw [if_pos p, if_neg (by omega)]
      · rw [if_neg p]
    rw [u _ _ _ (Or.inr rfl), u _ _ _ (Or.inl rfl), z_ro_k _ _ _ h4, z_ro_k _ _ _ h3, z_ro_k _ _ _ h2, z_ro_k _ _ _ h1]
/-- the trial yard, copied from the yard in truth -/
theorem yj_cp19 (I : Nat → Nat → Int32) (np : Nat) (hn : np ≤ 10) : m_X7_copyAll_19 I np 19 0 = nI np ∧ (∀ j, j < np → m_X7_copyAll_19 I np 20 j = I 2 j ∧ m_X7_copyAll_19 I np 21 j = I 3 j ∧ m_X7_copyAll_19 I np 22 j = I 4 j ∧ m_X7_copyAll_19 I np 23 j = I 5 j) ∧ m_X7_copyAll_19 I np 19 5 = I 1 5 ∧ m_X7_copyAll_19 I np 19 6 = I 1 6 := by
  refine ⟨z_cp0 I np, fun j hj => ?_, ?_, ?_⟩
  · unfold m_X7_copyAll_19
    obtain ⟨a1, a2, a3, -, -, -⟩ := yj_lb19 (z_ro (z_up I 19 0 (nI np)) 20 (va_cpy ((z_up I 19 0 (nI np)) 2) ((z_up I 19 0 (nI np)) 20) 0 0 10)) np
    refine ⟨?_, ?_, ?_, ?_⟩
    · rw [z_lbF _ _ _ _ (Or.inl (by decide)) (by decide) (by decide) (by decide) (by decide), z_ro_s, pk_cpy_in (Nat.zero_le _) (by omega), z_up_k _ _ (by decide)]
      congr 1
      omega
    · rw [a1, if_pos hj, z_ro_k _ _ _ (by decide), z_up_k _ _ (by decide)]
    · rw [a2, if_pos hj, z_ro_k _ _ _ (by decide), z_up_k _ _ (by decide)]
    · rw [a3, if_pos hj, z_ro_k _ _ _ (by decide), z_up_k _ _ (by decide)]
  · unfold m_X7_copyAll_19
    rw [(yj_lb19 _ np).2.2.2.2.1, z_ro_k _ _ _ (by decide), z_up_k _ _ (by decide)]
  · unfold m_X7_copyAll_19
    rw [(yj_lb19 _ np).2.2.2.2.2, z_ro_k _ _ _ (by decide), z_up_k _ _ (by decide)]
/-- Turns' yard, copied from the yard in truth -/
theorem yj_cp79 (I : Nat → Nat → Int32) (np : Nat) (hn : np ≤ 10) : m_X7_copyAll_79 I np 79 0 = nI np ∧ (∀ j, j < np → m_X7_copyAll_79 I np 80 j = I 2 j ∧ m_X7_copyAll_79 I np 81 j = I 3 j ∧ m_X7_copyAll_79 I np 82 j = I 4 j ∧ m_X7_copyAll_79 I np 83 j = I 5 j) ∧ m_X7_copyAll_79 I np 79 5 = I 1 5 ∧ m_X7_copyAll_79 I np 79 6 = I 1 6 := by
  refine ⟨z_cp79 I np, fun j hj => ?_, ?_, ?_⟩
  · unfold m_X7_copyAll_79
    obtain ⟨a1, a2, a3, -, -, -⟩ := yj_lb79 (z_ro (z_up I 79 0 (nI np)) 80 (va_cpy ((z_up I 79 0 (nI np)) 2) ((z_up I 79 0 (nI np)) 80) 0 0 10)) np
    refine ⟨?_, ?_, ?_, ?_⟩
    · rw [show ∀ M : Nat → Nat → Int32, m_X7_layBack_79_1 M np 80 j = M 80 j from fun M => by unfold m_X7_layBack_79_1; rw [z_up_k _ _ (by decide), z_up_k _ _ (by decide), z_ro_k _ _ _ (by decide), z_ro_k _ _ _ (by decide), z_ro_k _ _ _ (by decide), z_ro_k _ _ _ (by decide)], z_ro_s, pk_cpy_in (Nat.zero_le _) (by omega), z_up_k _ _ (by decide)]
      congr 1
      omega
    · rw [a1, if_pos hj, z_ro_k _ _ _ (by decide), z_up_k _ _ (by decide)]
    · rw [a2, if_pos hj, z_ro_k _ _ _ (by decide), z_up_k _ _ (by decide)]
    · rw [a3, if_pos hj, z_ro_k _ _ _ (by decide), z_up_k _ _ (by decide)]
  · unfold m_X7_copyAll_79
    rw [(yj_lb79 _ np).2.2.2.2.1, z_ro_k _ _ _ (by decide), z_up_k _ _ (by decide)]
  · unfold m_X7_copyAll_79
    rw [(yj_lb79 _ np).2.2.2.2.2, z_ro_k _ _ _ (by decide), z_up_k _ _ (by decide)]
theorem yj_bg25 (I : Nat → Nat → Int32) (np : Nat) : ∀ i j : Nat, j < i → g_X3_begin_20 I np i 25 j = 0
  | 0, j, h => absurd h (Nat.not_lt_zero _)
  | i + 1, j, h => by
    show gb_X3_begin_20 I np i (g_X3_begin_20 I np i) 25 j = 0
    unfold gb_X3_begin_20
    by_cases q : j = i
    · subst q; rw [z_up_s]
    · rw [z_up_j _ _ q]; exact yj_bg25 I np i j (by omega)
theorem yj_bg18 (I : Nat → Nat → Int32) (np : Nat) (j : Nat) : m_X3_begin I np 18 j = if j = 3 then 0 else if j = 2 then 0 else m_X7_copyAll_19 I np 18 j := by
  unfold m_X3_begin
  rw [z_bgG I np 18 j (by decide) 10]
  show z_up (z_up (m_X7_copyAll_19 I np) 18 2 0) 18 3 0 18 j = _
  simp [z_up]
/-- on trial from now, both -/
theorem yj_Y19a {np : Nat} {C R M : Nat → Nat → Int32} (h : yj_Y np C R) (h0 : M 19 0 = nI np) (h5 : M 19 5 = C 1 5) (hj : ∀ j, j < np → M 20 j = C 2 j ∧ M 21 j = C 3 j ∧ M 22 j = C 4 j ∧ M 23 j = C 5 j) : yj_T np 19 M (m_X9_begins R np) := by
  have T := yj_Y1 h
  refine ⟨⟨h0, T.1.2⟩, fun j q => ?_, ?_, T.2.2.2⟩
  · have g := T.2.1 j q
    obtain ⟨a, c, d, e⟩ := hj j q
    refine ⟨⟨?_, ?_, ?_, ?_⟩, g.2⟩
    · rw [← g.1.1]; exact a
    · rw [← g.1.2.1]; exact c
    · rw [← g.1.2.2.1]; exact d
    · rw [← g.1.2.2.2]; exact e
  · rw [h5]; exact T.2.2.1
theorem yj_Y19 {np : Nat} {C R : Nat → Nat → Int32} (h : yj_Y np C R) : yj_T np 19 (m_X3_begin C np) (m_X9_begins R np) := by
  obtain ⟨a, c, d, e⟩ := yj_cp19 C np h.1.2.2
  refine yj_Y19a h ?_ ?_ (fun j hj => ?_)
  · rw [z_bgF C np 19 0 (by decide) (by decide)]; exact a
  · rw [z_bgF C np 19 5 (by decide) (by decide)]; exact d
  · rw [z_bgF C np 20 j (by decide) (by decide), z_bgF C np 21 j (by decide) (by decide), z_bgF C np 22 j (by decide) (by decide), z_bgF C np 23 j (by decide) (by decide)]
    exact c j hj
theorem yj_Y79a {np : Nat} {C R M : Nat → Nat → Int32} (h : yj_Y np C R) (h0 : M 79 0 = nI np) (h5 : M 79 5 = C 1 5) (hj : ∀ j, j < np → M 80 j = C 2 j ∧ M 81 j = C 3 j ∧ M 82 j = C 4 j ∧ M 83 j = C 5 j) : yj_T np 79 M (m_X9_begins R np) := by
  have T := yj_Y1 h
  refine ⟨⟨h0, T.1.2⟩, fun j q => ?_, ?_, T.2.2.2⟩
  · have g := T.2.1 j q
    obtain ⟨a, c, d, e⟩ := hj j q
    refine ⟨⟨?_, ?_, ?_, ?_⟩, g.2⟩
    · rw [← g.1.1]; exact a
    · rw [← g.1.2.1]; exact c
    · rw [← g.1.2.2.1]; exact d
    · rw [← g.1.2.2.2]; exact e
  · rw [h5]; exact T.2.2.1
theorem yj_Y79 {np : Nat} {C R : Nat → Nat → Int32} (h : yj_Y np C R) : yj_T np 79 (m_X7_copyAll_79 C np) (m_X9_begins R np) := by
  obtain ⟨a, c, d, e⟩ := yj_cp79 C np h.1.2.2
  exact yj_Y79a h a d (fun j hj => c j hj)
/-- the reference keeps what has become -/
theorem yj_kpG (R : Nat → Nat → Int32) : ∀ i : Nat, i ≤ 10 → (∀ a, a ≠ 55 → (g_X9_keepsAll_2 R i) a = R a) ∧ (∀ j, j < i → (g_X9_keepsAll_2 R i) 55 (10 + j) = R 62 j ∧ (g_X9_keepsAll_2 R i) 55 (20 + j) = R 63 j ∧ (g_X9_keepsAll_2 R i) 55 (30 + j) = R 64 j) ∧ (∀ q, q < 10 ∨ 30 + i ≤ q → (g_X9_keepsAll_2 R i) 55 q = R 55 q)
  | 0, _ => ⟨fun _ _ => rfl, fun _ h => absurd h (Nat.not_lt_zero _), fun _ _ => rfl⟩
  | i + 1, hi => by
    obtain ⟨h1, h2, h3⟩ := yj_kpG R i (by omega)
    show (∀ a, a ≠ 55 → (gb_X9_keepsAll_2 R i (g_X9_keepsAll_2 R i)) a = R a) ∧ (∀ j, j < i + 1 → (gb_X9_keepsAll_2 R i (g_X9_keepsAll_2 R i)) 55 (10 + j) = R 62 j ∧ (gb_X9_keepsAll_2 R i (g_X9_keepsAll_2 R i)) 55 (20 + j) = R 63 j ∧ (gb_X9_keepsAll_2 R i (g_X9_keepsAll_2 R i)) 55 (30 + j) = R 64 j) ∧ (∀ q, q < 10 ∨ 30 + (i + 1) ≤ q → (gb_X9_keepsAll_2 R i (g_X9_keepsAll_2 R i)) 55 q = R 55 q)
    unfold gb_X9_keepsAll_2
    rw [h1 62 (by decide), h1 63 (by decide), h1 64 (by decide)]
    refine ⟨fun a ha => ?_, fun j hj => ?_, fun q hq => ?_⟩
    · rw [z_up_r _ _ ha, z_up_r _ _ ha, z_up_r _ _ ha]; exact h1 a ha
    · by_cases q : j = i
      · subst q
        refine ⟨?_, ?_, ?_⟩
        · rw [z_up_j _ _ (by omega), z_up_j _ _ (by omega), z_up_s]
        · rw [z_up_j _ _ (by omega), z_up_s]
        · rw [z_up_s]
      · rw [z_up_j _ _ (by omega), z_up_j _ _ (by omega), z_up_j _ _ (by omega), z_up_j _ _ (by omega), z_up_j _ _ (by omega), z_up_j _ _ (by omega), z_up_j _ _ (by omega), z_up_j _ _ (by omega), z_up_j _ _ (by omega)]
        exact h2 j (by omega)
    · rw [z_up_j _ _ (by omega), z_up_j _ _ (by omega), z_up_j _ _ (by omega)]
      exact h3 q (by omega)
theorem yj_kp (R : Nat → Nat → Int32) (np : Nat) (hn : np ≤ 10) : (∀ a, a ≠ 55 → (m_X9_keepsAll R np) a = R a) ∧ (∀ j, j < np → (m_X9_keepsAll R np) 55 (10 + j) = R 62 j ∧ (m_X9_keepsAll R np) 55 (20 + j) = R 63 j ∧ (m_X9_keepsAll R np) 55 (30 + j) = R 64 j) ∧ (∀ j, j < 10 → (m_X9_keepsAll R np) 55 j = R 55 j) ∧ (∀ j, np ≤ j → j < 10 → (m_X9_keepsAll R np) 55 (30 + j) = R 55 (30 + j)) ∧ (m_X9_keepsAll R np) 55 40 = R 54 20 ∧ (m_X9_keepsAll R np) 55 41 = R 55 41 := by
  obtain ⟨h1, h2, h3⟩ := yj_kpG R np hn
  unfold m_X9_keepsAll
  refine ⟨fun a ha => ?_, fun j hj => ?_, fun j hj => ?_, fun j hj hj2 => ?_, ?_, ?_⟩
  · rw [z_up_r _ _ ha]; exact h1 a ha
  · rw [z_up_j _ _ (by omega), z_up_j _ _ (by omega), z_up_j _ _ (by omega)]; exact h2 j hj
  · rw [z_up_j _ _ (by omega)]; exact h3 j (by omega)
  · rw [z_up_j _ _ (by omega)]; exact h3 _ (by omega)
  · rw [z_up_s]
  · rw [z_up_j _ _ (by omega)]; exact h3 _ (by omega)
/-- what has become on trial of the yard in truth is kept -/
theorem yj_TY {np : Nat} {C R : Nat → Nat → Int32} (h : yj_T np 1 C R) (hs : ∀ j, j < np → yj_r 9 (R 55 j)) (h0 : ∀ j, np ≤ j → j < 10 → R 55 (30 + j) = 0) (hz : C 1 6 = R 55 41) (hl : ∀ j, j < 5 → C 6 j = R 70 j) : yj_Y np C (m_X9_keepsAll R np) := by
  obtain ⟨k1, k2, k3, k4, k5, k6⟩ := yj_kp R np h.1.2.2
  have hn := h.1.2.2
  refine ⟨⟨h.1.1, by rw [k1 54 (by decide)]; exact h.1.2.1, hn⟩, fun j hj => ?_, fun j hj hj2 => ?_, ⟨?_, ?_, ?_⟩, fun j hj => ?_⟩
  · obtain ⟨a, c, d⟩ := k2 j hj
    have g := h.2.1 j hj
    rw [a, c, d, k3 j (by omega)]
    exact ⟨g.1, hs j hj, g.2.1, g.2.2.1, g.2.2.2⟩
  · rw [k4 j hj hj2]; exact h0 j hj hj2
  · rw [k5]; exact h.2.2.1
  · rw [k5]; exact h.2.2.2
  · rw [k6]; exact hz
  · rw [k1 70 (by decide)]; exact hl j hj
