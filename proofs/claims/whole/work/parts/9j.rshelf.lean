/-! THE CLASS AGAINST THE REFERENCE: shelves -/
/-- one shelf changes -/
theorem yj_shJ {b : Bool} {np nq dn km tm sz bo rn d : Nat} {C R C' R' : Nat → Nat → Int32} {CL RL CL' RL' : Nat → Nat → Int64} (h : yj_J b np nq dn km tm sz bo rn C R CL RL) (hd : d < 6) (g : yj_Sd bo d C' R' CL' RL') (c : ∀ a j, a < 54 → a ≠ 42 + 2 * d → C' a j = C a j) (r : ∀ a j, yj_kR a j → ((a ≠ 75 ∧ a ≠ 76) ∨ j ≠ d) → R' a j = R a j) (cl : ∀ a j, 42 < a → a < 54 → a ≠ 43 + 2 * d → CL' a j = CL a j) (rl : ∀ j, j < 60 * d ∨ 60 * d + 60 ≤ j → RL' 77 j = RL 77 j) : yj_B b C' R' CL' RL' := by
  obtain ⟨g1, g2, g3, g4, g5, g6, g7, g8⟩ := h
  have zc : z_cd b < 42 := by cases b <;> decide
  refine yj_mk (np := np) (nq := nq) (dn := dn) (km := km) (tm := tm) (sz := sz) (bo := bo) (rn := rn) ⟨yj_Yf g1 (fun a j x y => c a j (by omega) (by omega)) (r 54 6 (by unfold yj_kR; omega) (by omega)) (fun a j x => r a j (by unfold yj_kR; omega) (by omega)), yj_Imf g2 (fun a j x => c a j (by omega) (by omega)) (fun a j x => r a j (by unfold yj_kR; omega) (by omega)), yj_Chf g3 (fun a j x y => c a j (by omega) (by omega)) (fun a j x => r a j (by unfold yj_kR; omega) (by omega)), yj_Tpf g4 (c 13 1 (by omega) (by omega)) (fun j => c 14 j (by omega) (by omega)) (r 54 8 (by unfold yj_kR; omega) (by omega)) (fun j => r 59 j (by unfold yj_kR; omega) (by omega)), yj_Lf g5 (c 13 4 (by omega) (by omega)) (funext fun j => c _ j (by cases b <;> decide) (by omega)) (r 54 10 (by unfold yj_kR; omega) (by omega)) (funext fun j => r 60 j (by unfold yj_kR; omega) (by omega)), yj_Bof g6 (fun a j x y => c a j (by omega) (by omega)) (fun a j x => r a j (by unfold yj_kR; omega) (by omega)), fun e he => ?_, by rw [r 68 0 (by unfold yj_kR; omega) (by omega)]; exact g8⟩
  by_cases q : e = d
  · subst q; exact g
  · exact yj_Sdf (g7 e he) (fun j => c _ j (by omega) (by omega)) ⟨r 75 e (by unfold yj_kR; omega) (by omega), r 76 e (by unfold yj_kR; omega) (by omega)⟩ (fun j => cl _ j (by omega) (by omega) (by omega)) (fun j hj => rl _ (by omega))
theorem yj_s_keep {b : Bool} {np nq dn km tm sz bo rn : Nat} {C R : Nat → Nat → Int32} {CL RL : Nat → Nat → Int64} (h : yj_J b np nq dn km tm sz bo rn C R CL RL) (d w : Int32) : f_X8_keep C d w = f_X9_keep R bo d w ∧ yj_B b (m_X8_keep C d w) (m_X9_keep R bo d w) CL RL := by
  have hB := h.2.2.2.2.2.1
  have hb := hB.1.2.2
  unfold f_X8_keep f_X9_keep m_X8_keep m_X9_keep
  rw [yj_isShelf, yj_hasB hb hB.1.1]
  by_cases s : f_X9_isShelf d = 0
  · rw [if_pos s, if_pos s, if_pos s]; exact ⟨rfl, yj_mk h⟩
  · rw [if_neg s, if_neg s, if_neg s]
    obtain ⟨e1, e2⟩ := yj_shelf s
    generalize d.toNatClampNeg = D at e1 e2 ⊢
    have fin : ∀ x : Int32, ((x = (-1)) ∨ ∃ q, q < bo ∧ x = nI q) → yj_B b (m_X4_holdStool C (42 + 2 * D) x) (z_up (z_up R 75 D x) 76 D 0) CL RL := by
      intro x hx
      have F : ∀ a j, a ≠ 42 + 2 * D → m_X4_holdStool C (42 + 2 * D) x a j = C a j := by
        intro a j q
        unfold m_X4_holdStool
        (repeat' split) <;> rw [z_up_k _ _ q, z_up_k _ _ q, z_up_k _ _ q]
      refine yj_shJ h e2 ⟨0, by omega, ?_, ?_, ?_⟩ (fun a j x1 x2 => F a j x2) (fun a j x1 x2 => ?_) (fun _ _ _ _ _ => rfl) (fun _ _ => rfl)
      · unfold m_X4_holdStool
        (repeat' split) <;> rw [z_up_s] <;> rfl
      · rw [z_up_s]; rfl
      · rw [z_up_k _ _ (by omega), z_up_s]
        rcases hx with rfl | ⟨q, q1, rfl⟩
        · unfold m_X4_holdStool
          rw [if_neg (by decide)]
          exact Or.inl ⟨by rw [z_up_j _ _ (by omega), z_up_j _ _ (by omega), z_up_s], rfl, rfl⟩
        · unfold m_X4_holdStool
          rw [if_pos (nI_pos' (by omega))]
          exact Or.inr (Or.inl ⟨by rw [z_up_j _ _ (by omega), z_up_j _ _ (by omega), z_up_s], rfl, q, q1, by rw [z_up_j _ _ (by omega), z_up_s], rfl⟩)
      · have u : ∀ (M : Nat → Nat → Int32) (i : Nat) (v : Int32), i = 75 ∨ i = 76 → z_up M i D v a j = M a j := by
          intro M i v hi
          unfold z_up
          by_cases p : a = i
          · rw [if_pos p, if_neg (by omega)]
          · rw [if_neg p]
        rw [u _ _ _ (by omega), u _ _ _ (by omega)]
    by_cases m : w = (-1)
    · rw [if_pos m, if_pos m, if_pos m]
      exact ⟨rfl, fin w (Or.inl m)⟩
    · rw [if_neg m, if_neg m, if_neg m]
      by_cases o : f_X9_isBody bo w = 0
      · rw [if_pos o, if_pos o, if_pos o]; exact ⟨rfl, yj_mk h⟩
      · rw [if_neg o, if_neg o, if_neg o]
        obtain ⟨q1, q2⟩ := z_bdy hb o
        exact ⟨rfl, fin w (Or.inr ⟨_, q2, q1⟩)⟩
theorem yj_hr (L : Nat → Nat → Int64) (k : Nat) : ∀ i : Nat, (∀ a j, a ≠ k + 1 → g_X4_holdRow_17 L k i a j = L a j) ∧ ∀ j, j < i → g_X4_holdRow_17 L k i (k + 1) j = 0
  | 0 => ⟨fun _ _ _ => rfl, fun _ h => absurd h (Nat.not_lt_zero _)⟩
  | i + 1 => by
    obtain ⟨h1, h2⟩ := yj_hr L k i
    show (∀ a j, a ≠ k + 1 → gb_X4_holdRow_17 L k i (g_X4_holdRow_17 L k i) a j = L a j) ∧ ∀ j, j < i + 1 → gb_X4_holdRow_17 L k i (g_X4_holdRow_17 L k i) (k + 1) j = 0
    unfold gb_X4_holdRow_17
    refine ⟨fun a j ha => ?_, fun j hj => ?_⟩
    · rw [z_up_k _ _ ha]; exact h1 a j ha
    · by_cases q : j = i
      · rw [q, z_up_s]
      · rw [z_up_j _ _ q]; exact h2 j (by omega)
theorem yj_rr (L : Nat → Nat → Int64) (sh : Int32) : ∀ i : Nat, (∀ a j, (a ≠ 77 ∨ j < 60 * sh.toNatClampNeg ∨ 60 * sh.toNatClampNeg + i ≤ j) → g_X9_row_57 L sh i a j = L a j) ∧ ∀ j, j < i → g_X9_row_57 L sh i 77 (60 * sh.toNatClampNeg + j) = 0
  | 0 => ⟨fun _ _ _ => rfl, fun _ h => absurd h (Nat.not_lt_zero _)⟩
  | i + 1 => by
    obtain ⟨h1, h2⟩ := yj_rr L sh i
    show (∀ a j, (a ≠ 77 ∨ j < 60 * sh.toNatClampNeg ∨ 60 * sh.toNatClampNeg + (i + 1) ≤ j) → gb_X9_row_57 L sh i (g_X9_row_57 L sh i) a j = L a j) ∧ ∀ j, j < i + 1 → gb_X9_row_57 L sh i (g_X9_row_57 L sh i) 77 (60 * sh.toNatClampNeg + j) = 0
    unfold gb_X9_row_57
    refine ⟨fun a j ha => ?_, fun j hj => ?_⟩
    · have : z_up (g_X9_row_57 L sh i) 77 (60 * sh.toNatClampNeg + i) 0 a j = g_X9_row_57 L sh i a j := by
        unfold z_up
        by_cases p : a = 77
        · rw [if_pos p, if_neg (by omega)]
        · rw [if_neg p]
      rw [this]; exact h1 a j (by omega)
    · by_cases q : j = i
      · rw [q, z_up_s]
      · rw [z_up_j _ _ (by omega)]; exact h2 j (by omega)
theorem yj_s_row {b : Bool} {np nq dn km tm sz bo rn : Nat} {C R : Nat → Nat → Int32} {CL RL : Nat → Nat → Int64} (h : yj_J b np nq dn km tm sz bo rn C R CL RL) (d s n : Int32) : f_X8_row C CL d s n = f_X9_row R RL d s n ∧ yj_B b (m_X8_row C CL d s n) (m_X9_row R RL d s n) (n_X8_row C CL d s n) (n_X9_row R RL d s n) := by
  unfold f_X8_row f_X9_row m_X8_row m_X9_row n_X8_row n_X9_row
  rw [yj_isShelf, yj_w04]
  by_cases o : f_X9_isShelf d = 0
  · simp only [o, reduceIte]; exact ⟨trivial, yj_mk h⟩
  · obtain ⟨e1, e2⟩ := yj_shelf o
    by_cases a : s < 0
    · simp only [o, a, reduceIte]; exact ⟨trivial, yj_mk h⟩
    · by_cases c : 4 < s
      · simp only [o, a, c, reduceIte]; exact ⟨trivial, yj_mk h⟩
      · by_cases n6 : n ≤ 60
        · by_cases n0 : 0 ≤ n
          · simp only [o, a, c, n6, n0, yj_d10, reduceIte]
            obtain ⟨q, hq, rfl⟩ := yj_rc (N := 4) (by omega) rfl a c
            obtain ⟨m, hm, rfl⟩ := yj_rc (x := n) (N := 60) (c := 60) (by omega) rfl (Int32.not_lt.mpr n0) (Int32.not_lt.mpr n6)
            obtain ⟨l1, l2⟩ := yj_hr CL (42 + 2 * d.toNatClampNeg) 60
            obtain ⟨r1, r2⟩ := yj_rr RL d 60
            unfold m_X4_holdRow n_X4_holdRow
            generalize d.toNatClampNeg = D at e1 e2 l1 l2 r1 r2 ⊢
            refine ⟨trivial, yj_shJ h e2 ⟨m, hm, ?_, ?_, Or.inr (Or.inr ⟨q, hq, ?_, ?_, fun j hj => ?_⟩)⟩ (fun a j x1 x2 => ?_) (fun a j x1 x2 => ?_) (fun a j x1 x2 x3 => l1 a j (by omega)) (fun j x => r1 77 j (by omega))⟩
            · rw [z_up_s]
            · rw [z_up_s]
            · rw [z_up_j _ _ (by omega), z_up_j _ _ (by omega), z_up_s]
            · rw [z_up_k _ _ (by omega), z_up_s]
              show nI 50 + nI q = nI (50 + q)
              rw [nI_add]
            · rw [r2 j hj, show 43 + 2 * D = 42 + 2 * D + 1 by omega, l2 j hj]
              exact ⟨rfl, fun _ => by decide⟩
            · rw [z_up_k _ _ x2, z_up_k _ _ x2, z_up_k _ _ x2]
            · have u : ∀ (M : Nat → Nat → Int32) (i : Nat) (v : Int32), i = 75 ∨ i = 76 → z_up M i D v a j = M a j := by
                intro M i v hi
                unfold z_up
                by_cases p : a = i
                · rw [if_pos p, if_neg (by omega)]
                · rw [if_neg p]
              rw [u _ _ _ (by omega), u _ _ _ (by omega)]
          · simp only [o, a, c, n6, n0, yj_d10, reduceIte]; exact ⟨trivial, yj_mk h⟩
        · simp only [o, a, c, n6, yj_d10, reduceIte]; exact ⟨trivial, yj_mk h⟩
/-- what a place of a shelf is -/
theorem yj_placeS {bo d : Nat} {C R : Nat → Nat → Int32} {CL RL : Nat → Nat → Int64} (h : yj_Sd bo d C R CL RL) (hb : bo ≤ 50) (i : Int32) : ((C (42 + 2 * d) 0 = (-1) ∧ R 75 d = (-1)) ∨ (C (42 + 2 * d) 0 = 5 ∧ ∃ w, w < 50 ∧ R 75 d = nI w)) ∨ (∃ s m, s ≤ 4 ∧ m ≤ 60 ∧ C (42 + 2 * d) 0 = nI s ∧ R 75 d = nI (50 + s) ∧ C (42 + 2 * d) 2 = nI m ∧ R 76 d = nI m ∧ ∀ j, j < 60 → CL (43 + 2 * d) j = RL 77 (60 * d + j) ∧ (s ≤ 1 → (RL 77 (60 * d + j)).toInt32.toInt64 = RL 77 (60 * d + j))) := by
  obtain ⟨m, h1, h2, h3, h4⟩ := h
  rcases h4 with h4 | ⟨g1, g2, w, g3, g4, g5⟩ | ⟨s, k1, k2, k3, k4⟩
  · exact Or.inl (Or.inl ⟨h4.1, h4.2.1⟩)
  · exact Or.inl (Or.inr ⟨g1, w, by omega, g5⟩)
  · exact Or.inr ⟨s, m, k1, h1, k2, k3, h2, h3, k4⟩
theorem yj_sI : ∀ s : Nat, s ≤ 4 → ¬ nI s = (-1) ∧ ¬ nI s < 0 ∧ ¬ 4 < nI s ∧ 0 ≤ nI (50 + s) ∧ 50 ≤ nI (50 + s) ∧ ¬ nI (50 + s) < 0 ∧ ¬ nI (50 + s) < 50 ∧ ¬ nI s = 5 ∧ nI (50 + s) - 50 = nI s := by decide +kernel
theorem yj_refuse {b : Bool} {np nq dn km tm sz bo rn : Nat} {C R : Nat → Nat → Int32} {CL RL : Nat → Nat → Int64} (h : yj_J b np nq dn km tm sz bo rn C R CL RL) (d i : Int32) : f_X8_placeRefusal C d i = f_X9_refusal R d i ∧ (f_X9_refusal R d i = 0 → ∃ D n s m, D < 6 ∧ d = nI D ∧ i = nI n ∧ n < m ∧ s ≤ 4 ∧ m ≤ 60 ∧ C (42 + 2 * D) 0 = nI s ∧ R 75 D = nI (50 + s) ∧ C (42 + 2 * D) 2 = nI m ∧ R 76 D = nI m ∧ ∀ j, j < 60 → CL (43 + 2 * D) j = RL 77 (60 * D + j) ∧ (s ≤ 1 → (RL 77 (60 * D + j)).toInt32.toInt64 = RL 77 (60 * D + j))) := by
  have hb := h.2.2.2.2.2.1.1.2.2
  unfold f_X8_placeRefusal f_X9_refusal
  rw [yj_isShelf]
  by_cases o : f_X9_isShelf d = 0
  · rw [if_pos o, if_pos o]; exact ⟨rfl, fun q => absurd q (by decide)⟩
  · rw [if_neg o, if_neg o]
    obtain ⟨e1, e2⟩ := yj_shelf o
    generalize d.toNatClampNeg = D at e1 e2 ⊢
    rcases yj_placeS (h.2.2.2.2.2.2.1 D e2) hb i with (⟨q1, q2⟩ | ⟨q1, w, q2, q3⟩) | ⟨s, m, k1, k2, k3, k4, k5, k6, k7⟩
    · rw [q1, q2, if_pos rfl, if_neg (by decide)]; exact ⟨rfl, fun q => absurd q (by decide)⟩
    · unfold f_X4_holdsRow
      rw [q1, q3, if_neg (by decide), if_pos (nI_pos' (by omega)), if_neg (show ¬ 50 ≤ nI w by rw [show (50 : Int32) = nI 50 from rfl, nI_leI (by omega) (by omega)]; omega), if_neg (show ¬ (5 : Int32) < 0 by decide), if_pos (show (4 : Int32) < 5 by decide), if_pos (show (0 : Int32) = 0 from rfl)]
      exact ⟨rfl, fun q => absurd q (by decide)⟩
    · obtain ⟨s1, s2, s3, s4, s5, -⟩ := yj_sI s k1
      unfold f_X4_holdsRow f_X4_hasPlaces
      rw [k3, k4, k5, k6, if_neg s1, if_pos s4, if_pos s5, if_neg s2, if_neg s3, if_neg (show ¬ (1 : Int32) = 0 by decide), if_neg (show ¬ (1 : Int32) < 0 by decide)]
      by_cases a : i < 0
      · rw [if_pos a, if_pos a, if_pos (show (0 : Int32) = 0 from rfl)]; exact ⟨rfl, fun q => absurd q (by decide)⟩
      · rw [if_neg a, if_neg a]
        by_cases c : nI m ≤ i
        · rw [if_pos ((yj_lt1 k2 i).mpr c), if_pos c, if_pos (show (0 : Int32) = 0 from rfl)]; exact ⟨rfl, fun q => absurd q (by decide)⟩
        · rw [if_neg (fun q => c ((yj_lt1 k2 i).mp q)), if_neg c, if_neg (show ¬ (1 : Int32) = 0 by decide)]
          obtain ⟨n, hn, rfl⟩ := nI_of a
          exact ⟨rfl, fun _ => ⟨D, n, s, m, e2, e1, rfl, Nat.lt_of_not_le (fun q : m ≤ n => c (nI_le q hn)), k1, k2, k3, k4, k5, k6, k7⟩⟩
theorem yj_s_element {b : Bool} {np nq dn km tm sz bo rn : Nat} {C R : Nat → Nat → Int32} {CL RL : Nat → Nat → Int64} (h : yj_J b np nq dn km tm sz bo rn C R CL RL) (d i : Int32) : f_X8_element C CL d i = f_X9_element R RL d i := by
  obtain ⟨e, f⟩ := yj_refuse h d i
  unfold f_X8_element f_X9_element
  rw [e]
  by_cases q : f_X9_refusal R d i = 0
  · rw [if_pos q, if_pos q]
    obtain ⟨D, n, s, m, h1, rfl, rfl, h2, h3, h4, k3, k4, k5, k6, k7⟩ := f q
    rw [nI_clamp (by omega), nI_clamp (by omega)]
    unfold f_X4_valueAt f_X4_hasPlaces
    rw [k5, if_neg (nI_pos (by omega)), if_neg (show ¬ (1 : Int32) < 0 by decide), if_neg (fun q => absurd ((yj_lt1 h4 _).mp q) (nI_ge h2 (by omega))), if_neg (show ¬ (1 : Int32) = 0 by decide), nI_clamp (by omega), show 42 + 2 * D + 1 = 43 + 2 * D by omega]
    exact (k7 n (by omega)).1
  · rw [if_neg q, if_neg q]
theorem yj_cut : ∀ s : Nat, s ≤ 4 → ∀ (C : Nat → Nat → Int32) (k : Nat) (v : Int64), C k 0 = nI s → f_X4_cut C k v = f_X9_asSort (nI s) v := by
  intro s hs C k v h
  unfold f_X4_cut f_X9_asSort
  rw [h]
  have : s = 0 ∨ s = 1 ∨ s = 2 ∨ s = 3 ∨ s = 4 := by omega
  rcases this with rfl | rfl | rfl | rfl | rfl
  · rw [if_pos (show nI 0 = 0 from rfl), if_pos (show nI 0 = 0 from rfl)]
  · rw [if_neg (show ¬ nI 1 = 0 by decide), if_neg (show ¬ nI 1 = 0 by decide), if_pos (show nI 1 = 1 from rfl), if_pos (show nI 1 = 1 from rfl)]
  · rw [if_neg (show ¬ nI 2 = 0 by decide), if_neg (show ¬ nI 2 = 0 by decide), if_neg (show ¬ nI 2 = 1 by decide), if_neg (show ¬ nI 2 = 1 by decide), if_pos (show nI 2 = 2 from rfl), if_pos (show nI 2 = 2 from rfl)]
  · rw [if_neg (show ¬ nI 3 = 0 by decide), if_neg (show ¬ nI 3 = 0 by decide), if_neg (show ¬ nI 3 = 1 by decide), if_neg (show ¬ nI 3 = 1 by decide), if_neg (show ¬ nI 3 = 2 by decide), if_neg (show ¬ nI 3 = 2 by decide), if_pos (show nI 3 = 3 from rfl), if_neg (show ¬ nI 3 = 4 by decide)]
  · rw [if_neg (show ¬ nI 4 = 0 by decide), if_neg (show ¬ nI 4 = 0 by decide), if_neg (show ¬ nI 4 = 1 by decide), if_neg (show ¬ nI 4 = 1 by decide), if_neg (show ¬ nI 4 = 2 by decide), if_neg (show ¬ nI 4 = 2 by decide), if_neg (show ¬ nI 4 = 3 by decide), if_pos (show nI 4 = 4 from rfl)]
theorem yj_fit (x : Int32) : x.toInt64.toInt32.toInt64 = x.toInt64 := by simp
theorem yj_fitS {s : Nat} (hs : s ≤ 1) (v : Int64) : (f_X9_asSort (nI s) v).toInt32.toInt64 = f_X9_asSort (nI s) v := by
  unfold f_X9_asSort
  have : s = 0 ∨ s = 1 := by omega
  rcases this with rfl | rfl
  · rw [if_pos (show nI 0 = 0 from rfl)]; exact yj_fit _
  · rw [if_neg (show ¬ nI 1 = 0 by decide), if_pos (show nI 1 = 1 from rfl)]; exact yj_fit _
theorem yj_s_put {b : Bool} {np nq dn km tm sz bo rn : Nat} {C R : Nat → Nat → Int32} {CL RL : Nat → Nat → Int64} (h : yj_J b np nq dn km tm sz bo rn C R CL RL) (d i : Int32) (v : Int64) : f_X8_put C CL d i v = f_X9_put R RL d i v ∧ yj_B b C R (n_X8_put C CL d i v) (n_X9_put R RL d i v) := by
  obtain ⟨e, f⟩ := yj_refuse h d i
  unfold f_X8_put f_X9_put n_X8_put n_X9_put
  rw [e]
  by_cases q : f_X9_refusal R d i = 0
  · simp only [q, reduceIte]
    refine ⟨trivial, ?_⟩
    obtain ⟨D, n, s, m, h1, rfl, rfl, h2, h3, h4, k3, k4, k5, k6, k7⟩ := f q
    rw [nI_clamp (by omega), nI_clamp (by omega)]
    unfold n_X4_setAt f_X4_hasPlaces
    rw [k5, if_neg (nI_pos (by omega)), if_neg (show ¬ (1 : Int32) < 0 by decide), if_neg (fun q => absurd ((yj_lt1 h4 _).mp q) (nI_ge h2 (by omega))), if_neg (show ¬ (1 : Int32) = 0 by decide), nI_clamp (by omega), yj_cut s h3 C _ v k3, k4, (yj_sI s h3).2.2.2.2.2.2.2.2, show 42 + 2 * D + 1 = 43 + 2 * D by omega]
    refine yj_shJ h h1 ⟨m, h4, k5, k6, Or.inr (Or.inr ⟨s, h3, k3, k4, fun j hj => ?_⟩)⟩ (fun _ _ _ _ => rfl) (fun _ _ _ _ => rfl) (fun a j x1 x2 x3 => z_up_k _ _ x3) (fun j x => z_up_j _ _ (by omega))
    by_cases p : j = n
    · rw [p, z_up_s, z_up_s]; exact ⟨rfl, fun q => yj_fitS q v⟩
    · rw [z_up_j _ _ p, z_up_j _ _ (by omega)]; exact k7 j hj
  · simp only [q, reduceIte]
    exact ⟨trivial, yj_mk h⟩
theorem yj_sh113 (L : Nat → Nat → Int64) (sh i : Int32) : ∀ k : Nat, (∀ a j, a ≠ 78 → g_X9_shift_113 L sh i k a j = L a j) ∧ ∀ j, j < k → g_X9_shift_113 L sh i k 78 j = L 77 (60 * sh.toNatClampNeg + i.toNatClampNeg + j)
  | 0 => ⟨fun _ _ _ => rfl, fun _ h => absurd h (Nat.not_lt_zero _)⟩
  | k + 1 => by
    obtain ⟨h1, h2⟩ := yj_sh113 L sh i k
    show (∀ a j, a ≠ 78 → gb_X9_shift_113 L sh i k (g_X9_shift_113 L sh i k) a j = L a j) ∧ ∀ j, j < k + 1 → gb_X9_shift_113 L sh i k (g_X9_shift_113 L sh i k) 78 j = _
    unfold gb_X9_shift_113
    refine ⟨fun a j ha => ?_, fun j hj => ?_⟩
    · rw [z_up_k _ _ ha]; exact h1 a j ha
    · by_cases q : j = k
      · rw [q, z_up_s]; exact h1 77 _ (by decide)
      · rw [z_up_j _ _ q]; exact h2 j (by omega)
theorem yj_sh150 (L : Nat → Nat → Int64) (sh i ot jj n : Int32) : ∀ k : Nat, k ≤ n.toNatClampNeg → (∀ a q, a ≠ 77 → g_X9_shift_150 L sh i ot jj n k a q = g_X9_shift_113 L sh i n.toNatClampNeg a q) ∧ (∀ q, (q < 60 * ot.toNatClampNeg + jj.toNatClampNeg ∨ 60 * ot.toNatClampNeg + jj.toNatClampNeg + k ≤ q) → g_X9_shift_150 L sh i ot jj n k 77 q = L 77 q) ∧ ∀ q, q < k → g_X9_shift_150 L sh i ot jj n k 77 (60 * ot.toNatClampNeg + jj.toNatClampNeg + q) = L 77 (60 * sh.toNatClampNeg + i.toNatClampNeg + q)
  | 0, _ => ⟨fun _ _ _ => rfl, fun q _ => (yj_sh113 L sh i n.toNatClampNeg).1 77 q (by decide), fun _ h => absurd h (Nat.not_lt_zero _)⟩
  | k + 1, hk => by
    obtain ⟨h1, h2, h3⟩ := yj_sh150 L sh i ot jj n k (by omega)
    show (∀ a q, a ≠ 77 → gb_X9_shift_150 L sh i ot jj n k (g_X9_shift_150 L sh i ot jj n k) a q = _) ∧ (∀ q, (q < 60 * ot.toNatClampNeg + jj.toNatClampNeg ∨ 60 * ot.toNatClampNeg + jj.toNatClampNeg + (k + 1) ≤ q) → gb_X9_shift_150 L sh i ot jj n k (g_X9_shift_150 L sh i ot jj n k) 77 q = L 77 q) ∧ ∀ q, q < k + 1 → gb_X9_shift_150 L sh i ot jj n k (g_X9_shift_150 L sh i ot jj n k) 77 (60 * ot.toNatClampNeg + jj.toNatClampNeg + q) = _
    unfold gb_X9_shift_150
    refine ⟨fun a q ha => ?_, fun q hq => ?_, fun q hq => ?_⟩
    · rw [z_up_k _ _ ha]; exact h1 a q ha
    · rw [z_up_j _ _ (by omega)]; exact h2 q (by omega)
    · by_cases e : q = k
      · rw [e, z_up_s, h1 78 k (by decide)]; exact (yj_sh113 L sh i n.toNatClampNeg).2 k (by omega)
      · rw [z_up_j _ _ (by omega)]; exact h3 q (by omega)
theorem yj_subLt {m n : Nat} (hm : m ≤ 60) (hn : n < 2 ^ 31) (i : Nat) (hi : i < 2 ^ 31) : (nI m - nI n < nI i ↔ (m : Int) - n < i) ∧ (nI i ≤ nI m - nI n ↔ (i : Int) ≤ (m : Int) - n) := by
  have e : (nI m - nI n).toInt = (m : Int) - n := by
    rw [Int32.toInt_sub, nI_toInt (by omega), nI_toInt hn]
    refine Int.bmod_eq_of_le ?_ ?_ <;> omega
  rw [Int32.lt_iff_toInt_lt, Int32.le_iff_toInt_le, e, nI_toInt hi]
  exact ⟨Iff.rfl, Iff.rfl⟩
theorem yj_s_shift {b : Bool} {np nq dn km tm sz bo rn : Nat} {C R : Nat → Nat → Int32} {CL RL : Nat → Nat → Int64} (h : yj_J b np nq dn km tm sz bo rn C R CL RL) (d i e j n : Int32) : f_X8_shift C CL d i e j n = f_X9_shift R RL d i e j n ∧ yj_B b C R (n_X8_shift C CL d i e j n) (n_X9_shift R RL d i e j n) := by
  have hb := h.2.2.2.2.2.1.1.2.2
  unfold f_X8_shift f_X9_shift n_X8_shift n_X9_shift
  rw [yj_isShelf, yj_isShelf]
  by_cases o : f_X9_isShelf d = 0
  · simp only [o, reduceIte]; exact ⟨trivial, yj_mk h⟩
  · by_cases o2 : f_X9_isShelf e = 0
    · simp only [o, o2, reduceIte]; exact ⟨trivial, yj_mk h⟩
    · obtain ⟨e1, e2⟩ := yj_shelf o
      obtain ⟨e3, e4⟩ := yj_shelf o2
      have sh150 := yj_sh150 RL d i e j n n.toNatClampNeg (Nat.le_refl _)
      generalize d.toNatClampNeg = D at e1 e2 sh150 ⊢
      generalize e.toNatClampNeg = E at e3 e4 sh150 ⊢
      simp only [o, o2, reduceIte]
      have m11 : (-1 : Int32) < 0 := by decide
      have m12 : ¬ (0 : Int32) ≤ (-1) := by decide
      rcases yj_placeS (h.2.2.2.2.2.2.1 D e2) hb i with (⟨q1, q2⟩ | ⟨q1, w, q2, q3⟩) | ⟨s, m, k1, k2, k3, k4, k5, k6, k7⟩
      · simp only [q1, q2, m11, reduceIte]; exact ⟨trivial, yj_mk h⟩
      · have w1 : ¬ nI w < 0 := nI_pos (by omega)
        have w2 : nI w < 50 := nI_lt (b := 50) q2 (by omega)
        have five : ¬ (5 : Int32) = (-1) := by decide
        have hr : f_X4_holdsRow C (42 + 2 * D) = 0 := by
          unfold f_X4_holdsRow
          rw [q1]; decide
        rcases yj_placeS (h.2.2.2.2.2.2.1 E e4) hb i with (⟨p1, p2⟩ | ⟨p1, w', p2, p3⟩) | ⟨s', m', l1, l2, l3, l4, l5, l6, l7⟩
        · simp only [q1, q3, five, w1, p1, p2, m12, reduceIte]; exact ⟨trivial, yj_mk h⟩
        · have w3 : 0 ≤ nI w' := nI_pos' (by omega)
          simp only [q1, q3, five, w1, p1, p3, w3, hr, w2, reduceIte]; exact ⟨trivial, yj_mk h⟩
        · obtain ⟨s1, s2, s3, s4, -⟩ := yj_sI s' l1
          simp only [q1, q3, five, w1, l3, l4, s1, s4, hr, w2, reduceIte]; exact ⟨trivial, yj_mk h⟩
      · obtain ⟨s1, s2, s3, s4, s5, s6, s7, s8, s9⟩ := yj_sI s k1
        have hr : f_X4_holdsRow C (42 + 2 * D) = 1 := by
          unfold f_X4_holdsRow
          rw [k3, if_neg s2, if_neg s3]
        rcases yj_placeS (h.2.2.2.2.2.2.1 E e4) hb i with (⟨p1, p2⟩ | ⟨p1, w', p2, p3⟩) | ⟨s', m', l1, l2, l3, l4, l5, l6, l7⟩
        · simp only [k3, k4, s1, s6, p1, p2, m12, reduceIte]; exact ⟨trivial, yj_mk h⟩
        · have w3 : 0 ≤ nI w' := nI_pos' (by omega)
          have w4 : ¬ nI (50 + s) = nI w' := fun q => absurd ((nI_eq (by omega) (by omega)).mp q) (by omega)
          have five : ¬ (5 : Int32) = (-1) := by decide
          simp only [k3, k4, s1, s6, p1, p3, five, w3, hr, yj_d10, s7, s8, w4, reduceIte]; exact ⟨trivial, yj_mk h⟩
        · obtain ⟨t1, t2, t3, t4, -⟩ := yj_sI s' l1
          by_cases ss : s = s'
          · subst ss
            unfold f_X4_hasPlaces
            simp only [k3, k4, k5, k6, l3, l4, l5, l6, s1, s4, s6, s7, hr, yj_d10, reduceIte]
            by_cases n0 : n < 0
            · simp only [n0, reduceIte, ite_self]; exact ⟨trivial, yj_mk h⟩
            · by_cases i0 : i < 0
              · simp only [n0, i0, reduceIte]; exact ⟨trivial, yj_mk h⟩
              · by_cases j0 : j < 0
                · simp only [n0, i0, j0, yj_d10, reduceIte, ite_self]; exact ⟨trivial, yj_mk h⟩
                · obtain ⟨N, hN, rfl⟩ := nI_of n0
                  obtain ⟨I, hI, rfl⟩ := nI_of i0
                  obtain ⟨J, hJ, rfl⟩ := nI_of j0
                  obtain ⟨a1, -⟩ := yj_subLt k2 hN I hI
                  obtain ⟨b1, b2⟩ := yj_subLt l2 hN J hJ
                  by_cases c1 : nI m - nI N < nI I
                  · simp only [n0, i0, j0, c1, reduceIte]; exact ⟨trivial, yj_mk h⟩
                  · by_cases c2 : nI m' - nI N < nI J
                    · have c3 : ¬ nI J ≤ nI m' - nI N := fun q => by have x := b1.mp c2; have y := b2.mp q; omega
                      simp only [n0, i0, j0, c1, c2, c3, yj_d10, reduceIte]; exact ⟨trivial, yj_mk h⟩
                    · have c3 : nI J ≤ nI m' - nI N := b2.mpr (by have x : ¬ ((m' : Int) - N < J) := fun q => c2 (b1.mpr q); omega)
                      simp only [n0, i0, j0, c1, c2, c3, yj_d10, reduceIte]
                      refine ⟨trivial, ?_⟩
                      have g1 : (I : Int) ≤ (m : Int) - N := by have x : ¬ ((m : Int) - N < I) := fun q => c1 (a1.mpr q); omega
                      have g2 : (J : Int) ≤ (m' : Int) - N := b2.mp c3
                      have cN : (nI N).toNatClampNeg = N := nI_clamp hN
                      have cI : (nI I).toNatClampNeg = I := nI_clamp hI
                      have cJ : (nI J).toNatClampNeg = J := nI_clamp hJ
                      rw [cN, cI, cJ] at sh150
                      rw [cN, cI, cJ]
                      obtain ⟨r1, r2, r3⟩ := sh150
                      refine yj_shJ h e4 ⟨m', l2, l5, l6, Or.inr (Or.inr ⟨s, k1, l3, l4, fun x hx => ?_⟩)⟩ (fun _ _ _ _ => rfl) (fun _ _ _ _ => rfl) (fun a q x1 x2 x3 => z_ro_k _ _ _ (by omega)) (fun q x => r2 q (by omega))
                      rw [show 43 + 2 * E = 42 + 2 * E + 1 by omega, z_ro_s]
                      by_cases c : J ≤ x ∧ x < J + N
                      · rw [pk_cpy_in c.1 c.2, show 42 + 2 * D + 1 = 43 + 2 * D by omega, show 60 * E + x = 60 * E + J + (x - J) by omega, r3 (x - J) (by omega), show 60 * D + I + (x - J) = 60 * D + (I + (x - J)) by omega]
                        exact k7 _ (by omega)
                      · rw [pk_cpy_out (by omega), show 42 + 2 * E + 1 = 43 + 2 * E by omega, r2 (60 * E + x) (by omega)]
                        exact l7 x hx
          · have ne1 : ¬ nI s = nI s' := fun q => ss ((nI_eq (by omega) (by omega)).mp q)
            have ne2 : ¬ nI (50 + s) = nI (50 + s') := fun q => ss (by have := (nI_eq (by omega) (by omega)).mp q; omega)
            simp only [k3, k4, l3, l4, s1, s6, t1, t4, s7, hr, ne1, ne2, yj_d10, reduceIte]; exact ⟨trivial, yj_mk h⟩
/-- the chain of kinds, as far as k -/
def yj_ab (k : Int32) : Nat → Int32 → Nat
  | 0, _ => 0
  | r + 1, v => if v = k then 1 else if v ≤ 0 then 2 else yj_ab k r (f_X9_above v)
theorem yj_abE (I : Nat → Nat → Int32) (sh k : Int32) : ∀ (r t : Nat) (v : Int32), gx_X9_taken_58 I sh k r t v = if yj_ab k r v = 0 then 0 else if yj_ab k r v = 1 then f_X9_kindOf I ((I 75 sh.toNatClampNeg).toNatClampNeg) else (-12)
  | 0, t, v => rfl
  | r + 1, t, v => by
    unfold gx_X9_taken_58 yj_ab
    by_cases a : v = k
    · rw [if_pos a, if_pos a, if_pos a, if_neg (by decide), if_pos rfl]
    · rw [if_neg a, if_neg a, if_neg a]
      by_cases c : v ≤ 0
      · rw [if_pos c, if_pos c, if_neg (by decide), if_neg (by decide)]
      · rw [if_neg c, if_neg c]
        exact yj_abE I sh k r (t + 1) (f_X9_above v)
theorem yj_und : ∀ kd : Nat, kd < 8 → ∀ k : Nat, k < 8 → (f_X5_isUnder (nI kd) (nI k) = 0 ∧ yj_ab (nI k) (kd + 1) (nI kd) = 2) ∨ (¬ f_X5_isUnder (nI kd) (nI k) = 0 ∧ yj_ab (nI k) (kd + 1) (nI kd) = 1) := by decide +kernel
theorem yj_s_taken {b : Bool} {np nq dn km tm sz bo rn : Nat} {C R : Nat → Nat → Int32} {CL RL : Nat → Nat → Int64} (h : yj_J b np nq dn km tm sz bo rn C R CL RL) (d k : Int32) : f_X8_taken C d k = f_X9_taken R d k := by
  have hB := h.2.2.2.2.2.1
  have hb := hB.1.2.2
  unfold f_X8_taken f_X9_taken
  rw [yj_isShelf, yj_kind]
  by_cases o : f_X9_isShelf d = 0
  · simp only [o, reduceIte]
  · by_cases o2 : f_X9_within k.toInt64 0 7 = 0
    · simp only [o, o2, reduceIte]
    · obtain ⟨e1, e2⟩ := yj_shelf o
      obtain ⟨K, hK, rfl⟩ := yj_wr7 o2
      rw [yj_abE]
      simp only [o, o2, reduceIte]
      generalize d.toNatClampNeg = D at e1 e2 ⊢
      obtain ⟨m, h1, h2, h3, h4⟩ := h.2.2.2.2.2.2.1 D e2
      have m12 : ¬ (0 : Int32) ≤ (-1) := by decide
      have five : ¬ (5 : Int32) = (-1) := by decide
      rcases h4 with ⟨q1, q2, -⟩ | ⟨q1, -, w, q2, q3, q4⟩ | ⟨s, k1, k2, k3, -⟩
      · simp only [q1, q2, m12, reduceIte]
      · have w1 : 0 ≤ nI w := nI_pos' (by omega)
        have w2 : nI w < 50 := nI_lt (b := 50) (by omega) (by omega)
        have w3 : ¬ f_X5_has C (nI w) = 0 := by
          unfold f_X5_has
          rw [hB.1.1, if_neg (nI_pos (by omega)), if_neg (nI_ge q2 (by omega))]
          decide
        have cw : (nI w).toNatClampNeg = w := nI_clamp (by omega)
        obtain ⟨kd, hk, ek⟩ := hB.2.2.1 w (by omega)
        have ck : (nI kd).toNatClampNeg = kd := nI_clamp (by omega)
        unfold f_X9_kindOf
        simp only [q1, q3, q4, five, w1, w2, w3, cw, hB.2.1 w q2, ek, ck, reduceIte]
        rcases yj_und kd (by omega) K (by omega) with ⟨u1, u2⟩ | ⟨u1, u2⟩
        · rw [u1, u2]; rfl
        · rw [if_neg u1, u2]; rfl
      · obtain ⟨s1, s2, s3, s4, s5, s6, s7, s8, -⟩ := yj_sI s k1
        simp only [k2, k3, s1, s4, s7, s8, reduceIte]
/-- who may judge: below 1024 -/
theorem yj_jud {np : Nat} {R : Nat → Nat → Int32} (hn : np ≤ 10) (h : ∀ j, j < np → yj_r 255 (R 63 j)) : ∀ n : Nat, n ≤ np → ∃ q : Nat, q < 2 ^ n ∧ g_X9_judgesNow_4 R n = nI q
  | 0, _ => ⟨0, by decide, rfl⟩
  | n + 1, hi => by
    obtain ⟨q, h1, h2⟩ := yj_jud hn h n (by omega)
    show ∃ q : Nat, q < 2 ^ (n + 1) ∧ gb_X9_judgesNow_4 R n (g_X9_judgesNow_4 R n) = nI q
    unfold gb_X9_judgesNow_4
    rw [h2]
    rcases yj_odd (N := 255) (by decide) (h n (by omega)) with ⟨a1, -⟩ | ⟨a1, -⟩
    · rw [a1, yj_z0 n (by omega)]
      refine ⟨q, by rw [Nat.pow_succ]; omega, ?_⟩
      show nI q ||| nI 0 = nI q
      rw [fa_or, Nat.or_zero]
    · rw [a1, yq_grp (by omega) h1]
      exact ⟨q + 2 ^ n, by rw [Nat.pow_succ]; omega, rfl⟩
theorem yj_s_judges {b : Bool} {np nq dn km tm sz bo rn : Nat} {C R : Nat → Nat → Int32} {CL RL : Nat → Nat → Int64} (h : yj_J b np nq dn km tm sz bo rn C R CL RL) : f_X8_judges C np = f_X9_judges R np := yj_judges (yj_Y1 h.1)
theorem yj_begJ {b : Bool} {np nq dn km tm sz bo rn : Nat} {C R : Nat → Nat → Int32} {CL RL : Nat → Nat → Int64} (h : yj_J b np nq dn km tm sz bo rn C R CL RL) (m : Nat) : yj_J b np nq dn km tm sz bo rn C (m_X9_begins R m) CL RL := yj_Jf h (fun _ _ _ _ => rfl) (fun a j x => yj_begF _ _ _ _ (Or.inl x)) (fun _ _ _ _ => rfl) (fun _ => rfl)
theorem yj_s_count {b : Bool} {np nq dn km tm sz bo rn : Nat} {C R : Nat → Nat → Int32} {CL RL : Nat → Nat → Int64} (h : yj_J b np nq dn km tm sz bo rn C R CL RL) (w : Int32) : f_X8_count C np w = f_X9_count R np w ∧ yj_B b C (m_X9_count R np w) CL RL := by
  have hn := yj_Y2 h.1
  have T := yj_Y1 h.1
  constructor
  · unfold f_X8_count f_X9_count
    have e1 : f_J6_bitCount_0f7a4 (f_X7_judgeBits C 1 np) = f_X9_bitsOf (f_X9_judges R np) := by
      rw [yj_judges T]
      obtain ⟨q, h1, h2⟩ := yj_jud hn (fun j hj => (T.2.1 j hj).2.2.1) np (Nat.le_refl _)
      have h3 : 2 ^ np ≤ 1024 := Nat.pow_le_pow_right (n := 2) (by decide) hn
      show f_J6_bitCount_0f7a4 (g_X9_judgesNow_4 (m_X9_begins R np) np) = f_X9_bitsOf (g_X9_judgesNow_4 (m_X9_begins R np) np)
      rw [h2]
      exact yj_bits1023 q (by omega)
    rw [e1, h.2.2.2.1.1.1, h.2.2.2.1.1.2.1, h.2.2.1.1.1, h.2.2.1.1.2.1, h.2.2.2.2.2.1.1.1, h.2.2.2.2.2.1.1.2.1, h.2.2.2.2.2.1.2.2.2.1.1, h.2.2.2.2.2.1.2.2.2.1.2.1]
  · unfold m_X9_count m_X9_judges
    (repeat' split) <;> first | exact yj_mk h | exact yj_mk (yj_begJ h np)
theorem yj_s_three {b : Bool} {np nq dn km tm sz bo rn : Nat} {C R : Nat → Nat → Int32} {CL RL : Nat → Nat → Int64} (h : yj_J b np nq dn km tm sz bo rn C R CL RL) : f_X8_three C np = f_X9_three R np := by
  have hn := yj_Y2 h.1
  have T := yj_Y1 h.1
  have key : ∀ n : Nat, n ≤ np → g_X8_three_4 C n = g_X9_three_8 R np n ∧ ∃ q : Nat, g_X9_three_8 R np n = nI q := by
    intro n
    induction n with
    | zero => exact fun _ => ⟨rfl, 0, rfl⟩
    | succ n ih =>
      intro hi
      obtain ⟨h1, q, h2⟩ := ih (by omega)
      show gb_X8_three_4 C n (g_X8_three_4 C n) = gb_X9_three_8 R np n (g_X9_three_8 R np n) ∧ ∃ q : Nat, gb_X9_three_8 R np n (g_X9_three_8 R np n) = nI q
      unfold gb_X8_three_4 gb_X9_three_8
      rw [h1, h2, show C 4 n = m_X9_begins R np 63 n from (T.2.1 n (by omega)).1.2.2.1, z_shl1 n (by omega)]
      have z : nI q ||| 0 = nI q := by
        show nI q ||| nI 0 = nI q
        rw [fa_or, Nat.or_zero]
      rw [z, fa_or]
      refine ⟨rfl, ?_⟩
      split
      · exact ⟨q, rfl⟩
      · exact ⟨_, rfl⟩
  exact (key np (Nat.le_refl _)).1
theorem yj_s_odds {b : Bool} {np nq dn km tm sz bo rn : Nat} {C R : Nat → Nat → Int32} {CL RL : Nat → Nat → Int64} (h : yj_J b np nq dn km tm sz bo rn C R CL RL) (abu : Int32) : f_X8_odds b C sz abu = f_X9_odds R np abu ∧ yj_B b (m_X8_odds b C sz abu) (m_X9_odds R np abu) CL RL := by
  have hn := yj_Y2 h.1
  unfold f_X8_odds f_X9_odds m_X8_odds m_X9_odds
  rw [yj_isThree hn h.1.1.1]
  by_cases o : f_X9_isAbu np abu = 0
  · simp only [o, reduceIte]; exact ⟨trivial, yj_mk h⟩
  · obtain ⟨a, e, u, ⟨ha, he, hu⟩, hd, ea, ee, eu⟩ := yj_abu hn o
    have ca : (nI a).toNatClampNeg = a := nI_clamp (by omega)
    have ce : (nI e).toNatClampNeg = e := nI_clamp (by omega)
    have cu : (nI u).toNatClampNeg = u := nI_clamp (by omega)
    simp only [o, reduceIte]
    rw [ea, ee, eu, ca, ce, cu]
    have h' := yj_begJ h np
    refine ⟨yj_odds (yj_Y1 h.1) h'.2.2.2.2.1 (Or.inl rfl) ha he hu hd, yj_mk (yj_Jf h' (fun x j q1 q2 => z_ooO _ _ _ _ _ _ _ _ _ (by unfold yj_kC at q2; omega) (by unfold yj_kC at q2; omega)) (fun x j q => z_ooF _ _ _ _ _ _ (by unfold yj_kR at q; omega) (by unfold yj_kR at q; omega)) (fun _ _ _ _ => rfl) (fun _ => rfl))⟩
