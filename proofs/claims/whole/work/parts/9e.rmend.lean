/-! THE CLASS AGAINST THE REFERENCE: players come, numbers are mended -/
theorem yj_full {np : Nat} {C : Nat → Nat → Int32} (h : C 1 0 = nI np) (hn : np < 10) : f_X7_isFull C 1 = 0 := by
  have lt : nI np < 10 := nI_lt (b := 10) hn (by omega)
  unfold f_X7_isFull
  rw [h, if_pos lt]
theorem yj_Y2 {np : Nat} {C R : Nat → Nat → Int32} (h : yj_Y np C R) : np ≤ 10 := h.1.2.2
/-- one comes -/
theorem yj_joinY {np : Nat} {C R : Nat → Nat → Int32} (h : yj_Y np C R) (hn : np < 10) {sk gr lo : Int32} (h1 : yj_r 9 sk) (h2 : yj_r 99 gr) (h3 : yj_r 255 lo) : yj_Y (np + 1) (m_X7_join C 1 np sk gr lo) (m_X9_adds R np sk gr lo) := by
  have full : f_X7_isFull C 1 = 0 := yj_full h.1.1 hn
  unfold m_X7_join m_X9_adds
  rw [if_pos full]
  show yj_Y (np + 1) (z_up (z_up (z_up (z_up (z_up C 2 np sk) 3 np gr) 4 np lo) 5 np 0) 1 0 (nI np + 1)) _
  refine ⟨⟨?_, ?_, hn⟩, fun j hj => ?_, fun j hj hj2 => ?_, ⟨?_, ?_, ?_⟩, fun j hj => ?_⟩
  · rw [z_up_s]; exact (nI_succ np).symm
  · rw [z_up_s]; exact (nI_succ np).symm
  · rw [z_up_k (k := 1) _ _ (by decide), z_up_k (k := 1) _ _ (by decide), z_up_k (k := 1) _ _ (by decide), z_up_k (k := 1) _ _ (by decide), z_up_k (k := 54) _ _ (by decide), z_up_k (k := 54) _ _ (by decide), z_up_k (k := 54) _ _ (by decide), z_up_k (k := 54) _ _ (by decide)]
    by_cases q : j = np
    · subst q
      rw [z_up_k (k := 5) _ _ (by decide), z_up_k (k := 4) _ _ (by decide), z_up_k (k := 3) _ _ (by decide), z_up_s]
      rw [z_up_k (k := 5) _ _ (by decide), z_up_k (k := 4) _ _ (by decide), z_up_s]
      rw [z_up_k (k := 5) _ _ (by decide), z_up_s, z_up_s]
      rw [z_up_j (j := 20 + j) _ _ (by omega), z_up_j (j := 10 + j) _ _ (by omega), z_up_s]
      rw [z_up_j (j := 20 + j) _ _ (by omega), z_up_s]
      rw [z_up_s]
      rw [z_up_j (j := 20 + j) _ _ (by omega), z_up_j (j := 10 + j) _ _ (by omega), z_up_j (j := j) _ _ (by omega)]
      rw [h.2.2.1 j (Nat.le_refl _) hn]
      exact ⟨⟨rfl, rfl, rfl, rfl⟩, h1, h2, h3, yj_r0 3⟩
    · have u : ∀ (M : Nat → Nat → Int32) (a c : Nat) (w : Int32), z_up M c np w a j = M a j := by
        intro M a c w
        unfold z_up
        by_cases p : a = c
        · rw [if_pos p, if_neg q]
        · rw [if_neg p]
      have v : ∀ (i : Nat), i = j ∨ i = 10 + j ∨ i = 20 + j ∨ i = 30 + j → z_up (z_up (z_up R 55 np sk) 55 (10 + np) gr) 55 (20 + np) lo 55 i = R 55 i := by
        intro i hi
        rw [z_up_j _ _ (by omega), z_up_j _ _ (by omega), z_up_j _ _ (by omega)]
      rw [u, u, u, u, u, u, u, u, u, u, u, u, u, u, u, u, v j (by omega), v (10 + j) (by omega), v (20 + j) (by omega), v (30 + j) (by omega)]
      exact h.2.1 j (by omega)
  · rw [z_up_k (k := 54) _ _ (by decide), z_up_j _ _ (by omega), z_up_j _ _ (by omega), z_up_j _ _ (by omega)]
    exact h.2.2.1 j (by omega) hj2
  · rw [z_up_j (j := 0) _ _ (by decide), z_up_k _ _ (by decide), z_up_k _ _ (by decide), z_up_k _ _ (by decide), z_up_k _ _ (by decide), z_up_k (k := 54) _ _ (by decide), z_up_j _ _ (by omega), z_up_j _ _ (by omega), z_up_j _ _ (by omega)]
    exact h.2.2.2.1.1
  · rw [z_up_k (k := 54) _ _ (by decide), z_up_j _ _ (by omega), z_up_j _ _ (by omega), z_up_j _ _ (by omega)]
    exact h.2.2.2.1.2.1
  · rw [z_up_j (j := 0) _ _ (by decide), z_up_k _ _ (by decide), z_up_k _ _ (by decide), z_up_k _ _ (by decide), z_up_k _ _ (by decide), z_up_k (k := 54) _ _ (by decide), z_up_j _ _ (by omega), z_up_j _ _ (by omega), z_up_j _ _ (by omega)]
    exact h.2.2.2.1.2.2
  · rw [z_up_k _ _ (by decide), z_up_k _ _ (by decide), z_up_k _ _ (by decide), z_up_k _ _ (by decide), z_up_k _ _ (by decide), z_up_k (k := 54) _ _ (by decide), z_up_k _ _ (by decide), z_up_k _ _ (by decide), z_up_k _ _ (by decide)]
    exact h.2.2.2.2 j hj
theorem yj_jnF (C : Nat → Nat → Int32) (np : Nat) (x y z : Int32) (a j : Nat) (h : a = 0 ∨ 5 < a) : m_X7_join C 1 np x y z a j = C a j := by
  unfold m_X7_join
  by_cases q : f_X7_isFull C 1 = 0
  · rw [if_pos q, z_up_k _ _ (by omega), z_up_k _ _ (by omega), z_up_k _ _ (by omega), z_up_k _ _ (by omega), z_up_k _ _ (by omega)]
  · rw [if_neg q]
theorem yj_adF (R : Nat → Nat → Int32) (np : Nat) (x y z : Int32) (a j : Nat) (h : a ≠ 55) (h2 : a ≠ 54 ∨ j ≠ 6) : m_X9_adds R np x y z a j = R a j := by
  unfold m_X9_adds
  have u : ∀ (M : Nat → Nat → Int32) (w : Int32), z_up M 54 6 w a j = M a j := by
    intro M w
    unfold z_up
    by_cases p : a = 54
    · rw [if_pos p, if_neg (by omega)]
    · rw [if_neg p]
  rw [u, z_up_k _ _ h, z_up_k _ _ h, z_up_k _ _ h]
theorem yj_plS {np k : Nat} {n w q : Int32} (h : yj_pl np n w q k) : yj_pl (np + 1) n w q k := by
  rcases h with ⟨m, h1, h2⟩ | h | h
  · exact Or.inl ⟨m, by omega, h2⟩
  · exact Or.inr (Or.inl h)
  · exact Or.inr (Or.inr h)
/-- all of it, one more player -/
theorem yj_joinJ {b : Bool} {np nq dn km tm sz bo rn : Nat} {C R : Nat → Nat → Int32} {CL RL : Nat → Nat → Int64} (h : yj_J b np nq dn km tm sz bo rn C R CL RL) (hn : np < 10) {sk gr lo : Int32} (h1 : yj_r 9 sk) (h2 : yj_r 99 gr) (h3 : yj_r 255 lo) : yj_J b (np + 1) nq dn km tm sz bo rn (m_X7_join C 1 np sk gr lo) (m_X9_adds R np sk gr lo) CL RL := by
  obtain ⟨g1, g2, g3, g4, g5, g6, g7, g8⟩ := h
  have c := fun a j q => yj_jnF C np sk gr lo a j q
  have r := fun a j q1 q2 => yj_adF R np sk gr lo a j q1 q2
  have i2 := yj_Imf g2 (C' := m_X7_join C 1 np sk gr lo) (R' := m_X9_adds R np sk gr lo) (fun a j q => c a j (by omega)) (fun a j q => r a j (by omega) (by omega))
  have i3 := yj_Chf g3 (C' := m_X7_join C 1 np sk gr lo) (R' := m_X9_adds R np sk gr lo) (fun a j q1 q2 => c a j (by omega)) (fun a j q => r a j (by omega) (by omega))
  refine ⟨yj_joinY g1 hn h1 h2 h3, ⟨⟨i2.1.1, i2.1.2.1, i2.1.2.2.1, by have := i2.1.2.2.2; omega⟩, i2.2⟩, ⟨i3.1, i3.2.1, fun k hk => ?_⟩, yj_Tpf g4 (c 13 1 (by omega)) (fun j => c 14 j (by omega)) (r 54 8 (by omega) (by omega)) (fun j => r 59 j (by omega) (by omega)), yj_Lf g5 (c 13 4 (by omega)) (funext fun j => c _ j (by cases b <;> (show _ ∨ _; exact Or.inr (by decide)))) (r 54 10 (by omega) (by omega)) (funext fun j => r 60 j (by omega) (by omega)), yj_Bof g6 (fun a j q1 q2 => c a j (by omega)) (fun a j q => r a j (by omega) (by omega)), yj_Shf g7 (fun a j q => c a j (by omega)) (fun a j q => r a j (by omega) (by omega)) (fun _ _ _ _ => rfl) (fun _ => rfl), ?_⟩
  · obtain ⟨w, p1, p2⟩ := i3.2.2 k hk
    exact ⟨w, yj_plS p1, p2⟩
  · rw [r 68 0 (by omega) (by omega)]; exact g8
theorem yj_mayCome (x y z : Int64) : f_X9_mayCome x y z = 0 ∨ (¬ f_X9_within x 0 9 = 0 ∧ ¬ f_X9_within y 0 99 = 0 ∧ ¬ f_X9_within z 0 255 = 0 ∧ f_X9_mayCome x y z = 1) := by
  unfold f_X9_mayCome
  by_cases h1 : f_X9_within x 0 9 = 0
  · rw [if_pos h1]; exact Or.inl rfl
  · rw [if_neg h1]
    by_cases h2 : f_X9_within y 0 99 = 0
    · rw [if_pos h2]; exact Or.inl rfl
    · rw [if_neg h2]
      by_cases h3 : f_X9_within z 0 255 = 0
      · rw [if_pos h3]; exact Or.inl rfl
      · rw [if_neg h3]; exact Or.inr ⟨h1, h2, h3, rfl⟩
theorem yj_wr9 {x : Int32} (h : ¬ f_X9_within x.toInt64 0 9 = 0) : yj_r 9 x := by
  rw [yj_w09] at h
  by_cases h0 : x < 0
  · rw [if_pos h0] at h; exact absurd rfl h
  · rw [if_neg h0] at h
    by_cases h1 : 9 < x
    · rw [if_pos h1] at h; exact absurd rfl h
    · exact yj_rc (by omega) rfl h0 h1
theorem yj_wr99 {x : Int32} (h : ¬ f_X9_within x.toInt64 0 99 = 0) : yj_r 99 x := by
  rw [yj_w099] at h
  by_cases h0 : x < 0
  · rw [if_pos h0] at h; exact absurd rfl h
  · rw [if_neg h0] at h
    by_cases h1 : 99 < x
    · rw [if_pos h1] at h; exact absurd rfl h
    · exact yj_rc (by omega) rfl h0 h1
theorem yj_wr255 {x : Int32} (h : ¬ f_X9_within x.toInt64 0 255 = 0) : yj_r 255 x := by
  rw [yj_w0255] at h
  by_cases h0 : x < 0
  · rw [if_pos h0] at h; exact absurd rfl h
  · rw [if_neg h0] at h
    by_cases h1 : 255 < x
    · rw [if_pos h1] at h; exact absurd rfl h
    · exact yj_rc (by omega) rfl h0 h1
theorem yj_wr3 {x : Int32} (h : ¬ f_X9_within x.toInt64 0 3 = 0) : yj_r 3 x := by
  rw [yj_w03] at h
  by_cases h0 : x < 0
  · rw [if_pos h0] at h; exact absurd rfl h
  · rw [if_neg h0] at h
    by_cases h1 : 3 < x
    · rw [if_pos h1] at h; exact absurd rfl h
    · exact yj_rc (by omega) rfl h0 h1
/-- promise 2 -/
theorem yj_s_player {b : Bool} {np nq dn km tm sz bo rn : Nat} {C R : Nat → Nat → Int32} {CL RL : Nat → Nat → Int64} (h : yj_J b np nq dn km tm sz bo rn C R CL RL) (x : Int32) : f_X8_player C np x = f_X9_player R np x ∧ yj_B b (m_X8_player C np x) (m_X9_player R np x) CL RL := by
  have hn := yj_Y2 h.1
  unfold f_X8_player f_X9_player m_X8_player m_X9_player
  rw [yj_within0]
  rcases yj_mayCome x.toInt64 0 0 with m0 | ⟨m1, m2, m3, m4⟩
  · have w0 : f_X9_within x.toInt64 0 9 = 0 := by
      unfold f_X9_mayCome at m0
      by_cases q : f_X9_within x.toInt64 0 9 = 0
      · exact q
      · rw [if_neg q] at m0; exact absurd m0 (by decide)
    rw [if_pos w0, if_pos w0, if_pos m0, if_pos m0]
    exact ⟨rfl, _, _, _, _, _, _, _, _, h⟩
  · simp only [m1, m4, yj_d10, reduceIte]
    by_cases q : np = 10
    · have e : nI np = 10 := by rw [q]; rfl
      have full : ¬ f_X7_isFull C 1 = 0 := by
        unfold f_X7_isFull
        rw [h.1.1.1, e, if_neg (by decide)]
        decide
      unfold f_X7_join m_X7_join
      rw [if_neg full, if_neg full, if_pos e, if_pos e]
      exact ⟨rfl, _, _, _, _, _, _, _, _, h⟩
    · have e : ¬ nI np = 10 := fun p => q ((nI_eq (b := 10) (by omega) (by omega)).mp p)
      have full : f_X7_isFull C 1 = 0 := yj_full h.1.1.1 (by omega)
      rw [if_neg e, if_neg e, nI_pred]
      refine ⟨?_, _, _, _, _, _, _, _, _, yj_joinJ h (by omega) (yj_wr9 m1) (yj_r0 99) (yj_r0 255)⟩
      unfold f_X7_join
      rw [if_pos full]
theorem yj_k4 {k : Nat} (h : k ≤ 3) : k = 0 ∨ k = 1 ∨ k = 2 ∨ k = 3 := by omega
/-- where a number lies -/
theorem yj_place {np : Nat} {C : Nat → Nat → Int32} (hn : np ≤ 10) (hc : C 1 0 = nI np) (n w : Int32) : (f_X8_isNumber C n w = 0 ∧ f_X9_placeOf np n w < 0) ∨ (f_X8_isNumber C n w = 1 ∧ ∃ k, yj_pl np n w (f_X9_placeOf np n w) k) := by
  unfold f_X8_isNumber f_X9_placeOf
  rw [yj_w03, yj_w45, yj_has hn hc]
  by_cases w4 : w = 4
  · subst w4
    rw [if_pos rfl, show (if (4 : Int32) < 0 then (0 : Int32) else if 3 < (4 : Int32) then 0 else 1) = 0 by decide, if_pos rfl, show (if (4 : Int32) < 4 then (0 : Int32) else if 5 < (4 : Int32) then 0 else 1) = 1 by decide, if_neg (show ¬ (1 : Int32) = 0 by decide)]
    by_cases q : n = 0
    · rw [if_pos q, if_pos q]
      exact Or.inr ⟨rfl, 4, Or.inr (Or.inl ⟨q, rfl, rfl, by decide⟩)⟩
    · rw [if_neg q, if_neg q]
      exact Or.inl ⟨rfl, by decide⟩
  · by_cases w5 : w = 5
    · subst w5
      rw [if_neg (show ¬ (5 : Int32) = 4 by decide), if_pos rfl, show (if (5 : Int32) < 0 then (0 : Int32) else if 3 < (5 : Int32) then 0 else 1) = 0 by decide, if_pos rfl, show (if (5 : Int32) < 4 then (0 : Int32) else if 5 < (5 : Int32) then 0 else 1) = 1 by decide, if_neg (show ¬ (1 : Int32) = 0 by decide)]
      by_cases q : n = 0
      · rw [if_pos q, if_pos q]
        exact Or.inr ⟨rfl, 5, Or.inr (Or.inr ⟨q, rfl, rfl, by decide⟩)⟩
      · rw [if_neg q, if_neg q]
        exact Or.inl ⟨rfl, by decide⟩
    · rw [if_neg w4, if_neg w5]
      have out : (if w < 4 then (0 : Int32) else if 5 < w then 0 else 1) = 0 := by
        by_cases a : w < 4
        · rw [if_pos a]
        · rw [if_neg a]
          by_cases c : 5 < w
          · rw [if_pos c]
          · exfalso
            have t4 : (4 : Int32).toInt = 4 := rfl
            have t5 : (5 : Int32).toInt = 5 := rfl
            have n4 : w.toInt ≠ 4 := fun e => w4 (Int32.toInt_inj.mp (e.trans t4.symm))
            have n5 : w.toInt ≠ 5 := fun e => w5 (Int32.toInt_inj.mp (e.trans t5.symm))
            rw [Int32.lt_iff_toInt_lt] at a c
            omega
      rw [out, if_pos (show (0 : Int32) = 0 from rfl)]
      by_cases a : w < 0
      · rw [if_pos a, if_pos a, if_pos (show (0 : Int32) = 0 from rfl)]
        refine Or.inl ⟨rfl, ?_⟩
        by_cases q : n = 0
        · rw [if_pos q]; decide
        · rw [if_neg q]; decide
      · rw [if_neg a, if_neg a]
        by_cases c : 3 < w
        · rw [if_pos c, if_pos c, if_pos (show (0 : Int32) = 0 from rfl)]
          refine Or.inl ⟨rfl, ?_⟩
          by_cases q : n = 0
          · rw [if_pos q]; decide
          · rw [if_neg q]; decide
        · rw [if_neg c, if_neg c, if_neg (show ¬ (1 : Int32) = 0 by decide)]
          by_cases o : f_X9_isOne np n.toInt64 = 0
          · rw [if_pos o, if_pos o]
            exact Or.inl ⟨rfl, by decide⟩
          · rw [if_neg o, if_neg o]
            obtain ⟨e1, e2⟩ := yj_one hn o
            obtain ⟨k, hk, rfl⟩ := yj_rc (N := 3) (by omega) rfl a c
            refine Or.inr ⟨rfl, k, Or.inl ⟨n.toNatClampNeg, e2, hk, e1, rfl, ?_⟩⟩
            rw [e1, nI_clamp (by omega)]
            show nI 10 * nI k + nI n.toNatClampNeg = _
            rw [pk_mul, nI_add]
theorem yj_plR {np k : Nat} {n w q : Int32} (hn : np ≤ 10) (h : yj_pl np n w q k) : q = nI q.toNatClampNeg ∧ q.toNatClampNeg < 42 ∧ ¬ q < 0 := by
  rcases h with ⟨m, h1, h2, -, -, rfl⟩ | ⟨-, -, -, rfl⟩ | ⟨-, -, -, rfl⟩
  · rw [nI_clamp (by omega)]; exact ⟨rfl, by omega, nI_pos (by omega)⟩
  · exact ⟨by decide, by decide, by decide⟩
  · exact ⟨by decide, by decide, by decide⟩
theorem yj_numOf {np k : Nat} {C R : Nat → Nat → Int32} {n w q : Int32} (h : yj_Y np C R) (p : yj_pl np n w q k) : f_X7_numberOf C 1 n w = R 55 q.toNatClampNeg := by
  have hn := h.1.2.2
  unfold f_X7_numberOf
  rw [yj_has hn h.1.1]
  rcases p with ⟨m, h1, h2, rfl, rfl, rfl⟩ | ⟨rfl, -, rfl, rfl⟩ | ⟨rfl, -, rfl, rfl⟩
  · have o : ¬ f_X9_isOne np (nI m).toInt64 = 0 := by rw [yj_oneN hn h1]; decide
    have c : (nI m).toNatClampNeg = m := nI_clamp (by omega)
    have c2 : (nI (10 * k + m)).toNatClampNeg = 10 * k + m := nI_clamp (by omega)
    have g := (h.2.1 m h1).1
    rw [c, c2]
    rcases yj_k4 h2 with rfl | rfl | rfl | rfl
    · rw [if_neg (show ¬ nI 0 = 4 by decide), if_neg (show ¬ nI 0 = 5 by decide), if_neg o, if_pos (show nI 0 = 0 from rfl), show 10 * 0 + m = m by omega]
      exact g.1
    · rw [if_neg (show ¬ nI 1 = 4 by decide), if_neg (show ¬ nI 1 = 5 by decide), if_neg o, if_neg (show ¬ nI 1 = 0 by decide), if_pos (show nI 1 = 1 from rfl)]
      exact g.2.1
    · rw [if_neg (show ¬ nI 2 = 4 by decide), if_neg (show ¬ nI 2 = 5 by decide), if_neg o, if_neg (show ¬ nI 2 = 0 by decide), if_neg (show ¬ nI 2 = 1 by decide), if_pos (show nI 2 = 2 from rfl)]
      exact g.2.2.1
    · rw [if_neg (show ¬ nI 3 = 4 by decide), if_neg (show ¬ nI 3 = 5 by decide), if_neg o, if_neg (show ¬ nI 3 = 0 by decide), if_neg (show ¬ nI 3 = 1 by decide), if_neg (show ¬ nI 3 = 2 by decide)]
      exact g.2.2.2
  · rw [if_pos (show (4 : Int32) = 4 from rfl), if_pos (show (4 : Int32) = 4 from rfl)]
    exact h.2.2.2.1.1
  · rw [if_neg (show ¬ (5 : Int32) = 4 by decide), if_pos (show (5 : Int32) = 5 from rfl), if_neg (show ¬ (5 : Int32) = 4 by decide)]
    exact h.2.2.2.1.2.2
/-- a number becomes v -/
theorem yj_becY {np k : Nat} {C R : Nat → Nat → Int32} {n w q v : Int32} (h : yj_Y np C R) (p : yj_pl np n w q k) (hv : yj_ok k v) : yj_Y np (m_X7_become C 1 n w v) (z_up R 55 q.toNatClampNeg v) := by
  have hn := h.1.2.2
  have col : ∀ (k m : Nat), k ≤ 3 → m < np → yj_ok k v → yj_Y np (z_up C (2 + k) m v) (z_up R 55 (10 * k + m) v) := by
    intro k m hk hm hv
    refine ⟨⟨?_, ?_, hn⟩, fun j hj => ?_, fun j hj hj2 => ?_, ⟨?_, ?_, ?_⟩, fun j hj => ?_⟩
    · rw [z_up_k _ _ (by omega)]; exact h.1.1
    · rw [z_up_k _ _ (by decide)]; exact h.1.2.1
    · have g := h.2.1 j hj
      have u : ∀ (i c : Nat), i ≤ 3 → c = 2 + i → (z_up C (2 + k) m v c j = if i = k ∧ j = m then v else C c j) ∧ (z_up R 55 (10 * k + m) v 55 (10 * i + j) = if i = k ∧ j = m then v else R 55 (10 * i + j)) := by
        intro i c hi hc
        by_cases e : i = k ∧ j = m
        · obtain ⟨rfl, rfl⟩ := e
          rw [if_pos ⟨rfl, rfl⟩, hc, z_up_s, z_up_s, if_pos ⟨rfl, rfl⟩]
          exact ⟨rfl, rfl⟩
        · rw [if_neg e, if_neg e]
          refine ⟨?_, z_up_j _ _ (by omega)⟩
          by_cases e2 : c = 2 + k
          · rw [e2, z_up_j _ _ (by omega)]
          · rw [z_up_k _ _ e2]
      have u0 := u 0 2 (by omega) rfl
      have u1 := u 1 3 (by omega) rfl
      have u2 := u 2 4 (by omega) rfl
      have u3 := u 3 5 (by omega) rfl
      rw [show 10 * 0 + j = j by omega] at u0
      rw [show 10 * 1 + j = 10 + j by omega] at u1
      rw [show 10 * 2 + j = 20 + j by omega] at u2
      rw [show 10 * 3 + j = 30 + j by omega] at u3
      rw [u0.1, u1.1, u2.1, u3.1, u0.2, u1.2, u2.2, u3.2]
      obtain ⟨⟨g1, g2, g3, g4⟩, r1, r2, r3, r4⟩ := g
      refine ⟨⟨?_, ?_, ?_, ?_⟩, ?_, ?_, ?_, ?_⟩
      · rw [g1]
      · rw [g2]
      · rw [g3]
      · rw [g4]
      · by_cases e : 0 = k ∧ j = m
        · rw [if_pos e]; exact hv.1 e.1.symm
        · rw [if_neg e]; exact r1
      · by_cases e : 1 = k ∧ j = m
        · rw [if_pos e]; exact hv.2.1 e.1.symm
        · rw [if_neg e]; exact r2
      · by_cases e : 2 = k ∧ j = m
        · rw [if_pos e]; exact hv.2.2.1 e.1.symm
        · rw [if_neg e]; exact r3
      · by_cases e : 3 = k ∧ j = m
        · rw [if_pos e]; exact hv.2.2.2.1 e.1.symm
        · rw [if_neg e]; exact r4
    · rw [z_up_j _ _ (by omega)]; exact h.2.2.1 j hj hj2
    · rw [z_up_k _ _ (by omega), z_up_j _ _ (by omega)]; exact h.2.2.2.1.1
    · rw [z_up_j _ _ (by omega)]; exact h.2.2.2.1.2.1
    · rw [z_up_k _ _ (by omega), z_up_j _ _ (by omega)]; exact h.2.2.2.1.2.2
    · rw [z_up_k _ _ (by omega), z_up_k _ _ (by decide)]; exact h.2.2.2.2 j hj
  unfold m_X7_become
  rw [yj_has hn h.1.1]
  rcases p with ⟨m, h1, h2, rfl, rfl, rfl⟩ | ⟨rfl, k4, rfl, rfl⟩ | ⟨rfl, k5, rfl, rfl⟩
  · have o : ¬ f_X9_isOne np (nI m).toInt64 = 0 := by rw [yj_oneN hn h1]; decide
    have c : (nI m).toNatClampNeg = m := nI_clamp (by omega)
    have c2 : (nI (10 * k + m)).toNatClampNeg = 10 * k + m := nI_clamp (by omega)
    have T := col k m h2 h1 hv
    rw [c, c2]
    rcases yj_k4 h2 with rfl | rfl | rfl | rfl
    · rw [if_neg (show ¬ nI 0 = 4 by decide), if_neg (show ¬ nI 0 = 5 by decide), if_neg o, if_pos (show nI 0 = 0 from rfl)]
      exact T
    · rw [if_neg (show ¬ nI 1 = 4 by decide), if_neg (show ¬ nI 1 = 5 by decide), if_neg o, if_neg (show ¬ nI 1 = 0 by decide), if_pos (show nI 1 = 1 from rfl)]
      exact T
    · rw [if_neg (show ¬ nI 2 = 4 by decide), if_neg (show ¬ nI 2 = 5 by decide), if_neg o, if_neg (show ¬ nI 2 = 0 by decide), if_neg (show ¬ nI 2 = 1 by decide), if_pos (show nI 2 = 2 from rfl)]
      exact T
    · rw [if_neg (show ¬ nI 3 = 4 by decide), if_neg (show ¬ nI 3 = 5 by decide), if_neg o, if_neg (show ¬ nI 3 = 0 by decide), if_neg (show ¬ nI 3 = 1 by decide), if_neg (show ¬ nI 3 = 2 by decide)]
      exact T
  · have c2 : (nI 40).toNatClampNeg = 40 := nI_clamp (by omega)
    rw [if_pos (show (4 : Int32) = 4 from rfl), c2]
    refine ⟨⟨?_, ?_, hn⟩, fun j hj => ?_, fun j hj hj2 => ?_, ⟨?_, ?_, ?_⟩, fun j hj => ?_⟩
    · rw [z_up_j _ _ (by decide)]; exact h.1.1
    · rw [z_up_k _ _ (by decide)]; exact h.1.2.1
    · rw [z_up_k (k := 1) _ _ (by decide), z_up_k (k := 1) _ _ (by decide), z_up_k (k := 1) _ _ (by decide), z_up_k (k := 1) _ _ (by decide), z_up_j (k := 55) _ _ (by omega), z_up_j (k := 55) _ _ (by omega), z_up_j (k := 55) _ _ (by omega), z_up_j (k := 55) _ _ (by omega)]; exact h.2.1 j hj
    · rw [z_up_j _ _ (by omega)]; exact h.2.2.1 j hj hj2
    · rw [z_up_s, z_up_s]
    · rw [z_up_s]; exact hv.2.2.2.2 k4
    · rw [z_up_j _ _ (by decide), z_up_j _ _ (by decide)]; exact h.2.2.2.1.2.2
    · rw [z_up_k _ _ (by decide), z_up_k _ _ (by decide)]; exact h.2.2.2.2 j hj
  · have c2 : (nI 41).toNatClampNeg = 41 := nI_clamp (by omega)
    rw [if_neg (show ¬ (5 : Int32) = 4 by decide), if_pos (show (5 : Int32) = 5 from rfl), c2]
    refine ⟨⟨?_, ?_, hn⟩, fun j hj => ?_, fun j hj hj2 => ?_, ⟨?_, ?_, ?_⟩, fun j hj => ?_⟩
    · rw [z_up_j _ _ (by decide)]; exact h.1.1
    · rw [z_up_k _ _ (by decide)]; exact h.1.2.1
    · rw [z_up_k (k := 1) _ _ (by decide), z_up_k (k := 1) _ _ (by decide), z_up_k (k := 1) _ _ (by decide), z_up_k (k := 1) _ _ (by decide), z_up_j (k := 55) _ _ (by omega), z_up_j (k := 55) _ _ (by omega), z_up_j (k := 55) _ _ (by omega), z_up_j (k := 55) _ _ (by omega)]; exact h.2.1 j hj
    · rw [z_up_j _ _ (by omega)]; exact h.2.2.1 j hj hj2
    · rw [z_up_j _ _ (by decide), z_up_j _ _ (by decide)]; exact h.2.2.2.1.1
    · rw [z_up_j _ _ (by decide)]; exact h.2.2.2.1.2.1
    · rw [z_up_s, z_up_s]
    · rw [z_up_k _ _ (by decide), z_up_k _ _ (by decide)]; exact h.2.2.2.2 j hj
