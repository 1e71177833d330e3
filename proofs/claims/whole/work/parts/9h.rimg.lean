/-! THE CLASS AGAINST THE REFERENCE: a match in deed, the image, the tape -/
theorem yj_kpF (R : Nat → Nat → Int32) (np : Nat) (hn : np ≤ 10) (a j : Nat) (h : a ≠ 55) : m_X9_keepsAll R np a j = R a j := by rw [(yj_kp R np hn).1 a h]
theorem yj_s_match {b : Bool} {np nq dn km tm sz bo rn : Nat} {C R : Nat → Nat → Int32} {CL RL : Nat → Nat → Int64} (h : yj_J b np nq dn km tm sz bo rn C R CL RL) (abu : Int32) : f_X8_match b C sz abu = f_X9_match R np abu ∧ yj_B b (m_X8_match b C sz abu) (m_X9_match R np abu) CL RL := by
  have hn := yj_Y2 h.1
  have T0 := yj_Y1 h.1
  unfold f_X8_match f_X9_match m_X8_match m_X9_match
  rw [yj_isThree hn h.1.1.1]
  by_cases o : f_X9_isAbu np abu = 0
  · rw [if_pos o, if_pos o, if_pos o, if_pos o]
    exact ⟨rfl, yj_mk h⟩
  · obtain ⟨a, e, u, ⟨ha, he, hu⟩, hd, ea, ee, eu⟩ := yj_abu hn o
    have ca : (nI a).toNatClampNeg = a := nI_clamp (by omega)
    have ce : (nI e).toNatClampNeg = e := nI_clamp (by omega)
    have cu : (nI u).toNatClampNeg = u := nI_clamp (by omega)
    rw [if_neg o, if_neg o, if_neg o, if_neg o, ea, ee, eu, yj_canHold T0, yj_threeN hn ha he hu hd.1 hd.2.1 hd.2.2, if_neg (show ¬ (1 : Int32) = 0 by decide), ca, ce, cu]
    by_cases ch : f_X9_canBeHeld (m_X9_begins R np) a e u = 0
    · rw [if_pos ch, if_pos ch, if_pos ch, if_pos ch]
      exact ⟨rfl, yj_mk (yj_Jf h (fun _ _ _ _ => rfl) (fun a j x => yj_begF _ _ _ _ (Or.inl x)) (fun _ _ _ _ => rfl) (fun _ => rfl))⟩
    · rw [if_neg ch, if_neg ch, if_neg ch, if_neg ch]
      have s41 : m_X9_begins R np 55 41 = C 1 6 := (yj_begF R np 55 41 (Or.inl (by unfold yj_kR; omega))).trans h.1.2.2.2.1.2.2.symm
      rw [s41]
      unfold f_X7_draw m_X7_draw
      generalize C 1 6 * 1103515245 + 12345 = z
      have T1 : yj_T np 1 (z_up C 1 6 z) (z_up (m_X9_begins R np) 55 41 z) := yj_Tf T0 (fun a j x y => z_up_k _ _ (by omega)) (z_up_j _ _ (by omega)) (z_up_j _ _ (by omega)) (z_up_k _ _ (by omega)) (z_up_k _ _ (by omega)) (fun j hj => z_up_j _ _ (by omega)) (fun a j x y => z_up_k _ _ (by omega))
      have L1 : yj_L sz b (z_up C 1 6 z) (z_up (m_X9_begins R np) 55 41 z) := yj_Lf h.2.2.2.2.1 (z_up_k _ _ (by omega)) (z_up_r _ _ (by cases b <;> decide)) ((z_up_k _ _ (by omega)).trans (yj_begF _ _ _ _ (Or.inl (by unfold yj_kR; omega)))) (funext fun j => (z_up_k _ _ (by omega)).trans (yj_begF _ _ _ _ (Or.inl (by unfold yj_kR; omega))))
      rw [yj_odds T1 L1 (Or.inl rfl) ha he hu hd]
      have T2 := yj_oddsT (b := b) (sz := sz) T1 (Or.inl rfl) 1 (nI a) (nI e) (nI u) a e u
      have fin : ∀ w : Int32, w = 0 ∨ w = 1 → ∀ y : Int32, yj_B b (z_up (z_up (m_X7_settle (m_X1_oddsOn b (z_up C 1 6 z) sz 1 (nI a) (nI e) (nI u)) 1 (if w = 0 then e else a) (if w = 0 then a else e) u) 6 0 ((m_X7_settle (m_X1_oddsOn b (z_up C 1 6 z) sz 1 (nI a) (nI e) (nI u)) 1 (if w = 0 then e else a) (if w = 0 then a else e) u) 6 0 + 1)) 6 1 ((m_X7_settle (m_X1_oddsOn b (z_up C 1 6 z) sz 1 (nI a) (nI e) (nI u)) 1 (if w = 0 then e else a) (if w = 0 then a else e) u) 6 1 + y)) (z_up (z_up (m_X9_keepsAll (m_X9_isHeld (m_X9_oddsOf (z_up (m_X9_begins R np) 55 41 z) a e u) a e u w) np) 70 0 ((m_X9_keepsAll (m_X9_isHeld (m_X9_oddsOf (z_up (m_X9_begins R np) 55 41 z) a e u) a e u w) np) 70 0 + 1)) 70 1 ((m_X9_keepsAll (m_X9_isHeld (m_X9_oddsOf (z_up (m_X9_begins R np) 55 41 z) a e u) a e u w) np) 70 1 + y)) CL RL := by
        intro w _ y
        have T3 := yj_settle T2 hd w
        have cF : ∀ x j, x ≠ 5 → x ≠ 17 → (x ≠ 13 ∨ j ≠ 8) → (x ≠ 1 ∨ j ≠ 6) → m_X7_settle (m_X1_oddsOn b (z_up C 1 6 z) sz 1 (nI a) (nI e) (nI u)) 1 (if w = 0 then e else a) (if w = 0 then a else e) u x j = C x j := by
          intro x j q1 q2 q3 q4
          rw [yj_setF _ _ _ _ _ _ _ (by omega), z_ooO _ _ _ _ _ _ _ _ _ q2 q3]
          unfold z_up
          by_cases p : x = 1
          · rw [if_pos p, if_neg (by omega)]
          · rw [if_neg p]
        have c16 : m_X7_settle (m_X1_oddsOn b (z_up C 1 6 z) sz 1 (nI a) (nI e) (nI u)) 1 (if w = 0 then e else a) (if w = 0 then a else e) u 1 6 = z := by
          rw [yj_setF _ _ _ _ _ _ _ (by omega), z_ooO _ _ _ _ _ _ _ _ _ (by omega) (by omega), z_up_s]
        have rF : ∀ x j, yj_kR x j → (x ≠ 55 ∨ j ≠ 41) → m_X9_isHeld (m_X9_oddsOf (z_up (m_X9_begins R np) 55 41 z) a e u) a e u w x j = R x j := by
          intro x j q1 q2
          rw [z_ihF _ _ _ _ _ _ _ (by unfold yj_kR at q1; omega), z_ooF _ _ _ _ _ _ (by unfold yj_kR at q1; omega) (by unfold yj_kR at q1; omega)]
          have : z_up (m_X9_begins R np) 55 41 z x j = m_X9_begins R np x j := by
            unfold z_up
            by_cases p : x = 55
            · rw [if_pos p, if_neg (by omega)]
            · rw [if_neg p]
          rw [this, yj_begF _ _ _ _ (Or.inl q1)]
        have r41 : m_X9_isHeld (m_X9_oddsOf (z_up (m_X9_begins R np) 55 41 z) a e u) a e u w 55 41 = z := by
          rw [z_ihF _ _ _ _ _ _ _ (by omega), z_ooF _ _ _ _ _ _ (by omega) (by omega), z_up_s]
        generalize m_X7_settle (m_X1_oddsOn b (z_up C 1 6 z) sz 1 (nI a) (nI e) (nI u)) 1 (if w = 0 then e else a) (if w = 0 then a else e) u = C3 at T3 cF c16 ⊢
        generalize m_X9_isHeld (m_X9_oddsOf (z_up (m_X9_begins R np) 55 41 z) a e u) a e u w = R3 at T3 rF r41 ⊢
        have Y3 : yj_Y np C3 (m_X9_keepsAll R3 np) := by
          refine yj_TY T3 (fun j hj => ?_) (fun j hj hj2 => ?_) (c16.trans r41.symm) (fun j hj => ?_)
          · rw [rF 55 j (by unfold yj_kR; omega) (by omega)]; exact (h.1.2.1 j hj).2.1
          · rw [rF 55 (30 + j) (by unfold yj_kR; omega) (by omega)]; exact h.1.2.2.1 j hj hj2
          · rw [cF 6 j (by omega) (by omega) (by omega) (by omega), rF 70 j (by unfold yj_kR; omega) (by omega)]; exact h.1.2.2.2.2 j hj
        rw [← Y3.2.2.2.2 0 (by omega), ← Y3.2.2.2.2 1 (by omega)]
        refine yj_mk (yj_YJ h (yj_ledY (yj_ledY Y3 _) _) (fun x j q1 q2 => ?_) (fun x j q1 q2 q3 => ?_))
        · rw [z_up_k _ _ (by omega), z_up_k _ _ (by omega), cF x j (by omega) (by unfold yj_kC at q2; omega) (by unfold yj_kC at q2; omega) (by omega)]
        · rw [z_up_k _ _ q3, z_up_k _ _ q3, yj_kpF R3 np hn x j q2, rF x j q1 (Or.inl q2)]
      by_cases lose : f_X9_oddsOf (z_up (m_X9_begins R np) 55 41 z) a e u ≤ (z.toUInt32 >>> ((8 : Int32).toUInt32 &&& Int32.toUInt32 31)).toInt32 - (z.toUInt32 >>> ((8 : Int32).toUInt32 &&& Int32.toUInt32 31)).toInt32 / 12 * 12
      · rw [if_pos lose, if_pos lose, if_pos lose]
        exact ⟨rfl, fin 0 (Or.inl rfl) 0⟩
      · rw [if_neg lose, if_neg lose, if_neg lose]
        exact ⟨rfl, fin 1 (Or.inr rfl) 1⟩
theorem yj_im15 (R : Nat → Nat → Int32) (np : Nat) : ∀ i : Nat, (∀ a, a ≠ 71 → (g_X9_image_15 R np i) a = (z_up (z_up R 54 28 1) 54 29 (nI np)) a) ∧ ∀ j, j < i → (g_X9_image_15 R np i) 71 j = R 55 j
  | 0 => ⟨fun _ _ => rfl, fun _ h => absurd h (Nat.not_lt_zero _)⟩
  | i + 1 => by
    obtain ⟨h1, h2⟩ := yj_im15 R np i
    show (∀ a, a ≠ 71 → (gb_X9_image_15 R np i (g_X9_image_15 R np i)) a = _) ∧ ∀ j, j < i + 1 → (gb_X9_image_15 R np i (g_X9_image_15 R np i)) 71 j = R 55 j
    unfold gb_X9_image_15
    refine ⟨fun a ha => ?_, fun j hj => ?_⟩
    · rw [z_up_r _ _ ha]; exact h1 a ha
    · by_cases q : j = i
      · subst q
        rw [z_up_s, h1 55 (by decide), z_up_r _ _ (by decide), z_up_r _ _ (by decide)]
      · rw [z_up_j _ _ q]; exact h2 j (by omega)
theorem yj_im41 (R : Nat → Nat → Int32) (np : Nat) : ∀ i : Nat, (∀ a, a ≠ 72 → (g_X9_image_41 R np i) a = (g_X9_image_15 R np 42) a) ∧ ∀ j, j < i → (g_X9_image_41 R np i) 72 j = R 70 j
  | 0 => ⟨fun _ _ => rfl, fun _ h => absurd h (Nat.not_lt_zero _)⟩
  | i + 1 => by
    obtain ⟨h1, h2⟩ := yj_im41 R np i
    show (∀ a, a ≠ 72 → (gb_X9_image_41 R np i (g_X9_image_41 R np i)) a = _) ∧ ∀ j, j < i + 1 → (gb_X9_image_41 R np i (g_X9_image_41 R np i)) 72 j = R 70 j
    unfold gb_X9_image_41
    refine ⟨fun a ha => ?_, fun j hj => ?_⟩
    · rw [z_up_r _ _ ha]; exact h1 a ha
    · by_cases q : j = i
      · subst q
        rw [z_up_s, h1 70 (by decide), (yj_im15 R np 42).1 70 (by decide), z_up_r _ _ (by decide), z_up_r _ _ (by decide)]
      · rw [z_up_j _ _ q]; exact h2 j (by omega)
theorem yj_s_image {b : Bool} {np nq dn km tm sz bo rn : Nat} {C R : Nat → Nat → Int32} {CL RL : Nat → Nat → Int64} (h : yj_J b np nq dn km tm sz bo rn C R CL RL) : f_X8_image C np = f_X9_image R np ∧ yj_B b (m_X8_image C np) (m_X9_image R np) CL RL := by
  have hn := yj_Y2 h.1
  obtain ⟨i1, i2⟩ := yj_im41 R np 5
  obtain ⟨k1, k2⟩ := yj_im15 R np 42
  have cF : ∀ a j, (a = 7 → j ≠ 0 ∧ j ≠ 5 ∧ j ≠ 6) → a ≠ 8 → a ≠ 9 → a ≠ 10 → a ≠ 11 → a ≠ 12 → m_X7_copyAll_7 C np a j = C a j := by
    intro a j q1 q2 q3 q4 q5 q6
    unfold m_X7_copyAll_7
    rw [yj_lb7F _ _ _ _ (by omega) q3 q4 q5 q6, z_ro_k _ _ _ q2]
    unfold z_up
    by_cases e : a = 7
    · rw [if_pos e, if_neg (q1 e).1]
    · rw [if_neg e]
  have c7 : m_X7_copyAll_7 C np 7 0 = nI np := by
    unfold m_X7_copyAll_7
    rw [yj_lb7F _ _ _ _ (Or.inr ⟨by decide, by decide⟩) (by decide) (by decide) (by decide) (by decide), z_ro_k _ _ _ (by decide), z_up_s]
  have cv := yj_lb7 (z_ro (z_up C 7 0 (nI np)) 8 (va_cpy ((z_up C 7 0 (nI np)) 2) ((z_up C 7 0 (nI np)) 8) 0 0 10)) np
  have cu : ∀ a j, a ≠ 7 → a ≠ 8 → (z_ro (z_up C 7 0 (nI np)) 8 (va_cpy ((z_up C 7 0 (nI np)) 2) ((z_up C 7 0 (nI np)) 8) 0 0 10)) a j = C a j := fun a j q1 q2 => by rw [z_ro_k _ _ _ q2, z_up_k _ _ q1]
  have rF : ∀ a j, a ≠ 71 → a ≠ 72 → (a ≠ 54 ∨ (j ≠ 28 ∧ j ≠ 29)) → m_X9_image R np a j = R a j := by
    intro a j q1 q2 q3
    unfold m_X9_image
    rw [i1 a q2, k1 a q1]
    have u : ∀ (M : Nat → Nat → Int32) (c : Nat) (w : Int32), c = 28 ∨ c = 29 → z_up M 54 c w a j = M a j := by
      intro M c w hc
      unfold z_up
      by_cases p : a = 54
      · rw [if_pos p, if_neg (by omega)]
      · rw [if_neg p]
    rw [u _ _ _ (by omega), u _ _ _ (by omega)]
  have r71 : ∀ j, j < 42 → m_X9_image R np 71 j = R 55 j := fun j hj => by
    unfold m_X9_image
    rw [i1 71 (by decide)]; exact k2 j hj
  have r72 : ∀ j, j < 5 → m_X9_image R np 72 j = R 70 j := fun j hj => i2 j hj
  have r28 : m_X9_image R np 54 28 = 1 := by
    unfold m_X9_image
    rw [i1 54 (by decide), k1 54 (by decide), z_up_j _ _ (by decide), z_up_s]
  have r29 : m_X9_image R np 54 29 = nI np := by
    unfold m_X9_image
    rw [i1 54 (by decide), k1 54 (by decide), z_up_s]
  have l0 := h.1.2.2.2.2 0 (by omega)
  constructor
  · show m_X7_copyAll_7 C np 6 0 = m_X9_image R np 70 0
    rw [cF 6 0 (by omega) (by omega) (by omega) (by omega) (by omega) (by omega), rF 70 0 (by omega) (by omega) (by omega)]
    exact l0
  · unfold m_X8_image
    have c9 := fun j => (cv.1 j)
    obtain ⟨g1, g2, g3, g4, g5, g6, g7, g8⟩ := h
    have c : ∀ a j, (a < 7 ∨ 12 < a) → (a ≠ 0 ∨ j ≠ 2) → z_up (m_X7_copyAll_7 C np) 0 2 1 a j = C a j := by
      intro a j q1 q2
      have : z_up (m_X7_copyAll_7 C np) 0 2 1 a j = m_X7_copyAll_7 C np a j := by
        unfold z_up
        by_cases p : a = 0
        · rw [if_pos p, if_neg (by omega)]
        · rw [if_neg p]
      rw [this, cF a j (by omega) (by omega) (by omega) (by omega) (by omega) (by omega)]
    refine yj_mk (np := np) (nq := np) (dn := dn) (km := km) (tm := tm) (sz := sz) (bo := bo) (rn := rn) ⟨yj_Yf g1 (fun a j x y => c a j (by omega) (by omega)) (rF 54 6 (by omega) (by omega) (by omega)) (fun a j x => rF a j (by omega) (by omega) (by omega)), ⟨⟨?_, ?_, r29, Nat.le_refl _⟩, fun j hj => ?_, fun _ => ⟨⟨?_, ?_, ?_⟩, fun j hj => ?_⟩⟩, yj_Chf g3 (fun a j x y => c a j (by omega) (by omega)) (fun a j x => rF a j (by omega) (by omega) (by omega)), yj_Tpf g4 (c 13 1 (by omega) (by omega)) (fun j => c 14 j (by omega) (by omega)) (rF 54 8 (by omega) (by omega) (by omega)) (fun j => rF 59 j (by omega) (by omega) (by omega)), yj_Lf g5 (c 13 4 (by omega) (by omega)) (funext fun j => c _ j (by cases b <;> (show _ ∨ _; exact Or.inr (by decide))) (Or.inl (by cases b <;> decide))) (rF 54 10 (by omega) (by omega) (by omega)) (funext fun j => rF 60 j (by omega) (by omega) (by omega)), yj_Bof g6 (fun a j x y => c a j (by omega) (by omega)) (fun a j x => rF a j (by omega) (by omega) (by omega)), yj_Shf g7 (fun a j x => c a j (by omega) (by omega)) (fun a j x => rF a j (by omega) (by omega) (by omega)) (fun _ _ _ _ => rfl) (fun _ => rfl), by rw [rF 68 0 (by omega) (by omega) (by omega)]; exact g8⟩
    · rw [z_up_s, r28]
    · rw [z_up_k _ _ (by omega)]; exact c7
    · rw [z_up_k (k := 0) _ _ (by omega), z_up_k (k := 0) _ _ (by omega), z_up_k (k := 0) _ _ (by omega), r71 (10 + j) (by omega), r71 (20 + j) (by omega), r71 (30 + j) (by omega)]
      have g := g1.2.1 j hj
      unfold m_X7_copyAll_7
      rw [cv.1 j, cv.2.1 j, cv.2.2.1 j, if_pos hj, if_pos hj, if_pos hj, cu 3 j (by omega) (by omega), cu 4 j (by omega) (by omega), cu 5 j (by omega) (by omega)]
      exact ⟨⟨g.1.2.1, g.1.2.2.1, g.1.2.2.2⟩, g.2.2.1, g.2.2.2.1, g.2.2.2.2⟩
    · rw [z_up_k _ _ (by omega), r71 40 (by omega)]
      unfold m_X7_copyAll_7
      rw [cv.2.2.2.2.1, cu 1 5 (by omega) (by omega)]; exact g1.2.2.2.1.1
    · rw [r71 40 (by omega)]; exact g1.2.2.2.1.2.1
    · rw [z_up_k _ _ (by omega), r71 41 (by omega)]
      unfold m_X7_copyAll_7
      rw [cv.2.2.2.2.2, cu 1 6 (by omega) (by omega)]; exact g1.2.2.2.1.2.2
    · rw [z_up_k _ _ (by omega), r72 j hj]
      unfold m_X7_copyAll_7
      rw [cv.2.2.2.1 j, if_pos hj, cu 6 j (by omega) (by omega)]; exact g1.2.2.2.2 j hj
theorem yj_bk12 (R : Nat → Nat → Int32) : ∀ i : Nat, i ≤ 10 → (∀ a, a ≠ 55 → (g_X9_back_12 R i) a = R a) ∧ (∀ j, j < i → (g_X9_back_12 R i) 55 (10 + j) = R 71 (10 + j) ∧ (g_X9_back_12 R i) 55 (20 + j) = R 71 (20 + j) ∧ (g_X9_back_12 R i) 55 (30 + j) = R 71 (30 + j)) ∧ (∀ q, (∀ j, j < i → q ≠ 10 + j ∧ q ≠ 20 + j ∧ q ≠ 30 + j) → (g_X9_back_12 R i) 55 q = R 55 q)
  | 0, _ => ⟨fun _ _ => rfl, fun _ h => absurd h (Nat.not_lt_zero _), fun _ _ => rfl⟩
  | i + 1, hi => by
    obtain ⟨h1, h2, h3⟩ := yj_bk12 R i (by omega)
    show (∀ a, a ≠ 55 → (gb_X9_back_12 R i (g_X9_back_12 R i)) a = R a) ∧ (∀ j, j < i + 1 → (gb_X9_back_12 R i (g_X9_back_12 R i)) 55 (10 + j) = R 71 (10 + j) ∧ (gb_X9_back_12 R i (g_X9_back_12 R i)) 55 (20 + j) = R 71 (20 + j) ∧ (gb_X9_back_12 R i (g_X9_back_12 R i)) 55 (30 + j) = R 71 (30 + j)) ∧ (∀ q, (∀ j, j < i + 1 → q ≠ 10 + j ∧ q ≠ 20 + j ∧ q ≠ 30 + j) → (gb_X9_back_12 R i (g_X9_back_12 R i)) 55 q = R 55 q)
    unfold gb_X9_back_12
    rw [h1 71 (by decide)]
    refine ⟨fun a ha => ?_, fun j hj => ?_, fun q hq => ?_⟩
    · rw [z_up_r _ _ ha, z_up_r _ _ ha, z_up_r _ _ ha]; exact h1 a ha
    · by_cases q : j = i
      · subst q
        refine ⟨?_, ?_, ?_⟩
        · rw [z_up_j _ _ (by omega), z_up_j _ _ (by omega), z_up_s]
        · rw [z_up_j _ _ (by omega), z_up_s]
        · rw [z_up_s]
      · rw [z_up_j _ _ (by omega), z_up_j _ _ (by omega), z_up_j _ _ (by omega), z_up_j _ _ (by omega), z_up_j _ _ (by omega), z_up_j _ _ (by omega), z_up_j _ _ (by omega), z_up_j _ _ (by omega), z_up_j _ _ (by omega)]
        exact h2 j (by omega)
    · have e := hq i (by omega)
      rw [z_up_j _ _ (by omega), z_up_j _ _ (by omega), z_up_j _ _ (by omega)]
      exact h3 q (fun j hj => hq j (by omega))
theorem yj_bk110 (R : Nat → Nat → Int32) (ip : Nat) : ∀ i : Nat, (∀ a, a ≠ 70 → (g_X9_back_110 R ip i) a = (z_up (z_up (g_X9_back_12 R ip) 55 40 ((g_X9_back_12 R ip) 71 40)) 55 41 ((g_X9_back_12 R ip) 71 41)) a) ∧ ∀ j, j < i → (g_X9_back_110 R ip i) 70 j = (g_X9_back_12 R ip) 72 j
  | 0 => ⟨fun _ _ => rfl, fun _ h => absurd h (Nat.not_lt_zero _)⟩
  | i + 1 => by
    obtain ⟨h1, h2⟩ := yj_bk110 R ip i
    show (∀ a, a ≠ 70 → (gb_X9_back_110 R ip i (g_X9_back_110 R ip i)) a = _) ∧ ∀ j, j < i + 1 → (gb_X9_back_110 R ip i (g_X9_back_110 R ip i)) 70 j = _
    unfold gb_X9_back_110
    refine ⟨fun a ha => ?_, fun j hj => ?_⟩
    · rw [z_up_r _ _ ha]; exact h1 a ha
    · by_cases q : j = i
      · subst q
        rw [z_up_s, h1 72 (by decide), z_up_r _ _ (by decide), z_up_r _ _ (by decide)]
      · rw [z_up_j _ _ q]; exact h2 j (by omega)
theorem yj_s_back {b : Bool} {np nq dn km tm sz bo rn : Nat} {C R : Nat → Nat → Int32} {CL RL : Nat → Nat → Int64} (h : yj_J b np nq dn km tm sz bo rn C R CL RL) : f_X8_back C nq = f_X9_back R nq ∧ yj_B b (m_X8_back C nq) (m_X9_back R nq) CL RL := by
  have hn := yj_Y2 h.1
  have him := h.2.1
  have hnq := him.1.2.2.2
  unfold f_X8_back f_X9_back m_X8_back m_X9_back
  by_cases z : C 0 2 = 0
  · have z2 : R 54 28 = 0 := him.1.1.symm.trans z
    rw [if_pos z, if_pos z, if_pos z2, if_pos z2]
    exact ⟨rfl, yj_mk h⟩
  · have z2 : ¬ R 54 28 = 0 := fun q => z (him.1.1.trans q)
    rw [if_neg z, if_neg z, if_neg z2, if_neg z2]
    obtain ⟨⟨i1, i2, i3⟩, i4⟩ := him.2.2 z
    obtain ⟨b1, b2, b3⟩ := yj_bk12 R nq (by omega)
    obtain ⟨k1, k2⟩ := yj_bk110 R nq 5
    have cv := yj_lb1 C nq
    have r70 : ∀ j, j < 5 → g_X9_back_110 R nq 5 70 j = R 72 j := fun j hj => by rw [k2 j hj, b1 72 (by decide)]
    have r55 : ∀ q, q ≠ 40 → q ≠ 41 → g_X9_back_110 R nq 5 55 q = g_X9_back_12 R nq 55 q := fun q x y => by rw [k1 55 (by decide), z_up_j _ _ y, z_up_j _ _ x]
    have r40 : g_X9_back_110 R nq 5 55 40 = R 71 40 := by rw [k1 55 (by decide), z_up_j _ _ (by decide), z_up_s, b1 71 (by decide)]
    have r41 : g_X9_back_110 R nq 5 55 41 = R 71 41 := by rw [k1 55 (by decide), z_up_s, b1 71 (by decide)]
    have rF : ∀ a j, a ≠ 55 → a ≠ 70 → g_X9_back_110 R nq 5 a j = R a j := fun a j x y => by rw [k1 a y, z_up_k _ _ x, z_up_k _ _ x, b1 a x]
    have cF : ∀ a j, (a ≠ 1 ∨ (j ≠ 5 ∧ j ≠ 6)) → a ≠ 3 → a ≠ 4 → a ≠ 5 → a ≠ 6 → m_X7_layBack_1_7 C nq a j = C a j := fun a j x1 x2 x3 x4 x5 => yj_lb1F C nq a j x1 x2 x3 x4 x5
    constructor
    · show m_X7_layBack_1_7 C nq 6 0 = g_X9_back_110 R nq 5 70 0
      rw [cv.2.2.2.1 0, if_pos (by omega), r70 0 (by omega)]
      exact i4 0 (by omega)
    · refine yj_mk (yj_YJ h ⟨⟨?_, ?_, hn⟩, fun j hj => ?_, fun j hj hj2 => ?_, ⟨?_, ?_, ?_⟩, fun j hj => ?_⟩ (fun a j x y => cF a j (by omega) (by omega) (by omega) (by omega) (by omega)) (fun a j x y w => rF a j y w))
      · rw [cF 1 0 (by omega) (by omega) (by omega) (by omega) (by omega)]; exact h.1.1.1
      · rw [rF 54 6 (by omega) (by omega)]; exact h.1.1.2.1
      · have g := h.1.2.1 j hj
        rw [cF 2 j (by omega) (by omega) (by omega) (by omega) (by omega), cv.1 j, cv.2.1 j, cv.2.2.1 j, r55 j (by omega) (by omega), r55 (10 + j) (by omega) (by omega), r55 (20 + j) (by omega) (by omega), r55 (30 + j) (by omega) (by omega), b3 j (fun i hi => by omega)]
        by_cases q : j < nq
        · have g2 := him.2.1 j q
          obtain ⟨e1, e2, e3⟩ := b2 j q
          rw [if_pos q, if_pos q, if_pos q, e1, e2, e3]
          exact ⟨⟨g.1.1, g2.1.1, g2.1.2.1, g2.1.2.2⟩, g.2.1, g2.2.1, g2.2.2.1, g2.2.2.2⟩
        · rw [if_neg q, if_neg q, if_neg q, b3 (10 + j) (fun i hi => by omega), b3 (20 + j) (fun i hi => by omega), b3 (30 + j) (fun i hi => by omega)]
          exact g
      · rw [r55 (30 + j) (by omega) (by omega), b3 (30 + j) (fun i hi => by omega)]; exact h.1.2.2.1 j hj hj2
      · rw [cv.2.2.2.2.1, r40]; exact i1
      · rw [r40]; exact i2
      · rw [cv.2.2.2.2.2, r41]; exact i3
      · rw [cv.2.2.2.1 j, if_pos hj, r70 j hj]; exact i4 j hj
theorem yj_s_feed {b : Bool} {np nq dn km tm sz bo rn : Nat} {C R : Nat → Nat → Int32} {CL RL : Nat → Nat → Int64} (h : yj_J b np nq dn km tm sz bo rn C R CL RL) (x : Int32) : f_X8_feed C tm x = f_X9_feed R tm x ∧ yj_B b (m_X8_feed C tm x) (m_X9_feed R tm x) CL RL := by
  have hT := h.2.2.2.1
  unfold f_X8_feed f_X9_feed m_X8_feed m_X9_feed
  rw [yj_w0255]
  by_cases a : x < 0
  · simp only [a, reduceIte]; exact ⟨trivial, yj_mk h⟩
  · by_cases c : 255 < x
    · have c2 : ¬ x ≤ 255 := fun q => by rw [Int32.lt_iff_toInt_lt] at c; rw [Int32.le_iff_toInt_le] at q; omega
      simp only [a, c, c2, reduceIte]; exact ⟨trivial, yj_mk h⟩
    · have c2 : x ≤ 255 := Int32.not_lt.mp c
      simp only [a, c, c2, yj_d10, reduceIte]
      unfold f_X1_append m_X1_append
      by_cases q : tm = 120
      · have e : nI tm = 120 := by rw [q]; rfl
        have e2 : ¬ nI tm < 120 := by rw [e]; decide
        simp only [e, e2, reduceIte]
        rw [if_neg (show ¬ (120 : Int32) < 120 by decide), if_pos (show (0 : Int32) = 0 from rfl), if_neg (show ¬ (120 : Int32) < 120 by decide)]
        simp only [ite_self]
        exact ⟨trivial, yj_mk h⟩
      · have e : ¬ nI tm = 120 := fun p => q ((nI_eq (b := 120) (by have := hT.1.2.2; omega) (by omega)).mp p)
        have e2 : nI tm < 120 := nI_lt (b := 120) (by have := hT.1.2.2; omega) (by omega)
        simp only [e, e2, yj_d10, reduceIte]
        have ht := hT.1.2.2
        refine ⟨?_, ?_⟩
        · rw [z_up_k _ _ (by omega), z_up_s]
        · obtain ⟨g1, g2, g3, g4, g5, g6, g7, g8⟩ := h
          have c := fun (a j : Nat) (x1 : a ≠ 14) (x2 : a ≠ 13 ∨ j ≠ 1) => show z_up (z_up C 13 1 (nI tm + 1)) 14 tm x a j = C a j by
            rw [z_up_k _ _ x1]
            unfold z_up
            by_cases p : a = 13
            · rw [if_pos p, if_neg (by omega)]
            · rw [if_neg p]
          have r := fun (a j : Nat) (x1 : a ≠ 59) (x2 : a ≠ 54 ∨ j ≠ 8) => show z_up (z_up R 59 tm x) 54 8 (nI tm + 1) a j = R a j by
            have : z_up (z_up R 59 tm x) 54 8 (nI tm + 1) a j = z_up R 59 tm x a j := by
              unfold z_up
              by_cases p : a = 54
              · rw [if_pos p, if_neg (by omega)]
              · rw [if_neg p]
            rw [this, z_up_k _ _ x1]
          refine yj_mk (np := np) (nq := nq) (dn := dn) (km := km) (tm := tm + 1) (sz := sz) (bo := bo) (rn := rn) ⟨yj_Yf g1 (fun a j x y => c a j (by omega) (by omega)) (r 54 6 (by omega) (by omega)) (fun a j x => r a j (by omega) (by omega)), yj_Imf g2 (fun a j x => c a j (by omega) (by omega)) (fun a j x => r a j (by omega) (by omega)), yj_Chf g3 (fun a j x y => c a j (by omega) (by omega)) (fun a j x => r a j (by omega) (by omega)), ⟨⟨?_, ?_, by omega⟩, fun j hj => ?_⟩, yj_Lf g5 (c 13 4 (by omega) (by omega)) (funext fun j => c _ j (by cases b <;> decide) (Or.inl (by cases b <;> decide))) (r 54 10 (by omega) (by omega)) (funext fun j => r 60 j (by omega) (by omega)), yj_Bof g6 (fun a j x y => c a j (by omega) (by omega)) (fun a j x => r a j (by omega) (by omega)), yj_Shf g7 (fun a j x => c a j (by omega) (by omega)) (fun a j x => r a j (by omega) (by omega)) (fun _ _ _ _ => rfl) (fun _ => rfl), by rw [r 68 0 (by omega) (by omega)]; exact g8⟩
          · rw [z_up_k _ _ (by omega), z_up_s]; exact (nI_succ tm).symm
          · rw [z_up_s]; exact (nI_succ tm).symm
          · by_cases p : j = tm
            · rw [p, z_up_s, z_up_k _ _ (by omega), z_up_s]
            · rw [z_up_j _ _ p, z_up_k _ _ (by omega), z_up_k _ _ (by omega), z_up_j _ _ p]
              exact hT.2 j (by omega)
/-- promise 7 -/
theorem yj_s_law {b : Bool} {np nq dn km tm sz bo rn : Nat} {C R : Nat → Nat → Int32} {CL RL : Nat → Nat → Int64} (h : yj_J b np nq dn km tm sz bo rn C R CL RL) : f_X8_law b C = f_X9_law R tm ∧ yj_B (z_nb b C) (m_X8_law b C) (m_X9_law R tm) CL RL := by
  obtain ⟨e, T, ⟨s2, L2⟩, c, r⟩ := yj_law h.2.2.2.1 h.2.2.2.2.1
  have d := yj_dfc b
  obtain ⟨g1, g2, g3, g4, g5, g6, g7, g8⟩ := h
  have d14 : 14 < z_df b := by cases b <;> decide
  exact ⟨e, yj_mk (np := np) (nq := nq) (dn := dn) (km := km) (tm := 0) (sz := s2) (bo := bo) (rn := rn) ⟨yj_Yf g1 (fun a j x y => c a j (by omega) (by omega)) (r 54 6 (by omega) (by omega)) (fun a j x => r a j (by omega) (by omega)), yj_Imf g2 (fun a j x => c a j (by omega) (by omega)) (fun a j x => r a j (by omega) (by omega)), yj_Chf g3 (fun a j x y => c a j (by omega) (by omega)) (fun a j x => r a j (by omega) (by omega)), T, L2, yj_Bof g6 (fun a j x y => c a j (by omega) (by omega)) (fun a j x => r a j (by omega) (by omega)), yj_Shf g7 (fun a j x => c a j (by omega) (by omega)) (fun a j x => r a j (by omega) (by omega)) (fun _ _ _ _ => rfl) (fun _ => rfl), by rw [r 68 0 (by omega) (by omega)]; exact g8⟩⟩
