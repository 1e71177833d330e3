/-! THE CLASS AGAINST THE REFERENCE: undo, redo; deeds -/
theorem yj_mk {b : Bool} {np nq dn km tm sz bo rn : Nat} {C R : Nat → Nat → Int32} {CL RL : Nat → Nat → Int64} (h : yj_J b np nq dn km tm sz bo rn C R CL RL) : yj_B b C R CL RL := ⟨_, _, _, _, _, _, _, _, h⟩
theorem yj_chN {np dn dn' km : Nat} {C R C' R' : Nat → Nat → Int32} (h : yj_Ch np dn km C R) (hd : dn' ≤ km) (c4 : C' 33 4 = nI dn') (c5 : C' 33 5 = nI (km - dn')) (c : ∀ a j, 34 ≤ a → a ≤ 37 → C' a j = C a j) (r5 : R' 54 5 = nI dn') (r4 : R' 54 4 = R 54 4) (r : ∀ a j, 56 ≤ a → a ≤ 58 → R' a j = R a j) : yj_Ch np dn' km C' R' := by
  refine ⟨⟨c4, r5, r4.trans h.1.2.2.1, c5, hd, h.1.2.2.2.2.2⟩, fun j hj => ?_, fun k hk => ?_⟩
  · rw [r 56 j (by omega) (by omega)]; exact h.2.1 j hj
  · rw [c 34 k (by omega) (by omega), c 35 k (by omega) (by omega), c 36 k (by omega) (by omega), c 37 k (by omega) (by omega), r 56 k (by omega) (by omega), r 57 k (by omega) (by omega), r 58 k (by omega) (by omega)]
    exact h.2.2 k hk
theorem yj_s_undo {b : Bool} {np nq dn km tm sz bo rn : Nat} {C R : Nat → Nat → Int32} {CL RL : Nat → Nat → Int64} (h : yj_J b np nq dn km tm sz bo rn C R CL RL) : f_X8_undo C dn = f_X9_undo R dn ∧ yj_B b (m_X8_undo C dn) (m_X9_undo R dn) CL RL := by
  have h3 := h.2.2.1
  have k40 := h3.1.2.2.2.2
  unfold f_X8_undo f_X9_undo m_X8_undo m_X9_undo
  by_cases q : dn = 0
  · subst q
    rw [if_pos (show nI 0 = 0 from rfl), if_pos (show nI 0 = 0 from rfl), if_pos (show nI 0 = 0 from rfl), if_pos (show nI 0 = 0 from rfl)]
    exact ⟨rfl, _, _, _, _, _, _, _, _, h⟩
  · have z : ¬ nI dn = 0 := nI_ne0 (by omega) (by omega)
    rw [if_neg z, if_neg z, if_neg z, if_neg z]
    unfold m_X0_undoOn
    rw [if_neg (nI_nle (by omega) (by omega))]
    obtain ⟨k, p, e1, e2, o1, o2⟩ := h3.2.2 (dn - 1) (by omega)
    have J1 := yj_chJ h (dn' := dn - 1) (km' := km) (C' := z_up (z_up C 33 4 (nI (dn - 1))) 33 5 (C 33 5 + 1)) (R' := z_up R 54 5 (nI (dn - 1))) (yj_chN h3 (by omega) (by rw [z_up_j _ _ (by decide), z_up_s]) (by
      rw [z_up_s, h3.1.2.2.2.1, nI_1]
      congr 1
      omega) (fun a j x y => by rw [z_up_k _ _ (by omega), z_up_k _ _ (by omega)]) (by rw [z_up_s]) (by rw [z_up_j _ _ (by decide)]) (fun a j x y => by rw [z_up_k _ _ (by omega)])) (fun a j x => by rw [z_up_k _ _ (by omega), z_up_k _ _ (by omega)]) (fun a j x y => by
      unfold z_up
      by_cases p : a = 54
      · rw [if_pos p, if_neg (by omega)]
      · rw [if_neg p])
    rw [e1]
    have J2 := yj_becJ J1 p o1
    refine ⟨?_, _, _, _, _, _, _, _, _, J2⟩
    rw [yj_bcF _ _ _ _ 33 4 (by omega), z_up_j _ _ (by decide), z_up_s]
theorem yj_s_redo {b : Bool} {np nq dn km tm sz bo rn : Nat} {C R : Nat → Nat → Int32} {CL RL : Nat → Nat → Int64} (h : yj_J b np nq dn km tm sz bo rn C R CL RL) : f_X8_redo C dn = f_X9_redo R dn ∧ yj_B b (m_X8_redo C dn) (m_X9_redo R dn) CL RL := by
  have h3 := h.2.2.1
  have k40 := h3.1.2.2.2.2
  unfold f_X8_redo f_X9_redo m_X8_redo m_X9_redo
  rw [h3.1.2.2.2.1, h3.1.2.2.1]
  by_cases q : dn = km
  · subst q
    rw [Nat.sub_self, if_pos (show nI 0 = 0 from rfl), if_pos (show nI 0 = 0 from rfl), if_pos rfl, if_pos rfl]
    exact ⟨rfl, _, _, _, _, _, _, _, _, h⟩
  · have z : ¬ nI (km - dn) = 0 := nI_ne0 (by omega) (by omega)
    have z2 : ¬ nI dn = nI km := fun e => q ((nI_eq (by omega) (by omega)).mp e)
    rw [if_neg z, if_neg z, if_neg z2, if_neg z2]
    unfold m_X0_redoOn
    rw [h3.1.2.2.2.1, if_neg (nI_nle (by omega) (by omega)), if_neg (show ¬ 40 ≤ nI dn by rw [show (40 : Int32) = nI 40 from rfl, nI_leI (by omega) (by omega)]; omega)]
    obtain ⟨k, p, e1, e2, o1, o2⟩ := h3.2.2 dn (by omega)
    rw [e2]
    have J1 := yj_becJ h p o2
    have J2 := yj_chJ J1 (dn' := dn + 1) (km' := km) (C' := z_up (z_up (m_X7_become C 1 (C 34 dn) (C 35 dn) (R 58 dn)) 33 4 (nI dn + 1)) 33 5 (nI (km - dn) - 1)) (R' := z_up (z_up R 55 (R 56 dn).toNatClampNeg (R 58 dn)) 54 5 (nI dn + 1)) (yj_chN J1.2.2.1 (by omega) (by rw [z_up_j _ _ (by decide), z_up_s, ← nI_succ]) (by
      rw [z_up_s, z_pred (by omega)]
      congr 1) (fun a j x y => by rw [z_up_k _ _ (by omega), z_up_k _ _ (by omega)]) (by rw [z_up_s, ← nI_succ]) (by rw [z_up_j _ _ (by decide)]) (fun a j x y => by rw [z_up_k _ _ (by omega)])) (fun a j x => by rw [z_up_k _ _ (by omega), z_up_k _ _ (by omega)]) (fun a j x y => by
      unfold z_up
      by_cases p : a = 54
      · rw [if_pos p, if_neg (by omega)]
      · rw [if_neg p])
    refine ⟨?_, _, _, _, _, _, _, _, _, J2⟩
    rw [z_up_s, z_pred (by omega), ← nI_succ, pk_sub (by omega)]
    congr 1
/-- only the players in truth have changed -/
theorem yj_YJ {b : Bool} {np nq dn km tm sz bo rn : Nat} {C R C' R' : Nat → Nat → Int32} {CL RL : Nat → Nat → Int64} (h : yj_J b np nq dn km tm sz bo rn C R CL RL) (g : yj_Y np C' R') (c : ∀ a j, a = 0 ∨ 6 < a → yj_kC a j → C' a j = C a j) (r : ∀ a j, yj_kR a j → a ≠ 55 → a ≠ 70 → R' a j = R a j) : yj_J b np nq dn km tm sz bo rn C' R' CL RL := by
  obtain ⟨g1, g2, g3, g4, g5, g6, g7, g8⟩ := h
  refine ⟨g, yj_Imf g2 (fun a j x => c a j (by omega) (by unfold yj_kC; omega)) (fun a j x => r a j (by unfold yj_kR; omega) (by omega) (by omega)), yj_Chf g3 (fun a j x y => c a j (by omega) (by unfold yj_kC; omega)) (fun a j x => r a j (by unfold yj_kR; omega) (by omega) (by omega)), yj_Tpf g4 (c 13 1 (by omega) (by unfold yj_kC; omega)) (fun j => c 14 j (by omega) (by unfold yj_kC; omega)) (r 54 8 (by unfold yj_kR; omega) (by omega) (by omega)) (fun j => r 59 j (by unfold yj_kR; omega) (by omega) (by omega)), yj_Lf g5 (c 13 4 (by omega) (by unfold yj_kC; omega)) ?_ (r 54 10 (by unfold yj_kR; omega) (by omega) (by omega)) (funext fun j => r 60 j (by unfold yj_kR; omega) (by omega) (by omega)), yj_Bof g6 (fun a j x y => c a j (by omega) (by unfold yj_kC; omega)) (fun a j x => r a j (by unfold yj_kR; omega) (by omega) (by omega)), yj_Shf g7 (fun a j x => c a j (by omega) (by unfold yj_kC; omega)) (fun a j x => r a j (by unfold yj_kR; omega) (by omega) (by omega)) (fun _ _ _ _ => rfl) (fun _ => rfl), by rw [r 68 0 (by unfold yj_kR; omega) (by omega) (by omega)]; exact g8⟩
  funext j
  cases b
  · exact c 15 j (by omega) (by unfold yj_kC; omega)
  · exact c 16 j (by omega) (by unfold yj_kC; omega)
/-- what is told of deeds -/
theorem yj_ledY {np i : Nat} {C R : Nat → Nat → Int32} (h : yj_Y np C R) (v : Int32) : yj_Y np (z_up C 6 i v) (z_up R 70 i v) := by
  refine ⟨⟨?_, ?_, h.1.2.2⟩, fun j hj => ?_, fun j hj hj2 => ?_, ⟨?_, ?_, ?_⟩, fun j hj => ?_⟩
  · rw [z_up_k _ _ (by decide)]; exact h.1.1
  · rw [z_up_k _ _ (by decide)]; exact h.1.2.1
  · rw [z_up_k (k := 6) _ _ (by decide), z_up_k (k := 6) _ _ (by decide), z_up_k (k := 6) _ _ (by decide), z_up_k (k := 6) _ _ (by decide), z_up_k (k := 70) _ _ (by decide), z_up_k (k := 70) _ _ (by decide), z_up_k (k := 70) _ _ (by decide), z_up_k (k := 70) _ _ (by decide)]
    exact h.2.1 j hj
  · rw [z_up_k _ _ (by decide)]; exact h.2.2.1 j hj hj2
  · rw [z_up_k _ _ (by decide), z_up_k _ _ (by decide)]; exact h.2.2.2.1.1
  · rw [z_up_k _ _ (by decide)]; exact h.2.2.2.1.2.1
  · rw [z_up_k _ _ (by decide), z_up_k _ _ (by decide)]; exact h.2.2.2.1.2.2
  · by_cases e : j = i
    · subst e; rw [z_up_s, z_up_s]
    · rw [z_up_j _ _ e, z_up_j _ _ e]; exact h.2.2.2.2 j hj
theorem yj_ledJ {b : Bool} {np nq dn km tm sz bo rn : Nat} {C R : Nat → Nat → Int32} {CL RL : Nat → Nat → Int64} (h : yj_J b np nq dn km tm sz bo rn C R CL RL) (i : Nat) (v : Int32) : yj_J b np nq dn km tm sz bo rn (z_up C 6 i v) (z_up R 70 i v) CL RL :=
  yj_YJ h (yj_ledY h.1 v) (fun a j x _ => z_up_k _ _ (by omega)) (fun a j _ x y => z_up_k _ _ y)
theorem yj_s_led {b : Bool} {np nq dn km tm sz bo rn : Nat} {C R : Nat → Nat → Int32} {CL RL : Nat → Nat → Int64} (h : yj_J b np nq dn km tm sz bo rn C R CL RL) (w : Int32) : f_X8_led C w = f_X9_led R w := by
  unfold f_X8_led f_X9_led
  rw [yj_w04]
  by_cases a : w < 0
  · rw [if_pos a, if_pos a, if_pos (show (0 : Int32) = 0 from rfl)]
  · rw [if_neg a, if_neg a]
    have t4 : (4 : Int32).toInt = 4 := rfl
    have t5 : (5 : Int32).toInt = 5 := rfl
    by_cases c : 4 < w
    · rw [if_pos c, if_pos (show 5 ≤ w by rw [Int32.lt_iff_toInt_lt] at c; rw [Int32.le_iff_toInt_le]; omega), if_pos (show (0 : Int32) = 0 from rfl)]
    · rw [if_neg c, if_neg (show ¬ 5 ≤ w by rw [Int32.lt_iff_toInt_lt] at c; rw [Int32.le_iff_toInt_le]; omega), if_neg (show ¬ (1 : Int32) = 0 by decide)]
      obtain ⟨n, hn, rfl⟩ := yj_rc (N := 4) (by omega) rfl a c
      rw [nI_clamp (by omega)]
      exact h.1.2.2.2.2 n (by omega)
theorem yj_sweet : ∀ n : Nat, n < 100 → (if 0 < nI n - 20 then nI n - 20 else 0) = f_X9_soured (nI n) 0 ∧ f_X9_soured (nI n) 0 = nI (n - 20) := by decide +kernel
theorem yj_s_lemonade {b : Bool} {np nq dn km tm sz bo rn : Nat} {C R : Nat → Nat → Int32} {CL RL : Nat → Nat → Int64} (h : yj_J b np nq dn km tm sz bo rn C R CL RL) (one : Int32) : f_X8_lemonade C one = f_X9_lemonade R np one ∧ yj_B b (m_X8_lemonade C one) (m_X9_lemonade R np one) CL RL := by
  have hn := yj_Y2 h.1
  unfold f_X8_lemonade f_X9_lemonade m_X8_lemonade m_X9_lemonade
  rw [yj_has hn h.1.1.1]
  by_cases o : f_X9_isOne np one.toInt64 = 0
  · rw [if_pos o, if_pos o, if_pos o, if_pos o]
    exact ⟨rfl, _, _, _, _, _, _, _, _, h⟩
  · rw [if_neg o, if_neg o, if_neg o, if_neg o]
    obtain ⟨e1, e2⟩ := yj_one hn o
    generalize one.toNatClampNeg = m at e1 e2 ⊢
    have g := h.1.2.1 m e2
    obtain ⟨n, hn2, en⟩ := g.2.2.1
    have S := yj_sweet n (by omega)
    rw [g.1.2.1, en, S.1]
    have P : yj_pl np (nI m) (nI 1) (nI (10 * 1 + m)) 1 := Or.inl ⟨m, e2, by omega, rfl, rfl, rfl⟩
    have ok : yj_ok 1 (f_X9_soured (nI n) 0) := ⟨fun q => absurd q (by decide), fun _ => by rw [S.2]; exact yj_rn (by omega), fun q => absurd q (by decide), fun q => absurd q (by decide), fun q => absurd q (by decide)⟩
    have J1 := yj_becJ h P ok
    have eC : m_X7_become C 1 (nI m) (nI 1) (f_X9_soured (nI n) 0) = z_up C 3 m (f_X9_soured (nI n) 0) := by
      unfold m_X7_become
      rw [yj_has hn h.1.1.1, if_neg (show ¬ nI 1 = 4 by decide), if_neg (show ¬ nI 1 = 5 by decide), if_neg (by rw [yj_oneN hn e2]; decide), if_neg (show ¬ nI 1 = 0 by decide), if_pos (show nI 1 = 1 from rfl), nI_clamp (by omega)]
    rw [eC, nI_clamp (by omega), show 10 * 1 + m = 10 + m by omega] at J1
    have J2 := yj_ledJ J1 2 (C 6 2 + 1)
    have l2 := h.1.2.2.2.2 2 (by omega)
    rw [← l2]
    exact ⟨rfl, yj_mk J2⟩
/-- trial against truth: cells of neither -/
theorem yj_Tf {np k : Nat} {C R C' R' : Nat → Nat → Int32} (h : yj_T np k C R) (c : ∀ a j, k < a → a < k + 5 → C' a j = C a j) (c0 : C' k 0 = C k 0) (c5 : C' k 5 = C k 5) (r6 : R' 54 6 = R 54 6) (r20 : R' 54 20 = R 54 20) (r5 : ∀ j, j < 10 → R' 55 j = R 55 j) (r : ∀ a j, 62 ≤ a → a ≤ 64 → R' a j = R a j) : yj_T np k C' R' := by
  have hn := h.1.2.2
  unfold yj_T
  rw [c0, c5, r6, r20]
  refine ⟨h.1, fun j hj => ?_, h.2.2⟩
  rw [c (k + 1) j (by omega) (by omega), c (k + 2) j (by omega) (by omega), c (k + 3) j (by omega) (by omega), c (k + 4) j (by omega) (by omega), r5 j (by omega), r 62 j (by omega) (by omega), r 63 j (by omega) (by omega), r 64 j (by omega) (by omega)]
  exact h.2.1 j hj
theorem yj_kpT {np : Nat} {C R : Nat → Nat → Int32} (h : yj_T np 1 C R) : yj_T np 1 C (m_X9_keepsAll R np) := by
  obtain ⟨k1, k2, k3, k4, k5, k6⟩ := yj_kp R np h.1.2.2
  exact yj_Tf h (fun _ _ _ _ => rfl) rfl rfl (by rw [k1 54 (by decide)]) (by rw [k1 54 (by decide)]) k3 (fun a j x y => by rw [k1 a (by omega)])
theorem yj_begF (R : Nat → Nat → Int32) (np a j : Nat) (h : yj_kR a j ∨ a < 54) : m_X9_begins R np a j = R a j := z_begO R np a j (by unfold yj_kR at h; omega) (by unfold yj_kR at h; omega) (by unfold yj_kR at h; omega) (by unfold yj_kR at h; omega)
theorem yj_enF2 (R : Nat → Nat → Int32) (np a j : Nat) (h : yj_kR a j ∨ a < 54) : m_X9_endsDay R np a j = R a j := z_enF R np a j (by unfold yj_kR at h; omega) (by unfold yj_kR at h; omega) (by unfold yj_kR at h; omega) (by unfold yj_kR at h; omega)
theorem yj_s_day {b : Bool} {np nq dn km tm sz bo rn : Nat} {C R : Nat → Nat → Int32} {CL RL : Nat → Nat → Int64} (h : yj_J b np nq dn km tm sz bo rn C R CL RL) : f_X8_day C np = f_X9_day R np ∧ yj_B b (m_X8_day C np) (m_X9_day R np) CL RL := by
  have hn := yj_Y2 h.1
  have T0 := yj_Y1 h.1
  have cnt := yj_cnt T0
  have l4 := h.1.2.2.2.2 4 (by omega)
  have l3 := h.1.2.2.2.2 3 (by omega)
  have b4 : m_X9_begins R np 70 4 = C 6 4 := (yj_begF R np 70 4 (Or.inl (by unfold yj_kR; omega))).trans l4.symm
  have e3 : m_X9_endsDay (m_X9_begins R np) np 70 3 = C 6 3 := (yj_enF2 _ np 70 3 (Or.inl (by unfold yj_kR; omega))).trans ((yj_begF R np 70 3 (Or.inl (by unfold yj_kR; omega))).trans l3.symm)
  unfold f_X8_day f_X9_day m_X8_day m_X9_day
  rw [b4, e3, cnt]
  generalize f_X7_countBeaten C 1 np = n
  have T1 : yj_T np 1 (z_up (z_up C 6 4 (C 6 4 + n)) 6 3 (C 6 3 + 1)) (m_X9_begins R np) := yj_Tf T0 (fun a j x y => by rw [z_up_k _ _ (by omega), z_up_k _ _ (by omega)]) (by rw [z_up_k _ _ (by omega), z_up_k _ _ (by omega)]) (by rw [z_up_k _ _ (by omega), z_up_k _ _ (by omega)]) rfl rfl (fun _ _ => rfl) (fun _ _ _ _ => rfl)
  have z3 : (z_up (z_up C 6 4 (C 6 4 + n)) 6 3 (C 6 3 + 1)) 6 3 = C 6 3 + 1 := z_up_s _ _ _ _
  have T2 := yj_day T1
  have T3 : yj_T np 1 (m_X7_endDay (z_up (z_up C 6 4 (C 6 4 + n)) 6 3 (C 6 3 + 1)) 1 np) (z_up (z_up (m_X9_endsDay (m_X9_begins R np) np) 70 4 (C 6 4 + n)) 70 3 (C 6 3 + 1)) := yj_Tf T2 (fun _ _ _ _ => rfl) rfl rfl (by rw [z_up_k _ _ (by omega), z_up_k _ _ (by omega)]) (by rw [z_up_k _ _ (by omega), z_up_k _ _ (by omega)]) (fun j _ => by rw [z_up_k _ _ (by omega), z_up_k _ _ (by omega)]) (fun a j x y => by rw [z_up_k _ _ (by omega), z_up_k _ _ (by omega)])
  have rk : ∀ a j, yj_kR a j → a ≠ 70 → z_up (z_up (m_X9_endsDay (m_X9_begins R np) np) 70 4 (C 6 4 + n)) 70 3 (C 6 3 + 1) a j = R a j := by
    intro a j x y
    rw [z_up_k _ _ y, z_up_k _ _ y, yj_enF2 _ _ _ _ (Or.inl x), yj_begF _ _ _ _ (Or.inl x)]
  have cF : ∀ a j, (a = 1 → j = 6 ∨ 6 < j) → a ≠ 3 → a ≠ 4 → a ≠ 5 → m_X7_endDay (z_up (z_up C 6 4 (C 6 4 + n)) 6 3 (C 6 3 + 1)) 1 np a j = z_up (z_up C 6 4 (C 6 4 + n)) 6 3 (C 6 3 + 1) a j := by
    intro a j x1 x3 x4 x5
    by_cases e : a = 1
    · unfold m_X7_endDay
      rw [e, z_up_j _ _ (by have := x1 e; omega)]
      exact z_edG _ 1 1 j (by omega) (by omega) (by omega) np
    · exact z_edF _ 1 np a j e (by omega) (by omega) (by omega)
  have Y1 : yj_Y np (m_X7_endDay (z_up (z_up C 6 4 (C 6 4 + n)) 6 3 (C 6 3 + 1)) 1 np) (m_X9_keepsAll (z_up (z_up (m_X9_endsDay (m_X9_begins R np) np) 70 4 (C 6 4 + n)) 70 3 (C 6 3 + 1)) np) := by
    refine yj_TY T3 (fun j hj => ?_) (fun j hj hj2 => ?_) ?_ (fun j hj => ?_)
    · rw [rk 55 j (by unfold yj_kR; omega) (by omega)]; exact (h.1.2.1 j hj).2.1
    · rw [rk 55 (30 + j) (by unfold yj_kR; omega) (by omega)]; exact h.1.2.2.1 j hj hj2
    · rw [rk 55 41 (by unfold yj_kR; omega) (by omega), cF 1 6 (by omega) (by omega) (by omega) (by omega), z_up_k _ _ (by omega), z_up_k _ _ (by omega)]; exact h.1.2.2.2.1.2.2
    · rw [cF 6 j (by omega) (by omega) (by omega) (by omega)]
      by_cases q3 : j = 3
      · rw [q3, z_up_s, z_up_s]
      · by_cases q4 : j = 4
        · rw [q4, z_up_j _ _ (by decide), z_up_s, z_up_j _ _ (by decide), z_up_s]
        · rw [z_up_j _ _ q3, z_up_j _ _ q4, z_up_j _ _ q3, z_up_j _ _ q4, yj_enF2 _ _ _ _ (Or.inl (by unfold yj_kR; omega)), yj_begF _ _ _ _ (Or.inl (by unfold yj_kR; omega))]
          exact h.1.2.2.2.2 j hj
  obtain ⟨k1, -⟩ := yj_kp (z_up (z_up (m_X9_endsDay (m_X9_begins R np) np) 70 4 (C 6 4 + n)) 70 3 (C 6 3 + 1)) np hn
  refine ⟨?_, yj_mk (yj_YJ h Y1 (fun a j x y => ?_) (fun a j x y w => ?_))⟩
  · exact yj_judges (yj_kpT T3)
  · rw [cF a j (by omega) (by omega) (by omega) (by omega), z_up_k _ _ (by omega), z_up_k _ _ (by omega)]
  · rw [k1 a y, rk a j x w]
