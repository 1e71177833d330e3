/-! THE CLASS AGAINST THE REFERENCE: stools, acts, what ran -/
def yj_Tr (rn : Nat) (C R : Nat → Nat → Int32) : Prop := C 38 3 = nI rn ∧ R 54 35 = nI rn ∧ ∀ j, j < 24 → j < rn → C 40 j = R 74 j
theorem yj_trS {rn : Nat} {C R : Nat → Nat → Int32} (h : yj_Tr rn C R) (hr : rn ≤ 998) (v : Int32) : yj_Tr (rn + 1) (yq_pC C v) (z_pM R v) := by
  obtain ⟨h1, h2, h3⟩ := h
  unfold yq_pC z_pM m_X9_runs
  rw [h1, h2, nI_clamp (by omega)]
  by_cases q : 24 ≤ nI rn
  · have q2 : 24 ≤ rn := (nI_leI (a := 24) (by omega) (by omega)).mp q
    rw [if_pos q, if_pos q]
    refine ⟨by rw [z_up_s]; exact (nI_succ rn).symm, by rw [z_up_s]; exact (nI_succ rn).symm, fun j hj hj2 => ?_⟩
    rw [z_up_k _ _ (by omega), z_up_k _ _ (by omega)]
    exact h3 j hj (by omega)
  · rw [if_neg q, if_neg q]
    refine ⟨by rw [z_up_s]; exact (nI_succ rn).symm, by rw [z_up_s]; exact (nI_succ rn).symm, fun j hj hj2 => ?_⟩
    rw [z_up_k (k := 38) _ _ (by omega), z_up_k (k := 54) _ _ (by omega)]
    by_cases e : j = rn
    · subst e; rw [z_up_s, z_up_s]
    · rw [z_up_j _ _ e, z_up_j _ _ e]; exact h3 j hj (by omega)
theorem yj_trL : ∀ (l : List Int32) (rn : Nat) (C R : Nat → Nat → Int32), yj_Tr rn C R → rn + l.length ≤ 998 → yj_Tr (rn + l.length) (yq_QL C l) (z_PL R l)
  | [], rn, C, R, h, _ => h
  | v :: l, rn, C, R, h, hl => by
    rw [List.length_cons] at hl ⊢
    have k := yj_trL l (rn + 1) (yq_pC C v) (z_pM R v) (yj_trS h (by omega) v) (by omega)
    rw [show rn + (l.length + 1) = rn + 1 + l.length by omega]
    exact k
theorem yj_qlF (a j : Nat) (h1 : a ≠ 40) (h2 : a ≠ 38 ∨ j ≠ 3) : ∀ (l : List Int32) (C : Nat → Nat → Int32), yq_QL C l a j = C a j
  | [], _ => rfl
  | v :: l, C => (yj_qlF a j h1 h2 l (yq_pC C v)).trans (yq_pF C v a j h1 h2)
theorem yj_plF (a j : Nat) (h1 : a ≠ 74) (h2 : a ≠ 54 ∨ j ≠ 35) : ∀ (l : List Int32) (R : Nat → Nat → Int32), z_PL R l a j = R a j
  | [], _ => rfl
  | v :: l, R => by
    refine (yj_plF a j h1 h2 l (z_pM R v)).trans ?_
    unfold z_pM m_X9_runs
    have u : ∀ (M : Nat → Nat → Int32) (w : Int32), z_up M 54 35 w a j = M a j := by
      intro M w
      unfold z_up
      by_cases p : a = 54
      · rw [if_pos p, if_neg (by omega)]
      · rw [if_neg p]
    by_cases q : 24 ≤ nI (R 54 35).toNatClampNeg
    · rw [if_pos q, u]
    · rw [if_neg q, u, z_up_k _ _ h1]
theorem yj_SdM {bo bo' d : Nat} {C R : Nat → Nat → Int32} {CL RL : Nat → Nat → Int64} (h : yj_Sd bo d C R CL RL) (hb : bo ≤ bo') : yj_Sd bo' d C R CL RL := by
  obtain ⟨m, h1, h2, h3, h4⟩ := h
  refine ⟨m, h1, h2, h3, ?_⟩
  rcases h4 with h4 | ⟨g1, g2, w, g3, g4⟩ | h4
  · exact Or.inl h4
  · exact Or.inr (Or.inl ⟨g1, g2, w, by omega, g4⟩)
  · exact Or.inr (Or.inr h4)
theorem yj_BoJ {b : Bool} {np nq dn km tm sz bo rn bo' rn' : Nat} {C R C' R' : Nat → Nat → Int32} {CL RL : Nat → Nat → Int64} (h : yj_J b np nq dn km tm sz bo rn C R CL RL) (g : yj_Bo bo' rn' C' R') (hb : bo ≤ bo') (c : ∀ a j, a < 38 ∨ 40 < a → C' a j = C a j) (r : ∀ a j, yj_kR a j → a ≠ 73 → a ≠ 74 → (a ≠ 54 ∨ (j ≠ 32 ∧ j ≠ 35)) → R' a j = R a j) : yj_J b np nq dn km tm sz bo' rn' C' R' CL RL := by
  obtain ⟨g1, g2, g3, g4, g5, g6, g7, g8⟩ := h
  exact ⟨yj_Yf g1 (fun a j x y => c a j (by omega)) (r 54 6 (by unfold yj_kR; omega) (by omega) (by omega) (by omega)) (fun a j x => r a j (by unfold yj_kR; omega) (by omega) (by omega) (by omega)), yj_Imf g2 (fun a j x => c a j (by omega)) (fun a j x => r a j (by unfold yj_kR; omega) (by omega) (by omega) (by omega)), yj_Chf g3 (fun a j x y => c a j (by omega)) (fun a j x => r a j (by unfold yj_kR; omega) (by omega) (by omega) (by omega)), yj_Tpf g4 (c 13 1 (by omega)) (fun j => c 14 j (by omega)) (r 54 8 (by unfold yj_kR; omega) (by omega) (by omega) (by omega)) (fun j => r 59 j (by unfold yj_kR; omega) (by omega) (by omega) (by omega)), yj_Lf g5 (c 13 4 (by omega)) (funext fun j => c _ j (Or.inl (by cases b <;> decide))) (r 54 10 (by unfold yj_kR; omega) (by omega) (by omega) (by omega)) (funext fun j => r 60 j (by unfold yj_kR; omega) (by omega) (by omega) (by omega)), g, fun d hd => yj_SdM (yj_Sdf (g7 d hd) (fun j => c _ j (by omega)) ⟨r 75 d (by unfold yj_kR; omega) (by omega) (by omega) (by omega), r 76 d (by unfold yj_kR; omega) (by omega) (by omega) (by omega)⟩ (fun _ => rfl) (fun _ _ => rfl)) hb, by rw [r 68 0 (by unfold yj_kR; omega) (by omega) (by omega) (by omega)]; exact g8⟩
theorem yj_np50 {np : Nat} (hn : np ≤ 60) : (nI np - 1).toInt = (np : Int) - 1 := by
  have := pk_sub_toInt (a := np) (b := 1) (by omega) (by omega)
  exact this
theorem yj_lt1 {m : Nat} (hm : m ≤ 60) (x : Int32) : nI m - 1 < x ↔ nI m ≤ x := by
  rw [Int32.lt_iff_toInt_lt, Int32.le_iff_toInt_le, yj_np50 hm, nI_toInt (by omega)]
  omega
theorem yj_hasB {bo : Nat} {C : Nat → Nat → Int32} (hn : bo ≤ 50) (hc : C 38 1 = nI bo) (x : Int32) : f_X5_has C x = f_X9_isBody bo x := by
  unfold f_X5_has f_X9_isBody
  rw [yj_w x 0 _ 0 (nI bo - 1) yj_l0 rfl, hc]
  simp only [yj_lt1 (m := bo) (by omega)]
theorem yj_kind (x : Int32) : f_X5_isKind x = f_X9_within x.toInt64 0 7 := by
  rw [yj_w07]
  unfold f_X5_isKind
  have e : 8 ≤ x ↔ 7 < x := by
    rw [Int32.lt_iff_toInt_lt, Int32.le_iff_toInt_le, show (8 : Int32).toInt = 8 from rfl, show (7 : Int32).toInt = 7 from rfl]
    omega
  simp only [e]
theorem yj_wr7 {x : Int32} (h : ¬ f_X9_within x.toInt64 0 7 = 0) : yj_r 7 x := by
  rw [yj_w07] at h
  by_cases h0 : x < 0
  · rw [if_pos h0] at h; exact absurd rfl h
  · rw [if_neg h0] at h
    by_cases h1 : 7 < x
    · rw [if_pos h1] at h; exact absurd rfl h
    · exact yj_rc (by omega) rfl h0 h1
theorem yj_s_body {b : Bool} {np nq dn km tm sz bo rn : Nat} {C R : Nat → Nat → Int32} {CL RL : Nat → Nat → Int64} (h : yj_J b np nq dn km tm sz bo rn C R CL RL) (x : Int32) : f_X8_body C bo x = f_X9_body R bo x ∧ yj_B b (m_X8_body C bo x) (m_X9_body R bo x) CL RL := by
  have hB := h.2.2.2.2.2.1
  have hb := hB.1.2.2
  unfold f_X8_body f_X9_body m_X8_body m_X9_body
  rw [yj_kind]
  by_cases k : f_X9_within x.toInt64 0 7 = 0
  · rw [if_pos k, if_pos k, if_pos k, if_pos k]; exact ⟨rfl, yj_mk h⟩
  · rw [if_neg k, if_neg k, if_neg k, if_neg k]
    unfold f_X5_add m_X5_add
    by_cases q : bo = 50
    · have e : nI bo = 50 := by rw [q]; rfl
      have e2 : ¬ nI bo < 50 := by rw [e]; decide
      rw [if_neg e2, if_neg e2, if_pos e, if_pos e]; exact ⟨rfl, yj_mk h⟩
    · have e : ¬ nI bo = 50 := fun p => q ((nI_eq (b := 50) (by omega) (by omega)).mp p)
      have e2 : nI bo < 50 := nI_lt (b := 50) (by omega) (by omega)
      rw [if_pos e2, if_pos e2, if_neg e, if_neg e]
      refine ⟨?_, yj_mk (yj_BoJ h (bo' := bo + 1) (rn' := rn) ⟨⟨?_, ?_, by omega⟩, fun j hj => ?_, fun j hj => ?_, ⟨?_, ?_, hB.2.2.2.1.2.2⟩, fun j hj hj2 => ?_⟩ (by omega) (fun a j x => ?_) (fun a j x1 x2 x3 x4 => ?_))⟩
      · rw [← nI_succ, nI_pred]
      · rw [z_up_s]; exact (nI_succ bo).symm
      · rw [z_up_s]; exact (nI_succ bo).symm
      · rw [z_up_k _ _ (by omega), z_up_k (k := 54) _ _ (by omega)]
        by_cases p : j = bo
        · rw [p, z_up_s, z_up_s]
        · rw [z_up_j _ _ p, z_up_j _ _ p]; exact hB.2.1 j (by omega)
      · rw [z_up_k _ _ (by omega)]
        by_cases p : j = bo
        · rw [p, z_up_s]; exact yj_wr7 k
        · rw [z_up_j _ _ p]; exact hB.2.2.1 j hj
      · rw [z_up_j _ _ (by omega), z_up_k _ _ (by omega)]; exact hB.2.2.2.1.1
      · rw [z_up_j _ _ (by omega), z_up_k _ _ (by omega)]; exact hB.2.2.2.1.2.1
      · rw [z_up_k _ _ (by omega), z_up_k _ _ (by omega), z_up_k _ _ (by omega), z_up_k _ _ (by omega)]; exact hB.2.2.2.2 j hj hj2
      · rw [z_up_k _ _ (by omega), z_up_k _ _ (by omega)]
      · have : z_up (z_up R 73 bo x) 54 32 (nI bo + 1) a j = z_up R 73 bo x a j := by
          unfold z_up
          by_cases p : a = 54
          · rw [if_pos p, if_neg (by omega)]
          · rw [if_neg p]
        rw [this, z_up_k _ _ x2]
theorem yj_s_trace {b : Bool} {np nq dn km tm sz bo rn : Nat} {C R : Nat → Nat → Int32} {CL RL : Nat → Nat → Int64} (h : yj_J b np nq dn km tm sz bo rn C R CL RL) (i : Int32) : f_X8_trace C i = f_X9_trace R i := by
  have hB := h.2.2.2.2.2.1
  have hr := hB.2.2.2.1.2.2
  unfold f_X8_trace f_X5_tracedAt f_X9_trace
  rw [hB.2.2.2.1.1, hB.2.2.2.1.2.1]
  by_cases a : i < 0
  · rw [if_pos a, if_pos a]
  · rw [if_neg a, if_neg a]
    by_cases c : nI rn ≤ i
    · rw [if_pos c, if_pos c]
    · rw [if_neg c, if_neg c]
      by_cases d : 24 ≤ i
      · rw [if_pos d, if_pos d]
      · rw [if_neg d, if_neg d]
        obtain ⟨n, hn, rfl⟩ := nI_of a
        rw [nI_clamp hn]
        exact hB.2.2.2.2 n (Nat.lt_of_not_le (fun q : 24 ≤ n => d (nI_le q hn))) (Nat.lt_of_not_le (fun q : rn ≤ n => c (nI_le q hn)))
theorem yj_s_act {b : Bool} {np nq dn km tm sz bo rn : Nat} {C R : Nat → Nat → Int32} {CL RL : Nat → Nat → Int64} (h : yj_J b np nq dn km tm sz bo rn C R CL RL) (w act x : Int32) : f_X8_act C w act x = f_X9_act R bo w act x ∧ yj_B b (m_X8_act C w act x) (m_X9_act R bo w act x) CL RL := by
  have hB := h.2.2.2.2.2.1
  have hb := hB.1.2.2
  -- the world behind an act whose bodies l ran
  have fin : ∀ (l : List Int32) (C1 R1 : Nat → Nat → Int32), l.length ≤ 998 → (∀ a j, (a ≠ 38 ∨ (j ≠ 3 ∧ j ≠ 4)) → C1 a j = C a j) → C1 38 3 = 0 → (∀ a j, (a ≠ 54 ∨ (j ≠ 35 ∧ j ≠ 36 ∧ j ≠ 37)) → R1 a j = R a j) → R1 54 35 = 0 → yj_B b (yq_QL C1 l) (z_PL R1 l) CL RL := by
    intro l C1 R1 hl hc hc3 hr hr35
    have T := yj_trL l 0 C1 R1 ⟨hc3, hr35, fun j _ q => absurd q (Nat.not_lt_zero _)⟩ (by omega)
    rw [Nat.zero_add] at T
    refine yj_mk (yj_BoJ h (bo' := bo) (rn' := l.length) ⟨⟨?_, ?_, hb⟩, fun j hj => ?_, fun j hj => ?_, ⟨T.1, T.2.1, hl⟩, T.2.2⟩ (Nat.le_refl _) (fun a j q => ?_) (fun a j q1 q2 q3 q4 => ?_))
    · rw [yj_qlF 38 1 (by omega) (by omega), hc 38 1 (by omega)]; exact hB.1.1
    · rw [yj_plF 54 32 (by omega) (by omega), hr 54 32 (by omega)]; exact hB.1.2.1
    · rw [yj_qlF 39 j (by omega) (by omega), hc 39 j (by omega), yj_plF 73 j (by omega) (by omega), hr 73 j (by omega)]; exact hB.2.1 j hj
    · rw [yj_plF 73 j (by omega) (by omega), hr 73 j (by omega)]; exact hB.2.2.1 j hj
    · rw [yj_qlF a j (by omega) (by omega), hc a j (by omega)]
    · rw [yj_plF a j q3 (by omega), hr a j (by unfold yj_kR at q1; omega)]
  have uC : ∀ (M : Nat → Nat → Int32) (v : Int32) (i a j : Nat), i = 3 ∨ i = 4 → (a ≠ 38 ∨ (j ≠ 3 ∧ j ≠ 4)) → z_up M 38 i v a j = M a j := by
    intro M v i a j hi q
    unfold z_up
    by_cases p : a = 38
    · rw [if_pos p, if_neg (by omega)]
    · rw [if_neg p]
  have uR : ∀ (M : Nat → Nat → Int32) (v : Int32) (i a j : Nat), i = 35 ∨ i = 36 ∨ i = 37 → (a ≠ 54 ∨ (j ≠ 35 ∧ j ≠ 36 ∧ j ≠ 37)) → z_up M 54 i v a j = M a j := by
    intro M v i a j hi q
    unfold z_up
    by_cases p : a = 54
    · rw [if_pos p, if_neg (by omega)]
    · rw [if_neg p]
  unfold f_X8_act m_X8_act f_X5_perform m_X5_perform f_X9_act m_X9_act
  rw [yj_hasB (C := z_up C 38 3 0) hb (by rw [z_up_j _ _ (by decide)]; exact hB.1.1)]
  by_cases o : f_X9_isBody bo w = 0
  · rw [if_pos o, if_pos o, if_pos o, if_pos o]
    exact ⟨rfl, fin [] (z_up C 38 3 0) (z_up R 54 35 0) (by decide) (fun a j q => uC _ _ _ _ _ (by omega) q) (z_up_s _ _ _ _) (fun a j q => uR _ _ _ _ _ (by omega) q) (z_up_s _ _ _ _)⟩
  · rw [if_neg o, if_neg o, if_neg o, if_neg o]
    obtain ⟨e1, e2⟩ := z_bdy hb o
    have e3 : w.toNatClampNeg < 50 := by omega
    obtain ⟨kd, hk, ek⟩ := hB.2.2.1 w.toNatClampNeg e3
    have eC : C 39 w.toNatClampNeg = nI kd := (hB.2.1 _ e2).trans ek
    rw [eC, ek, nI_clamp (by omega), ← e1]
    have go : ∀ l : List Int32, l.length ≤ 998 → yj_B b (yq_QL (z_up (z_up C 38 3 0) 38 4 w) l) (z_PL (z_up (z_up (z_up R 54 35 0) 54 36 (nI kd)) 54 37 w) l) CL RL := fun l hl => fin l (z_up (z_up C 38 3 0) 38 4 w) (z_up (z_up (z_up R 54 35 0) 54 36 (nI kd)) 54 37 w) hl (fun a j q => by rw [uC _ _ _ _ _ (by omega) q, uC _ _ _ _ _ (by omega) q]) (by rw [z_up_j _ _ (by decide), z_up_s]) (fun a j q => by rw [uR _ _ _ _ _ (by omega) q, uR _ _ _ _ _ (by omega) q, uR _ _ _ _ _ (by omega) q]) (by rw [z_up_j _ _ (by decide), z_up_j _ _ (by decide), z_up_s])
    have L0 := z_L0 (nI kd)
    have L1 := z_L1 (nI kd) (nI kd)
    have L2 := z_L2 (nI kd) (nI kd)
    have L3 : (z_T3 (nI kd) (nI kd)).length ≤ 14 := by
      unfold z_T3
      (repeat' split) <;> simp only [List.length_cons, List.length_append] <;> omega
    have none : act < 0 ∨ ¬ act < 4 → (0 : Int32) = 0 ∧ yj_B b (z_up C 38 3 0) (z_up (z_up (z_up R 54 35 0) 54 36 (nI kd)) 54 37 w) CL RL := fun _ => ⟨rfl, fin [] (z_up C 38 3 0) (z_up (z_up (z_up R 54 35 0) 54 36 (nI kd)) 54 37 w) (by decide) (fun a j q => uC _ _ _ _ _ (by omega) q) (z_up_s _ _ _ _) (fun a j q => by rw [uR _ _ _ _ _ (by omega) q, uR _ _ _ _ _ (by omega) q, uR _ _ _ _ _ (by omega) q]) (by rw [z_up_j _ _ (by decide), z_up_j _ _ (by decide), z_up_s])⟩
    by_cases a : act < 0
    · have n0 : ¬ act = 0 := fun q => by rw [q] at a; exact absurd a (by decide)
      have n1 : ¬ act = 1 := fun q => by rw [q] at a; exact absurd a (by decide)
      have n2 : ¬ act = 2 := fun q => by rw [q] at a; exact absurd a (by decide)
      have n3 : ¬ act = 3 := fun q => by rw [q] at a; exact absurd a (by decide)
      simp only [a, n0, n1, n2, n3, reduceIte]
      exact ⟨trivial, (none (Or.inl a)).2⟩
    · by_cases c : act < 4
      · obtain ⟨n, hn, rfl⟩ := nI_of a
        have n4 : n < 4 := (nI_ltI (a := n) (b := 4) hn (by omega)).mp c
        have : n = 0 ∨ n = 1 ∨ n = 2 ∨ n = 3 := by omega
        rcases this with rfl | rfl | rfl | rfl
        · rw [if_neg a, if_neg a, if_pos c, if_pos c, if_pos (show nI 0 = 0 from rfl), if_pos (show nI 0 = 0 from rfl)]
          exact ⟨rfl, go (z_T0 (nI kd)) (by omega)⟩
        · rw [if_neg a, if_neg a, if_pos c, if_pos c, if_neg (show ¬ nI 1 = 0 by decide), if_neg (show ¬ nI 1 = 0 by decide), if_pos (show nI 1 = 1 from rfl), if_pos (show nI 1 = 1 from rfl)]
          exact ⟨rfl, go (z_T1 (nI kd) (nI kd)) (by omega)⟩
        · rw [if_neg a, if_neg a, if_pos c, if_pos c, if_neg (show ¬ nI 2 = 0 by decide), if_neg (show ¬ nI 2 = 0 by decide), if_neg (show ¬ nI 2 = 1 by decide), if_neg (show ¬ nI 2 = 1 by decide), if_pos (show nI 2 = 2 from rfl), if_pos (show nI 2 = 2 from rfl)]
          exact ⟨rfl, go (z_T2 (nI kd) (nI kd)) (by omega)⟩
        · rw [if_neg a, if_neg a, if_pos c, if_pos c, if_neg (show ¬ nI 3 = 0 by decide), if_neg (show ¬ nI 3 = 0 by decide), if_neg (show ¬ nI 3 = 1 by decide), if_neg (show ¬ nI 3 = 1 by decide), if_neg (show ¬ nI 3 = 2 by decide), if_neg (show ¬ nI 3 = 2 by decide), if_pos (show nI 3 = 3 from rfl), if_pos (show nI 3 = 3 from rfl)]
          exact ⟨rfl, go (z_T3 (nI kd) (nI kd)) (by omega)⟩
      · have n0 : ¬ act = 0 := fun q => by rw [q] at c; exact absurd (by decide) c
        have n1 : ¬ act = 1 := fun q => by rw [q] at c; exact absurd (by decide) c
        have n2 : ¬ act = 2 := fun q => by rw [q] at c; exact absurd (by decide) c
        have n3 : ¬ act = 3 := fun q => by rw [q] at c; exact absurd (by decide) c
        simp only [a, c, n0, n1, n2, n3, reduceIte]
        exact ⟨trivial, (none (Or.inr c)).2⟩
