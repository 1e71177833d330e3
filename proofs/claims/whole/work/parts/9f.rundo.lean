/-! THE CLASS AGAINST THE REFERENCE: mend, of, undo, redo -/
set_option maxHeartbeats 4000000 in
theorem yj_fo (I : Nat → Nat → Int32) : (∀ j, m_X0_forgetOldest I 34 j = if j < 39 then I 34 (1 + j) else I 34 j) ∧ (∀ j, m_X0_forgetOldest I 35 j = if j < 39 then I 35 (1 + j) else I 35 j) ∧ (∀ j, m_X0_forgetOldest I 36 j = if j < 39 then I 36 (1 + j) else I 36 j) ∧ (∀ j, m_X0_forgetOldest I 37 j = if j < 39 then I 37 (1 + j) else I 37 j) := by
  unfold m_X0_forgetOldest
  refine ⟨fun j => ?_, fun j => ?_, fun j => ?_, fun j => ?_⟩ <;> simp [z_up, z_ro, va_cpy]
theorem yj_foF (I : Nat → Nat → Int32) (a j : Nat) (h : a < 33 ∨ 37 < a) : m_X0_forgetOldest I a j = I a j := by
  unfold m_X0_forgetOldest
  rw [z_up_k _ _ (by omega), z_ro_k _ _ _ (by omega), z_ro_k _ _ _ (by omega), z_ro_k _ _ _ (by omega), z_ro_k _ _ _ (by omega)]
theorem yj_shG (R : Nat → Nat → Int32) : ∀ i : Nat, (∀ a j, a < 56 ∨ 58 < a → g_X9_becomes_26 R i a j = R a j) ∧ ∀ a j, 56 ≤ a → a ≤ 58 → g_X9_becomes_26 R i a j = if j < i then R a (1 + j) else R a j
  | 0 => ⟨fun _ _ _ => rfl, fun a j _ _ => by rw [if_neg (Nat.not_lt_zero _)]; rfl⟩
  | i + 1 => by
    obtain ⟨h1, h2⟩ := yj_shG R i
    show (∀ a j, a < 56 ∨ 58 < a → gb_X9_becomes_26 R i (g_X9_becomes_26 R i) a j = R a j) ∧ ∀ a j, 56 ≤ a → a ≤ 58 → gb_X9_becomes_26 R i (g_X9_becomes_26 R i) a j = if j < i + 1 then R a (1 + j) else R a j
    unfold gb_X9_becomes_26
    rw [show i + 1 - 1 = i by omega]
    refine ⟨fun a j ha => ?_, fun a j ha hb => ?_⟩
    · rw [z_up_k _ _ (by omega), z_up_k _ _ (by omega), z_up_k _ _ (by omega)]; exact h1 a j ha
    · by_cases q : j = i
      · subst q
        have v : ∀ a, 56 ≤ a → a ≤ 58 → g_X9_becomes_26 R j a (j + 1) = R a (1 + j) := fun a ha hb => by
          rw [h2 a (j + 1) ha hb, if_neg (by omega), Nat.add_comm]
        rw [if_pos (by omega), v 56 (by omega) (by omega), v 57 (by omega) (by omega), v 58 (by omega) (by omega)]
        have : a = 56 ∨ a = 57 ∨ a = 58 := by omega
        rcases this with rfl | rfl | rfl
        · rw [z_up_k _ _ (by decide), z_up_k _ _ (by decide), z_up_s]
        · rw [z_up_k _ _ (by decide), z_up_s]
        · rw [z_up_s]
      · have u : ∀ (M : Nat → Nat → Int32) (c : Nat) (w : Int32), z_up M c i w a j = M a j := by
          intro M c w
          unfold z_up
          by_cases p : a = c
          · rw [if_pos p, if_neg q]
          · rw [if_neg p]
        rw [u, u, u, h2 a j ha hb]
        by_cases p : j < i
        · rw [if_pos p, if_pos (by omega)]
        · rw [if_neg p, if_neg (by omega)]
/-- one more change, behind D that stand -/
theorem yj_chAdd {np D k : Nat} {C R : Nat → Nat → Int32} {n w q was v : Int32} (hD : D < 40) (hn : np ≤ 10) (h56 : ∀ j, j < 40 → ∃ q, q < 42 ∧ R 56 j = nI q) (hk : ∀ k, k < D → ∃ w, yj_pl np (C 34 k) (C 35 k) (R 56 k) w ∧ C 36 k = R 57 k ∧ C 37 k = R 58 k ∧ yj_ok w (R 57 k) ∧ yj_ok w (R 58 k)) (p : yj_pl np n w q k) (o1 : yj_ok k was) (o2 : yj_ok k v) : yj_Ch np (D + 1) (D + 1) (z_up (z_up (z_up (z_up (z_up (z_up C 34 D n) 35 D w) 36 D was) 37 D v) 33 4 (nI (D + 1))) 33 5 0) (z_up (z_up (z_up (z_up (z_up R 56 D q) 57 D was) 58 D v) 54 5 (nI (D + 1))) 54 4 (nI (D + 1))) := by
  refine ⟨⟨?_, ?_, ?_, ?_, Nat.le_refl _, hD⟩, fun j hj => ?_, fun i hi => ?_⟩
  · rw [z_up_j _ _ (by decide), z_up_s]
  · rw [z_up_j _ _ (by decide), z_up_s]
  · rw [z_up_s]
  · rw [z_up_s, Nat.sub_self]; rfl
  · rw [z_up_k _ _ (by decide), z_up_k _ _ (by decide), z_up_k _ _ (by decide), z_up_k _ _ (by decide)]
    by_cases e : j = D
    · subst e
      rw [z_up_s]
      obtain ⟨a1, a2, -⟩ := yj_plR hn p
      exact ⟨_, a2, a1⟩
    · rw [z_up_j _ _ e]; exact h56 j hj
  · rw [z_up_k (k := 33) _ _ (by decide), z_up_k (k := 33) _ _ (by decide), z_up_k (k := 33) _ _ (by decide), z_up_k (k := 33) _ _ (by decide), z_up_k (k := 33) _ _ (by decide), z_up_k (k := 33) _ _ (by decide), z_up_k (k := 33) _ _ (by decide), z_up_k (k := 33) _ _ (by decide), z_up_k (k := 54) _ _ (by decide), z_up_k (k := 54) _ _ (by decide), z_up_k (k := 54) _ _ (by decide), z_up_k (k := 54) _ _ (by decide), z_up_k (k := 54) _ _ (by decide), z_up_k (k := 54) _ _ (by decide)]
    rw [z_up_k (k := 37) (a := 34) _ _ (by decide), z_up_k (k := 36) (a := 34) _ _ (by decide), z_up_k (k := 35) (a := 34) _ _ (by decide)]
    rw [z_up_k (k := 37) (a := 35) _ _ (by decide), z_up_k (k := 36) (a := 35) _ _ (by decide)]
    rw [z_up_k (k := 37) (a := 36) _ _ (by decide)]
    rw [z_up_k (k := 58) (a := 56) _ _ (by decide), z_up_k (k := 57) (a := 56) _ _ (by decide), z_up_k (k := 58) (a := 57) _ _ (by decide)]
    by_cases e : i = D
    · subst e
      rw [z_up_s, z_up_s, z_up_s, z_up_s, z_up_s, z_up_s, z_up_s]
      exact ⟨k, p, rfl, rfl, o1, o2⟩
    · have u : ∀ (M : Nat → Nat → Int32) (a c : Nat) (w : Int32), z_up M c D w a i = M a i := by
        intro M a c w
        unfold z_up
        by_cases p : a = c
        · rw [if_pos p, if_neg e]
        · rw [if_neg p]
      simp only [u]
      exact hk i (by omega)
theorem yj_ok5 {k : Nat} {v : Int32} (h : 5 ≤ k) : yj_ok k v := ⟨fun q => absurd q (by omega), fun q => absurd q (by omega), fun q => absurd q (by omega), fun q => absurd q (by omega), fun q => absurd q (by omega)⟩
/-- what may become of a number: both say the same -/
theorem yj_may {np k : Nat} {n w q : Int32} (p : yj_pl np n w q k) (v : Int32) : (f_X8_isWithin w v = 0 ∧ f_X9_mayBecome w v = 0) ∨ (f_X8_isWithin w v = 1 ∧ f_X9_mayBecome w v = 1 ∧ yj_ok k v) := by
  have fin : ∀ (a c : Int32) (k : Nat), f_X8_isWithin w v = f_X9_mayBecome w v → (f_X9_mayBecome w v = 0 ∨ f_X9_mayBecome w v = 1) → (f_X9_mayBecome w v = 1 → yj_ok k v) → (f_X8_isWithin w v = 0 ∧ f_X9_mayBecome w v = 0) ∨ (f_X8_isWithin w v = 1 ∧ f_X9_mayBecome w v = 1 ∧ yj_ok k v) := by
    intro a c k e h01 ho
    rcases h01 with q | q
    · exact Or.inl ⟨e.trans q, q⟩
    · exact Or.inr ⟨e.trans q, q, ho q⟩
  have ne : ∀ {x : Int32}, x = 1 → ¬ x = 0 := fun h q => absurd (h.symm.trans q) (by decide)
  have w04 : f_X8_isWithin 4 v = f_X9_within v.toInt64 0 99 := by rw [yj_w099]; rfl
  have w03 : f_X8_isWithin 3 v = f_X9_within v.toInt64 0 3 := by rw [yj_w03]; rfl
  rcases p with ⟨m, h1, h2, rfl, rfl, rfl⟩ | ⟨rfl, rfl, rfl, rfl⟩ | ⟨rfl, rfl, rfl, rfl⟩
  · rcases yj_k4 h2 with rfl | rfl | rfl | rfl
    · refine fin 0 0 0 (yj_within0 v) (fb_X9_mayBecome _ _) (fun q => ⟨fun _ => yj_wr9 (ne q), fun e => absurd e (by decide), fun e => absurd e (by decide), fun e => absurd e (by decide), fun e => absurd e (by decide)⟩)
    · refine fin 0 0 1 (yj_within1 v) (fb_X9_mayBecome _ _) (fun q => ⟨fun e => absurd e (by decide), fun _ => yj_wr99 (ne q), fun e => absurd e (by decide), fun e => absurd e (by decide), fun e => absurd e (by decide)⟩)
    · refine fin 0 0 2 (yj_within2 v) (fb_X9_mayBecome _ _) (fun q => ⟨fun e => absurd e (by decide), fun e => absurd e (by decide), fun _ => yj_wr255 (ne q), fun e => absurd e (by decide), fun e => absurd e (by decide)⟩)
    · refine fin 0 0 3 w03 (fb_X9_mayBecome _ _) (fun q => ⟨fun e => absurd e (by decide), fun e => absurd e (by decide), fun e => absurd e (by decide), fun _ => yj_wr3 (ne q), fun e => absurd e (by decide)⟩)
  · refine fin 0 0 4 w04 (fb_X9_mayBecome _ _) (fun q => ⟨fun e => absurd e (by decide), fun e => absurd e (by decide), fun e => absurd e (by decide), fun e => absurd e (by decide), fun _ => yj_wr99 (ne q)⟩)
  · exact Or.inr ⟨rfl, rfl, yj_ok5 (by omega)⟩
/-- a cell 1 .. 5 alone becomes other -/
theorem yj_bcF (C : Nat → Nat → Int32) (n w v : Int32) (a j : Nat) (h : a = 0 ∨ 5 < a) : m_X7_become C 1 n w v a j = C a j := by
  unfold m_X7_become
  (repeat' split) <;> first | rfl | (rw [z_up_k _ _ (by omega)])
theorem yj_bcL (C : Nat → Nat → Int32) (n w v : Int32) : m_X7_become C 1 n w v 1 0 = C 1 0 := by
  unfold m_X7_become
  (repeat' split) <;> first | rfl | (rw [z_up_k _ _ (by omega)]) | (rw [z_up_j _ _ (by omega)])
theorem yj_s_of {b : Bool} {np nq dn km tm sz bo rn : Nat} {C R : Nat → Nat → Int32} {CL RL : Nat → Nat → Int64} (h : yj_J b np nq dn km tm sz bo rn C R CL RL) (n w : Int32) : f_X8_of C n w = f_X9_of R np n w := by
  have hn := yj_Y2 h.1
  unfold f_X8_of f_X9_of
  rcases yj_place hn h.1.1.1 n w with ⟨h1, h2⟩ | ⟨h1, k, h2⟩
  · rw [if_pos h1, if_pos h2]
  · rw [if_neg (by rw [h1]; decide), if_neg (yj_plR hn h2).2.2]
    exact yj_numOf h.1 h2
/-- all of it, a number become v -/
theorem yj_becJ {b : Bool} {np nq dn km tm sz bo rn k : Nat} {C R : Nat → Nat → Int32} {CL RL : Nat → Nat → Int64} {n w q v : Int32} (h : yj_J b np nq dn km tm sz bo rn C R CL RL) (p : yj_pl np n w q k) (hv : yj_ok k v) : yj_J b np nq dn km tm sz bo rn (m_X7_become C 1 n w v) (z_up R 55 q.toNatClampNeg v) CL RL := by
  obtain ⟨g1, g2, g3, g4, g5, g6, g7, g8⟩ := h
  have c := fun a j x => yj_bcF C n w v a j x
  have r := fun (a j : Nat) (x : a ≠ 55) => z_up_k R (k := 55) (j := q.toNatClampNeg) (b := j) v x
  exact ⟨yj_becY g1 p hv, yj_Imf g2 (fun a j x => c a j (by omega)) (fun a j x => r a j (by omega)), yj_Chf g3 (fun a j x y => c a j (by omega)) (fun a j x => r a j (by omega)), yj_Tpf g4 (c 13 1 (by omega)) (fun j => c 14 j (by omega)) (r 54 8 (by omega)) (fun j => r 59 j (by omega)), yj_Lf g5 (c 13 4 (by omega)) (funext fun j => c _ j (by cases b <;> (show _ ∨ _; exact Or.inr (by decide)))) (r 54 10 (by omega)) (funext fun j => r 60 j (by omega)), yj_Bof g6 (fun a j x y => c a j (by omega)) (fun a j x => r a j (by omega)), yj_Shf g7 (fun a j x => c a j (by omega)) (fun a j x => r a j (by omega)) (fun _ _ _ _ => rfl) (fun _ => rfl), by rw [r 68 0 (by omega)]; exact g8⟩
/-- all of it, other changes -/
theorem yj_chJ {b : Bool} {np nq dn km dn' km' tm sz bo rn : Nat} {C R C' R' : Nat → Nat → Int32} {CL RL : Nat → Nat → Int64} (h : yj_J b np nq dn km tm sz bo rn C R CL RL) (g : yj_Ch np dn' km' C' R') (c : ∀ a j, a < 33 ∨ 37 < a → C' a j = C a j) (r : ∀ a j, (a < 56 ∨ 58 < a) → (a ≠ 54 ∨ (j ≠ 4 ∧ j ≠ 5)) → R' a j = R a j) : yj_J b np nq dn' km' tm sz bo rn C' R' CL RL := by
  obtain ⟨g1, g2, g3, g4, g5, g6, g7, g8⟩ := h
  exact ⟨yj_Yf g1 (fun a j x y => c a j (by omega)) (r 54 6 (by omega) (by omega)) (fun a j x => r a j (by omega) (by omega)), yj_Imf g2 (fun a j x => c a j (by omega)) (fun a j x => r a j (by omega) (by omega)), g, yj_Tpf g4 (c 13 1 (by omega)) (fun j => c 14 j (by omega)) (r 54 8 (by omega) (by omega)) (fun j => r 59 j (by omega) (by omega)), yj_Lf g5 (c 13 4 (by omega)) (funext fun j => c _ j (by cases b <;> (show _ ∨ _; exact Or.inl (by decide)))) (r 54 10 (by omega) (by omega)) (funext fun j => r 60 j (by omega) (by omega)), yj_Bof g6 (fun a j x y => c a j (by omega)) (fun a j x => r a j (by omega) (by omega)), yj_Shf g7 (fun a j x => c a j (by omega)) (fun a j x => r a j (by omega) (by omega)) (fun _ _ _ _ => rfl) (fun _ => rfl), by rw [r 68 0 (by omega) (by omega)]; exact g8⟩
theorem yj_okR {np k : Nat} {C R : Nat → Nat → Int32} {n w q : Int32} (h : yj_Y np C R) (p : yj_pl np n w q k) : yj_ok k (R 55 q.toNatClampNeg) := by
  rcases p with ⟨m, h1, h2, rfl, rfl, rfl⟩ | ⟨rfl, rfl, rfl, rfl⟩ | ⟨rfl, rfl, rfl, rfl⟩
  · have hn := h.1.2.2
    have g := (h.2.1 m h1).2
    rw [nI_clamp (by omega)]
    refine ⟨fun e => ?_, fun e => ?_, fun e => ?_, fun e => ?_, fun e => absurd e (by omega)⟩
    · rw [e, show 10 * 0 + m = m by omega]; exact g.1
    · rw [e]; exact g.2.1
    · rw [e]; exact g.2.2.1
    · rw [e]; exact g.2.2.2
  · exact ⟨fun e => absurd e (by decide), fun e => absurd e (by decide), fun e => absurd e (by decide), fun e => absurd e (by decide), fun _ => h.2.2.2.1.2.1⟩
  · exact yj_ok5 (by omega)
/-- promise 4 -/
theorem yj_s_mend {b : Bool} {np nq dn km tm sz bo rn : Nat} {C R : Nat → Nat → Int32} {CL RL : Nat → Nat → Int64} (h : yj_J b np nq dn km tm sz bo rn C R CL RL) (n w v : Int32) : f_X8_mend C dn n w v = f_X9_mend R np dn n w v ∧ yj_B b (m_X8_mend C dn n w v) (m_X9_mend R np dn n w v) CL RL := by
  have hn := yj_Y2 h.1
  have h3 := h.2.2.1
  unfold f_X8_mend f_X9_mend m_X8_mend m_X9_mend
  rcases yj_place hn h.1.1.1 n w with ⟨h1, h2⟩ | ⟨h1, k, h2⟩
  · simp only [h1, h2, reduceIte]
    exact ⟨trivial, _, _, _, _, _, _, _, _, h⟩
  · have P := yj_plR hn h2
    rcases yj_may h2 v with ⟨m1, m2⟩ | ⟨m1, m2, ok⟩
    · simp only [h1, P.2.2, m1, m2, yj_d10, reduceIte]
      exact ⟨trivial, _, _, _, _, _, _, _, _, h⟩
    · simp only [h1, P.2.2, m1, m2, yj_d10, reduceIte]
      have e := yj_numOf h.1 h2
      have okw := yj_okR h.1 h2
      rw [e]
      unfold f_X9_becomes m_X9_becomes
      simp only [ite_self]
      refine ⟨trivial, ?_⟩
      by_cases same : R 55 (f_X9_placeOf np n w).toNatClampNeg = v
      · rw [if_pos same, if_pos same]
        exact ⟨_, _, _, _, _, _, _, _, h⟩
      · rw [if_neg same, if_neg same]
        unfold m_X0_remember
        by_cases full : dn = 40
        · have e40 : nI dn = 40 := by rw [full]; rfl
          have km40 : km = 40 := by have := h3.1.2.2.2.2; omega
          rw [if_neg (show ¬ nI dn < 40 by rw [e40]; decide), if_pos e40]
          have fo := yj_fo C
          obtain ⟨sh1, sh2⟩ := yj_shG R 39
          have A := yj_chAdd (np := np) (D := 39) (C := m_X0_forgetOldest C) (R := z_up (g_X9_becomes_26 R 39) 54 5 (nI 39)) (was := R 55 (f_X9_placeOf np n w).toNatClampNeg) (v := v) (by omega) hn (fun j hj => by
            rw [z_up_k _ _ (by decide), sh2 56 j (by omega) (by omega)]
            by_cases q : j < 39
            · rw [if_pos q]; exact h3.2.1 _ (by omega)
            · rw [if_neg q]; exact h3.2.1 _ hj) (fun i hi => by
            rw [z_up_k _ _ (by decide), z_up_k _ _ (by decide), z_up_k _ _ (by decide), sh2 56 i (by omega) (by omega), sh2 57 i (by omega) (by omega), sh2 58 i (by omega) (by omega), fo.1, fo.2.1, fo.2.2.1, fo.2.2.2, if_pos hi, if_pos hi, if_pos hi, if_pos hi, if_pos hi, if_pos hi, if_pos hi]
            exact h3.2.2 (1 + i) (by omega)) h2 okw ok
          rw [show (39 : Int32) + 1 = nI (39 + 1) from rfl, show nI 39 + 1 = nI (39 + 1) from rfl, ← P.1]
          refine ⟨_, _, _, _, _, _, _, _, yj_becJ (yj_chJ h A (fun a j x => ?_) (fun a j x y => ?_)) h2 ok⟩
          · rw [z_up_k _ _ (by omega), z_up_k _ _ (by omega), z_up_k _ _ (by omega), z_up_k _ _ (by omega), z_up_k _ _ (by omega), z_up_k _ _ (by omega)]
            exact yj_foF C a j x
          · have u : ∀ (M : Nat → Nat → Int32) (c : Nat) (w : Int32), c = 4 ∨ c = 5 → z_up M 54 c w a j = M a j := by
              intro M c w hc
              unfold z_up
              by_cases p : a = 54
              · rw [if_pos p, if_neg (by omega)]
              · rw [if_neg p]
            rw [u _ _ _ (by omega), u _ _ _ (by omega), z_up_k _ _ (by omega), z_up_k _ _ (by omega), z_up_k _ _ (by omega), u _ _ _ (by omega)]
            exact sh1 a j x
        · have d40 : dn < 40 := by have := h3.1.2.2.2.2; omega
          have e40 : ¬ nI dn = 40 := fun p => full ((nI_eq (b := 40) (by omega) (by omega)).mp p)
          have lt : nI dn < 40 := nI_lt (b := 40) d40 (by omega)
          rw [if_pos lt, if_neg e40]
          have A := yj_chAdd (np := np) (D := dn) (C := C) (R := R) (was := R 55 (f_X9_placeOf np n w).toNatClampNeg) (v := v) d40 hn h3.2.1 (fun i hi => h3.2.2 i (by have := h3.1.2.2.2.2; omega)) h2 okw ok
          rw [← nI_succ, ← P.1]
          refine ⟨_, _, _, _, _, _, _, _, yj_becJ (yj_chJ h A (fun a j x => ?_) (fun a j x y => ?_)) h2 ok⟩
          · rw [z_up_k _ _ (by omega), z_up_k _ _ (by omega), z_up_k _ _ (by omega), z_up_k _ _ (by omega), z_up_k _ _ (by omega), z_up_k _ _ (by omega)]
          · have u : ∀ (M : Nat → Nat → Int32) (c : Nat) (w : Int32), c = 4 ∨ c = 5 → z_up M 54 c w a j = M a j := by
              intro M c w hc
              unfold z_up
              by_cases p : a = 54
              · rw [if_pos p, if_neg (by omega)]
              · rw [if_neg p]
            rw [u _ _ _ (by omega), u _ _ _ (by omega), z_up_k _ _ (by omega), z_up_k _ _ (by omega), z_up_k _ _ (by omega)]
