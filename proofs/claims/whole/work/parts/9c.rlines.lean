/-! THE CLASS AGAINST THE REFERENCE: the lines of a text -/
/-- the entry that ends a line, and the ; behind it -/
theorem yj_nxW {ln p op dr : Nat} {tx : Nat → Int32} {b : Bool} {I J : Nat → Nat → Int32} (h : yj_IS ln tx I J p op dr) (e : Int32) : f_X1_next (m_X1_write b I ((I 13 6).toNatClampNeg) e) ((m_X1_write b I ((I 13 6).toNatClampNeg) e 13 1).toNatClampNeg) ((m_X1_write b I ((I 13 6).toNatClampNeg) e 13 2).toNatClampNeg) = yj_ch ln tx p := by
  have d := yj_dfc b
  have e1 : m_X1_write b I ((I 13 6).toNatClampNeg) e 13 1 = I 13 1 := yj_FC_wr b I _ e 13 1 (by omega) (Or.inr (by omega))
  have e2 : m_X1_write b I ((I 13 6).toNatClampNeg) e 13 2 = I 13 2 := by
    rw [yj_wrE h, z_up_k _ _ (by omega), z_up_j _ _ (by decide)]
  have e3 : ∀ j, m_X1_write b I ((I 13 6).toNatClampNeg) e 14 j = I 14 j := fun j => yj_FC_wr b I _ e 14 j (by omega) (Or.inl (by decide))
  rw [e1, e2, ← yj_nx h]
  unfold f_X1_next
  rw [e3]
theorem yj_wr2 {ln p op dr : Nat} {tx : Nat → Int32} {b : Bool} {I J : Nat → Nat → Int32} (h : yj_IS ln tx I J p op dr) (e : Int32) : m_X1_write b I ((I 13 6).toNatClampNeg) e 13 2 = nI p ∧ m_X1_write b I ((I 13 6).toNatClampNeg) e 13 1 = nI ln ∧ m_X1_write b I ((I 13 6).toNatClampNeg) e 13 6 = nI (dr + 1) ∧ m_X1_write b I ((I 13 6).toNatClampNeg) e (z_df b) dr = e ∧ ∀ j, j < dr → m_X1_write b I ((I 13 6).toNatClampNeg) e (z_df b) j = I (z_df b) j := by
  have d := yj_dfc b
  rw [yj_wrE h]
  refine ⟨?_, ?_, ?_, ?_, fun j hj => ?_⟩
  · rw [z_up_k _ _ (by omega), z_up_j _ _ (by decide)]; exact h.2.1.1
  · rw [z_up_k _ _ (by omega), z_up_j _ _ (by decide)]; exact h.1.1.1
  · rw [z_up_k _ _ (by omega), z_up_s]; exact (nI_succ dr).symm
  · rw [z_up_s]
  · rw [z_up_j _ _ (by omega), z_up_k _ _ (by omega)]
theorem yj_endI {ln p op dr : Nat} {tx : Nat → Int32} {b : Bool} {I J : Nat → Nat → Int32} (h : yj_IS ln tx I J p op dr) (q : p < ln) (e : Int32) : yj_IS ln tx (z_up (m_X1_write b I ((I 13 6).toNatClampNeg) e) 13 2 (m_X1_write b I ((I 13 6).toNatClampNeg) e 13 2 + 1)) (z_up J 54 12 (J 54 12 + 1)) (p + 1) op (dr + 1) := by
  have d := yj_dfc b
  obtain ⟨w1, w2, w3, -, -⟩ := yj_wr2 (b := b) h e
  have e3 : ∀ j, m_X1_write b I ((I 13 6).toNatClampNeg) e 14 j = I 14 j := fun j => yj_FC_wr b I _ e 14 j (by omega) (Or.inl (by decide))
  obtain ⟨⟨⟨h1, h2⟩, h3⟩, ⟨h4, h5⟩, ⟨h6, h7⟩, ⟨g1, g2⟩, g3, g4, g5, g6⟩ := h
  unfold yj_IS
  rw [z_up_j _ _ (show (1 : Nat) ≠ 2 by decide), z_up_s, z_up_j _ _ (show (6 : Nat) ≠ 2 by decide), z_up_j _ _ (show (13 : Nat) ≠ 12 by decide), z_up_j _ _ (show (11 : Nat) ≠ 12 by decide), z_up_s, z_up_j _ _ (show (14 : Nat) ≠ 12 by decide), z_up_j _ _ (show (15 : Nat) ≠ 12 by decide), w1, w2, w3, g3]
  refine ⟨⟨⟨rfl, h2⟩, fun j hj => ?_⟩, ⟨(nI_succ p).symm, q⟩, ⟨rfl, by omega⟩, ⟨g1, fun j hj => ?_⟩, (nI_succ p).symm, g4, g5, g6⟩
  · rw [z_up_k _ _ (by decide), e3]; exact h3 j hj
  · rw [z_up_k _ _ (by decide), z_up_k _ _ (by decide)]; exact g2 j hj
/-- what becomes of a text: the class's answer and store, what the reference gives and its store -/
def yj_LO (ln : Nat) (b : Bool) (nm : Nat → Int32) (I : Nat → Nat → Int32) (x y : Int32 × (Nat → Nat → Int32)) : Prop := yj_FC b I x.2 ∧ ((x.1 = 0 ∧ ∃ f, f ≤ ln ∧ x.2 13 2 = nI f ∧ y.2 54 14 = nI f) ∨ (x.1 = 1 ∧ y.2 54 14 = (-1) ∧ ∃ dr, 0 < dr ∧ dr ≤ 121 ∧ x.2 13 6 = nI dr ∧ ∀ E : Nat → Int32, (∀ j, j < dr → E j = x.2 (z_df b) j) → yj_ev E nm dr 0 0 [] = y.1))
theorem yj_LOf {ln : Nat} {b : Bool} {nm : Nat → Int32} {I I' : Nat → Nat → Int32} {x y : Int32 × (Nat → Nat → Int32)} (h : yj_FC b I I') (g : yj_LO ln b nm I' x y) : yj_LO ln b nm I x y := ⟨yj_FC_tr h g.1, g.2⟩
/-- the reference's last round, behind a fault -/
theorem yj_wo0 {f : Nat} (hf : f ≤ 120) (r t : Nat) (g v : Int32) (J : Nat → Nat → Int32) (h : J 54 14 = nI f) : gx_X9_workOut_33 (r + 1) t g v 0 J = (v, J) := by
  rw [gx_X9_workOut_33, if_pos rfl, if_pos (by rw [h]; exact nI_pos' (by omega))]
/-- behind a line -/
theorem yj_tail {ln : Nat} {tx : Nat → Int32} {b : Bool} {nm : Nat → Int32} {r r' t t' : Nat} {g v : Int32} {p dr : Nat} {X Y : Nat → Nat → Int32} (ih : ∀ (t t' : Nat) (p dr : Nat) (I J : Nat → Nat → Int32), J 61 = nm → yj_IS ln tx I J p 0 dr → yj_Dn nm (I (z_df b)) dr g v → 0 < r → ln ≤ p + r → ln + 2 ≤ p + r' → yj_LO ln b nm I (gx_X1_readLines_2 b r t I) (gx_X9_workOut_33 r' t' g v 1 J)) (hnm : Y 61 = nm) (h : yj_IS ln tx X Y p 0 dr) (hD : yj_Dn nm (m_X1_write b X ((X 13 6).toNatClampNeg) (-59) (z_df b)) (dr + 1) g v) (hg : g = 0 → v = 0) (hr : ln ≤ p + 1 + r) (hr0 : p < ln → 0 < r) (hr2 : ln + 2 ≤ p + 1 + r') (hr3 : 0 < r') : yj_LO ln b nm X (if f_X1_next (m_X1_write b X ((X 13 6).toNatClampNeg) (-59)) ((m_X1_write b X ((X 13 6).toNatClampNeg) (-59) 13 1).toNatClampNeg) ((m_X1_write b X ((X 13 6).toNatClampNeg) (-59) 13 2).toNatClampNeg) = 59 then gx_X1_readLines_2 b r t (z_up (m_X1_write b X ((X 13 6).toNatClampNeg) (-59)) 13 2 (m_X1_write b X ((X 13 6).toNatClampNeg) (-59) 13 2 + 1)) else if m_X1_write b X ((X 13 6).toNatClampNeg) (-59) 13 2 = m_X1_write b X ((X 13 6).toNatClampNeg) (-59) 13 1 then (1, m_X1_write b X ((X 13 6).toNatClampNeg) (-59)) else (0, m_X1_write b X ((X 13 6).toNatClampNeg) (-59))) (gx_X9_workOut_33 r' t' g v (f_X9_takes Y 59) (m_X9_takes Y 59)) := by
  have hln : ln ≤ 120 := h.1.1.2
  have hp : p ≤ ln := h.2.1.2
  have hdr : dr ≤ p := h.2.2.1.2
  have d := yj_dfc b
  obtain ⟨w1, w2, w3, w4, w5⟩ := yj_wr2 (b := b) h (-59)
  rw [yj_nxW h]
  rcases yj_tk h (c := 59) (by decide) (by decide) with ⟨c, pl, t0, t1⟩ | ⟨c, t0, t1⟩
  · rw [if_pos c, t0, t1]
    refine yj_LOf (yj_FC_tr (yj_FC_wr b X _ _) (yj_FC_av b _ _)) (ih t t' (p + 1) (dr + 1) _ _ ?_ (yj_endI h pl _) ?_ (hr0 pl) (by omega) (by omega))
    · rw [z_up_r _ _ (by decide)]; exact hnm
    · rw [z_up_r _ _ (by omega)]; exact hD
  · rw [if_neg c, t0, t1, w1, w2]
    obtain ⟨k, rfl⟩ : ∃ k, r' = k + 1 := ⟨r' - 1, by omega⟩
    have y14 : ¬ 0 ≤ Y 54 14 := by rw [h.2.2.2.2.2.1]; decide
    rw [gx_X9_workOut_33, if_pos (show (0 : Int32) = 0 from rfl), if_neg y14, h.2.2.2.1.1, h.2.2.2.2.1]
    by_cases e : p = ln
    · rw [if_pos (show nI p = nI ln by rw [e]), if_pos (show nI ln ≤ nI p by rw [e]; exact nI_le (Nat.le_refl _) (by omega))]
      refine ⟨yj_FC_wr b X _ _, Or.inr ⟨rfl, h.2.2.2.2.2.1, dr + 1, by omega, by omega, w3, fun E hE => ?_⟩⟩
      have q := hD E hE 0
      rw [Nat.add_zero] at q
      rw [q]
      by_cases z : g = 0
      · rw [if_pos z, hg z]; rfl
      · rw [if_neg z]
    · have e2 : ¬ nI p = nI ln := fun q => e ((nI_eq (by omega) (by omega)).mp q)
      rw [if_neg e2, if_neg (show ¬ nI ln ≤ nI p by rw [nI_leI (by omega) (by omega)]; omega)]
      refine ⟨yj_FC_wr b X _ _, Or.inl ⟨rfl, p, hp, w1, ?_⟩⟩
      show m_X9_wrong Y 54 14 = nI p
      rw [yj_wrongV, h.2.2.2.2.2.1, if_neg (by decide)]
      exact h.2.2.2.2.1
theorem yj_lines {ln : Nat} {tx : Nat → Int32} {b : Bool} {nm : Nat → Int32} : ∀ (r r' t t' : Nat) (g v : Int32) (p dr : Nat) (I J : Nat → Nat → Int32), J 61 = nm → yj_IS ln tx I J p 0 dr → yj_Dn nm (I (z_df b)) dr g v → (g = 0 → v = 0) → 0 < r → ln ≤ p + r → ln + 2 ≤ p + r' → yj_LO ln b nm I (gx_X1_readLines_2 b r t I) (gx_X9_workOut_33 r' t' g v 1 J) := by
  intro r
  induction r with
  | zero => intro r' t t' g v p dr I J _ _ _ _ h0; exact absurd h0 (Nat.lt_irrefl _)
  | succ r ih =>
    intro r' t t' g v p dr I J hnm h hD hg _ hr hr'
    have hln : ln ≤ 120 := h.1.1.2
    have hp : p ≤ ln := h.2.1.2
    have hdr0 : dr ≤ p := h.2.2.1.2
    have d := yj_dfc b
    obtain ⟨k, rfl⟩ : ∃ k, r' = k + 1 := ⟨r' - 1, by omega⟩
    obtain ⟨k, rfl⟩ : ∃ k2, k = k2 + 1 := ⟨k - 1, by omega⟩
    unfold gx_X1_readLines_2 f_X1_readLine m_X1_readLine
    rw [gx_X9_workOut_33, if_neg (show ¬ (1 : Int32) = 0 by decide)]
    obtain ⟨f1, f2, f3⟩ := yj_E ln tx b I J p dr h
    generalize z_eE J = Y at f1 f2 f3 ⊢
    generalize z_rE b I = X at f1 f2 f3 ⊢
    rcases f3 with ⟨x0, f, hf, xf, yf⟩ | ⟨x1, p1, dr1, a1, a2, a3, a4⟩
    · obtain ⟨t0, t1⟩ := yj_tk0 (by omega) yf 63
      obtain ⟨s0, s1⟩ := yj_tk0 (by omega) yf 59
      have yp : 0 ≤ Y.2 54 14 := by rw [yf]; exact nI_pos' (by omega)
      simp only [x0, t0, t1, s0, s1, yp, reduceIte]
      rw [yj_wo0 (by omega) k _ g v Y.2 yf]
      exact ⟨f1, Or.inl ⟨rfl, f, hf, xf, yf⟩⟩
    · have e61 : Y.2 61 = nm := by rw [← hnm]; funext j; exact f2 61 j (Or.inl (by decide))
      have y14 : ¬ 0 ≤ Y.2 54 14 := by rw [a3.2.2.2.2.2.1]; decide
      have hp1 : p1 ≤ ln := a3.2.1.2
      have hdr1 : dr1 ≤ p1 := a3.2.2.1.2
      have hs := yj_SgP a4
      rw [hnm] at a4
      simp only [x1, yj_d10, reduceIte]
      rw [yj_nx a3]
      obtain ⟨sA, q1, q2, q3, q4, q5⟩ := a4
      rcases yj_tk a3 (c := 63) (by decide) (by decide) with ⟨c, pl, t0, t1⟩ | ⟨c, t0, t1⟩
      · simp only [c, t0, t1, yj_d10, reduceIte]
        have W := yj_wrI (b := b) (yj_adv a3 pl) (show dr1 + 1 ≤ p1 + 1 by omega) (-63)
        obtain ⟨v1, v2, v3, v4, v5⟩ := yj_wr2 (b := b) (yj_adv a3 pl) (-63)
        obtain ⟨k1, k2, k3⟩ := yj_E ln tx b _ _ _ _ W
        have FW : yj_FC b I (m_X1_write b (z_up X.2 13 2 (X.2 13 2 + 1)) (((z_up X.2 13 2 (X.2 13 2 + 1)) 13 6).toNatClampNeg) (-63)) := yj_FC_tr (yj_FC_tr f1 (yj_FC_av b _ _)) (yj_FC_wr b _ _ _)
        generalize m_X1_write b (z_up X.2 13 2 (X.2 13 2 + 1)) (((z_up X.2 13 2 (X.2 13 2 + 1)) 13 6).toNatClampNeg) (-63) = WX at W v1 v2 v3 v4 v5 k1 k2 k3 FW ⊢
        generalize z_eE (z_up Y.2 54 12 (Y.2 54 12 + 1)) = Y2 at k1 k2 k3 ⊢
        generalize z_rE b WX = X2 at k1 k2 k3 ⊢
        rcases k3 with ⟨x0, f, hf, xf, yf⟩ | ⟨x2, p2, dr2, c1, c2, c3, c4⟩
        · obtain ⟨s0, s1⟩ := yj_tk0 (by omega) yf 59
          have yp : 0 ≤ Y2.2 54 14 := by rw [yf]; exact nI_pos' (by omega)
          simp only [x0, s0, s1, yp, reduceIte, ite_self]
          rw [yj_wo0 (by omega) k _ g v Y2.2 yf]
          exact ⟨yj_FC_tr FW k1, Or.inl ⟨rfl, f, hf, xf, yf⟩⟩
        · have y24 : ¬ 0 ≤ Y2.2 54 14 := by rw [c3.2.2.2.2.2.1]; decide
          have e612 : Y2.2 61 = nm := by
            rw [← e61]; funext j
            rw [k2 61 j (Or.inl (by decide)), z_up_k _ _ (by decide)]
          have e613 : (z_up Y.2 54 12 (Y.2 54 12 + 1)) 61 = nm := by rw [z_up_r _ _ (by decide)]; exact e61
          have hp2 : p2 ≤ ln := c3.2.1.2
          have hdr2 : dr2 ≤ p2 := c3.2.2.1.2
          rw [e613] at c4
          obtain ⟨sB, u1, u2, u3, u4, u5⟩ := c4
          obtain ⟨w1, w2, w3, w4, w5⟩ := yj_wr2 (b := b) c3 (-59)
          simp only [x2, yj_d10, y24, reduceIte]
          have D2 : yj_Dn nm (m_X1_write b X2.2 ((X2.2 13 6).toNatClampNeg) (-59) (z_df b)) (dr2 + 1) (if Y.1 = 0 then g else if g = 0 then 1 else g) (if Y.1 = 0 then v else if g = 0 then Y2.1 else v) := by
            have a5 : ∀ j, j < dr1 → m_X1_write b X2.2 ((X2.2 13 6).toNatClampNeg) (-59) (z_df b) j = X.2 (z_df b) j := by
              intro j hj
              rw [w5 j (by omega), u2 j (by omega), v5 j hj, z_up_r _ _ (by omega)]
            have T := yj_Dn2 hD (D := m_X1_write b X2.2 ((X2.2 13 6).toNatClampNeg) (-59) (z_df b)) (fun j hj => (a5 j (by omega)).trans (q2 j hj)) sA sB Y.1 Y2.1 (fun j hj => (a5 _ (by omega)).trans (q3 j hj)) q4 q5 (by
              rw [← q1, w5 _ (by omega), u2 _ (by omega)]; exact v4) (fun j hj => by
              rw [← q1, w5 _ (by omega)]; exact u3 j hj) u4 u5 (by rw [← q1, ← u1]; exact w4) (by omega)
            rw [← q1, ← u1] at T
            exact T
          have FX : yj_FC b I X2.2 := yj_FC_tr FW k1
          by_cases z : Y.1 = 0
          · simp only [z, reduceIte] at D2 ⊢
            exact yj_LOf FX (yj_tail (r' := k + 1) (fun t t' p dr I J a b c d e f => ih (k + 1) t t' g v p dr I J a b c hg d e f) e612 c3 D2 hg (by omega) (by omega) (by omega) (by omega))
          · by_cases z2 : g = 0
            · simp only [z, z2, reduceIte] at D2 ⊢
              have hg2 : (1 : Int32) = 0 → Y2.1 = 0 := fun q => absurd q (by decide)
              exact yj_LOf FX (yj_tail (r' := k + 1) (fun t t' p dr I J a b c d e f => ih (k + 1) t t' 1 Y2.1 p dr I J a b c hg2 d e f) e612 c3 D2 hg2 (by omega) (by omega) (by omega) (by omega))
            · simp only [z, z2, reduceIte] at D2 ⊢
              exact yj_LOf FX (yj_tail (r' := k + 1) (fun t t' p dr I J a b c d e f => ih (k + 1) t t' g v p dr I J a b c hg d e f) e612 c3 D2 hg (by omega) (by omega) (by omega) (by omega))
      · simp only [c, t0, t1, y14, yj_d10, reduceIte]
        obtain ⟨w1, w2, w3, w4, w5⟩ := yj_wr2 (b := b) a3 (-59)
        have D1 : yj_Dn nm (m_X1_write b X.2 ((X.2 13 6).toNatClampNeg) (-59) (z_df b)) (dr1 + 1) (if g = 0 then 1 else g) (if g = 0 then Y.1 else v) := by
          have T := yj_Dn1 hD (D := m_X1_write b X.2 ((X.2 13 6).toNatClampNeg) (-59) (z_df b)) (fun j hj => (w5 j (by omega)).trans (q2 j hj)) sA Y.1 (fun j hj => (w5 _ (by omega)).trans (q3 j hj)) q4 q5 (by rw [← q1]; exact w4) (by omega)
          rw [← q1] at T
          exact T
        by_cases z2 : g = 0
        · simp only [z2, reduceIte] at D1 ⊢
          have hg2 : (1 : Int32) = 0 → Y.1 = 0 := fun q => absurd q (by decide)
          exact yj_LOf f1 (yj_tail (r' := k + 1) (fun t t' p dr I J a b c d e f => ih (k + 1) t t' 1 Y.1 p dr I J a b c hg2 d e f) e61 a3 D1 hg2 (by omega) (by omega) (by omega) (by omega))
        · simp only [z2, reduceIte] at D1 ⊢
          exact yj_LOf f1 (yj_tail (r' := k + 1) (fun t t' p dr I J a b c d e f => ih (k + 1) t t' g v p dr I J a b c hg d e f) e61 a3 D1 hg (by omega) (by omega) (by omega) (by omega))
/-- the tape -/
def yj_Tp (tm : Nat) (C R : Nat → Nat → Int32) : Prop := (C 13 1 = nI tm ∧ R 54 8 = nI tm ∧ tm ≤ 120) ∧ ∀ j, j < tm → C 14 j = R 59 j
theorem yj_w0IS {tm : Nat} {tx : Nat → Int32} {C J : Nat → Nat → Int32} (h1 : C 13 1 = nI tm) (h2 : tm ≤ 120) (h3 : ∀ j, j < tm → C 14 j = tx j) (fr : Int32) (h4 : ∀ j, j < tm → (if 0 ≤ fr then J 60 j else J 59 j) = tx j) : yj_IS tm tx (z_up (z_up C 13 2 0) 13 6 0) (z_w0 J fr tm) 0 0 0 := by
  unfold yj_IS z_w0
  refine ⟨⟨⟨?_, h2⟩, fun j hj => ?_⟩, ⟨?_, Nat.zero_le _⟩, ⟨?_, Nat.le_refl _⟩, ⟨?_, fun j hj => ?_⟩, ?_, ?_, ?_, by omega⟩
  · rw [z_up_j _ _ (by decide), z_up_j _ _ (by decide)]; exact h1
  · rw [z_up_k _ _ (by decide), z_up_k _ _ (by decide)]; exact h3 j hj
  · rw [z_up_j _ _ (by decide), z_up_s]; rfl
  · rw [z_up_s]; rfl
  · rw [z_up_j _ _ (by decide), z_up_j _ _ (by decide), z_up_s]
  · rw [z_up_j _ _ (show (11 : Nat) ≠ 15 by decide), z_up_j _ _ (show (11 : Nat) ≠ 14 by decide), z_up_j _ _ (show (11 : Nat) ≠ 13 by decide), z_up_j _ _ (show (11 : Nat) ≠ 12 by decide), z_up_s, z_up_k _ _ (by decide), z_up_k _ _ (by decide), z_up_k _ _ (by decide), z_up_k _ _ (by decide), z_up_k _ _ (by decide), z_up_k _ _ (by decide), z_up_k _ _ (by decide), z_up_k _ _ (by decide), z_up_k _ _ (by decide), z_up_k _ _ (by decide)]
    exact h4 j hj
  · rw [z_up_j _ _ (by decide), z_up_j _ _ (by decide), z_up_j _ _ (by decide), z_up_s]; rfl
  · rw [z_up_j _ _ (by decide), z_up_s]
  · rw [z_up_s]; rfl
/-- a text of tm bytes read by the class, and worked out by the reference out of whatever store -/
theorem yj_text {tm : Nat} {tx : Nat → Int32} {C : Nat → Nat → Int32} (b : Bool) (h1 : C 13 1 = nI tm) (h2 : tm ≤ 120) (h3 : ∀ j, j < tm → C 14 j = tx j) (J : Nat → Nat → Int32) (fr : Int32) (h4 : ∀ j, j < tm → (if 0 ≤ fr then J 60 j else J 59 j) = tx j) : yj_FC b (z_up (z_up C 13 2 0) 13 6 0) (m_X1_readLines b (z_up (z_up C 13 2 0) 13 6 0)) ∧ ((f_X1_readLines b (z_up (z_up C 13 2 0) 13 6 0) = 0 ∧ ∃ f, f ≤ tm ∧ m_X1_readLines b (z_up (z_up C 13 2 0) 13 6 0) 13 2 = nI f ∧ m_X9_workOut J fr tm 54 14 = nI f) ∨ (f_X1_readLines b (z_up (z_up C 13 2 0) 13 6 0) = 1 ∧ m_X9_workOut J fr tm 54 14 = (-1) ∧ ∃ dr, 0 < dr ∧ dr ≤ 121 ∧ m_X1_readLines b (z_up (z_up C 13 2 0) 13 6 0) 13 6 = nI dr ∧ ∀ E : Nat → Int32, (∀ j, j < dr → E j = m_X1_readLines b (z_up (z_up C 13 2 0) 13 6 0) (z_df b) j) → yj_ev E (J 61) dr 0 0 [] = f_X9_workOut J fr tm)) := by
  unfold f_X1_readLines m_X1_readLines f_X9_workOut m_X9_workOut
  have k := yj_lines (b := b) (nm := J 61) 120 122 0 0 0 0 0 0 (z_up (z_up C 13 2 0) 13 6 0) (z_w0 J fr tm) (by unfold z_w0; rw [z_up_r _ _ (by decide), z_up_r _ _ (by decide), z_up_r _ _ (by decide), z_up_r _ _ (by decide), z_up_r _ _ (by decide)]) (yj_w0IS h1 h2 h3 fr h4) (yj_Dn0 _ _ _) (fun _ => rfl) (by omega) (by omega) (by omega)
  generalize gx_X1_readLines_2 b 120 0 (z_up (z_up C 13 2 0) 13 6 0) = X at k ⊢
  generalize gx_X9_workOut_33 122 0 0 0 1 (z_w0 J fr tm) = Z at k ⊢
  exact k
theorem yj_cpT (R : Nat → Nat → Int32) (tm : Nat) : ∀ i : Nat, (∀ a, a ≠ 60 → (g_X9_law_37 R tm i) a = (z_up (m_X9_workOut R (-1) tm) 54 8 0) a) ∧ ∀ j, j < i → (g_X9_law_37 R tm i) 60 j = R 59 j
  | 0 => ⟨fun _ _ => rfl, fun _ h => absurd h (Nat.not_lt_zero _)⟩
  | i + 1 => by
    obtain ⟨h1, h2⟩ := yj_cpT R tm i
    show (∀ a, a ≠ 60 → (gb_X9_law_37 R tm i (g_X9_law_37 R tm i)) a = _) ∧ ∀ j, j < i + 1 → (gb_X9_law_37 R tm i (g_X9_law_37 R tm i)) 60 j = R 59 j
    unfold gb_X9_law_37
    refine ⟨fun a ha => ?_, fun j hj => ?_⟩
    · rw [z_up_r _ _ ha]; exact h1 a ha
    · by_cases q : j = i
      · subst q
        rw [z_up_s, h1 59 (by decide), z_up_k _ _ (by decide)]
        exact z_woF R (-1) tm 59 j (Or.inl (by decide))
      · rw [z_up_j _ _ q]; exact h2 j (by omega)
/-- law(): the same answer; the tape is empty; the law holds again -/
theorem yj_law {tm sz : Nat} {b : Bool} {C R : Nat → Nat → Int32} (T : yj_Tp tm C R) (Lw : yj_L sz b C R) : f_X8_law b C = f_X9_law R tm ∧ yj_Tp 0 (m_X8_law b C) (m_X9_law R tm) ∧ (∃ sz', yj_L sz' (z_nb b C) (m_X8_law b C) (m_X9_law R tm)) ∧ (∀ a j, a ≠ 13 → a ≠ z_df b → m_X8_law b C a j = C a j) ∧ (∀ a j, a ≠ 60 → (a ≠ 54 ∨ (j ≠ 8 ∧ j ≠ 10 ∧ j ≠ 11 ∧ j ≠ 12 ∧ j ≠ 13 ∧ j ≠ 14 ∧ j ≠ 15)) → m_X9_law R tm a j = R a j) := by
  obtain ⟨⟨h1, h2, h3⟩, h4⟩ := T
  have d := yj_dfc b
  obtain ⟨F, P⟩ := yj_text b h1 h3 (fun j hj => rfl) R (-1) (fun j hj => by rw [if_neg (by decide)]; exact (h4 j hj).symm)
  have all := fun (J : Nat → Nat → Int32) (hJ : ∀ j, j < tm → J 60 j = C 14 j) => (yj_text b h1 h3 (fun j hj => rfl) J 0 (fun j hj => by rw [if_pos (by decide)]; exact hJ j hj)).2
  have wF : ∀ a j, (a ≠ 54 ∨ (j ≠ 11 ∧ j ≠ 12 ∧ j ≠ 13 ∧ j ≠ 14 ∧ j ≠ 15)) → m_X9_workOut R (-1) tm a j = R a j := fun a j q => z_woF R (-1) tm a j q
  have cp := yj_cpT R tm tm
  have cF : ∀ a j, a ≠ 13 → a ≠ z_df b → m_X1_readLines b (z_up (z_up C 13 2 0) 13 6 0) a j = C a j := by
    intro a j q1 q2
    have := F a j q2 (Or.inl q1)
    rw [z_up_k _ _ q1, z_up_k _ _ q1] at this
    exact this
  have cF4 : m_X1_readLines b (z_up (z_up C 13 2 0) 13 6 0) 13 4 = C 13 4 := by
    have := F 13 4 (by omega) (Or.inr (by omega))
    rw [z_up_j _ _ (by decide), z_up_j _ _ (by decide)] at this
    exact this
  clear F
  have dc : z_cd b ≠ 13 ∧ z_cd b ≠ z_df b := by cases b <;> decide
  have cb : z_cd (!b) = z_df b := by cases b <;> rfl
  unfold f_X8_law m_X8_law f_X9_law m_X9_law f_X1_adopt m_X1_adopt z_nb
  generalize g_X9_law_37 R tm tm = G at cp ⊢
  generalize m_X9_workOut R (-1) tm = W at P wF cp ⊢
  generalize f_X1_readLines b (z_up (z_up C 13 2 0) 13 6 0) = A at P all ⊢
  generalize m_X1_readLines b (z_up (z_up C 13 2 0) 13 6 0) = M at P all cF cF4 ⊢
  rcases P with ⟨a0, f, hf, m2, w14⟩ | ⟨a1, w14, dr, hd0, hd1, m6, hE⟩
  · have p0 : 0 ≤ nI f := nI_pos' (by omega)
    have p1 : ¬ nI f < 0 := nI_pos (by omega)
    simp only [a0, m2, w14, p0, p1, reduceIte]
    refine ⟨trivial, ⟨⟨?_, ?_, Nat.zero_le _⟩, fun j hj => absurd hj (Nat.not_lt_zero _)⟩, ⟨sz, yj_Lf Lw ?_ ?_ ?_ ?_⟩, fun a j q1 q2 => ?_, fun a j q1 q2 => ?_⟩
    · rw [z_up_s]; rfl
    · rw [z_up_s]; rfl
    · rw [z_up_j _ _ (by decide)]; exact cF4
    · funext j; rw [z_up_k _ _ dc.1]; exact cF _ j dc.1 dc.2
    · rw [z_up_j _ _ (by decide)]; exact wF 54 10 (Or.inr (by omega))
    · funext j; rw [z_up_k _ _ (by decide)]; exact wF 60 j (Or.inl (by decide))
    · rw [z_up_k _ _ q1]; exact cF a j q1 q2
    · rcases q2 with q2 | q2
      · rw [z_up_k _ _ q2]; exact wF a j (Or.inl q2)
      · have u : z_up W 54 8 0 a j = W a j := by
          unfold z_up
          by_cases q : a = 54
          · rw [if_pos q, if_neg (by omega)]
          · rw [if_neg q]
        rw [u]; exact wF a j (Or.inr (by omega))
  · have p0 : ¬ (0 : Int32) ≤ (-1) := by decide
    have p1 : (-1 : Int32) < 0 := by decide
    simp only [a1, yj_d10, w14, p0, p1, reduceIte]
    refine ⟨trivial, ⟨⟨?_, ?_, Nat.zero_le _⟩, fun j hj => absurd hj (Nat.not_lt_zero _)⟩, ⟨dr, ⟨?_, hd1⟩, Or.inr ⟨hd0, tm, ⟨?_, h3⟩, fun J hJ => ?_⟩⟩, fun a j q1 q2 => ?_, fun a j q1 q2 => ?_⟩
    · rw [z_up_j _ _ (by decide), z_up_s]; rfl
    · rw [z_up_j _ _ (by decide), cp.1 54 (by decide), z_up_s]; rfl
    · rw [z_up_s]; exact m6
    · rw [z_up_s]
    · have hJ2 : ∀ j, j < tm → J 60 j = C 14 j := by
        intro j hj
        rw [hJ j hj, z_up_k _ _ (by decide), cp.2 j hj]
        exact (h4 j hj).symm
      rcases all J hJ2 with ⟨a0, -⟩ | ⟨-, -, dr2, e0, e1, e6, eE⟩
      · rw [a1] at a0; exact absurd a0 (by decide)
      · have : dr2 = dr := (nI_eq (by omega) (by omega)).mp (e6.symm.trans m6)
        subst this
        rw [cb]
        exact (eE _ (fun j hj => by rw [z_up_k _ _ d.1, z_up_k _ _ d.1])).symm
    · rw [z_up_k _ _ q1, z_up_k _ _ q1]; exact cF a j q1 q2
    · have u : ∀ (K : Nat → Nat → Int32) (c : Nat) (w : Int32), (a ≠ 54 ∨ j ≠ c) → z_up K 54 c w a j = K a j := by
        intro K c w h
        unfold z_up
        by_cases q : a = 54
        · rw [if_pos q, if_neg (by omega)]
        · rw [if_neg q]
      rw [u _ _ _ (by omega), cp.1 a q1, u _ _ _ (by omega)]
      exact wF a j (by omega)
