/-! THE CLASS AGAINST THE REFERENCE: order -/
theorem yj_lead {np x p : Nat} {c : Nat → Nat → Nat} {C R C' : Nat → Nat → Int32} {CL CL' : Nat → Nat → Int64} (h : yj_K np 20 c C R CL) (hn : np ≤ 10) (hx : x < 2 ^ np) {F : Nat → Nat} (hF : ∀ y, y < 2 ^ np → F y ≤ 20 * y) (hT : yj_tC2 c np (2 ^ np) F C' CL') (hp : p < np) (ha : yj_at c np F x p) (hl : ∀ y, y < p → ¬ yj_at c np F x y) : ∀ (r t : Nat), t + r = np → t ≤ p → gx_X2_leaderOf_4 C' CL' x r t = nI p
  | 0, t, ht, htp => absurd htp (by omega)
  | r + 1, t, ht, htp => by
    have p10 : 2 ^ np ≤ 1024 := Nat.pow_le_pow_right (n := 2) (by decide) hn
    unfold gx_X2_leaderOf_4
    have go : t ≠ p → gx_X2_leaderOf_4 C' CL' x r (t + 1) = nI p := fun ne => yj_lead h hn hx hF hT hp ha hl r (t + 1) (by omega) (by omega)
    by_cases q : x.testBit t = false
    · rw [if_pos ((yj_bitT (by omega)).mpr q)]
      exact go (fun e => by rw [e, ha.1] at q; exact absurd q (by decide))
    · have q2 : x.testBit t = true := by cases w : x.testBit t; exact absurd w q; rfl
      have lt := yj_bhL (show x < 1024 by omega) (show t < 10 by omega) q2
      have u := yj_up20 h t (yj_bh x t) hn
      have f := hF _ (show yj_bh x t < 2 ^ np by omega)
      have f2 := hF x hx
      have vl : yj_vl c np F x t ≤ 1000000 := by unfold yj_vl; omega
      rw [if_neg (fun w => q ((yj_bitT (by omega)).mp w)), yj_led h hn (by omega) (show x < 1024 by omega) (by omega) (hT _ (show yj_bh x t < 2 ^ np by omega)).1 (hT x hx).2, (hT x hx).1]
      by_cases e : yj_vl c np F x t = F x
      · rw [if_pos (by rw [e])]
        have : t = p := by
          refine Classical.byContradiction fun ne => ?_
          exact hl t (by omega) ⟨q2, e.symm⟩
        rw [this]
      · rw [if_neg (fun w => e ((nI_eq (by omega) (by omega)).mp w))]
        exact go (fun w => e (by rw [w]; exact ha.2.symm))
theorem yj_io {np K : Nat} {c : Nat → Nat → Nat} {C R R' C' : Nat → Nat → Int32} {CL CL' : Nat → Nat → Int64} (h : yj_K np 20 c C R CL) (hn : np ≤ 10) (hK : K < np) (h67 : ∀ j, R' 67 j = R 67 j) {F : Nat → Nat} (hR : yj_tab c np (2 ^ np) F R') (hC : yj_tC2 c np (2 ^ np) F C' CL') : ∀ (r t left : Nat) (v a : Int32), t + r = np → left < 2 ^ np → yj_cn (fun j => left.testBit j) 10 = r → (t ≤ K → gx_X2_inOrder_15 C' CL' np (nI K) r t (nI left) v = yj_oA np R' (nI K) r t left a) ∧ (K < t → gx_X2_inOrder_15 C' CL' np (nI K) r t (nI left) v = v ∧ yj_oA np R' (nI K) r t left a = a)
  | 0, t, left, v, a, ht, hl, hc => by
    refine ⟨fun q => absurd q (by omega), fun _ => ⟨?_, rfl⟩⟩
    unfold gx_X2_inOrder_15
    exact ite_self _
  | r + 1, t, left, v, a, ht, hl, hc => by
    have p10 : 2 ^ np ≤ 1024 := Nat.pow_le_pow_right (n := 2) (by decide) hn
    obtain ⟨p, p1, p2, p3, p4⟩ := yj_nxB h hn h67 hR (yj_cnP hc) hl
    have ld : f_X2_leaderOf C' CL' np (nI left).toNatClampNeg = nI p := by
      rw [nI_clamp (by omega)]
      exact yj_lead h hn hl (fun y hy => (hR.2 y hy).2.1) hC p1 p2 p3 np 0 (by omega) (Nat.zero_le _)
    obtain ⟨z1, z2⟩ := yj_bhN (show left < 1024 by omega) p1 p2.1 hn hc
    have IH := fun v a => yj_io h hn hK h67 hR hC r (t + 1) (yj_bh left p) v a (by omega) (by omega) z2
    unfold gx_X2_inOrder_15 yj_oA
    rw [ld, p4, nI_clamp (show p < 2 ^ 31 by omega), (yj_bhE (left := left) (p := p) (by omega)).1]
    refine ⟨fun q => ?_, fun q => ?_⟩
    · rw [if_neg (nI_nlt q (by omega)), if_neg (nI_nlt q (by omega))]
      by_cases e : t = K
      · rw [if_pos (by rw [e]), ((IH (nI p) (nI p)).2 (by omega)).1, ((IH (nI p) (nI p)).2 (by omega)).2]
      · rw [if_neg (fun w => e ((nI_eq (by omega) (by omega)).mp w))]
        exact (IH (nI p) a).1 (by omega)
    · rw [if_pos (nI_lt q (by omega)), if_pos (nI_lt q (by omega))]
      exact ⟨rfl, rfl⟩
theorem yj_oFar {np K : Nat} {R' : Nat → Nat → Int32} (hn : np ≤ 10) (hK : np ≤ K) (hK2 : K < 2 ^ 31) : ∀ (r t left : Nat) (a : Int32), t + r = np → yj_oA np R' (nI K) r t left a = a
  | 0, t, left, a, ht => rfl
  | r + 1, t, left, a, ht => by
    unfold yj_oA
    rw [if_neg (nI_nlt (by omega) hK2), if_neg (fun w => absurd ((nI_eq (by omega) hK2).mp w) (by omega))]
    exact yj_oFar hn hK hK2 r (t + 1) _ a (by omega)
theorem yj_oH1 {np : Nat} {c : Nat → Nat → Nat} {C R R' : Nat → Nat → Int32} {CL : Nat → Nat → Int64} (h : yj_K np 20 c C R CL) (hn : np ≤ 10) (h67 : ∀ j, R' 67 j = R 67 j) {F : Nat → Nat} (hR : yj_tab c np (2 ^ np) F R') : yj_oH np R' := fun x h0 hx => by
  obtain ⟨p, p1, p2, p3, p4⟩ := yj_nxB h hn h67 hR h0 hx
  exact ⟨p, p1, p2.1, p4⟩
theorem yj_oTab {np : Nat} {c : Nat → Nat → Nat} {C R : Nat → Nat → Int32} {CL : Nat → Nat → Int64} (h : yj_K np 20 c C R CL) (hn : np ≤ 10) (h0 : R 68 0 = 0) : (∀ a j, a ≠ 68 ∨ j = 0 → gw_X9_order_50 np (2 ^ np - 1) 1 R a j = R a j) ∧ ∃ F, yj_tab c np (2 ^ np) F (gw_X9_order_50 np (2 ^ np - 1) 1 R) := by
  have := Nat.one_le_two_pow (n := np)
  refine yj_o50 h hn (2 ^ np - 1) 1 R (by omega) (by omega) (fun _ => rfl) ⟨fun _ => 0, rfl, fun y hy => ?_⟩
  rw [show y = 0 by omega]
  exact ⟨h0, Nat.le_refl 0, fun q => absurd q (by omega)⟩
/-- the reference's contract asks it -/
theorem yj_oHJ {b : Bool} {np nq dn km tm sz bo rn : Nat} {C R : Nat → Nat → Int32} {CL RL : Nat → Nat → Int64} (h : yj_J b np nq dn km tm sz bo rn C R CL RL) (d : Int32) (hd : 0 ≤ f_X9_rowIs R d 0) : yj_oH np (gw_X9_order_50 np (2 ^ np - 1) 1 (m_X9_takesResults R RL np d.toNatClampNeg)) := by
  have hn := yj_Y2 h.1
  rcases yj_brow h d with ⟨q1, q2, D, m, h1, rfl, h2, h3, h4, h5⟩ | ⟨q1, q2, q3⟩
  · obtain ⟨⟨c, k⟩, -, f2, -⟩ := yj_res hn h1 h2 h3 h4 h5 h.1.1.1
    rw [show (nI D).toNatClampNeg = D from nI_clamp (by omega)]
    obtain ⟨g, F, hF⟩ := yj_oTab k hn ((f2 68 0 (by omega)).trans h.2.2.2.2.2.2.2)
    exact yj_oH1 k hn (fun j => g 67 j (by omega)) hF
  · exact absurd hd q2
theorem yj_s_order {b : Bool} {np nq dn km tm sz bo rn : Nat} {C R : Nat → Nat → Int32} {CL RL : Nat → Nat → Int64} (h : yj_J b np nq dn km tm sz bo rn C R CL RL) (d k : Int32) : f_X8_order C CL np d k = f_X9_order R RL np d k ∧ yj_B b (m_X8_order C CL np d k) (m_X9_order R RL np d k) (n_X8_order C CL np d k) RL := by
  have hn := yj_Y2 h.1
  have p10 : 2 ^ np ≤ 1024 := Nat.pow_le_pow_right (n := 2) (by decide) hn
  have p1 := Nat.one_le_two_pow (n := np)
  unfold f_X8_order f_X9_order m_X8_order m_X9_order n_X8_order
  rcases yj_brow h d with ⟨q1, q2, D, m, h1, rfl, h2, h3, h4, h5⟩ | ⟨q1, q2, q3⟩
  · have sh : ¬ f_X8_isShelf (nI D) = 0 := by
      intro w
      unfold f_X8_bytesRefusal at q1
      rw [if_pos w] at q1
      exact absurd q1 (by decide)
    obtain ⟨⟨c, K⟩, f1, f2, f3⟩ := yj_res hn h1 h2 h3 h4 h5 h.1.1.1
    have cD : (nI D).toNatClampNeg = D := nI_clamp (by omega)
    rw [q1, q2, cD]
    generalize m_X2_read C CL np (42 + 2 * D) = C1 at K f1 ⊢
    generalize n_X2_read C CL np (42 + 2 * D) = CL1 at K f3 ⊢
    generalize m_X9_takesResults R RL np D = R1 at K f2 ⊢
    obtain ⟨g, F, hF⟩ := yj_oTab K hn ((f2 68 0 (by omega)).trans h.2.2.2.2.2.2.2)
    obtain ⟨w1, w2, w3⟩ := yj_weigh K hn hF.1 (fun y hy => (hF.2 y hy).2)
    generalize gw_X9_order_50 np (2 ^ np - 1) 1 R1 = R2 at g hF ⊢
    have io := fun Kk (hK : Kk < np) => yj_io K hn hK (fun j => g 67 j (by omega)) hF w3 np 0 (2 ^ np - 1) (-2) (-2) (by omega) (by omega) (yj_cnA hn)
    have last : f_X2_fewestUpset (m_X2_weigh C1 CL1 np) np = R2 68 (2 ^ np - 1) := by
      unfold f_X2_fewestUpset
      rw [(w3 (2 ^ np - 1) (by omega)).1, (hF.2 (2 ^ np - 1) (by omega)).1]
    have io' : ∀ Kk, Kk < np → f_X2_inOrder (m_X2_weigh C1 CL1 np) (n_X2_weigh C1 CL1 np) np (nI Kk) = yj_oA np R2 (nI Kk) np 0 (2 ^ np - 1) (-2) := fun Kk hK => (io Kk hK).1 (Nat.zero_le _)
    generalize m_X2_weigh C1 CL1 np = C2 at w1 last io' ⊢
    generalize n_X2_weigh C1 CL1 np = CL2 at w2 io' ⊢
    have Bk : yj_B b C2 R2 CL2 RL := yj_mk (yj_Jf h (fun a j a54 q => by
      rw [w1 a j (by unfold yj_kC at q; omega), f1 a j (by unfold yj_kC at q; omega), z_up_k _ _ (by unfold yj_kC at q; omega)]) (fun a j q => by
      rw [g a j (by unfold yj_kR at q; omega), f2 a j (by unfold yj_kR at q; omega)]) (fun a j x1 x2 => by
      rw [w2 a j (by omega), f3 a j (by omega)]) (fun _ => rfl))
    have Bc : yj_B b C R2 CL RL := yj_mk (yj_Jf h (fun _ _ _ _ => rfl) (fun a j q => by
      rw [g a j (by unfold yj_kR at q; omega), f2 a j (by unfold yj_kR at q; omega)]) (fun _ _ _ _ => rfl) (fun _ => rfl))
    by_cases k1 : (-1) ≤ k
    · by_cases k2 : k = (-1)
      · subst k2
        have lt : (-1 : Int32) < nI np := by
          rw [Int32.lt_iff_toInt_lt, nI_toInt (by omega), show (-1 : Int32).toInt = -1 from rfl]
          omega
        rw [if_neg sh, if_pos k1, if_pos (show (0 : Int32) = 0 from rfl), if_pos lt, if_pos rfl]
        rw [if_neg (show ¬ (1 : Int32) = (-1) by decide), if_pos k1, if_pos (show (0 : Int32) ≤ 1 by decide), if_neg (show ¬ (0 : Int32) ≤ -1 by decide)]
        rw [if_neg sh, if_pos k1, if_pos (show (0 : Int32) = 0 from rfl), if_pos lt, if_pos rfl]
        rw [if_neg (show ¬ (1 : Int32) = (-1) by decide), if_pos k1, if_pos (show (0 : Int32) ≤ 1 by decide), if_neg (show ¬ (0 : Int32) ≤ -1 by decide)]
        rw [if_neg sh, if_pos k1, if_pos (show (0 : Int32) = 0 from rfl), if_pos lt, if_pos rfl]
        exact ⟨last, Bk⟩
      · have k3 : ¬ k < 0 := by
          intro w
          rw [Int32.lt_iff_toInt_lt] at w
          rw [Int32.le_iff_toInt_le] at k1
          refine k2 (Int32.toInt.inj ?_)
          rw [show (0 : Int32).toInt = 0 from rfl] at w
          rw [show (-1 : Int32).toInt = -1 from rfl] at k1 ⊢
          omega
        obtain ⟨N, hN, rfl⟩ := nI_of k3
        have n0 : (0 : Int32) ≤ nI N := nI_pos' hN
        have i1 : ¬ (1 : Int32) = (-1) := by decide
        have i2 : (0 : Int32) ≤ 1 := by decide
        by_cases NM : N < np
        · have lt : nI N < nI np := nI_lt NM (by omega)
          simp only [sh, k1, k2, lt, n0, i1, i2, reduceIte]
          exact ⟨io' N NM, Bk⟩
        · have lt : ¬ nI N < nI np := nI_nlt (by omega) hN
          simp only [sh, k1, k2, lt, n0, i1, i2, reduceIte]
          exact ⟨(yj_oFar hn (by omega) hN np 0 _ _ (by omega)).symm, Bc⟩
    · have i1 : ¬ (1 : Int32) = (-1) := by decide
      simp only [sh, k1, i1, reduceIte]
      exact ⟨trivial, yj_mk h⟩
  · rw [q3] at q2 ⊢
    by_cases k1 : (-1) ≤ k
    · by_cases s : f_X8_isShelf d = 0
      · have e : f_X8_bytesRefusal C d = (-1) := by unfold f_X8_bytesRefusal; rw [if_pos s]
        simp only [s, k1, e, reduceIte]
        exact ⟨trivial, yj_mk h⟩
      · by_cases e : f_X8_bytesRefusal C d = (-1)
        · have i0 : ¬ (-1 : Int32) = 0 := by decide
          simp only [s, k1, e, i0, reduceIte]
          exact ⟨trivial, yj_mk h⟩
        · simp only [s, k1, e, q1, q2, reduceIte]
          exact ⟨trivial, yj_mk h⟩
    · simp only [k1, reduceIte, ite_self]
      exact ⟨trivial, yj_mk h⟩
