/-! THE CLASS AGAINST THE REFERENCE: days gone through; seasons by draws -/
theorem yj_n01 : ((0 : Int32) = 1) = False := eq_false (by decide)
theorem yj_n02 : ((0 : Int32) = 2) = False := eq_false (by decide)
theorem yj_n03 : ((0 : Int32) = 3) = False := eq_false (by decide)
theorem yj_n10 : ((1 : Int32) = 0) = False := eq_false (by decide)
theorem yj_n12 : ((1 : Int32) = 2) = False := eq_false (by decide)
theorem yj_n13 : ((1 : Int32) = 3) = False := eq_false (by decide)
theorem yj_n20 : ((2 : Int32) = 0) = False := eq_false (by decide)
theorem yj_n21 : ((2 : Int32) = 1) = False := eq_false (by decide)
theorem yj_n23 : ((2 : Int32) = 3) = False := eq_false (by decide)
theorem yj_n30 : ((3 : Int32) = 0) = False := eq_false (by decide)
theorem yj_n31 : ((3 : Int32) = 1) = False := eq_false (by decide)
theorem yj_n32 : ((3 : Int32) = 2) = False := eq_false (by decide)
theorem yj_g20 : ((2 : Int32) ≤ 0) = False := eq_false (by decide)
theorem yj_g21 : ((2 : Int32) ≤ 1) = False := eq_false (by decide)
theorem yj_g22 : ((2 : Int32) ≤ 2) = True := eq_true (by decide)
theorem yj_g23 : ((2 : Int32) ≤ 3) = True := eq_true (by decide)
theorem yj_goes {np sz D m : Nat} {b : Bool} {CL RL : Nat → Nat → Int64} {sh one what : Int32} (hsh : sh.toNatClampNeg = D) (hm : m ≤ 60) (hv : ∀ j, j < 60 → CL (43 + 2 * D) j = RL 77 (60 * D + j) ∧ (RL 77 (60 * D + j)).toInt32.toInt64 = RL 77 (60 * D + j)) : ∀ (r t : Nat) (v : Int32) (C R : Nat → Nat → Int32), yj_T np 19 C R → yj_L sz b C R → C (42 + 2 * D) 2 = nI m → R 76 D = nI m → C 18 2 = v → ∃ R' v', yj_T np 19 (gx_X3_goThrough_3 b CL (42 + 2 * D) np sz m 0 r t C) R' ∧ yj_fC C (gx_X3_goThrough_3 b CL (42 + 2 * D) np sz m 0 r t C) ∧ yj_fR R R' ∧ gx_X3_goThrough_3 b CL (42 + 2 * D) np sz m 0 r t C 18 2 = v' ∧ gx_X9_behind_85 RL np sh one what r t v R = if what = 0 then (R' 63 one.toNatClampNeg, R') else if what = 1 then (R' 62 one.toNatClampNeg, R') else if what = 2 then (f_X9_judgesNow R' np, R') else (v', R')
  | 0, t, v, C, R, T, Lw, hc, hr, h3 => ⟨R, v, T, yj_fCrf C, yj_fRrf R, h3, rfl⟩
  | r + 1, t, v, C, R, T, Lw, hc, hr, h3 => by
    obtain ⟨n, q, -, g2, g3, g4, g5, g6, g7, g8, -⟩ := yj_cardL (np := np) (sz := sz) (b := b) hm hv False 8 0 0 C R rfl (by omega) T Lw hc hr (fun x => x.elim)
    have T2 := yj_day g5
    have F1 := yj_fCtr g6 (yj_fCed (gx_X3_holdCard_3 b CL (42 + 2 * D) sz m 0 8 0 C) np)
    have F2 := yj_fRtr g7 (yj_fRed (gx_X9_goesCard_4 RL np D 9 0 (nI 0) R).2 np)
    have e3 : m_X7_endDay (gx_X3_holdCard_3 b CL (42 + 2 * D) sz m 0 8 0 C) 19 np 18 2 = v + nI n := by
      rw [z_edF _ _ _ _ _ (by omega) (by omega) (by omega) (by omega), g8, h3, Nat.sub_zero]
    obtain ⟨R', v', k1, k2, k3, k4, k5⟩ := yj_goes hsh hm hv (what := what) (one := one) r (t + 1) (v + nI n) _ _ T2 (yj_fL Lw F1 F2) ((F1 _ _ (by unfold yj_kC; omega)).trans hc) ((F2 _ _ (Or.inl (by unfold yj_kR; omega))).trans hr) e3
    refine ⟨R', v', k1, yj_fCtr F1 k2, yj_fRtr F2 k3, k4, ?_⟩
    rw [← k5, gx_X9_behind_85, hsh]
    have e : f_X9_goesCard R RL np D = nI (16 * q + n) := g4
    rw [e, (yj_rem16 g3 g2).1]
    rfl
theorem yj_s_behind {b : Bool} {np nq dn km tm sz bo rn : Nat} {C R : Nat → Nat → Int32} {CL RL : Nat → Nat → Int64} (h : yj_J b np nq dn km tm sz bo rn C R CL RL) (d n one what : Int32) : f_X8_behind b C CL np sz d n one what = f_X9_behind R RL np d n one what ∧ yj_B b (m_X8_behind b C CL np sz d n one what) (m_X9_behind R RL np d n one what) CL RL := by
  have hn := yj_Y2 h.1
  have h' := yj_begJ h np
  unfold f_X8_behind m_X8_behind f_X9_behind m_X9_behind
  rw [yj_isShelf, yj_has hn h.1.1.1, yj_w020, yj_w03]
  have bytes := yj_bytes h d
  by_cases o : f_X9_isShelf d = 0
  · have r1 : f_X9_rowIs R d 0 = (-1) := by
      rcases bytes with ⟨e1, e2, e3⟩ | ⟨-, -, e3, -⟩
      · exact e3.mpr o
      · exact absurd o e3
    simp only [o, r1, reduceIte, ite_self]
    exact ⟨trivial, yj_mk h⟩
  · have r1 : ¬ f_X9_rowIs R d 0 = (-1) := by
      rcases bytes with ⟨e1, e2, e3⟩ | ⟨-, e2, -, -⟩
      · exact fun q => o (e3.mp q)
      · rw [e2]; decide
    by_cases a1 : n < 0
    · simp only [o, r1, a1, reduceIte, ite_self]; exact ⟨trivial, yj_mk h⟩
    · by_cases a2 : 20 < n
      · simp only [o, r1, a1, a2, reduceIte, ite_self]; exact ⟨trivial, yj_mk h⟩
      · have main : ∀ D m : Nat, D < 6 → d = nI D → m ≤ 60 → C (42 + 2 * D) 2 = nI m → R 76 D = nI m → (∀ j, j < 60 → CL (43 + 2 * D) j = RL 77 (60 * D + j) ∧ (RL 77 (60 * D + j)).toInt32.toInt64 = RL 77 (60 * D + j)) → ∃ R' v', yj_T np 19 (m_X3_goThrough b (m_X3_begin C np) CL (42 + 2 * d.toNatClampNeg) np sz (C (42 + 2 * d.toNatClampNeg) 2).toNatClampNeg n.toNatClampNeg 0) R' ∧ yj_B b (m_X3_goThrough b (m_X3_begin C np) CL (42 + 2 * d.toNatClampNeg) np sz (C (42 + 2 * d.toNatClampNeg) 2).toNatClampNeg n.toNatClampNeg 0) R' CL RL ∧ m_X3_goThrough b (m_X3_begin C np) CL (42 + 2 * d.toNatClampNeg) np sz (C (42 + 2 * d.toNatClampNeg) 2).toNatClampNeg n.toNatClampNeg 0 18 2 = v' ∧ gx_X9_behind_85 RL np d one what n.toNatClampNeg 0 0 (m_X9_begins R np) = if what = 0 then (R' 63 one.toNatClampNeg, R') else if what = 1 then (R' 62 one.toNatClampNeg, R') else if what = 2 then (f_X9_judgesNow R' np, R') else (v', R') := by
          intro D m hD hd hm cm rm hv
          have hsh : d.toNatClampNeg = D := by rw [hd, nI_clamp (by omega)]
          rw [hsh, cm, nI_clamp (by omega)]
          have F1 := yj_bgC C np
          have F2 := yj_bgR R np
          obtain ⟨R', v', k1, k2, k3, k4, k5⟩ := yj_goes hsh hm hv (what := what) (one := one) n.toNatClampNeg 0 0 (m_X3_begin C np) (m_X9_begins R np) (yj_Y19 h.1) (yj_fL h.2.2.2.2.1 F1 F2) ((F1 _ _ (by unfold yj_kC; omega)).trans cm) ((F2 _ _ (Or.inl (by unfold yj_kR; omega))).trans rm) (by rw [yj_bg18]; rfl)
          exact ⟨R', v', k1, yj_mk (yj_fJ h (yj_fCtr F1 k2) (yj_fRtr F2 k3)), k4, k5⟩
        by_cases w0 : what = 0
        · subst w0
          have win : (if (0 : Int32) < 0 then (0 : Int32) else if 3 < (0 : Int32) then 0 else 1) = 1 := by decide
          by_cases a3 : f_X9_isOne np one.toInt64 = 0
          · simp only [o, r1, a1, a2, a3, win, yj_n01, yj_n02, yj_n03, yj_g20, yj_d10, reduceIte, ite_self]; exact ⟨trivial, yj_mk h⟩
          · rcases bytes with ⟨e1, e2, -⟩ | ⟨e1, e2, -, D, m, hD, hd, hm, cm, rm, hv⟩
            · have m0 : ¬ f_X8_bytesRefusal C d = 0 := fun q => by rw [← e1, q] at e2; exact absurd e2 (by decide)
              have m1 : ¬ 0 ≤ f_X9_rowIs R d 0 := Int32.not_le.mpr e2
              simp only [o, r1, a1, a2, a3, win, m0, m1, yj_n01, yj_n02, yj_n03, yj_g20, yj_d10, reduceIte, ite_self]; exact ⟨e1, yj_mk h⟩
            · have m1 : (0 : Int32) ≤ 1 := by decide
              obtain ⟨R', v', T, B, k3, k5⟩ := main D m hD hd hm cm rm hv
              have r1 : ¬ (1 : Int32) = (-1) := by decide
              rw [e1, e2]
              simp only [yj_n01, yj_n02, yj_n03, reduceIte] at k5
              simp only [o, r1, a1, a2, a3, win, m1, k5, yj_n01, yj_n02, yj_n03, yj_g20, yj_d10, reduceIte, ite_self]
              obtain ⟨x1, x2⟩ := yj_one hn a3
              exact ⟨(T.2.1 _ x2).1.2.2.1, B⟩
        · skip
          by_cases w1 : what = 1
          · subst w1
            have win : (if (1 : Int32) < 0 then (0 : Int32) else if 3 < (1 : Int32) then 0 else 1) = 1 := by decide
            by_cases a3 : f_X9_isOne np one.toInt64 = 0
            · simp only [o, r1, a1, a2, a3, win, yj_n10, yj_n12, yj_n13, yj_g21, yj_d10, reduceIte, ite_self]; exact ⟨trivial, yj_mk h⟩
            · rcases bytes with ⟨e1, e2, -⟩ | ⟨e1, e2, -, D, m, hD, hd, hm, cm, rm, hv⟩
              · have m0 : ¬ f_X8_bytesRefusal C d = 0 := fun q => by rw [← e1, q] at e2; exact absurd e2 (by decide)
                have m1 : ¬ 0 ≤ f_X9_rowIs R d 0 := Int32.not_le.mpr e2
                simp only [o, r1, a1, a2, a3, win, m0, m1, yj_n10, yj_n12, yj_n13, yj_g21, yj_d10, reduceIte, ite_self]; exact ⟨e1, yj_mk h⟩
              · have m1 : (0 : Int32) ≤ 1 := by decide
                obtain ⟨R', v', T, B, k3, k5⟩ := main D m hD hd hm cm rm hv
                have r1 : ¬ (1 : Int32) = (-1) := by decide
                rw [e1, e2]
                simp only [yj_n10, yj_n12, yj_n13, reduceIte] at k5
                simp only [o, r1, a1, a2, a3, win, m1, k5, yj_n10, yj_n12, yj_n13, yj_g21, yj_d10, reduceIte, ite_self]
                obtain ⟨x1, x2⟩ := yj_one hn a3
                exact ⟨(T.2.1 _ x2).1.2.1, B⟩
          · skip
            by_cases w2 : what = 2
            · subst w2
              have win : (if (2 : Int32) < 0 then (0 : Int32) else if 3 < (2 : Int32) then 0 else 1) = 1 := by decide
              by_cases a3 : ¬ one = 0
              · simp only [o, r1, a1, a2, a3, win, yj_n20, yj_n21, yj_n23, yj_g22, yj_d10, reduceIte, ite_self]; exact ⟨trivial, yj_mk h⟩
              · have a3 : one = 0 := Decidable.of_not_not a3
                subst a3
                rcases bytes with ⟨e1, e2, -⟩ | ⟨e1, e2, -, D, m, hD, hd, hm, cm, rm, hv⟩
                · have m0 : ¬ f_X8_bytesRefusal C d = 0 := fun q => by rw [← e1, q] at e2; exact absurd e2 (by decide)
                  have m1 : ¬ 0 ≤ f_X9_rowIs R d 0 := Int32.not_le.mpr e2
                  simp only [o, r1, a1, a2, win, m0, m1, yj_n20, yj_n21, yj_n23, yj_g22, yj_d10, reduceIte, ite_self]; exact ⟨e1, yj_mk h⟩
                · have m1 : (0 : Int32) ≤ 1 := by decide
                  obtain ⟨R', v', T, B, k3, k5⟩ := main D m hD hd hm cm rm hv
                  have r1 : ¬ (1 : Int32) = (-1) := by decide
                  rw [e1, e2]
                  simp only [yj_n20, yj_n21, yj_n23, reduceIte] at k5
                  simp only [o, r1, a1, a2, win, m1, k5, yj_n20, yj_n21, yj_n23, yj_g22, yj_d10, reduceIte, ite_self]
                  exact ⟨yj_judges T, B⟩
            · skip
              by_cases w3 : what = 3
              · subst w3
                have win : (if (3 : Int32) < 0 then (0 : Int32) else if 3 < (3 : Int32) then 0 else 1) = 1 := by decide
                by_cases a3 : ¬ one = 0
                · simp only [o, r1, a1, a2, a3, win, yj_n30, yj_n31, yj_n32, yj_g23, yj_d10, reduceIte, ite_self]; exact ⟨trivial, yj_mk h⟩
                · have a3 : one = 0 := Decidable.of_not_not a3
                  subst a3
                  rcases bytes with ⟨e1, e2, -⟩ | ⟨e1, e2, -, D, m, hD, hd, hm, cm, rm, hv⟩
                  · have m0 : ¬ f_X8_bytesRefusal C d = 0 := fun q => by rw [← e1, q] at e2; exact absurd e2 (by decide)
                    have m1 : ¬ 0 ≤ f_X9_rowIs R d 0 := Int32.not_le.mpr e2
                    simp only [o, r1, a1, a2, win, m0, m1, yj_n30, yj_n31, yj_n32, yj_g23, yj_d10, reduceIte, ite_self]; exact ⟨e1, yj_mk h⟩
                  · have m1 : (0 : Int32) ≤ 1 := by decide
                    obtain ⟨R', v', T, B, k3, k5⟩ := main D m hD hd hm cm rm hv
                    have r1 : ¬ (1 : Int32) = (-1) := by decide
                    rw [e1, e2]
                    simp only [yj_n30, yj_n31, yj_n32, reduceIte] at k5
                    simp only [o, r1, a1, a2, win, m1, k5, yj_n30, yj_n31, yj_n32, yj_g23, yj_d10, reduceIte, ite_self]
                    exact ⟨k3, B⟩
              · skip
                have win : (if what < 0 then (0 : Int32) else if 3 < what then 0 else 1) = 0 := by
                  by_cases x : what < 0
                  · rw [if_pos x]
                  · rw [if_neg x]
                    by_cases y : 3 < what
                    · rw [if_pos y]
                    · obtain ⟨k, hk, rfl⟩ := yj_rc (N := 3) (by omega) rfl x y
                      rcases yj_k4 hk with rfl | rfl | rfl | rfl
                      · exact absurd rfl w0
                      · exact absurd rfl w1
                      · exact absurd rfl w2
                      · exact absurd rfl w3
                simp only [o, r1, a1, a2, w0, w1, w2, w3, win, yj_d10, reduceIte, ite_self]; exact ⟨trivial, yj_mk h⟩
theorem yj_edS (C : Nat → Nat → Int32) (np : Nat) : m_X7_endDay C 19 np 19 6 = C 19 6 ∧ m_X7_endDay C 19 np 18 2 = C 18 2 ∧ ∀ j, m_X7_endDay C 19 np 25 j = C 25 j := by
  refine ⟨?_, z_edF _ _ _ _ _ (by omega) (by omega) (by omega) (by omega), fun j => z_edF _ _ _ _ _ (by omega) (by omega) (by omega) (by omega)⟩
  unfold m_X7_endDay
  rw [z_up_j _ _ (by decide)]
  exact z_edG C 19 19 6 (by omega) (by omega) (by omega) np
theorem yj_neN {o a : Nat} (ho : o < 10) (ha : a < 10) : nI a = nI o ↔ o = a := by
  rw [nI_eq (by omega) (by omega)]
  exact ⟨fun q => q.symm, fun q => q.symm⟩
/-- a card by draws -/
theorem yj_drwL {np sz D m : Nat} {b : Bool} {CL RL : Nat → Nat → Int64} {sh one : Int32} (hsh : sh.toNatClampNeg = D) (hm : m ≤ 60) (hv : ∀ j, j < 60 → CL (43 + 2 * D) j = RL 77 (60 * D + j) ∧ (RL 77 (60 * D + j)).toInt32.toInt64 = RL 77 (60 * D + j)) : ∀ (r t : Nat) (z al ow : Int32) (C R : Nat → Nat → Int32), t + r = 8 → yj_T np 19 C R → yj_L sz b C R → C (42 + 2 * D) 2 = nI m → R 76 D = nI m → C 19 6 = z → C 18 2 = al → (∀ o, o < 10 → one = nI o → C 25 o = ow) → yj_T np 19 (gx_X3_holdCard_3 b CL (42 + 2 * D) sz m 1 r t C) (gw_X9_drawn_118 RL np sh one (r + 1) t z al ow R).2.2.2 ∧ yj_fC C (gx_X3_holdCard_3 b CL (42 + 2 * D) sz m 1 r t C) ∧ yj_fR R (gw_X9_drawn_118 RL np sh one (r + 1) t z al ow R).2.2.2 ∧ gx_X3_holdCard_3 b CL (42 + 2 * D) sz m 1 r t C 19 6 = (gw_X9_drawn_118 RL np sh one (r + 1) t z al ow R).1 ∧ gx_X3_holdCard_3 b CL (42 + 2 * D) sz m 1 r t C 18 2 = (gw_X9_drawn_118 RL np sh one (r + 1) t z al ow R).2.1 ∧ ∀ o, o < 10 → one = nI o → gx_X3_holdCard_3 b CL (42 + 2 * D) sz m 1 r t C 25 o = (gw_X9_drawn_118 RL np sh one (r + 1) t z al ow R).2.2.1 := by
  intro r
  induction r with
  | zero =>
    intro t z al ow C R ht T Lw hc hr h6 h3 ho
    have nx : f_X9_isNext R RL np D t = 0 := by
      unfold f_X9_isNext
      rw [show t = 8 by omega, if_pos (by decide)]
    unfold gx_X3_holdCard_3 gw_X9_drawn_118
    rw [hsh, if_pos nx]
    exact ⟨T, yj_fCrf C, yj_fRrf R, h6, h3, ho⟩
  | succ r ih =>
    intro t z al ow C R ht T Lw hc hr h6 h3 ho
    have hn := T.1.2.2
    unfold gx_X3_holdCard_3
    rw [gw_X9_drawn_118, hsh]
    rcases yj_next T hm hc hr hv (show t < 8 by omega) with ⟨nx, q1 | ⟨q1, q2⟩⟩ | ⟨nx, q1, q2, a, e, u, ⟨ha, he, hu⟩, hd, ⟨v0, v1, v2⟩, t0, t1, t2⟩
    · rw [if_pos nx, if_pos q1]
      exact ⟨T, yj_fCrf C, yj_fRrf R, h6, h3, ho⟩
    · rw [if_pos nx, if_neg q1, if_pos q2]
      exact ⟨T, yj_fCrf C, yj_fRrf R, h6, h3, ho⟩
    · have o196 : m_X1_oddsOn b C sz 19 (nI a) (nI e) (nI u) 19 6 = z := (z_ooO _ _ _ _ _ _ _ _ _ (by omega) (by omega)).trans h6
      rw [if_neg (show ¬ f_X9_isNext R RL np D t = 0 by rw [nx]; decide), if_neg q1, if_neg q2, v0, v1, v2, t0, t1, t2, nI_clamp (by omega), nI_clamp (by omega), nI_clamp (by omega), yj_odds T Lw (Or.inr rfl) ha he hu hd, if_neg (show ¬ (1 : Int32) = 0 by decide)]
      unfold f_X7_draw m_X7_draw
      rw [o196]
      generalize z * 1103515245 + 12345 = z'
      have T2 := yj_oddsT (b := b) (sz := sz) T (Or.inr rfl) 19 (nI a) (nI e) (nI u) a e u
      have o18 : ∀ x j, x ≠ 13 → x ≠ 17 → m_X1_oddsOn b C sz 19 (nI a) (nI e) (nI u) x j = C x j := fun x j y w => z_ooO _ _ _ _ _ _ _ _ _ w (Or.inl y)
      have T2' : yj_T np 19 (z_up (m_X1_oddsOn b C sz 19 (nI a) (nI e) (nI u)) 19 6 z') (m_X9_oddsOf R a e u) := yj_Tf T2 (fun x j y w => z_up_k _ _ (by omega)) (z_up_j _ _ (by omega)) (z_up_j _ _ (by omega)) rfl rfl (fun _ _ => rfl) (fun _ _ _ _ => rfl)
      have F0 : yj_fC (m_X1_oddsOn b C sz 19 (nI a) (nI e) (nI u)) (z_up (m_X1_oddsOn b C sz 19 (nI a) (nI e) (nI u)) 19 6 z') := fun x j q => z_up_k _ _ (by unfold yj_kC at q; omega)
      have go : ∀ (w : Int32) (ow' : Int32), (∀ o, o < 10 → one = nI o → (if o = (if w = 0 then e else a) then ow + 1 else ow) = ow') → yj_T np 19 (gx_X3_holdCard_3 b CL (42 + 2 * D) sz m 1 r (t + 1) (m_X3_settle (z_up (m_X1_oddsOn b C sz 19 (nI a) (nI e) (nI u)) 19 6 z') (if w = 0 then e else a) (if w = 0 then a else e) u)) (gw_X9_drawn_118 RL np sh one (r + 1) (t + 1) z' (al + 1) ow' (m_X9_isHeld (m_X9_oddsOf R a e u) a e u w)).2.2.2 ∧ yj_fC C (gx_X3_holdCard_3 b CL (42 + 2 * D) sz m 1 r (t + 1) (m_X3_settle (z_up (m_X1_oddsOn b C sz 19 (nI a) (nI e) (nI u)) 19 6 z') (if w = 0 then e else a) (if w = 0 then a else e) u)) ∧ yj_fR R (gw_X9_drawn_118 RL np sh one (r + 1) (t + 1) z' (al + 1) ow' (m_X9_isHeld (m_X9_oddsOf R a e u) a e u w)).2.2.2 ∧ gx_X3_holdCard_3 b CL (42 + 2 * D) sz m 1 r (t + 1) (m_X3_settle (z_up (m_X1_oddsOn b C sz 19 (nI a) (nI e) (nI u)) 19 6 z') (if w = 0 then e else a) (if w = 0 then a else e) u) 19 6 = (gw_X9_drawn_118 RL np sh one (r + 1) (t + 1) z' (al + 1) ow' (m_X9_isHeld (m_X9_oddsOf R a e u) a e u w)).1 ∧ gx_X3_holdCard_3 b CL (42 + 2 * D) sz m 1 r (t + 1) (m_X3_settle (z_up (m_X1_oddsOn b C sz 19 (nI a) (nI e) (nI u)) 19 6 z') (if w = 0 then e else a) (if w = 0 then a else e) u) 18 2 = (gw_X9_drawn_118 RL np sh one (r + 1) (t + 1) z' (al + 1) ow' (m_X9_isHeld (m_X9_oddsOf R a e u) a e u w)).2.1 ∧ ∀ o, o < 10 → one = nI o → gx_X3_holdCard_3 b CL (42 + 2 * D) sz m 1 r (t + 1) (m_X3_settle (z_up (m_X1_oddsOn b C sz 19 (nI a) (nI e) (nI u)) 19 6 z') (if w = 0 then e else a) (if w = 0 then a else e) u) 25 o = (gw_X9_drawn_118 RL np sh one (r + 1) (t + 1) z' (al + 1) ow' (m_X9_isHeld (m_X9_oddsOf R a e u) a e u w)).2.2.1 := by
        intro w ow' how
        have T3 := yj_stT T2' hd w
        have F1 := yj_fCtr (yj_fCoo b C sz 19 (nI a) (nI e) (nI u)) (yj_fCtr F0 (yj_fCst (z_up (m_X1_oddsOn b C sz 19 (nI a) (nI e) (nI u)) 19 6 z') (if w = 0 then e else a) (if w = 0 then a else e) u))
        have F2 := yj_fRtr (yj_fRoo R a e u) (yj_fRih (m_X9_oddsOf R a e u) a e u w)
        obtain ⟨s3, -, s25, s19⟩ := yj_st3 (z_up (m_X1_oddsOn b C sz 19 (nI a) (nI e) (nI u)) 19 6 z') (if w = 0 then e else a) (if w = 0 then a else e) u
        have hw10 : (if w = 0 then e else a) < 10 := by split <;> omega
        generalize (if w = 0 then a else e) = l at T3 F1 s3 s25 s19 ⊢
        generalize (if w = 0 then e else a) = wn at T3 F1 s3 s25 s19 how hw10 ⊢
        have K := ih (t + 1) z' (al + 1) ow' _ _ (by omega) T3 (yj_fL Lw F1 F2) ((F1 _ _ (by unfold yj_kC; omega)).trans hc) ((F2 _ _ (Or.inl (by unfold yj_kR; omega))).trans hr) (by rw [s19, z_up_s]) (by rw [s3, z_up_k _ _ (by omega), o18 18 2 (by omega) (by omega), h3]) (fun o q1 q2 => by
          rw [s25, z_up_k _ _ (by omega), z_up_k _ _ (by omega), o18 25 wn (by omega) (by omega), o18 25 o (by omega) (by omega), ← how o q1 q2]
          by_cases x : o = wn
          · rw [if_pos x, if_pos x, ← x, ho o q1 q2]
          · rw [if_neg x, if_neg x, ho o q1 q2])
        exact ⟨K.1, yj_fCtr F1 K.2.1, yj_fRtr F2 K.2.2.1, K.2.2.2⟩
      by_cases lose : f_X9_oddsOf R a e u ≤ (z'.toUInt32 >>> ((8 : Int32).toUInt32 &&& Int32.toUInt32 31)).toInt32 - (z'.toUInt32 >>> ((8 : Int32).toUInt32 &&& Int32.toUInt32 31)).toInt32 / 12 * 12
      · rw [if_pos lose, if_pos lose]
        by_cases w1 : nI e = one
        · rw [if_pos w1]
          exact go 0 (ow + 1) (fun o q1 q2 => by rw [if_pos (show (0 : Int32) = 0 from rfl), if_pos ((yj_neN q1 (by omega)).mp (w1.trans q2))])
        · rw [if_neg w1]
          exact go 0 (ow + 0) (fun o q1 q2 => by rw [if_pos (show (0 : Int32) = 0 from rfl), if_neg (fun x => w1 (by rw [q2, x])), Int32.add_zero])
      · rw [if_neg lose, if_neg lose]
        by_cases w1 : nI a = one
        · rw [if_pos w1]
          exact go 1 (ow + 1) (fun o q1 q2 => by rw [if_neg (show ¬ (1 : Int32) = 0 by decide), if_pos ((yj_neN q1 (by omega)).mp (w1.trans q2))])
        · rw [if_neg w1]
          exact go 1 (ow + 0) (fun o q1 q2 => by rw [if_neg (show ¬ (1 : Int32) = 0 by decide), if_neg (fun x => w1 (by rw [q2, x])), Int32.add_zero])
/-- days by draws -/
theorem yj_drwD {np sz D m : Nat} {b : Bool} {CL RL : Nat → Nat → Int64} {sh one : Int32} (hsh : sh.toNatClampNeg = D) (hm : m ≤ 60) (hv : ∀ j, j < 60 → CL (43 + 2 * D) j = RL 77 (60 * D + j) ∧ (RL 77 (60 * D + j)).toInt32.toInt64 = RL 77 (60 * D + j)) : ∀ (r t : Nat) (z al ow : Int32) (C R : Nat → Nat → Int32), yj_T np 19 C R → yj_L sz b C R → C (42 + 2 * D) 2 = nI m → R 76 D = nI m → C 19 6 = z → C 18 2 = al → (∀ o, o < 10 → one = nI o → C 25 o = ow) → yj_fC C (gx_X3_goThrough_3 b CL (42 + 2 * D) np sz m 1 r t C) ∧ yj_fR R (gw_X9_drawn_106 RL np sh one r t z al ow R).2.2.2 ∧ gx_X3_goThrough_3 b CL (42 + 2 * D) np sz m 1 r t C 19 6 = (gw_X9_drawn_106 RL np sh one r t z al ow R).1 ∧ gx_X3_goThrough_3 b CL (42 + 2 * D) np sz m 1 r t C 18 2 = (gw_X9_drawn_106 RL np sh one r t z al ow R).2.1 ∧ ∀ o, o < 10 → one = nI o → gx_X3_goThrough_3 b CL (42 + 2 * D) np sz m 1 r t C 25 o = (gw_X9_drawn_106 RL np sh one r t z al ow R).2.2.1
  | 0, t, z, al, ow, C, R, T, Lw, hc, hr, h6, h3, ho => ⟨yj_fCrf C, yj_fRrf R, h6, h3, ho⟩
  | r + 1, t, z, al, ow, C, R, T, Lw, hc, hr, h6, h3, ho => by
    have K := yj_drwL (sz := sz) (b := b) (one := one) hsh hm hv 8 0 z al ow C R rfl T Lw hc hr h6 h3 ho
    unfold gx_X3_goThrough_3 gw_X9_drawn_106 m_X3_holdCard
    generalize gx_X3_holdCard_3 b CL (42 + 2 * D) sz m 1 8 0 C = C2 at K ⊢
    generalize gw_X9_drawn_118 RL np sh one 9 0 z al ow R = X at K ⊢
    obtain ⟨k1, k2, k3, k4, k5, k6⟩ := K
    have T2 := yj_day k1
    have F1 := yj_fCtr k2 (yj_fCed C2 np)
    have F2 := yj_fRtr k3 (yj_fRed X.2.2.2 np)
    obtain ⟨d1, d2, d3⟩ := yj_edS C2 np
    have IH := yj_drwD hsh hm hv (one := one) r (t + 1) X.1 X.2.1 X.2.2.1 _ _ T2 (yj_fL Lw F1 F2) ((F1 _ _ (by unfold yj_kC; omega)).trans hc) ((F2 _ _ (Or.inl (by unfold yj_kR; omega))).trans hr) (d1.trans k4) (d2.trans k5) (fun o q1 q2 => (d3 o).trans (k6 o q1 q2))
    exact ⟨yj_fCtr F1 IH.1, yj_fRtr F2 IH.2.1, IH.2.2⟩
/-- seasons by draws -/
theorem yj_drwS {b : Bool} {np nq dn km tm sz bo rn D m : Nat} {CL RL : Nat → Nat → Int64} {sh nm one : Int32} {C0 : Nat → Nat → Int32} (hsh : sh.toNatClampNeg = D) (hD : D < 6) (hm : m ≤ 60) (hv : ∀ j, j < 60 → CL (43 + 2 * D) j = RL 77 (60 * D + j) ∧ (RL 77 (60 * D + j)).toInt32.toInt64 = RL 77 (60 * D + j)) (hc0 : C0 (42 + 2 * D) 2 = nI m) (h1 : one = (-1) ∨ ∃ o, o < 10 ∧ one = nI o) : ∀ (r t : Nat) (z al ow : Int32) (C R : Nat → Nat → Int32), yj_J b np nq dn km tm sz bo rn C R CL RL → C (42 + 2 * D) 2 = nI m → R 76 D = nI m → C 19 6 = z → C 18 2 = al → (∀ o, o < 10 → one = nI o → C 25 o = ow) → (gx_X8_drawn_105 b C0 CL np sz sh nm one r t C).1 = (gx_X9_drawn_90 RL np sh nm one r t z al ow R).1 ∧ yj_B b (gx_X8_drawn_105 b C0 CL np sz sh nm one r t C).2 (gx_X9_drawn_90 RL np sh nm one r t z al ow R).2 CL RL
  | 0, t, z, al, ow, C, R, h, hc, hr, h6, h3, ho => by
    unfold gx_X8_drawn_105 gx_X9_drawn_90
    rcases h1 with rfl | ⟨o, q1, rfl⟩
    · rw [if_pos rfl, if_neg (by decide)]
      exact ⟨h3, yj_mk h⟩
    · have n1 : ¬ nI o = (-1) := fun q => nI_pos (n := o) (by omega) (by rw [q]; decide)
      rw [if_neg n1, if_pos (nI_pos' (by omega)), nI_clamp (by omega)]
      exact ⟨ho o q1 rfl, yj_mk h⟩
  | r + 1, t, z, al, ow, C, R, h, hc, hr, h6, h3, ho => by
    have hn := yj_Y2 h.1
    have F1 : yj_fC C (m_X3_beginAnew C np) := fun a j q => yq_baF C np a j (by unfold yj_kC at q; unfold yq_o; omega)
    have F2 := yj_bgR R np
    obtain ⟨a0, a1, a2, a3⟩ := yj_cp19 C np hn
    have T : yj_T np 19 (m_X3_beginAnew C np) (m_X9_begins R np) := by
      refine yj_Y19a h.1 ?_ ?_ (fun j hj => ?_)
      · unfold m_X3_beginAnew; rw [z_up_j _ _ (by omega)]; exact a0
      · unfold m_X3_beginAnew; rw [z_up_j _ _ (by omega)]; exact a2
      · unfold m_X3_beginAnew
        rw [z_up_k _ _ (by omega), z_up_k _ _ (by omega), z_up_k _ _ (by omega), z_up_k _ _ (by omega)]; exact a1 j hj
    have b6 : m_X3_beginAnew C np 19 6 = z := by unfold m_X3_beginAnew; rw [z_up_s]; exact h6
    have bo' : ∀ x j, x < 19 ∨ 24 < x → m_X3_beginAnew C np x j = C x j := fun x j q => by
      unfold m_X3_beginAnew; rw [z_up_k _ _ (by omega)]; exact z_cpF C np x j q
    have K := yj_drwD (b := b) (sz := sz) (one := one) hsh hm hv (nm - nm / 100 * 100).toNatClampNeg 0 z al ow _ _ T (yj_fL h.2.2.2.2.1 F1 F2) ((F1 _ _ (by unfold yj_kC; omega)).trans hc) ((F2 _ _ (Or.inl (by unfold yj_kR; omega))).trans hr) b6 ((bo' 18 2 (by omega)).trans h3) (fun o q1 q2 => (bo' 25 o (by omega)).trans (ho o q1 q2))
    unfold gx_X8_drawn_105 gx_X9_drawn_90 m_X3_goThrough
    rw [hsh, hc0, nI_clamp (by omega)]
    generalize gx_X3_goThrough_3 b CL (42 + 2 * D) np sz m 1 (nm - nm / 100 * 100).toNatClampNeg 0 (m_X3_beginAnew C np) = C2 at K ⊢
    generalize gw_X9_drawn_106 RL np sh one (nm - nm / 100 * 100).toNatClampNeg 0 z al ow (m_X9_begins R np) = X at K ⊢
    obtain ⟨k1, k2, k3, k4, k5⟩ := K
    exact yj_drwS hsh hD hm hv hc0 h1 r (t + 1) X.1 X.2.1 X.2.2.1 C2 X.2.2.2 (yj_fJ h (yj_fCtr F1 k1) (yj_fRtr F2 k2)) ((k1 _ _ (by unfold yj_kC; omega)).trans ((F1 _ _ (by unfold yj_kC; omega)).trans hc)) ((k2 _ _ (Or.inl (by unfold yj_kR; omega))).trans ((F2 _ _ (Or.inl (by unfold yj_kR; omega))).trans hr)) k3 k4 k5
theorem yj_s_drawn {b : Bool} {np nq dn km tm sz bo rn : Nat} {C R : Nat → Nat → Int32} {CL RL : Nat → Nat → Int64} (h : yj_J b np nq dn km tm sz bo rn C R CL RL) (seed d nm one : Int32) : f_X8_drawn b C CL np sz seed d nm one = f_X9_drawn R RL np seed d nm one ∧ yj_B b (m_X8_drawn b C CL np sz seed d nm one) (m_X9_drawn R RL np seed d nm one) CL RL := by
  have hn := yj_Y2 h.1
  unfold f_X8_drawn f_X9_drawn m_X8_drawn m_X9_drawn
  rw [yj_isShelf, yj_has hn h.1.1.1, yj_w130, yj_w120]
  have bytes := yj_bytes h d
  by_cases o : f_X9_isShelf d = 0
  · have r1 : f_X9_rowIs R d 0 = (-1) := by
      rcases bytes with ⟨e1, e2, e3⟩ | ⟨-, -, e3, -⟩
      · exact e3.mpr o
      · exact absurd o e3
    simp only [o, r1, reduceIte]
    exact ⟨trivial, yj_mk h⟩
  · have r1 : ¬ f_X9_rowIs R d 0 = (-1) := by
      rcases bytes with ⟨e1, e2, e3⟩ | ⟨-, e2, -, -⟩
      · exact fun q => o (e3.mp q)
      · rw [e2]; decide
    by_cases s1 : nm / 100 < 1
    · simp only [o, r1, s1, reduceIte, ite_self]; exact ⟨trivial, yj_mk h⟩
    · have nn : ¬ nm < 0 := by
        intro q
        apply s1
        rw [Int32.lt_iff_toInt_lt] at q ⊢
        rw [Int32.toInt_div_of_ne_right _ _ (by decide), show (100 : Int32).toInt = 100 from rfl, show (1 : Int32).toInt = 1 from rfl]
        rw [show (0 : Int32).toInt = 0 from rfl] at q
        have e1 : nm.toInt.tdiv 100 = -((-nm.toInt).tdiv 100) := by rw [Int.neg_tdiv]; omega
        have e2 : (-nm.toInt).tdiv 100 = (-nm.toInt) / 100 := Int.tdiv_eq_ediv_of_nonneg (by omega)
        omega
      by_cases s2 : 30 < nm / 100
      · simp only [o, r1, nn, s1, s2, reduceIte, ite_self]; exact ⟨trivial, yj_mk h⟩
      · by_cases s3 : nm - nm / 100 * 100 < 1
        · simp only [o, r1, nn, s1, s2, s3, yj_d10, reduceIte, ite_self]; exact ⟨trivial, yj_mk h⟩
        · by_cases s4 : 20 < nm - nm / 100 * 100
          · simp only [o, r1, nn, s1, s2, s3, s4, yj_d10, reduceIte, ite_self]; exact ⟨trivial, yj_mk h⟩
          · have fin : (one = (-1) ∨ ∃ o, o < 10 ∧ one = nI o) → f_X8_bytesRefusal C d = 0 → f_X9_rowIs R d 0 = 1 → (∃ D m, D < 6 ∧ d = nI D ∧ m ≤ 60 ∧ C (42 + 2 * D) 2 = nI m ∧ R 76 D = nI m ∧ ∀ j, j < 60 → CL (43 + 2 * D) j = RL 77 (60 * D + j) ∧ (RL 77 (60 * D + j)).toInt32.toInt64 = RL 77 (60 * D + j)) → (gx_X8_drawn_105 b C CL np sz d nm one ((nm / 100).toNatClampNeg) 0 (z_up (m_X3_begin C np) 19 6 seed)).1 = (gx_X9_drawn_90 RL np d nm one ((nm / 100).toNatClampNeg) 0 seed 0 0 R).1 ∧ yj_B b (gx_X8_drawn_105 b C CL np sz d nm one ((nm / 100).toNatClampNeg) 0 (z_up (m_X3_begin C np) 19 6 seed)).2 (gx_X9_drawn_90 RL np d nm one ((nm / 100).toNatClampNeg) 0 seed 0 0 R).2 CL RL := by
              rintro h1 - - ⟨D, m, hD, hd, hm, cm, rm, hv⟩
              have hsh : d.toNatClampNeg = D := by rw [hd, nI_clamp (by omega)]
              have F1 : yj_fC C (z_up (m_X3_begin C np) 19 6 seed) := fun a j q => (z_up_k _ _ (by unfold yj_kC at q; omega)).trans (yj_bgC C np a j q)
              refine yj_drwS hsh hD hm hv cm h1 _ 0 seed 0 0 _ R (yj_fJ h F1 (yj_fRrf R)) ((F1 _ _ (by unfold yj_kC; omega)).trans cm) rm (z_up_s _ _ _ _) ?_ (fun o q1 _ => ?_)
              · rw [z_up_k _ _ (by omega), yj_bg18]; rfl
              · rw [z_up_k _ _ (by omega)]; exact yj_bg25 C np 10 o q1
            by_cases m1 : one = (-1)
            · rcases bytes with ⟨e1, e2, -⟩ | ⟨e1, e2, -, ex⟩
              · have m0 : ¬ f_X8_bytesRefusal C d = 0 := fun q => by rw [← e1, q] at e2; exact absurd e2 (by decide)
                have m2 : ¬ 0 ≤ f_X9_rowIs R d 0 := Int32.not_le.mpr e2
                simp only [o, r1, nn, s1, s2, s3, s4, m1, m0, m2, yj_d10, reduceIte]; exact ⟨e1, yj_mk h⟩
              · have m2 : (0 : Int32) ≤ 1 := by decide
                have r2 : ¬ (1 : Int32) = (-1) := by decide
                have K := fin (Or.inl m1) e1 e2 ex
                rw [e1, e2]
                rw [if_neg o, if_neg s1, if_neg s2, if_neg s3, if_neg s4, if_pos m1, if_pos (show (0 : Int32) = 0 from rfl), if_neg r2, if_neg nn, if_neg o, if_neg s1, if_neg s2, if_neg s3, if_neg s4, if_pos m1, if_pos (show (0 : Int32) = 0 from rfl), if_neg r2, if_neg nn]
                rw [if_neg s1, if_neg s2, if_neg s3, if_neg s4, if_neg (show ¬ (1 : Int32) = 0 by decide), if_neg (show ¬ (1 : Int32) = 0 by decide), if_pos m1, if_pos m2, if_neg (show ¬ (1 : Int32) = 0 by decide), if_neg (show ¬ (1 : Int32) = 0 by decide), if_pos m1, if_pos m2]
                exact K
            · by_cases oo : f_X9_isOne np one.toInt64 = 0
              · simp only [o, r1, nn, s1, s2, s3, s4, m1, oo, yj_d10, reduceIte]; exact ⟨trivial, yj_mk h⟩
              · obtain ⟨x1, x2⟩ := yj_one hn oo
                rcases bytes with ⟨e1, e2, -⟩ | ⟨e1, e2, -, ex⟩
                · have m0 : ¬ f_X8_bytesRefusal C d = 0 := fun q => by rw [← e1, q] at e2; exact absurd e2 (by decide)
                  have m2 : ¬ 0 ≤ f_X9_rowIs R d 0 := Int32.not_le.mpr e2
                  simp only [o, r1, nn, s1, s2, s3, s4, m1, oo, m0, m2, yj_d10, reduceIte]; exact ⟨e1, yj_mk h⟩
                · have m2 : (0 : Int32) ≤ 1 := by decide
                  have r2 : ¬ (1 : Int32) = (-1) := by decide
                  have K := fin (Or.inr ⟨_, by omega, x1⟩) e1 e2 ex
                  rw [e1, e2]
                  simp only [o, r2, nn, s1, s2, s3, s4, m1, oo, m2, yj_d10, reduceIte]
                  exact K
