/-! THE CLASS AGAINST THE REFERENCE: best judge, judge tomorrow -/
/-- what working out odds leaves in the reference -/
def yj_eR (R R' : Nat → Nat → Int32) : Prop := ∀ a j, (a ≠ 54 ∨ (j ≠ 11 ∧ j ≠ 12 ∧ j ≠ 13 ∧ j ≠ 14 ∧ j ≠ 15)) → a ≠ 61 → R' a j = R a j
theorem yj_eRrf (R : Nat → Nat → Int32) : yj_eR R R := fun _ _ _ _ => rfl
theorem yj_eRo {R R' : Nat → Nat → Int32} (h : yj_eR R R') (a e u : Nat) : yj_eR R (m_X9_oddsOf R' a e u) := fun x j q1 q2 => (z_ooF R' a e u x j q1 q2).trans (h x j q1 q2)
theorem yj_eCo {C C' : Nat → Nat → Int32} (h : z_Fr C C') (b : Bool) (sz k : Nat) (x y z : Int32) : z_Fr C (m_X1_oddsOn b C' sz k x y z) := z_Fr_tr h (z_FrO b C' sz k x y z)
theorem yj_eT {np k : Nat} {C R C' R' : Nat → Nat → Int32} (T : yj_T np k C R) (hk : k = 1 ∨ k = 19) (hC : z_Fr C C') (hR : yj_eR R R') : yj_T np k C' R' :=
  yj_Tf T (fun a j q1 q2 => hC a j (by omega) (by omega)) (hC _ _ (by omega) (by omega)) (hC _ _ (by omega) (by omega)) (hR 54 6 (by omega) (by omega)) (hR 54 20 (by omega) (by omega)) (fun j _ => hR 55 j (by omega) (by omega)) (fun a j q1 q2 => by
    by_cases e : a = 61
    · omega
    · exact hR a j (by omega) e)
theorem yj_eL {sz : Nat} {b : Bool} {C R C' R' : Nat → Nat → Int32} (h : yj_L sz b C R) (hC : z_Fr C C') (hR : yj_eR R R') : yj_L sz b C' R' :=
  yj_Lf h (hC 13 4 (by omega) (by omega)) (yj_cdF hC b) (hR 54 10 (by omega) (by omega)) (funext fun j => hR 60 j (by omega) (by omega))
/-- the odds are the same, whatever was worked out between -/
theorem yj_oddsE {np sz k : Nat} {b : Bool} {C R C' R' : Nat → Nat → Int32} (T : yj_T np k C R) (Lw : yj_L sz b C R) (hk : k = 1 ∨ k = 19) (hC : z_Fr C C') (hR : yj_eR R R') {a e u : Nat} (ha : a < np) (he : e < np) (hu : u < np) (hd : a ≠ e ∧ a ≠ u ∧ e ≠ u) : f_X1_oddsOn b C' sz k (nI a) (nI e) (nI u) = f_X9_oddsOf R a e u ∧ f_X9_oddsOf R' a e u = f_X9_oddsOf R a e u := by
  have h1 := yj_odds T Lw hk ha he hu hd
  have h2 := yj_odds (yj_eT T hk hC (yj_eRrf R)) (yj_eL Lw hC (yj_eRrf R)) hk ha he hu hd
  have h3 := yj_odds (yj_eT T hk (z_Fr_rf C) hR) (yj_eL Lw (z_Fr_rf C) hR) hk ha he hu hd
  exact ⟨h2, h3.symm.trans h1⟩
theorem yj_J0 {b : Bool} {np nq dn km tm sz bo rn : Nat} {C R C' R' : Nat → Nat → Int32} {CL RL : Nat → Nat → Int64} (h : yj_J b np nq dn km tm sz bo rn C R CL RL) (hC : z_Fr C C') (hR : yj_eR R R') : yj_J b np nq dn km tm sz bo rn C' R' CL RL :=
  yj_Jf h (fun a j q1 q2 => hC a j (by unfold yj_kC at q2; omega) (by unfold yj_kC at q2; omega)) (fun a j q => hR a j (by unfold yj_kR at q; omega) (by unfold yj_kR at q; omega)) (fun _ _ _ _ => rfl) (fun _ => rfl)
/-- bits of who may judge -/
theorem yj_sh10 : ∀ t : Nat, t < 10 → ((nI t &&& 31).toBitVec.smod 32).toNat = t := by decide +kernel
theorem yj_isIn {q t : Nat} (ht : t < 10) (hq : q < 2 ^ 31) : f_X9_isIn (nI q) (nI t) = if q.testBit t = true then 1 else 0 := by
  unfold f_X9_isIn
  rw [pk_shrN hq (nI t &&& 31) t (yj_sh10 t ht)]
  have hq2 : q / 2 ^ t < 2 ^ 31 := Nat.lt_of_le_of_lt (Nat.div_le_self _ _) hq
  rw [pk_andN (n := q / 2 ^ t) (m := 1) (by omega) 1 rfl, Nat.testBit_eq_decide_div_mod_eq]
  by_cases e : q / 2 ^ t % 2 = 1
  · rw [if_pos (by rw [Nat.pow_one, e]; rfl), if_pos (by rw [e]; rfl)]
  · have e0 : q / 2 ^ t % 2 = 0 := by omega
    rw [if_neg (by rw [Nat.pow_one, e0]; decide), if_neg (by rw [e0]; decide)]
theorem yj_judB {np : Nat} {R : Nat → Nat → Int32} (hn : np ≤ 10) (h : ∀ j, j < np → yj_r 255 (R 63 j)) : ∀ n : Nat, n ≤ np → ∃ q : Nat, q < 2 ^ n ∧ g_X9_judgesNow_4 R n = nI q ∧ ∀ t, t < n → (q.testBit t = true ↔ R 63 t &&& 1 = 1)
  | 0, _ => ⟨0, by decide, rfl, fun _ h => absurd h (Nat.not_lt_zero _)⟩
  | n + 1, hi => by
    obtain ⟨q, h1, h2, h3⟩ := yj_judB hn h n (by omega)
    show ∃ q : Nat, q < 2 ^ (n + 1) ∧ gb_X9_judgesNow_4 R n (g_X9_judgesNow_4 R n) = nI q ∧ ∀ t, t < n + 1 → (q.testBit t = true ↔ R 63 t &&& 1 = 1)
    unfold gb_X9_judgesNow_4
    rw [h2]
    rcases yj_odd (N := 255) (by decide) (h n (by omega)) with ⟨a1, a2⟩ | ⟨a1, a2⟩
    · rw [a1, yj_z0 n (by omega)]
      refine ⟨q, by rw [Nat.pow_succ]; omega, ?_, fun t ht => ?_⟩
      · show nI q ||| nI 0 = nI q
        rw [fa_or, Nat.or_zero]
      · by_cases e : t = n
        · subst e
          rw [Nat.testBit_lt_two_pow h1, a2]
          exact ⟨fun q => absurd q (by decide), fun q => absurd q (by decide)⟩
        · exact h3 t (by omega)
    · rw [a1, z_shl1 n (by omega), fa_or]
      refine ⟨q ||| 2 ^ n, Nat.or_lt_two_pow (by rw [Nat.pow_succ]; omega) (Nat.pow_lt_pow_right (by decide) (by omega)), rfl, fun t ht => ?_⟩
      rw [Nat.testBit_or, Nat.testBit_two_pow]
      by_cases e : t = n
      · subst e
        rw [a2]
        simp
      · rw [show decide (n = t) = false from decide_eq_false (fun q => e q.symm), Bool.or_false]
        exact h3 t (by omega)
theorem yj_inJ {np k t : Nat} {C R : Nat → Nat → Int32} (T : yj_T np k C R) (ht : t < np) : (f_X9_isIn (f_X9_judgesNow R np) (nI t) = 0 ∧ f_X7_mayJudge C k t = 0) ∨ (f_X9_isIn (f_X9_judgesNow R np) (nI t) = 1 ∧ f_X7_mayJudge C k t = 1) := by
  have hn := T.1.2.2
  obtain ⟨q, h1, h2, h3⟩ := yj_judB hn (fun j hj => (T.2.1 j hj).2.2.1) np (Nat.le_refl _)
  have p10 : 2 ^ np ≤ 1024 := Nat.pow_le_pow_right (n := 2) (by decide) hn
  unfold f_X9_judgesNow f_X7_mayJudge
  rw [h2, yj_isIn (by omega) (by omega), (T.2.1 t ht).1.2.2.1]
  rcases yj_odd (N := 255) (by decide) (T.2.1 t ht).2.2.1 with ⟨a1, a2⟩ | ⟨a1, a2⟩
  · refine Or.inl ⟨if_neg (fun e => ?_), by rw [a2]; rfl⟩
    have := (h3 t ht).mp e
    rw [a2] at this
    exact absurd this (by decide)
  · exact Or.inr ⟨if_pos ((h3 t ht).mpr a2), by rw [a2]; rfl⟩
theorem yj_bestL {np sz : Nat} {b : Bool} {C R : Nat → Nat → Int32} (T : yj_T np 1 C R) (Lw : yj_L sz b C R) (ab : Int32) {a e : Nat} (ha : a < np) (he : e < np) (hae : a ≠ e) (ea : ab / 10 = nI a) (ee : ab - ab / 10 * 10 = nI e) : ∀ (r t : Nat) (R' : Nat → Nat → Int32), t + r = np → z_Fr C (g_X8_bestJudge_49 b C sz ab t).2.2 → yj_eR R R' → (((g_X8_bestJudge_49 b C sz ab t).1 = (-2) ∧ (g_X8_bestJudge_49 b C sz ab t).2.1 = (-1)) ∨ ∃ j, j < np ∧ j ≠ a ∧ j ≠ e ∧ (g_X8_bestJudge_49 b C sz ab t).1 = nI j ∧ (g_X8_bestJudge_49 b C sz ab t).2.1 = f_X9_oddsOf R a e j) → (gx_X9_bestJudge_50 np ab r t (g_X8_bestJudge_49 b C sz ab t).1 R').1 = (g_X8_bestJudge_49 b C sz ab np).1 ∧ z_Fr C (g_X8_bestJudge_49 b C sz ab np).2.2 ∧ yj_eR R (gx_X9_bestJudge_50 np ab r t (g_X8_bestJudge_49 b C sz ab t).1 R').2
  | 0, t, R', ht, hC, hR, hS => by
    have e : t = np := by omega
    subst e
    exact ⟨rfl, hC, hR⟩
  | r + 1, t, R', ht, hC, hR, hS => by
    have hn := T.1.2.2
    have htn : t < np := by omega
    have T' := yj_eT T (Or.inl rfl) hC hR
    have ca : (nI a).toNatClampNeg = a := nI_clamp (by omega)
    have ce : (nI e).toNatClampNeg = e := nI_clamp (by omega)
    have IH := yj_bestL T Lw ab ha he hae ea ee r (t + 1)
    have step : g_X8_bestJudge_49 b C sz ab (t + 1) = gb_X8_bestJudge_49 b C sz ab t (g_X8_bestJudge_49 b C sz ab t) := rfl
    rw [step] at IH
    generalize g_X8_bestJudge_49 b C sz ab np = Z at IH ⊢
    generalize g_X8_bestJudge_49 b C sz ab t = S at hC hS T' IH ⊢
    unfold gx_X9_bestJudge_50
    unfold gb_X8_bestJudge_49 at IH
    rw [ee, ea] at IH ⊢
    rw [ca, ce]
    by_cases ta : t = a
    · have q : nI t = nI a := by rw [ta]
      have g := IH R'
      rw [if_pos q] at g
      have th : f_X9_areThree np (nI a).toInt64 (nI e).toInt64 (nI t).toInt64 = 0 := by
        rcases fb_X9_areThree np (nI a).toInt64 (nI e).toInt64 (nI t).toInt64 with z | z
        · exact z
        · obtain ⟨a', e', u', ⟨k1, k2, k3⟩, hd, x1, x2, x3⟩ := yj_three hn (by rw [z]; decide)
          exact absurd (x1.symm.trans (by rw [← q, x3])) (fun w => hd.2.1 ((nI_eq (by omega) (by omega)).mp w))
      rw [th, if_pos (show (0 : Int32) = 0 from rfl)]
      simp only [ite_self]
      exact g (by omega) hC hR hS
    · have q : ¬ nI t = nI a := fun w => ta ((nI_eq (by omega) (by omega)).mp w)
      by_cases te : t = e
      · have q2 : nI t = nI e := by rw [te]
        have g := IH R'
        rw [if_neg q, if_pos q2] at g
        have th : f_X9_areThree np (nI a).toInt64 (nI e).toInt64 (nI t).toInt64 = 0 := by
          rcases fb_X9_areThree np (nI a).toInt64 (nI e).toInt64 (nI t).toInt64 with z | z
          · exact z
          · obtain ⟨a', e', u', ⟨k1, k2, k3⟩, hd, x1, x2, x3⟩ := yj_three hn (by rw [z]; decide)
            exact absurd (x2.symm.trans (by rw [← q2, x3])) (fun w => hd.2.2 ((nI_eq (by omega) (by omega)).mp w))
        rw [th, if_pos (show (0 : Int32) = 0 from rfl)]
        simp only [ite_self]
        exact g (by omega) hC hR hS
      · have q2 : ¬ nI t = nI e := fun w => te ((nI_eq (by omega) (by omega)).mp w)
        rw [yj_threeN hn ha he htn hae (fun w => ta w.symm) (fun w => te w.symm)]
        rcases yj_inJ T' htn with ⟨j1, j2⟩ | ⟨j1, j2⟩
        · have g := IH R'
          rw [if_neg q, if_neg q2, if_pos j2] at g
          rw [if_pos j1]
          exact g (by omega) hC hR hS
        · have E := yj_oddsE T Lw (Or.inl rfl) hC hR ha he htn ⟨hae, fun w => ta w.symm, fun w => te w.symm⟩
          have j3 : ¬ f_X7_mayJudge S.2.2 1 t = 0 := by rw [j2]; decide
          rw [if_neg q, if_neg q2, if_neg j3, E.1] at IH
          rw [if_neg (by rw [j1]; decide), if_neg (show ¬ (1 : Int32) = 0 by decide), E.2]
          have hC' := yj_eCo hC b sz 1 (nI a) (nI e) (nI t)
          obtain ⟨p, hp, ep⟩ := z_oo12 R a e t
          rcases hS with ⟨s1, s2⟩ | ⟨j, hj, ja, je, s1, s2⟩
          · have lt : ¬ f_X9_oddsOf R a e t ≤ S.2.1 := by
              rw [ep, s2]
              rw [Int32.le_iff_toInt_le, nI_toInt (by omega), show (-1 : Int32).toInt = -1 from rfl]
              omega
            rw [if_neg lt] at IH
            rw [if_pos (by rw [s1]; decide)]
            exact IH R' (by omega) hC' hR (Or.inr ⟨t, htn, ta, te, rfl, rfl⟩)
          · have E2 := yj_oddsE T Lw (Or.inl rfl) (z_Fr_rf C) (yj_eRo hR a e t) ha he hj ⟨hae, fun w => ja w.symm, fun w => je w.symm⟩
            have cj : (nI j).toNatClampNeg = j := nI_clamp (by omega)
            have R2 := yj_eRo (yj_eRo hR a e t) a e j
            rw [if_neg (by rw [s1]; exact nI_pos (by omega)), s1, cj, E2.2]
            rw [s2] at IH
            by_cases le : f_X9_oddsOf R a e t ≤ f_X9_oddsOf R a e j
            · rw [if_pos le]
              rw [if_pos le, s1] at IH
              exact IH _ (by omega) hC' R2 (Or.inr ⟨j, hj, ja, je, rfl, rfl⟩)
            · rw [if_neg le]
              rw [if_neg le] at IH
              exact IH _ (by omega) hC' R2 (Or.inr ⟨t, htn, ta, te, rfl, rfl⟩)
theorem yj_s_bestJudge {b : Bool} {np nq dn km tm sz bo rn : Nat} {C R : Nat → Nat → Int32} {CL RL : Nat → Nat → Int64} (h : yj_J b np nq dn km tm sz bo rn C R CL RL) (ab : Int32) : f_X8_bestJudge b C np sz ab = f_X9_bestJudge R np ab ∧ yj_B b (m_X8_bestJudge b C np sz ab) (m_X9_bestJudge R np ab) CL RL := by
  have hn := yj_Y2 h.1
  have h' := yj_begJ h np
  unfold f_X8_bestJudge f_X9_bestJudge m_X8_bestJudge m_X9_bestJudge
  rw [yj_has hn h.1.1.1, yj_has hn h.1.1.1]
  by_cases neg : ab < 0
  · -- below 0: no first one (or unlike none)
    simp only [neg, reduceIte]
    have t10 : (10 : Int32).toInt = 10 := rfl
    have d10 : (ab / 10).toInt = ab.toInt.tdiv 10 := by
      rw [Int32.toInt_div_of_ne_right _ _ (by decide), t10]
    have abn : ab.toInt < 0 := by rw [Int32.lt_iff_toInt_lt] at neg; exact neg
    have out : f_X9_isOne np (ab / 10).toInt64 = 0 ∨ f_X9_isOne np (ab - ab / 10 * 10).toInt64 = 0 := by
      by_cases q : ab / 10 < 0
      · left; rw [yj_isOne hn, if_pos q]
      · right
        have hmin := ab.le_toInt
        have z : (ab / 10).toInt = 0 := by
          rw [Int32.lt_iff_toInt_lt, d10, show (0 : Int32).toInt = 0 from rfl] at q
          rw [d10]
          have e1 : ab.toInt.tdiv 10 = -((-ab.toInt).tdiv 10) := by rw [Int.neg_tdiv]; omega
          have e2 : (-ab.toInt).tdiv 10 = (-ab.toInt) / 10 := Int.tdiv_eq_ediv_of_nonneg (by omega)
          omega
        have z2 : ab / 10 = 0 := Int32.toInt_inj.mp z
        rw [z2, show (0 : Int32) * 10 = 0 by decide, Int32.sub_zero, yj_isOne hn, if_pos neg]
    rcases out with o | o
    · simp only [o, reduceIte]; exact ⟨trivial, yj_mk h⟩
    · simp only [o, reduceIte, ite_self]; exact ⟨trivial, yj_mk h⟩
  · simp only [neg, reduceIte]
    by_cases o1 : f_X9_isOne np (ab / 10).toInt64 = 0
    · simp only [o1, reduceIte]; exact ⟨trivial, yj_mk h⟩
    · by_cases o2 : f_X9_isOne np (ab - ab / 10 * 10).toInt64 = 0
      · simp only [o1, o2, reduceIte]; exact ⟨trivial, yj_mk h⟩
      · by_cases same : ab / 10 = ab - ab / 10 * 10
        · rw [if_neg o1, if_neg o1, if_neg o1, if_neg o1, if_neg o2, if_neg o2, if_neg o2, if_neg o2, if_pos same, if_pos same, if_pos same, if_pos same]; exact ⟨rfl, yj_mk h⟩
        · obtain ⟨x1, x2⟩ := yj_one hn o1
          obtain ⟨y1, y2⟩ := yj_one hn o2
          rw [if_neg o1, if_neg o1, if_neg o1, if_neg o1, if_neg o2, if_neg o2, if_neg o2, if_neg o2, if_neg same, if_neg same, if_neg same, if_neg same]
          have g := yj_bestL (yj_Y1 h.1) h'.2.2.2.2.1 ab x2 y2 (fun w => same (x1.trans ((congrArg nI w).trans y1.symm))) x1 y1 np 0 (m_X9_begins R np) (by omega) (z_Fr_rf C) (yj_eRrf _) (Or.inl ⟨rfl, rfl⟩)
          exact ⟨g.1.symm, yj_mk (yj_J0 h' g.2.1 g.2.2)⟩
theorem yj_tmW {np sz : Nat} {b : Bool} {C R : Nat → Nat → Int32} (T : yj_T np 1 C R) (Lw : yj_L sz b C R) {one : Int32} {a q : Nat} (ha : a < np) (hq : q < np) (e1 : one = nI a) : ∀ (r t : Nat) (w2 w3 w3' : Int32) (C' R' : Nat → Nat → Int32), t + r = np → z_Fr C C' → yj_eR R R' → (w3 = w3' ∨ (w3 = 13 ∧ w3' = 1000000)) → (gw_X8_tomorrow_37 b sz one q r t w2 w3 C').1 = (gw_X9_tomorrow_36 np one q r t w2 w3' R').1 ∧ ((gw_X8_tomorrow_37 b sz one q r t w2 w3 C').2.1 = (gw_X9_tomorrow_36 np one q r t w2 w3' R').2.1 ∨ ((gw_X8_tomorrow_37 b sz one q r t w2 w3 C').2.1 = 13 ∧ (gw_X9_tomorrow_36 np one q r t w2 w3' R').2.1 = 1000000)) ∧ z_Fr C (gw_X8_tomorrow_37 b sz one q r t w2 w3 C').2.2 ∧ yj_eR R (gw_X9_tomorrow_36 np one q r t w2 w3' R').2.2
  | 0, t, w2, w3, w3', C', R', ht, hC, hR, hw => ⟨rfl, hw, hC, hR⟩
  | r + 1, t, w2, w3, w3', C', R', ht, hC, hR, hw => by
    have hn := T.1.2.2
    have htn : t < np := by omega
    have T' := yj_eT T (Or.inl rfl) hC hR
    have IH := yj_tmW T Lw ha hq e1 r (t + 1)
    have ca : (nI a).toNatClampNeg = a := nI_clamp (by omega)
    have cq : (nI q).toNatClampNeg = q := nI_clamp (by omega)
    have ct : (nI t).toNatClampNeg = t := nI_clamp (by omega)
    unfold gw_X8_tomorrow_37 gw_X9_tomorrow_36
    rw [yj_canHold T', e1, ca, cq, ct]
    rw [e1] at IH
    by_cases th : f_X9_areThree np (nI a).toInt64 (nI q).toInt64 (nI t).toInt64 = 0
    · rw [if_pos th, if_pos (show (0 : Int32) = 0 from rfl), if_pos th]
      exact IH w2 w3 w3' C' R' (by omega) hC hR hw
    · rw [if_neg th, if_neg th]
      by_cases ch : f_X9_canBeHeld R' a q t = 0
      · rw [if_pos ch, if_pos ch]
        exact IH w2 w3 w3' C' R' (by omega) hC hR hw
      · rw [if_neg ch, if_neg ch]
        have hd : a ≠ q ∧ a ≠ t ∧ q ≠ t := by
          obtain ⟨a', e', u', x, hd, x1, x2, x3⟩ := yj_three hn th
          have y1 := (nI_eq (by omega) (by omega)).mp x1
          have y2 := (nI_eq (by omega) (by omega)).mp x2
          have y3 := (nI_eq (by omega) (by omega)).mp x3
          omega
        have E := yj_oddsE T Lw (Or.inl rfl) hC hR ha hq htn hd
        have E2 := yj_oddsE T Lw (Or.inl rfl) (z_Fr_rf C) (yj_eRo hR a q t) ha hq htn hd
        have hC' := yj_eCo hC b sz 1 (nI a) (nI q) (nI t)
        have hR' := yj_eRo hR a q t
        rw [E.1, E.2, E2.2]
        obtain ⟨p, hp, ep⟩ := z_oo12 R a q t
        rw [ep]
        have both : w3 ≤ nI p ↔ w3' ≤ nI p := by
          rcases hw with rfl | ⟨rfl, rfl⟩
          · exact Iff.rfl
          · rw [show (13 : Int32) = nI 13 from rfl, show (1000000 : Int32) = nI 1000000 from rfl, nI_leI (by omega) (by omega), nI_leI (by omega) (by omega)]
            omega
        by_cases le : w3' ≤ nI p
        · rw [if_pos (both.mpr le), if_pos le]
          exact IH w2 w3 w3' _ _ (by omega) hC' hR' hw
        · rw [if_neg (fun x => le (both.mp x)), if_neg le]
          exact IH _ _ _ _ _ (by omega) hC' (yj_eRo hR' a q t) (Or.inl rfl)
theorem yj_tmL {np sz : Nat} {b : Bool} {C R : Nat → Nat → Int32} (T : yj_T np 1 C R) (Lw : yj_L sz b C R) {one : Int32} {a : Nat} (ha : a < np) (e1 : one = nI a) : ∀ (r t : Nat) (w2 w3 w3' : Int32) (C' R' : Nat → Nat → Int32), t + r = np → z_Fr C C' → yj_eR R R' → (w3 = w3' ∨ (w3 = 13 ∧ w3' = 1000000)) → (gx_X8_tomorrow_22 b np sz one r t w2 w3 C').1 = (gx_X9_tomorrow_24 np one r t w2 w3' R').1 ∧ z_Fr C (gx_X8_tomorrow_22 b np sz one r t w2 w3 C').2 ∧ yj_eR R (gx_X9_tomorrow_24 np one r t w2 w3' R').2
  | 0, t, w2, w3, w3', C', R', ht, hC, hR, hw => ⟨rfl, hC, hR⟩
  | r + 1, t, w2, w3, w3', C', R', ht, hC, hR, hw => by
    have W := yj_tmW T Lw ha (show t < np by omega) e1 np 0 w2 w3 w3' C' R' (by omega) hC hR hw
    unfold gx_X8_tomorrow_22 gx_X9_tomorrow_24
    rw [← W.1]
    exact yj_tmL T Lw ha e1 r (t + 1) _ _ _ _ _ (by omega) W.2.2.1 W.2.2.2 W.2.1
theorem yj_s_tomorrow {b : Bool} {np nq dn km tm sz bo rn : Nat} {C R : Nat → Nat → Int32} {CL RL : Nat → Nat → Int64} (h : yj_J b np nq dn km tm sz bo rn C R CL RL) (one : Int32) : f_X8_tomorrow b C np sz one = f_X9_tomorrow R np one ∧ yj_B b (m_X8_tomorrow b C np sz one) (m_X9_tomorrow R np one) CL RL := by
  have hn := yj_Y2 h.1
  have h' := yj_begJ h np
  unfold f_X8_tomorrow f_X9_tomorrow m_X8_tomorrow m_X9_tomorrow
  rw [yj_has hn h.1.1.1]
  by_cases o : f_X9_isOne np one.toInt64 = 0
  · rw [if_pos o, if_pos o, if_pos o, if_pos o]; exact ⟨rfl, yj_mk h⟩
  · rw [if_neg o, if_neg o, if_neg o, if_neg o]
    obtain ⟨x1, x2⟩ := yj_one hn o
    have g := yj_tmL (yj_Y1 h.1) h'.2.2.2.2.1 x2 x1 np 0 (-2) 13 1000000 C (m_X9_begins R np) (by omega) (z_Fr_rf C) (yj_eRrf _) (Or.inr ⟨rfl, rfl⟩)
    exact ⟨g.1, yj_mk (yj_J0 h' g.2.1 g.2.2)⟩
