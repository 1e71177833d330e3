/-! THE CLASS AGAINST THE REFERENCE: yards -/
/-- a yard on trial: the class's yard at k; the reference's rows 55, 62, 63, 64 and its day then -/
def yj_T (np k : Nat) (C R : Nat → Nat → Int32) : Prop := (C k 0 = nI np ∧ R 54 6 = nI np ∧ np ≤ 10) ∧ (∀ j, j < np → (C (k + 1) j = R 55 j ∧ C (k + 2) j = R 62 j ∧ C (k + 3) j = R 63 j ∧ C (k + 4) j = R 64 j) ∧ yj_r 99 (R 62 j) ∧ yj_r 255 (R 63 j) ∧ yj_r 3 (R 64 j)) ∧ (C k 5 = R 54 20 ∧ yj_r 99 (R 54 20))
/-- the players in truth -/
def yj_Y (np : Nat) (C R : Nat → Nat → Int32) : Prop := (C 1 0 = nI np ∧ R 54 6 = nI np ∧ np ≤ 10) ∧ (∀ j, j < np → (C 2 j = R 55 j ∧ C 3 j = R 55 (10 + j) ∧ C 4 j = R 55 (20 + j) ∧ C 5 j = R 55 (30 + j)) ∧ yj_r 9 (R 55 j) ∧ yj_r 99 (R 55 (10 + j)) ∧ yj_r 255 (R 55 (20 + j)) ∧ yj_r 3 (R 55 (30 + j))) ∧ (∀ j, np ≤ j → j < 10 → R 55 (30 + j) = 0) ∧ (C 1 5 = R 55 40 ∧ yj_r 99 (R 55 40) ∧ C 1 6 = R 55 41) ∧ ∀ j, j < 5 → C 6 j = R 70 j
theorem yj_z0 : ∀ i : Nat, i < 10 → (0 : Int32) <<< (nI i &&& 31) = 0 := by decide +kernel
theorem yj_canHold {np k : Nat} {C R : Nat → Nat → Int32} (h : yj_T np k C R) (x y z : Int32) : f_X7_canHold C k x y z = if f_X9_areThree np x.toInt64 y.toInt64 z.toInt64 = 0 then 0 else f_X9_canBeHeld R x.toNatClampNeg y.toNatClampNeg z.toNatClampNeg := by
  have hn := h.1.2.2
  unfold f_X7_canHold
  rw [yj_unlike hn h.1.1]
  by_cases h1 : f_X9_areThree np x.toInt64 y.toInt64 z.toInt64 = 0
  · rw [if_pos h1, if_pos h1]
  · rw [if_neg h1, if_neg h1]
    obtain ⟨a, e, u, ⟨ha, he, hu⟩, -, rfl, rfl, rfl⟩ := yj_three hn h1
    have ea : (nI a).toNatClampNeg = a := nI_clamp (by omega)
    have ee : (nI e).toNatClampNeg = e := nI_clamp (by omega)
    have eu : (nI u).toNatClampNeg = u := nI_clamp (by omega)
    rw [ea, ee, eu]
    unfold f_X7_mayJudge f_X7_isFree f_X9_canBeHeld
    rw [(h.2.1 a ha).1.2.2.2, (h.2.1 e he).1.2.2.2, (h.2.1 u hu).1.2.2.2, (h.2.1 u hu).1.2.2.1]
    rcases yj_odd (N := 3) (by decide) (h.2.1 a ha).2.2.2 with ⟨a1, a2⟩ | ⟨a1, a2⟩ <;> rcases yj_odd (N := 3) (by decide) (h.2.1 e he).2.2.2 with ⟨b1, b2⟩ | ⟨b1, b2⟩ <;> rcases yj_odd (N := 3) (by decide) (h.2.1 u hu).2.2.2 with ⟨c1, c2⟩ | ⟨c1, c2⟩ <;> rcases yj_odd (N := 255) (by decide) (h.2.1 u hu).2.2.1 with ⟨d1, d2⟩ | ⟨d1, d2⟩ <;> rw [a1, a2, b1, b2, c1, c2, d1, d2] <;> decide
theorem yj_judgeG {np k : Nat} {C R : Nat → Nat → Int32} (h : yj_T np k C R) : ∀ n : Nat, n ≤ np → g_X7_judgeBits_4 C k n = g_X9_judgesNow_4 R n
  | 0, _ => rfl
  | n + 1, hn => by
    have ih := yj_judgeG h n (by omega)
    have h10 := h.1.2.2
    show gb_X7_judgeBits_4 C k n (g_X7_judgeBits_4 C k n) = gb_X9_judgesNow_4 R n (g_X9_judgesNow_4 R n)
    rw [ih]
    unfold gb_X7_judgeBits_4 gb_X9_judgesNow_4 f_X7_mayJudge
    rw [(h.2.1 n (by omega)).1.2.2.1]
    rcases yj_odd (N := 255) (by decide) (h.2.1 n (by omega)).2.2.1 with ⟨a1, a2⟩ | ⟨a1, a2⟩
    · rw [a1, a2, if_pos (by decide), yj_z0 n (by omega)]
    · rw [a1, a2, if_neg (by decide)]
theorem yj_judges {np k : Nat} {C R : Nat → Nat → Int32} (h : yj_T np k C R) : f_X7_judgeBits C k np = f_X9_judgesNow R np := yj_judgeG h np (Nat.le_refl _)
theorem yj_or : ∀ n : Nat, n < 4 → ((nI n ||| 1 = 1 ∨ nI n ||| 1 = 3) ∧ (nI n ||| 3 = 3)) := by decide +kernel
theorem yj_or1 {x : Int32} (h : yj_r 3 x) : yj_r 3 (x ||| 1) := by
  obtain ⟨n, hn, rfl⟩ := h
  rcases (yj_or n (by omega)).1 with q | q
  · rw [q]; exact ⟨1, by omega, rfl⟩
  · rw [q]; exact ⟨3, by omega, rfl⟩
theorem yj_or3 {x : Int32} (h : yj_r 3 x) : yj_r 3 (x ||| 3) := by
  obtain ⟨n, hn, rfl⟩ := h
  rw [(yj_or n (by omega)).2]
  exact ⟨3, by omega, rfl⟩
/-- only TODAY has changed -/
theorem yj_Ttoday {np k : Nat} {C R C' R' : Nat → Nat → Int32} (h : yj_T np k C R) (hC : ∀ a j, a ≠ k + 4 → C' a j = C a j) (hR : ∀ a j, a ≠ 64 → R' a j = R a j) (ht : ∀ j, j < np → C' (k + 4) j = R' 64 j ∧ yj_r 3 (R' 64 j)) : yj_T np k C' R' := by
  refine ⟨⟨?_, ?_, h.1.2.2⟩, fun j hj => ?_, ?_, ?_⟩
  · rw [hC _ _ (by omega)]; exact h.1.1
  · rw [hR _ _ (by omega)]; exact h.1.2.1
  · have g := h.2.1 j hj
    rw [hC _ _ (by omega), hC _ _ (by omega), hC _ _ (by omega), hR _ _ (by omega), hR _ _ (by omega), hR _ _ (by omega)]
    exact ⟨⟨g.1.1, g.1.2.1, g.1.2.2.1, (ht j hj).1⟩, g.2.1, g.2.2.1, (ht j hj).2⟩
  · rw [hC _ _ (by omega), hR _ _ (by omega)]; exact h.2.2.1
  · rw [hR _ _ (by omega)]; exact h.2.2.2
theorem yj_setF (C : Nat → Nat → Int32) (k w l u a j : Nat) (h : a ≠ k + 4) : m_X7_settle C k w l u a j = C a j := by
  unfold m_X7_settle
  rw [z_up_k _ _ h, z_up_k _ _ h, z_up_k _ _ h]
theorem yj_settle {np k : Nat} {C R : Nat → Nat → Int32} (h : yj_T np k C R) {a e u : Nat} (hd : a ≠ e ∧ a ≠ u ∧ e ≠ u) (w : Int32) : yj_T np k (m_X7_settle C k (if w = 0 then e else a) (if w = 0 then a else e) u) (m_X9_isHeld R a e u w) := by
  refine yj_Ttoday h (fun x j hx => yj_setF _ _ _ _ _ _ _ hx) (fun x j hx => z_ihF _ _ _ _ _ _ _ hx) (fun j hj => ?_)
  have g := h.2.1 j hj
  have g4 := g.1.2.2.2
  have r := g.2.2.2
  by_cases hw : w = 0
  · rw [if_pos hw, if_pos hw]
    unfold m_X7_settle m_X9_isHeld
    rw [if_pos hw, if_pos hw]
    by_cases ju : j = u
    · subst ju
      have n1 : ¬ j = e := fun q => hd.2.2 q.symm
      have n2 : ¬ j = a := fun q => hd.2.1 q.symm
      simp only [z_up_s, z_up_j _ _ n1, z_up_j _ _ n2, g4]
      exact ⟨trivial, yj_or1 r⟩
    · by_cases je : j = e
      · subst je
        have n2 : ¬ j = a := fun q => hd.1 q.symm
        simp only [z_up_s, z_up_j _ _ ju, z_up_j _ _ n2, g4]
        exact ⟨trivial, yj_or1 r⟩
      · by_cases ja : j = a
        · subst ja
          simp only [z_up_s, z_up_j _ _ ju, z_up_j _ _ je, g4]
          exact ⟨trivial, yj_or3 r⟩
        · simp only [z_up_j _ _ ju, z_up_j _ _ je, z_up_j _ _ ja, g4]
          exact ⟨trivial, r⟩
  · rw [if_neg hw, if_neg hw]
    unfold m_X7_settle m_X9_isHeld
    rw [if_neg hw, if_neg hw]
    by_cases ju : j = u
    · subst ju
      have n1 : ¬ j = e := fun q => hd.2.2 q.symm
      have n2 : ¬ j = a := fun q => hd.2.1 q.symm
      simp only [z_up_s, z_up_j _ _ n1, z_up_j _ _ n2, g4]
      exact ⟨trivial, yj_or1 r⟩
    · by_cases je : j = e
      · subst je
        have n2 : ¬ j = a := fun q => hd.1 q.symm
        simp only [z_up_s, z_up_j _ _ ju, z_up_j _ _ n2, g4]
        exact ⟨trivial, yj_or3 r⟩
      · by_cases ja : j = a
        · subst ja
          simp only [z_up_s, z_up_j _ _ ju, z_up_j _ _ je, g4]
          exact ⟨trivial, yj_or1 r⟩
        · simp only [z_up_j _ _ ju, z_up_j _ _ je, z_up_j _ _ ja, g4]
          exact ⟨trivial, r⟩
/-- a day's end, number by number -/
theorem yj_dL0 : ∀ n : Nat, n < 256 → ((2 * nI n) + 0) &&& 255 = ((2 * nI n) + 0) - ((2 * nI n) + 0) / 256 * 256 ∧ ((2 * nI n) + 0) &&& 255 = nI (2 * n % 256) := by decide +kernel
theorem yj_dL1 : ∀ n : Nat, n < 256 → ((2 * nI n) + 1) &&& 255 = ((2 * nI n) + 1) - ((2 * nI n) + 1) / 256 * 256 ∧ ((2 * nI n) + 1) &&& 255 = nI ((2 * n + 1) % 256) := by decide +kernel
def yj_gU (g : Int32) : Int32 := if 0 ≤ g then if g ≤ 99 then g else 99 else 0
theorem yj_dG1 : ∀ n : Nat, n < 100 → (if nI n + 3 < 99 then nI n + 3 else 99) = yj_gU (nI n + 3) ∧ yj_gU (nI n + 3) = nI (min 99 (n + 3)) := by decide +kernel
theorem yj_dG0 : ∀ n : Nat, n < 100 → (if 0 < nI n - 1 then nI n - 1 else 0) = yj_gU (nI n + (-1)) ∧ yj_gU (nI n + (-1)) = nI (n - 1) := by decide +kernel
theorem yj_dD : ∀ n : Nat, n < 100 → (if nI n + 1 < 99 then nI n + 1 else 99) = nI (min 99 (n + 1)) ∧ (if nI n = 99 then 99 else nI n + 1) = nI (min 99 (n + 1)) := by decide +kernel
theorem yj_d2 : ∀ n : Nat, n < 4 → (nI n &&& 2 = 0 ∧ nI n / 2 = 0) ∨ (¬ nI n &&& 2 = 0 ∧ nI n / 2 = 1) := by decide +kernel
theorem yj_eb (R : Nat → Nat → Int32) (i : Nat) (s : Int32 × (Nat → Nat → Int32)) : gb_X9_endsDay_4 R i s = (s.1 + s.2 64 i / 2, z_up (z_up (z_up (z_up s.2 63 i (((2 * (s.2 63 i)) + ((s.2 64 i) / 2)) - ((2 * (s.2 63 i)) + ((s.2 64 i) / 2)) / 256 * 256)) 62 i (if s.2 64 i / 2 = 1 then s.2 62 i + 3 else s.2 62 i + (-1))) 62 i (yj_gU (if s.2 64 i / 2 = 1 then s.2 62 i + 3 else s.2 62 i + (-1)))) 64 i 0) := by
  unfold gb_X9_endsDay_4 yj_gU
  by_cases h : s.2 64 i / 2 = 1
  · rw [if_pos h, if_pos h]
    by_cases h1 : 0 ≤ s.2 62 i + 3
    · rw [if_pos h1, if_pos h1]
      by_cases h2 : s.2 62 i + 3 ≤ 99
      · rw [if_pos h2, if_pos h2]
      · rw [if_neg h2, if_neg h2]
    · rw [if_neg h1, if_neg h1]
  · rw [if_neg h, if_neg h]
    by_cases h1 : 0 ≤ s.2 62 i + (-1)
    · rw [if_pos h1, if_pos h1]
      by_cases h2 : s.2 62 i + (-1) ≤ 99
      · rw [if_pos h2, if_pos h2]
      · rw [if_neg h2, if_neg h2]
    · rw [if_neg h1, if_neg h1]
theorem yj_ec (C : Nat → Nat → Int32) (k i : Nat) (s : Nat → Nat → Int32) : gb_X7_endDay_2 C k i s = z_up (z_up (z_up s (k + 3) i (((2 * (s (k + 3) i)) + (if s (k + 4) i &&& 2 = 0 then 0 else 1)) &&& 255)) (k + 2) i (if s (k + 4) i &&& 2 = 0 then (if 0 < s (k + 2) i - 1 then s (k + 2) i - 1 else 0) else (if s (k + 2) i + 3 < 99 then s (k + 2) i + 3 else 99))) (k + 4) i 0 := by
  unfold gb_X7_endDay_2
  by_cases h : s (k + 4) i &&& 2 = 0
  · rw [if_pos h, if_pos h, if_pos h]
  · rw [if_neg h, if_neg h, if_neg h]
/-- what a day's end makes of one -/
theorem yj_dayV {g l t : Int32} (hg : yj_r 99 g) (hl : yj_r 255 l) (ht : yj_r 3 t) : (((2 * l) + (if t &&& 2 = 0 then 0 else 1)) &&& 255 = ((2 * l) + (t / 2)) - ((2 * l) + (t / 2)) / 256 * 256 ∧ yj_r 255 (((2 * l) + (t / 2)) - ((2 * l) + (t / 2)) / 256 * 256)) ∧ ((if t &&& 2 = 0 then (if 0 < g - 1 then g - 1 else 0) else (if g + 3 < 99 then g + 3 else 99)) = yj_gU (if t / 2 = 1 then g + 3 else g + (-1)) ∧ yj_r 99 (yj_gU (if t / 2 = 1 then g + 3 else g + (-1)))) ∧ (if t &&& 2 = 0 then (0 : Int32) else 1) = t / 2 := by
  obtain ⟨n, hn, rfl⟩ := hg
  obtain ⟨m, hm, rfl⟩ := hl
  obtain ⟨q, hq, rfl⟩ := ht
  rcases yj_d2 q (by omega) with ⟨q1, q2⟩ | ⟨q1, q2⟩
  · rw [if_pos q1, if_pos q1, q2, if_neg (show ¬ (0 : Int32) = 1 by decide)]
    have a := yj_dL0 m (by omega)
    have c := yj_dG0 n (by omega)
    exact ⟨⟨a.1, by rw [← a.1, a.2]; exact yj_rn (by omega)⟩, ⟨c.1, by rw [c.2]; exact yj_rn (by omega)⟩, rfl⟩
  · rw [if_neg q1, if_neg q1, q2, if_pos rfl]
    have a := yj_dL1 m (by omega)
    have c := yj_dG1 n (by omega)
    exact ⟨⟨a.1, by rw [← a.1, a.2]; exact yj_rn (by omega)⟩, ⟨c.1, by rw [c.2]; exact yj_rn (by omega)⟩, rfl⟩
theorem yj_dayS {np k : Nat} {C R : Nat → Nat → Int32} (C0 R0 : Nat → Nat → Int32) (v : Int32) (h : yj_T np k C R) {i : Nat} (hi : i < np) : yj_T np k (gb_X7_endDay_2 C0 k i C) (gb_X9_endsDay_4 R0 i (v, R)).2 := by
  rw [yj_eb, yj_ec]
  have g := h.2.1 i hi
  have V := yj_dayV g.2.1 g.2.2.1 g.2.2.2
  simp only [g.1.2.2.2, g.1.2.2.1, g.1.2.1]
  refine ⟨⟨?_, ?_, h.1.2.2⟩, fun j hj => ?_, ?_, ?_⟩
  · rw [z_up_k _ _ (by omega), z_up_k _ _ (by omega), z_up_k _ _ (by omega)]; exact h.1.1
  · rw [z_up_k _ _ (by omega), z_up_k _ _ (by omega), z_up_k _ _ (by omega), z_up_k _ _ (by omega)]; exact h.1.2.1
  · have gj := h.2.1 j hj
    by_cases ji : j = i
    · subst ji
      have e1 : k + 1 ≠ k + 4 := by omega
      have e2 : k + 1 ≠ k + 2 := by omega
      have e3 : k + 1 ≠ k + 3 := by omega
      have e4 : k + 2 ≠ k + 4 := by omega
      have e5 : k + 3 ≠ k + 4 := by omega
      have e6 : k + 3 ≠ k + 2 := by omega
      have f1 : (55 : Nat) ≠ 64 := by omega
      have f2 : (55 : Nat) ≠ 62 := by omega
      have f3 : (55 : Nat) ≠ 63 := by omega
      have f4 : (62 : Nat) ≠ 64 := by omega
      have f5 : (63 : Nat) ≠ 64 := by omega
      have f6 : (63 : Nat) ≠ 62 := by omega
      simp only [z_up_s, z_up_k _ _ e1, z_up_k _ _ e2, z_up_k _ _ e3, z_up_k _ _ e4, z_up_k _ _ e5, z_up_k _ _ e6, z_up_k _ _ f1, z_up_k _ _ f2, z_up_k _ _ f3, z_up_k _ _ f4, z_up_k _ _ f5, z_up_k _ _ f6]
      exact ⟨⟨g.1.1, V.2.1.1, V.1.1, trivial⟩, V.2.1.2, V.1.2, yj_r0 3⟩
    · have u : ∀ (M : Nat → Nat → Int32) (a c : Nat) (w : Int32), z_up M c i w a j = M a j := by
        intro M a c w
        unfold z_up
        by_cases q : a = c
        · rw [if_pos q, if_neg ji]
        · rw [if_neg q]
      simp only [u]
      exact gj
  · rw [z_up_k _ _ (by omega), z_up_k _ _ (by omega), z_up_k _ _ (by omega), z_up_k _ _ (by omega), z_up_k _ _ (by omega), z_up_k _ _ (by omega), z_up_k _ _ (by omega)]; exact h.2.2.1
  · rw [z_up_k _ _ (by omega), z_up_k _ _ (by omega), z_up_k _ _ (by omega), z_up_k _ _ (by omega)]; exact h.2.2.2
theorem yj_dayG {np k : Nat} {C R : Nat → Nat → Int32} (h : yj_T np k C R) : ∀ i : Nat, i ≤ np → yj_T np k (g_X7_endDay_2 C k i) (g_X9_endsDay_4 R i).2
  | 0, _ => h
  | i + 1, hi => yj_dayS C R (g_X9_endsDay_4 R i).1 (yj_dayG h i (by omega)) (by omega)
theorem yj_day {np k : Nat} {C R : Nat → Nat → Int32} (h : yj_T np k C R) : yj_T np k (m_X7_endDay C k np) (m_X9_endsDay R np) := by
  have g := yj_dayG h np (Nat.le_refl _)
  obtain ⟨n, hn, hd⟩ := g.2.2.2
  have hR : R 54 20 = (g_X9_endsDay_4 R np).2 54 20 := (z_eoG R 54 20 (by decide) (by decide) (by decide) np).symm
  have D := yj_dD n (by omega)
  have key : ∀ v w : Int32, v = w → yj_r 99 w → yj_T np k (z_up (g_X7_endDay_2 C k np) k 5 v) (z_up (g_X9_endsDay_4 R np).2 54 20 w) := by
    intro v w hv hw
    subst hv
    refine ⟨⟨?_, ?_, g.1.2.2⟩, fun j hj => ?_, ?_, ?_⟩
    · rw [z_up_j _ _ (by omega)]; exact g.1.1
    · rw [z_up_j _ _ (by omega)]; exact g.1.2.1
    · rw [z_up_k _ _ (by omega), z_up_k _ _ (by omega), z_up_k _ _ (by omega), z_up_k _ _ (by omega), z_up_k _ _ (by omega), z_up_k _ _ (by omega), z_up_k _ _ (by omega), z_up_k _ _ (by omega)]; exact g.2.1 j hj
    · rw [z_up_s, z_up_s]
    · rw [z_up_s]; exact hw
  unfold m_X7_endDay m_X9_endsDay
  rw [g.2.2.1, hd, D.1]
  by_cases q : R 54 20 = 99
  · rw [if_pos q]
    refine key _ _ ?_ ⟨99, by omega, rfl⟩
    have q2 := D.2
    rw [hR, hd] at q
    rw [if_pos q] at q2
    exact q2.symm
  · rw [if_neg q]
    have q2 := D.2
    rw [hR, hd] at q
    rw [if_neg q] at q2
    rw [hR, hd]
    exact key _ _ q2.symm (by rw [q2]; exact yj_rn (by omega))
/-- losers, as a day ends -/
theorem yj_cntG {np k : Nat} {C R : Nat → Nat → Int32} (h : yj_T np k C R) : ∀ i : Nat, i ≤ np → (g_X9_endsDay_4 R i).1 = g_X7_countBeaten_4 C k i ∧ ∀ j, i ≤ j → (g_X9_endsDay_4 R i).2 64 j = R 64 j
  | 0, _ => ⟨rfl, fun _ _ => rfl⟩
  | i + 1, hi => by
    obtain ⟨h1, h2⟩ := yj_cntG h i (by omega)
    show (gb_X9_endsDay_4 R i (g_X9_endsDay_4 R i)).1 = gb_X7_countBeaten_4 C k i (g_X7_countBeaten_4 C k i) ∧ ∀ j, i + 1 ≤ j → (gb_X9_endsDay_4 R i (g_X9_endsDay_4 R i)).2 64 j = R 64 j
    rw [yj_eb]
    have g := h.2.1 i (by omega)
    constructor
    · show (g_X9_endsDay_4 R i).1 + (g_X9_endsDay_4 R i).2 64 i / 2 = _
      rw [h2 i (Nat.le_refl _), h1]
      unfold gb_X7_countBeaten_4
      rw [g.1.2.2.2]
      have V := (yj_dayV g.2.1 g.2.2.1 g.2.2.2).2.2
      rw [← V]
      by_cases q : R 64 i &&& 2 = 0
      · rw [if_pos q, if_pos q]
      · rw [if_neg q, if_neg q]
    · intro j hj
      show z_up _ 64 i 0 64 j = _
      rw [z_up_j _ _ (by omega), z_up_k _ _ (by omega), z_up_k _ _ (by omega), z_up_k _ _ (by omega)]
      exact h2 j (by omega)
theorem yj_cnt {np k : Nat} {C R : Nat → Nat → Int32} (h : yj_T np k C R) : f_X9_endsDay R np = f_X7_countBeaten C k np := by
  have g := (yj_cntG h np (Nat.le_refl _)).1
  unfold f_X9_endsDay f_X7_countBeaten
  by_cases q : R 54 20 = 99
  · rw [if_pos q]; exact g
  · rw [if_neg q]; exact g
/-- the reference begins -/
theorem yj_begG (R : Nat → Nat → Int32) : ∀ i : Nat, ((g_X9_begins_2 R i) 55 = R 55 ∧ (g_X9_begins_2 R i) 54 = R 54) ∧ ∀ j, j < i → (g_X9_begins_2 R i) 62 j = R 55 (10 + j) ∧ (g_X9_begins_2 R i) 63 j = R 55 (20 + j) ∧ (g_X9_begins_2 R i) 64 j = R 55 (30 + j)
  | 0 => ⟨⟨rfl, rfl⟩, fun _ h => absurd h (Nat.not_lt_zero _)⟩
  | i + 1 => by
    obtain ⟨⟨h1, h0⟩, h2⟩ := yj_begG R i
    show ((gb_X9_begins_2 R i (g_X9_begins_2 R i)) 55 = R 55 ∧ (gb_X9_begins_2 R i (g_X9_begins_2 R i)) 54 = R 54) ∧ ∀ j, j < i + 1 → (gb_X9_begins_2 R i (g_X9_begins_2 R i)) 62 j = _ ∧ (gb_X9_begins_2 R i (g_X9_begins_2 R i)) 63 j = _ ∧ (gb_X9_begins_2 R i (g_X9_begins_2 R i)) 64 j = _
    unfold gb_X9_begins_2
    refine ⟨⟨?_, ?_⟩, fun j hj => ?_⟩
    · rw [z_up_r _ _ (by decide), z_up_r _ _ (by decide), z_up_r _ _ (by decide)]; exact h1
    · rw [z_up_r _ _ (by decide), z_up_r _ _ (by decide), z_up_r _ _ (by decide)]; exact h0
    · by_cases q : j = i
      · subst q
        have f1 : (62 : Nat) ≠ 64 := by omega
        have f2 : (62 : Nat) ≠ 63 := by omega
        have f3 : (63 : Nat) ≠ 64 := by omega
        simp only [z_up_s, z_up_k _ _ f1, z_up_k _ _ f2, z_up_k _ _ f3, h1]
        exact ⟨trivial, trivial, trivial⟩
      · have u : ∀ (M : Nat → Nat → Int32) (a c : Nat) (w : Int32), z_up M c i w a j = M a j := by
          intro M a c w
          unfold z_up
          by_cases p : a = c
          · rw [if_pos p, if_neg q]
          · rw [if_neg p]
        simp only [u]
        exact h2 j (by omega)
theorem yj_beg (R : Nat → Nat → Int32) (np : Nat) : ((m_X9_begins R np) 55 = R 55 ∧ (∀ j, j ≠ 20 → (m_X9_begins R np) 54 j = R 54 j)) ∧ (∀ j, j < np → (m_X9_begins R np) 62 j = R 55 (10 + j) ∧ (m_X9_begins R np) 63 j = R 55 (20 + j) ∧ (m_X9_begins R np) 64 j = R 55 (30 + j)) ∧ (m_X9_begins R np) 54 20 = R 55 40 := by
  obtain ⟨⟨h1, h0⟩, h2⟩ := yj_begG R np
  unfold m_X9_begins
  refine ⟨⟨?_, fun j hj => ?_⟩, fun j hj => ?_, ?_⟩
  · rw [z_up_r _ _ (by decide)]; exact h1
  · rw [z_up_j _ _ hj, h0]
  · rw [z_up_k _ _ (by decide), z_up_k _ _ (by decide), z_up_k _ _ (by decide)]; exact h2 j hj
  · rw [z_up_s, h1]
/-- the yard in truth, gone through from now -/
theorem yj_Y1 {np : Nat} {C R : Nat → Nat → Int32} (h : yj_Y np C R) : yj_T np 1 C (m_X9_begins R np) := by
  obtain ⟨⟨h1, h0⟩, h2, h3⟩ := yj_beg R np
  refine ⟨⟨h.1.1, by rw [h0 6 (by decide)]; exact h.1.2.1, h.1.2.2⟩, fun j hj => ?_, ?_, ?_⟩
  · obtain ⟨a, c, d⟩ := h2 j hj
    have g := h.2.1 j hj
    rw [h1, a, c, d]
    exact ⟨g.1, g.2.2.1, g.2.2.2.1, g.2.2.2.2⟩
  · rw [h3]; exact h.2.2.2.1.1
  · rw [h3]; exact h.2.2.2.1.2.1
