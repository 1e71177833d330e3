/-! THE CLASS AGAINST THE REFERENCE: results, counted -/
theorem yj_brow {b : Bool} {np nq dn km tm sz bo rn : Nat} {C R : Nat → Nat → Int32} {CL RL : Nat → Nat → Int64} (h : yj_J b np nq dn km tm sz bo rn C R CL RL) (d : Int32) : (f_X8_bytesRefusal C d = 0 ∧ f_X9_rowIs R d 0 = 1 ∧ ∃ D m : Nat, D < 6 ∧ d = nI D ∧ m ≤ 60 ∧ C (42 + 2 * D) 2 = nI m ∧ R 76 D = nI m ∧ ∀ j, j < 60 → CL (43 + 2 * D) j = RL 77 (60 * D + j) ∧ (RL 77 (60 * D + j)).toInt32.toInt64 = RL 77 (60 * D + j)) ∨ (¬ f_X8_bytesRefusal C d = 0 ∧ ¬ 0 ≤ f_X9_rowIs R d 0 ∧ f_X9_rowIs R d 0 = f_X8_bytesRefusal C d) := by
  have hb := h.2.2.2.2.2.1.1.2.2
  unfold f_X8_bytesRefusal f_X9_rowIs
  rw [yj_isShelf]
  by_cases o : f_X9_isShelf d = 0
  · rw [if_pos o, if_pos o]; exact Or.inr ⟨by decide, by decide, rfl⟩
  · rw [if_neg o, if_neg o]
    obtain ⟨e1, e2⟩ := yj_shelf o
    generalize d.toNatClampNeg = D at e1 e2 ⊢
    rcases yj_placeS (h.2.2.2.2.2.2.1 D e2) hb 0 with (⟨q1, q2⟩ | ⟨q1, w, q2, q3⟩) | ⟨s, m, k1, k2, k3, k4, k5, k6, k7⟩
    · rw [q1, q2, if_pos rfl, if_neg (by decide)]; exact Or.inr ⟨by decide, by decide, rfl⟩
    · rw [q1, q3, if_neg (by decide), if_neg (by decide), if_pos (nI_pos' (by omega)), if_neg (show ¬ nI w = 50 + 0 from fun q => absurd ((nI_eq (b := 50) (by omega) (by omega)).mp q) (by omega))]
      exact Or.inr ⟨by decide, by decide, rfl⟩
    · obtain ⟨s1, s2, s3, s4, s5, -⟩ := yj_sI s k1
      rw [k3, k4, if_neg s1, if_pos s4]
      by_cases z : s = 0
      · subst z
        rw [if_pos (show nI 0 = 0 from rfl), if_pos (show nI (50 + 0) = 50 + 0 from rfl)]
        exact Or.inl ⟨rfl, rfl, D, m, e2, e1, k2, k5, k6, fun j hj => ⟨(k7 j hj).1, (k7 j hj).2 (by omega)⟩⟩
      · rw [if_neg (nI_ne0 (by omega) (by omega)), if_neg (show ¬ nI (50 + s) = 50 + 0 from fun q => absurd ((nI_eq (b := 50) (by omega) (by omega)).mp q) (by omega))]
        exact Or.inr ⟨by decide, by decide, rfl⟩
def yj_sm (f : Nat → Nat) : Nat → Nat
  | 0 => 0
  | n + 1 => yj_sm f n + f n
theorem yj_smL {f : Nat → Nat} : ∀ {n i : Nat}, i < n → f i ≤ yj_sm f n
  | 0, i, h => absurd h (Nat.not_lt_zero _)
  | n + 1, i, h => by
    show f i ≤ yj_sm f n + f n
    by_cases e : i = n
    · subst e; omega
    · have := yj_smL (f := f) (n := n) (i := i) (by omega); omega
/-- one more -/
def yj_in (c : Nat → Nat → Nat) (w l : Nat) (x y : Nat) : Nat := if x = w ∧ y = l then c x y + 1 else c x y
theorem yj_smI (c : Nat → Nat → Nat) (w l y : Nat) : ∀ n : Nat, yj_sm (fun x => yj_in c w l x y) n = yj_sm (fun x => c x y) n + (if y = l ∧ w < n then 1 else 0)
  | 0 => by show 0 = 0 + _; rw [if_neg (by omega)]
  | n + 1 => by
    have ih := yj_smI c w l y n
    show yj_sm (fun x => yj_in c w l x y) n + yj_in c w l n y = yj_sm (fun x => c x y) n + c n y + _
    rw [ih]
    unfold yj_in
    by_cases e : n = w ∧ y = l
    · rw [if_pos e, if_neg (by omega), if_pos (by omega)]; omega
    · rw [if_neg e]
      by_cases q : y = l ∧ w < n
      · rw [if_pos q, if_pos (by omega)]; omega
      · rw [if_neg q, if_neg (by omega)]; omega
/-- counts in one long -/
def yj_pk (d : Nat → Nat) : Nat → Nat
  | 0 => 0
  | n + 1 => yj_pk d n + d n * 64 ^ n
theorem yj_pkI (c : Nat → Nat → Nat) (w l : Nat) : ∀ n : Nat, yj_pk (yj_in c w l w) n = yj_pk (c w) n + (if l < n then 64 ^ l else 0)
  | 0 => by show 0 = 0 + _; rw [if_neg (by omega)]
  | n + 1 => by
    have ih := yj_pkI c w l n
    show yj_pk (yj_in c w l w) n + yj_in c w l w n * 64 ^ n = yj_pk (c w) n + c w n * 64 ^ n + _
    rw [ih]
    unfold yj_in
    by_cases e : n = l
    · subst e
      rw [if_pos (show w = w ∧ n = n from ⟨rfl, rfl⟩), if_neg (show ¬ n < n from Nat.lt_irrefl _), if_pos (show n < n + 1 from Nat.lt_succ_self _), Nat.add_mul, Nat.one_mul]; omega
    · rw [if_neg (show ¬ (w = w ∧ n = l) from fun z => e z.2)]
      by_cases q : l < n
      · rw [if_pos q, if_pos (by omega)]; omega
      · rw [if_neg q, if_neg (by omega)]; omega
theorem yj_pk0 : ∀ n : Nat, yj_pk (fun _ => 0) n = 0
  | 0 => rfl
  | n + 1 => by
    show yj_pk (fun _ => 0) n + 0 * 64 ^ n = 0
    rw [yj_pk0 n, Nat.zero_mul]
/-- what both have counted -/
def yj_K (np t : Nat) (c : Nat → Nat → Nat) (C R : Nat → Nat → Int32) (CL : Nat → Nat → Int64) : Prop := (∀ w l, w < 10 → l < 10 → R 67 (10 * w + l) = nI (c w l)) ∧ (∀ w, w < 10 → ∃ B, B < 1024 ∧ C 27 w = nI B ∧ ∀ l, l < 10 → B.testBit l = decide (0 < c w l)) ∧ (∀ w, w < 10 → CL 28 w = Int64.ofNat (yj_pk (c w) 10)) ∧ (∀ l, yj_sm (fun w => c w l) 10 ≤ t) ∧ ∀ w l, np ≤ w ∨ np ≤ l ∨ w = l → c w l = 0
theorem yj_l64 : ∀ l : Nat, l < 10 → (1 : Int64) <<< ((6 * nI l).toInt64 &&& 63) = Int64.ofNat (64 ^ l) := by decide +kernel
theorem yj_Ki {np t : Nat} {c : Nat → Nat → Nat} {C R : Nat → Nat → Int32} {CL : Nat → Nat → Int64} (h : yj_K np t c C R CL) (hn : np ≤ 10) (ht : t < 20) {w l : Nat} (hw : w < np) (hl : l < np) (hwl : w ≠ l) : yj_K np (t + 1) (yj_in c w l) (z_up C 27 w (C 27 w ||| ((1 : Int32) <<< (nI l &&& 31)))) (z_up R 67 (10 * w + l) (R 67 (10 * w + l) + 1)) (z_up CL 28 w (CL 28 w + ((1 : Int64) <<< ((6 * nI l).toInt64 &&& 63)))) := by
  obtain ⟨h1, h2, h3, h4, h5⟩ := h
  refine ⟨fun x y hx hy => ?_, fun x hx => ?_, fun x hx => ?_, fun y => ?_, fun x y q => ?_⟩
  · unfold yj_in
    by_cases e : x = w ∧ y = l
    · rw [if_pos e, e.1, e.2, z_up_s, h1 w l (by omega) (by omega)]; exact nI_1 _
    · rw [if_neg e, z_up_j _ _ (by omega)]; exact h1 x y hx hy
  · obtain ⟨B, g1, g2, g3⟩ := h2 x hx
    by_cases e : x = w
    · subst e
      refine ⟨B ||| 2 ^ l, Nat.or_lt_two_pow (n := 10) g1 (Nat.pow_lt_pow_right (by decide) (by omega)), ?_, fun y hy => ?_⟩
      · rw [z_up_s, g2, z_shl1 l (by omega), fa_or]
      · rw [Nat.testBit_or, g3 y hy, Nat.testBit_two_pow]
        unfold yj_in
        by_cases q : l = y
        · subst q; simp
        · have q2 : ¬ y = l := fun z => q z.symm
          simp [q, q2]
    · refine ⟨B, g1, by rw [z_up_j _ _ e]; exact g2, fun y hy => ?_⟩
      unfold yj_in
      rw [if_neg (fun z => e z.1)]; exact g3 y hy
  · by_cases e : x = w
    · subst e
      rw [z_up_s, h3 x hx, yj_l64 l (by omega), ← Int64.ofNat_add, yj_pkI, if_pos (by omega)]
    · rw [z_up_j _ _ e, h3 x hx]
      have : yj_in c w l x = c x := by
        funext y
        unfold yj_in
        rw [if_neg (fun z => e z.1)]
      rw [this]
  · rw [yj_smI]
    have := h4 y
    split <;> omega
  · unfold yj_in
    rw [if_neg (by omega)]; exact h5 x y q
theorem yj_Km {np t : Nat} {c : Nat → Nat → Nat} {C R : Nat → Nat → Int32} {CL : Nat → Nat → Int64} (h : yj_K np t c C R CL) {t' : Nat} (ht : t ≤ t') : yj_K np t' c C R CL := ⟨h.1, h.2.1, h.2.2.1, fun l => Nat.le_trans (h.2.2.2.1 l) ht, h.2.2.2.2⟩
theorem yj_rd10 : ∀ (r t : Nat) (I : Nat → Nat → Int32) (L : Nat → Nat → Int64), ((∀ a j, a ≠ 27 → (gw_X2_read_10 r t I L).1 a j = I a j) ∧ ∀ a j, a ≠ 28 → (gw_X2_read_10 r t I L).2 a j = L a j) ∧ (∀ j, j < t → (gw_X2_read_10 r t I L).1 27 j = I 27 j ∧ (gw_X2_read_10 r t I L).2 28 j = L 28 j) ∧ ∀ j, t ≤ j → j < t + r → (gw_X2_read_10 r t I L).1 27 j = 0 ∧ (gw_X2_read_10 r t I L).2 28 j = 0
  | 0, t, I, L => ⟨⟨fun _ _ _ => rfl, fun _ _ _ => rfl⟩, fun _ _ => ⟨rfl, rfl⟩, fun j h1 h2 => absurd h2 (by omega)⟩
  | r + 1, t, I, L => by
    obtain ⟨⟨a1, a2⟩, a3, a4⟩ := yj_rd10 r (t + 1) (z_up I 27 t 0) (z_up L 28 t 0)
    unfold gw_X2_read_10
    refine ⟨⟨fun a j q => (a1 a j q).trans (z_up_k _ _ q), fun a j q => (a2 a j q).trans (z_up_k _ _ q)⟩, fun j hj => ⟨(a3 j (by omega)).1.trans (z_up_j _ _ (by omega)), (a3 j (by omega)).2.trans (z_up_j _ _ (by omega))⟩, fun j h1 h2 => ?_⟩
    by_cases e : j = t
    · subst e; exact ⟨(a3 j (by omega)).1.trans (z_up_s _ _ _ _), (a3 j (by omega)).2.trans (z_up_s _ _ _ _)⟩
    · exact a4 j (by omega) (by omega)
theorem yj_tr2 (I : Nat → Nat → Int32) : ∀ i : Nat, (∀ a j, a ≠ 67 → g_X9_takesResults_2 I i a j = I a j) ∧ ∀ j, j < i → g_X9_takesResults_2 I i 67 j = 0
  | 0 => ⟨fun _ _ _ => rfl, fun j h => absurd h (Nat.not_lt_zero _)⟩
  | i + 1 => by
    obtain ⟨h1, h2⟩ := yj_tr2 I i
    show (∀ a j, a ≠ 67 → z_up (g_X9_takesResults_2 I i) 67 i 0 a j = I a j) ∧ ∀ j, j < i + 1 → z_up (g_X9_takesResults_2 I i) 67 i 0 67 j = 0
    refine ⟨fun a j q => (z_up_k _ _ q).trans (h1 a j q), fun j hj => ?_⟩
    by_cases e : j = i
    · rw [e, z_up_s]
    · rw [z_up_j _ _ e]; exact h2 j (by omega)
/-- what the two loops leave -/
def yj_Ko (np t : Nat) (C R C' R' : Nat → Nat → Int32) (CL CL' : Nat → Nat → Int64) : Prop := (∃ c, yj_K np t c C' R' CL') ∧ (∀ a j, a ≠ 27 → C' a j = C a j) ∧ (∀ a j, a ≠ 67 → R' a j = R a j) ∧ ∀ a j, a ≠ 28 → CL' a j = CL a j
theorem yj_i2S : ∀ t : Nat, t < 31 → 2 * nI t + 1 = nI (2 * t + 1) ∧ nI (2 * t) + 1 = nI (2 * t + 1) ∧ nI (2 * t) + 2 = nI (2 * t + 2) := by decide +kernel
theorem yj_i2 {t : Nat} (ht : t ≤ 30) : 2 * nI t + 1 = nI (2 * t + 1) ∧ nI (2 * t) + 1 = nI (2 * t + 1) ∧ nI (2 * t) + 2 = nI (2 * t + 2) := yj_i2S t (by omega)
theorem yj_rsLoop {np D m : Nat} {C R : Nat → Nat → Int32} {CL RL : Nat → Nat → Int64} (hn : np ≤ 10) (hD : D < 6) (hm : m ≤ 60) (hc : C (42 + 2 * D) 2 = nI m) (hr : R 76 D = nI m) (hv : ∀ j, j < 60 → CL (43 + 2 * D) j = RL 77 (60 * D + j) ∧ (RL 77 (60 * D + j)).toInt32.toInt64 = RL 77 (60 * D + j)) (h1 : C 1 0 = nI np) : ∀ (r t : Nat) (C' R' : Nat → Nat → Int32) (CL' : Nat → Nat → Int64), t + r = 20 → yj_Ko np t C R C' R' CL CL' → yj_Ko np 20 C R (gx_X2_read_38 (42 + 2 * D) r t C' CL').1 (gx_X9_takesResults_23 RL np D r t R') CL (gx_X2_read_38 (42 + 2 * D) r t C' CL').2
  | 0, t, C', R', CL', ht, hK => by
    obtain ⟨⟨c, k⟩, f⟩ := hK
    exact ⟨⟨c, yj_Km k (by omega)⟩, f⟩
  | r + 1, t, C', R', CL', ht, hK => by
    have IH := yj_rsLoop hn hD hm hc hr hv h1 r (t + 1)
    have hM : yj_Ko np (t + 1) C R C' R' CL CL' := by
      obtain ⟨⟨c, k⟩, f⟩ := hK
      exact ⟨⟨c, yj_Km k (by omega)⟩, f⟩
    obtain ⟨⟨c, k⟩, f1, f2, f3⟩ := hK
    obtain ⟨i1, i2, i3⟩ := yj_i2 (t := t) (by omega)
    have c2 : C' (42 + 2 * D) 2 = nI m := (f1 _ _ (by omega)).trans hc
    have r2 : R' 76 D = nI m := (f2 _ _ (by omega)).trans hr
    have n1 : C' 1 0 = nI np := (f1 _ _ (by omega)).trans h1
    unfold gx_X2_read_38 gx_X9_takesResults_23
    rw [c2, r2, i1, i2, i3]
    by_cases e : m ≤ 2 * t + 1
    · rw [if_pos (nI_lt (b := 2 * t + 2) (by omega) (by omega)), if_pos (nI_le e (by omega))]
      exact ⟨⟨c, yj_Km k (by omega)⟩, f1, f2, f3⟩
    · have g : ∀ i, i < m → f_X4_valueAt C' CL' (42 + 2 * D) (nI i) = RL 77 (60 * D + i) := by
        intro i hi
        unfold f_X4_valueAt f_X4_hasPlaces
        rw [c2, if_neg (nI_pos (by omega)), if_neg (show ¬ (1 : Int32) < 0 by decide), if_neg (fun q => absurd ((yj_lt1 hm _).mp q) (nI_ge hi (by omega))), if_neg (show ¬ (1 : Int32) = 0 by decide), nI_clamp (by omega), show 42 + 2 * D + 1 = 43 + 2 * D by omega, f3 _ _ (by omega)]
        exact (hv i (by omega)).1
      rw [if_neg (nI_nlt (a := m) (b := 2 * t + 2) (by omega) (by omega)), if_neg (nI_ge (show 2 * t + 1 < m by omega) (by omega)), g (2 * t) (by omega), g (2 * t + 1) (by omega), yj_has hn n1, yj_has hn n1, (hv (2 * t) (by omega)).2, show 60 * D + 2 * t + 1 = 60 * D + (2 * t + 1) by omega, (hv (2 * t + 1) (by omega)).2]
      have v0 := (hv (2 * t) (by omega)).2
      have v1 := (hv (2 * t + 1) (by omega)).2
      generalize RL 77 (60 * D + 2 * t) = x at v0 ⊢
      generalize RL 77 (60 * D + (2 * t + 1)) = y at v1 ⊢
      by_cases a1 : f_X9_isOne np x = 0
      · rw [if_pos a1, if_pos a1]; exact IH _ _ _ (by omega) hM
      · rw [if_neg a1, if_neg a1]
        by_cases a2 : f_X9_isOne np y = 0
        · rw [if_pos a2, if_pos a2]; exact IH _ _ _ (by omega) hM
        · rw [if_neg a2, if_neg a2]
          by_cases a3 : x.toInt32 = y.toInt32
          · rw [if_pos a3, if_pos ((yj_cmpE x y).mpr (by rw [← v0, ← v1, a3]))]; exact IH _ _ _ (by omega) hM
          · rw [if_neg a3, if_neg (fun q => a3 (by rw [(yj_cmpE x y).mp q]))]
            rw [← v0] at a1
            rw [← v1] at a2
            obtain ⟨x1, x2⟩ := yj_one hn a1
            obtain ⟨y1, y2⟩ := yj_one hn a2
            generalize x.toInt32 = X at x1 x2 a3 ⊢
            generalize y.toInt32 = Y at y1 y2 a3 ⊢
            generalize X.toNatClampNeg = w at x1 x2 ⊢
            generalize Y.toNatClampNeg = l at y1 y2 ⊢
            subst x1
            subst y1
            refine IH _ _ _ (by omega) ⟨⟨_, yj_Ki k hn (by omega) x2 y2 (fun z => a3 (by rw [z]))⟩, fun a j q => (z_up_k _ _ q).trans (f1 a j q), fun a j q => (z_up_k _ _ q).trans (f2 a j q), fun a j q => (z_up_k _ _ q).trans (f3 a j q)⟩
/-- both have read the row -/
theorem yj_res {np D m : Nat} {C R : Nat → Nat → Int32} {CL RL : Nat → Nat → Int64} (hn : np ≤ 10) (hD : D < 6) (hm : m ≤ 60) (hc : C (42 + 2 * D) 2 = nI m) (hr : R 76 D = nI m) (hv : ∀ j, j < 60 → CL (43 + 2 * D) j = RL 77 (60 * D + j) ∧ (RL 77 (60 * D + j)).toInt32.toInt64 = RL 77 (60 * D + j)) (h1 : C 1 0 = nI np) : yj_Ko np 20 (z_up C 26 0 (nI np)) R (m_X2_read C CL np (42 + 2 * D)) (m_X9_takesResults R RL np D) CL (n_X2_read C CL np (42 + 2 * D)) := by
  unfold m_X2_read n_X2_read m_X9_takesResults
  obtain ⟨⟨a1, a2⟩, a3, a4⟩ := yj_rd10 10 0 (z_up C 26 0 (nI np)) CL
  obtain ⟨b1, b2⟩ := yj_tr2 R 100
  refine yj_rsLoop hn hD hm ((z_up_k _ _ (by omega)).trans hc) hr hv ((z_up_k _ _ (by omega)).trans h1) 20 0 _ _ _ (by omega) ⟨⟨fun _ _ => 0, fun w l hw hl => b2 _ (by omega), fun w hw => ⟨0, by omega, (a4 w (by omega) (by omega)).1, fun l _ => by simp⟩, fun w hw => (a4 w (by omega) (by omega)).2.trans (by rw [yj_pk0]; rfl), fun l => ?_, fun _ _ _ => rfl⟩, a1, b1, a2⟩
  have z : ∀ n, yj_sm (fun _ => 0) n = 0 := by
    intro n
    induction n with
    | zero => rfl
    | succ n ih => show yj_sm (fun _ => 0) n + 0 = 0; omega
  rw [z]; omega
