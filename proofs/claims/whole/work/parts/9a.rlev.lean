/-! THE CLASS AGAINST THE REFERENCE: the levels | & < + * -/
theorem yj_lev (c : Int32) (lv : Nat) (h : f_X1_levelOf c = nI lv) (hl : lv ≤ 4) : c ≠ 0 ∧ c ≠ (-1) ∧ c ≠ 33 ∧ c ≠ 95 ∧ -c < 0 ∧ -(-c) = c ∧ f_X1_isName c = 0 ∧ -c ≠ (-63) ∧ -c ≠ (-59) ∧ ((lv = 4 ∧ (c = 37 ∨ c = 42 ∨ c = 47)) ∨ (lv = 1 ∧ c = 38) ∨ (lv = 3 ∧ (c = 43 ∨ c = 45)) ∨ (lv = 2 ∧ (c = 60 ∨ c = 61 ∨ c = 62)) ∨ (lv = 0 ∧ c = 124)) := by
  have k : ∀ n : Nat, n ≤ 4 → nI n = nI lv → lv = n := fun n hn q => ((nI_eq (by omega) (by omega)).mp q).symm
  unfold f_X1_levelOf at h
  by_cases h0 : c = 37
  · subst h0; rw [if_pos rfl] at h; have := k 4 (by omega) h; exact ⟨by decide, by decide, by decide, by decide, by decide, by decide, by decide, by decide, by decide, Or.inl ⟨this, Or.inl rfl⟩⟩
  · rw [if_neg h0] at h
    by_cases h1 : c = 38
    · subst h1; rw [if_pos rfl] at h; have := k 1 (by omega) h; exact ⟨by decide, by decide, by decide, by decide, by decide, by decide, by decide, by decide, by decide, Or.inr (Or.inl ⟨this, rfl⟩)⟩
    · rw [if_neg h1] at h
      by_cases h2 : c = 42
      · subst h2; rw [if_pos rfl] at h; have := k 4 (by omega) h; exact ⟨by decide, by decide, by decide, by decide, by decide, by decide, by decide, by decide, by decide, Or.inl ⟨this, Or.inr (Or.inl rfl)⟩⟩
      · rw [if_neg h2] at h
        by_cases h3 : c = 43
        · subst h3; rw [if_pos rfl] at h; have := k 3 (by omega) h; exact ⟨by decide, by decide, by decide, by decide, by decide, by decide, by decide, by decide, by decide, Or.inr (Or.inr (Or.inl ⟨this, Or.inl rfl⟩))⟩
        · rw [if_neg h3] at h
          by_cases h4 : c = 45
          · subst h4; rw [if_pos rfl] at h; have := k 3 (by omega) h; exact ⟨by decide, by decide, by decide, by decide, by decide, by decide, by decide, by decide, by decide, Or.inr (Or.inr (Or.inl ⟨this, Or.inr rfl⟩))⟩
          · rw [if_neg h4] at h
            by_cases h5 : c = 47
            · subst h5; rw [if_pos rfl] at h; have := k 4 (by omega) h; exact ⟨by decide, by decide, by decide, by decide, by decide, by decide, by decide, by decide, by decide, Or.inl ⟨this, Or.inr (Or.inr rfl)⟩⟩
            · rw [if_neg h5] at h
              by_cases h6 : c = 60
              · subst h6; rw [if_pos rfl] at h; have := k 2 (by omega) h; exact ⟨by decide, by decide, by decide, by decide, by decide, by decide, by decide, by decide, by decide, Or.inr (Or.inr (Or.inr (Or.inl ⟨this, Or.inl rfl⟩)))⟩
              · rw [if_neg h6] at h
                by_cases h7 : c = 61
                · subst h7; rw [if_pos rfl] at h; have := k 2 (by omega) h; exact ⟨by decide, by decide, by decide, by decide, by decide, by decide, by decide, by decide, by decide, Or.inr (Or.inr (Or.inr (Or.inl ⟨this, Or.inr (Or.inl rfl)⟩)))⟩
                · rw [if_neg h7] at h
                  by_cases h8 : c = 62
                  · subst h8; rw [if_pos rfl] at h; have := k 2 (by omega) h; exact ⟨by decide, by decide, by decide, by decide, by decide, by decide, by decide, by decide, by decide, Or.inr (Or.inr (Or.inr (Or.inl ⟨this, Or.inr (Or.inr rfl)⟩)))⟩
                  · rw [if_neg h8] at h
                    by_cases h9 : c = 124
                    · subst h9; rw [if_pos rfl] at h; have := k 0 (by omega) h; exact ⟨by decide, by decide, by decide, by decide, by decide, by decide, by decide, by decide, by decide, Or.inr (Or.inr (Or.inr (Or.inr ⟨this, rfl⟩)))⟩
                    · rw [if_neg h9] at h
                      exact absurd h (by have : lv = 0 ∨ lv = 1 ∨ lv = 2 ∨ lv = 3 ∨ lv = 4 := by omega
                                         rcases this with q | q | q | q | q <;> rw [q] <;> decide)
/-- what the reference's loop of a level does: G by rounds left, rounds gone, what it has, the store -/
def yj_LS (lv : Nat) (F' : (Nat → Nat → Int32) → Int32 × (Nat → Nat → Int32)) (G : Nat → Nat → Int32 → (Nat → Nat → Int32) → Int32 × (Nat → Nat → Int32)) : Prop := (∀ r t v J, 0 ≤ J 54 14 → (G (r + 1) t v J).2 = J) ∧ (∀ r t v J, J 54 14 < 0 → f_X1_levelOf (f_X9_byteAt J) = nI lv → ∃ t', G (r + 1) t v J = G r t' (f_X1_joined (f_X9_byteAt J) v (F' (z_up J 54 12 (J 54 12 + 1))).1) (F' (z_up J 54 12 (J 54 12 + 1))).2) ∧ (∀ r t v J, J 54 14 < 0 → ¬ f_X1_levelOf (f_X9_byteAt J) = nI lv → G (r + 1) t v J = (v, J))
/-- what a reading of both does at every place with so many open -/
def yj_PF (ln : Nat) (tx : Nat → Int32) (b : Bool) (op : Nat) (F R : (Nat → Nat → Int32) → Int32 × (Nat → Nat → Int32)) : Prop := ∀ (I J : Nat → Nat → Int32) (p dr : Nat), yj_IS ln tx I J p op dr → yj_O ln tx b p op dr [] I J (F I) (R J)
theorem yj_lvE {ln p op dr : Nat} {tx : Nat → Int32} {I J : Nat → Nat → Int32} (h : yj_IS ln tx I J p op dr) {lv : Nat} (hl : lv ≤ 4) : f_X1_levelOf (f_X9_byteAt J) = nI lv ↔ f_X1_levelOf (yj_ch ln tx p) = nI lv := by
  by_cases q : p < ln
  · rw [yj_byE h q]
  · rw [yj_by h, if_neg q]
    unfold yj_ch
    rw [if_neg q]
    exact ⟨fun e => absurd rfl (yj_lev 0 lv e hl).1, fun e => absurd rfl (yj_lev (-1) lv e hl).2.1⟩
theorem yj_loop {ln op lv : Nat} {tx : Nat → Int32} {b : Bool} {FL : Nat → Nat → (Nat → Nat → Int32) → Int32 × (Nat → Nat → Int32)} {F' : (Nat → Nat → Int32) → Int32 × (Nat → Nat → Int32)} {G : Nat → Nat → Int32 → (Nat → Nat → Int32) → Int32 × (Nat → Nat → Int32)} (hl : lv ≤ 4) (h2 : lv ≠ 2) (hF : yj_PF ln tx b op (FL (lv + 1) op) F') (hG : yj_LS lv F' G) : ∀ (r t r' t' : Nat) (v : Int32) (p dr : Nat) (I J : Nat → Nat → Int32), ln - p ≤ r → ln - p < r' → yj_IS ln tx I J p op dr → yj_O ln tx b p op dr [v] I J (gx_X1_readLevel_26 b FL lv op r t I) (G r' t' v J) := by
  have stop : ∀ (r' t' : Nat) (v : Int32) (p dr : Nat) (I J : Nat → Nat → Int32), 0 < r' → yj_IS ln tx I J p op dr → ¬ f_X1_levelOf (yj_ch ln tx p) = nI lv → yj_O ln tx b p op dr [v] I J (1, I) (G r' t' v J) := by
    intro r' t' v p dr I J hr h q
    obtain ⟨k, rfl⟩ : ∃ k, r' = k + 1 := ⟨r' - 1, by omega⟩
    rw [hG.2.2 k t' v J (by rw [h.2.2.2.2.2.1]; decide) (fun e => q ((yj_lvE h hl).mp e))]
    exact ⟨yj_FC_rf b I, z_FrR_rf J, Or.inr ⟨rfl, p, dr, Nat.le_refl _, Nat.le_of_eq (Nat.add_comm _ _), h, yj_Sg0 _ b dr _ (fun _ _ => rfl)⟩⟩
  intro r
  induction r with
  | zero =>
    intro t r' t' v p dr I J hr hr' h
    have hp : ¬ p < ln := by omega
    refine stop r' t' v p dr I J (by omega) h (fun e => ?_)
    unfold yj_ch at e
    rw [if_neg hp] at e
    exact (yj_lev (-1) lv e hl).2.1 rfl
  | succ r ih =>
    intro t r' t' v p dr I J hr hr' h
    unfold gx_X1_readLevel_26
    rw [yj_nx h]
    by_cases q : f_X1_levelOf (yj_ch ln tx p) = nI lv
    · have K := yj_lev _ lv q hl
      have hpl : p < ln := yj_chp K.2.1
      have dfb := yj_dfc b
      have hdr := h.2.2.1.2
      obtain ⟨k, rfl⟩ : ∃ k, r' = k + 1 := ⟨r' - 1, by omega⟩
      obtain ⟨t2, ht2⟩ := hG.2.1 k t' v J (by rw [h.2.2.2.2.2.1]; decide) ((yj_lvE h hl).mpr q)
      rw [if_pos q, ht2, yj_byE h hpl]
      obtain ⟨f1, f2, f3⟩ := hF _ _ _ _ (yj_adv h hpl)
      generalize F' (z_up J 54 12 (J 54 12 + 1)) = Y at f1 f2 f3 ⊢
      generalize FL (lv + 1) op (z_up I 13 2 (I 13 2 + 1)) = X at f1 f2 f3 ⊢
      have F1 := yj_FC_tr (yj_FC_av b I _) f1
      have F2 := z_FrR_tr (z_FrR_12 J _) f2
      rcases f3 with ⟨x0, f, hf, xf, yf⟩ | ⟨x1, p', dr', a1, a2, a3, a4⟩
      · rw [if_pos x0]
        have hln : ln ≤ 120 := h.1.1.2
        obtain ⟨k2, rfl⟩ : ∃ k2, k = k2 + 1 := ⟨k - 1, by omega⟩
        have e := hG.1 k2 t2 (f_X1_joined (yj_ch ln tx p) v Y.1) Y.2 (by rw [yf]; exact nI_pos' (by omega))
        refine ⟨F1, by rw [e]; exact F2, Or.inl ⟨rfl, f, hf, xf, by rw [e]; exact yf⟩⟩
      · have ne : ¬ nI lv = 2 := fun e => h2 ((nI_eq (b := 2) (by omega) (by omega)).mp e)
        rw [if_neg (by rw [x1]; decide), if_neg ne]
        have hdr' := a3.2.2.1.2
        have W := yj_wrI (b := b) a3 (show dr' + 1 ≤ p' by omega) (-(yj_ch ln tx p))
        obtain ⟨g1, g2, g3⟩ := ih (t + 1) k t2 (f_X1_joined (yj_ch ln tx p) v Y.1) p' (dr' + 1) _ _ (by omega) (by omega) W
        have e61 : (z_up J 54 12 (J 54 12 + 1)) 61 = J 61 := z_up_r _ _ (by decide)
        have e612 : Y.2 61 = J 61 := by funext j; exact (f2 61 j (Or.inl (by decide))).trans (congrFun e61 j)
        rw [e61] at a4
        have S : yj_Sg (J 61) b I (m_X1_write b X.2 ((X.2 13 6).toNatClampNeg) (-(yj_ch ln tx p))) dr (dr' + 1) [v] [f_X1_joined (yj_ch ln tx p) v Y.1] := by
          refine yj_SgT (yj_SgW (yj_SgE a4 (z_up_r _ _ (by omega)).symm rfl) [v]) (yj_wrS a3 ⟨K.2.2.2.2.2.2.2.1, K.2.2.2.2.2.2.2.2.1⟩ (fun st => ?_))
          show yj_s1 (J 61) (Y.1 :: v :: st) (-(yj_ch ln tx p)) = _
          unfold yj_s1
          rw [if_pos K.2.2.2.2.1, K.2.2.2.2.2.1, if_pos K.2.2.2.2.2.2.1]
          unfold yj_jl
          rw [if_neg K.2.2.1, if_neg K.2.2.2.1]
          rfl
        refine ⟨yj_FC_tr (yj_FC_tr F1 (yj_FC_wr b _ _ _)) g1, z_FrR_tr F2 g2, ?_⟩
        rcases g3 with ⟨y0, f, hf, xf, yf⟩ | ⟨y1, p2, dr2, c1, c2, c3, c4⟩
        · exact Or.inl ⟨y0, f, hf, xf, yf⟩
        · rw [e612] at c4
          exact Or.inr ⟨y1, p2, dr2, by omega, by omega, c3, yj_SgT S c4⟩
    · rw [if_neg q]
      exact stop r' t' v p dr I J (by omega) h q
/-- a whole level but that of < = >: the first part, then the loop -/
theorem yj_level {ln op lv : Nat} {tx : Nat → Int32} {b : Bool} {FL : Nat → Nat → (Nat → Nat → Int32) → Int32 × (Nat → Nat → Int32)} {FO : Nat → (Nat → Nat → Int32) → Int32 × (Nat → Nat → Int32)} {F' : (Nat → Nat → Int32) → Int32 × (Nat → Nat → Int32)} {G : Nat → Nat → Int32 → (Nat → Nat → Int32) → Int32 × (Nat → Nat → Int32)} (hl : lv ≤ 4) (h2 : lv ≠ 2) (hF : yj_PF ln tx b op (FL (lv + 1) op) F') (hG : yj_LS lv F' G) : yj_PF ln tx b op (fun I => (f_X1_readLevel b I FL FO lv op, m_X1_readLevel b I FL FO lv op)) (fun J => G 121 0 (F' J).1 (F' J).2) := by
  intro I J p dr h
  have hln : ln ≤ 120 := h.1.1.2
  obtain ⟨f1, f2, f3⟩ := hF I J p dr h
  show yj_O ln tx b p op dr [] I J (f_X1_readLevel b I FL FO lv op, m_X1_readLevel b I FL FO lv op) (G 121 0 (F' J).1 (F' J).2)
  unfold f_X1_readLevel m_X1_readLevel
  have h4 : nI lv ≤ 4 := nI_le (b := 4) hl (by omega)
  rw [if_pos h4, if_pos h4]
  generalize F' J = Y at f1 f2 f3 ⊢
  generalize FL (lv + 1) op I = X at f1 f2 f3 ⊢
  rcases f3 with ⟨x0, f, hf, xf, yf⟩ | ⟨x1, p', dr', a1, a2, a3, a4⟩
  · rw [if_pos x0, if_pos x0]
    have e := hG.1 120 0 Y.1 Y.2 (by rw [yf]; exact nI_pos' (by omega))
    exact ⟨f1, by rw [e]; exact f2, Or.inl ⟨rfl, f, hf, xf, by rw [e]; exact yf⟩⟩
  · rw [if_neg (by rw [x1]; decide), if_neg (by rw [x1]; decide)]
    obtain ⟨g1, g2, g3⟩ := yj_loop (b := b) (FL := FL) hl h2 hF hG 120 0 121 0 Y.1 p' dr' X.2 Y.2 (by omega) (by omega) a3
    have e61 : Y.2 61 = J 61 := by funext j; exact f2 61 j (Or.inl (by decide))
    refine ⟨yj_FC_tr f1 g1, z_FrR_tr f2 g2, ?_⟩
    rcases g3 with ⟨y0, f, hf, xf, yf⟩ | ⟨y1, p2, dr2, c1, c2, c3, c4⟩
    · exact Or.inl ⟨y0, f, hf, xf, yf⟩
    · rw [e61] at c4
      exact Or.inr ⟨y1, p2, dr2, by omega, by omega, c3, yj_SgT a4 c4⟩
/-- the level of < = >: once at most -/
theorem yj_level2 {ln op : Nat} {tx : Nat → Int32} {b : Bool} {FL : Nat → Nat → (Nat → Nat → Int32) → Int32 × (Nat → Nat → Int32)} {FO : Nat → (Nat → Nat → Int32) → Int32 × (Nat → Nat → Int32)} {F' R : (Nat → Nat → Int32) → Int32 × (Nat → Nat → Int32)} (hF : yj_PF ln tx b op (FL 3 op) F') (hR0 : ∀ J, 0 ≤ (F' J).2 54 14 → (R J).2 = (F' J).2) (hR1 : ∀ J, (F' J).2 54 14 < 0 → f_X1_levelOf (f_X9_byteAt (F' J).2) = nI 2 → R J = (f_X1_joined (f_X9_byteAt (F' J).2) (F' J).1 (F' (z_up (F' J).2 54 12 ((F' J).2 54 12 + 1))).1, (F' (z_up (F' J).2 54 12 ((F' J).2 54 12 + 1))).2)) (hR2 : ∀ J, (F' J).2 54 14 < 0 → ¬ f_X1_levelOf (f_X9_byteAt (F' J).2) = nI 2 → R J = F' J) : yj_PF ln tx b op (fun I => (f_X1_readLevel b I FL FO 2 op, m_X1_readLevel b I FL FO 2 op)) R := by
  intro I J p dr h
  have hln : ln ≤ 120 := h.1.1.2
  obtain ⟨f1, f2, f3⟩ := hF I J p dr h
  show yj_O ln tx b p op dr [] I J (f_X1_readLevel b I FL FO 2 op, m_X1_readLevel b I FL FO 2 op) (R J)
  unfold f_X1_readLevel m_X1_readLevel
  have h4 : nI 2 ≤ 4 := by decide
  rw [if_pos h4, if_pos h4, show 2 + 1 = 3 from rfl]
  have r0 := hR0 J
  have r1 := hR1 J
  have r2 := hR2 J
  generalize F' J = Y at f1 f2 f3 r0 r1 r2 ⊢
  generalize FL 3 op I = X at f1 f2 f3 ⊢
  rcases f3 with ⟨x0, f, hf, xf, yf⟩ | ⟨x1, p', dr', a1, a2, a3, a4⟩
  · rw [if_pos x0, if_pos x0]
    have e := r0 (by rw [yf]; exact nI_pos' (by omega))
    exact ⟨f1, by rw [e]; exact f2, Or.inl ⟨rfl, f, hf, xf, by rw [e]; exact yf⟩⟩
  · rw [if_neg (by rw [x1]; decide), if_neg (by rw [x1]; decide)]
    have y14 : Y.2 54 14 < 0 := by rw [a3.2.2.2.2.2.1]; decide
    have e61 : Y.2 61 = J 61 := by funext j; exact f2 61 j (Or.inl (by decide))
    unfold gx_X1_readLevel_26
    rw [yj_nx a3, show 2 + 1 = 3 from rfl]
    by_cases q : f_X1_levelOf (yj_ch ln tx p') = nI 2
    · have K := yj_lev _ 2 q (by omega)
      have hpl : p' < ln := yj_chp K.2.1
      have dfb := yj_dfc b
      have hdr := a3.2.2.1.2
      rw [if_pos q, r1 y14 ((yj_lvE a3 (by omega)).mpr q), yj_byE a3 hpl]
      obtain ⟨k1, k2, k3⟩ := hF _ _ _ _ (yj_adv a3 hpl)
      generalize F' (z_up Y.2 54 12 (Y.2 54 12 + 1)) = Y2 at k1 k2 k3 ⊢
      generalize FL 3 op (z_up X.2 13 2 (X.2 13 2 + 1)) = X2 at k1 k2 k3 ⊢
      have F1 := yj_FC_tr f1 (yj_FC_tr (yj_FC_av b _ _) k1)
      have F2 := z_FrR_tr f2 (z_FrR_tr (z_FrR_12 _ _) k2)
      rcases k3 with ⟨x0, f, hf, xf, yf⟩ | ⟨x2, p2, dr2, c1, c2, c3, c4⟩
      · rw [if_pos x0]
        exact ⟨F1, F2, Or.inl ⟨rfl, f, hf, xf, yf⟩⟩
      · rw [if_neg (by rw [x2]; decide), if_pos (show nI 2 = 2 from rfl)]
        have hdr2 := c3.2.2.1.2
        have e612 : (z_up Y.2 54 12 (Y.2 54 12 + 1)) 61 = J 61 := (z_up_r _ _ (by decide)).trans e61
        rw [e612] at c4
        refine ⟨yj_FC_tr F1 (yj_FC_wr b _ _ _), F2, Or.inr ⟨rfl, p2, dr2 + 1, by omega, by omega, yj_wrI c3 (by omega) _, ?_⟩⟩
        refine yj_SgT a4 (yj_SgT (yj_SgW (yj_SgE c4 (z_up_r _ _ (by omega)).symm rfl) [Y.1]) (yj_wrS c3 ⟨K.2.2.2.2.2.2.2.1, K.2.2.2.2.2.2.2.2.1⟩ (fun st => ?_)))
        show yj_s1 (J 61) (Y2.1 :: Y.1 :: st) (-(yj_ch ln tx p')) = _
        unfold yj_s1
        rw [if_pos K.2.2.2.2.1, K.2.2.2.2.2.1, if_pos K.2.2.2.2.2.2.1]
        unfold yj_jl
        rw [if_neg K.2.2.1, if_neg K.2.2.2.1]
        rfl
    · rw [if_neg q, r2 y14 (fun e => q ((yj_lvE a3 (by omega)).mp e))]
      exact ⟨f1, f2, Or.inr ⟨rfl, p', dr', a1, a2, a3, a4⟩⟩
theorem yj_lvC (c : Int32) {lv : Nat} (hl : lv ≤ 4) : f_X1_levelOf c = nI lv → ((lv = 4 ∧ (c = 37 ∨ c = 42 ∨ c = 47)) ∨ (lv = 1 ∧ c = 38) ∨ (lv = 3 ∧ (c = 43 ∨ c = 45)) ∨ (lv = 2 ∧ (c = 60 ∨ c = 61 ∨ c = 62)) ∨ (lv = 0 ∧ c = 124)) := fun h => (yj_lev c lv h hl).2.2.2.2.2.2.2.2.2
theorem yj_j37 (l r : Int32) : f_X1_joined 37 l r = (if r = 0 then 0 else l - l / r * r) := by
  unfold f_X1_joined
  rw [if_neg (show ¬ (37 : Int32) = 38 by decide), if_neg (show ¬ (37 : Int32) = 42 by decide), if_neg (show ¬ (37 : Int32) = 43 by decide), if_neg (show ¬ (37 : Int32) = 45 by decide), if_neg (show ¬ (37 : Int32) = 47 by decide), if_neg (show ¬ (37 : Int32) = 60 by decide), if_neg (show ¬ (37 : Int32) = 61 by decide), if_neg (show ¬ (37 : Int32) = 62 by decide), if_neg (show ¬ (37 : Int32) = 124 by decide)]
theorem yj_j38 (l r : Int32) : f_X1_joined 38 l r = (if l = 0 then 0 else if r = 0 then 0 else 1) := by
  unfold f_X1_joined
  rw [if_pos (show (38 : Int32) = 38 from rfl)]
theorem yj_j42 (l r : Int32) : f_X1_joined 42 l r = (l * r) := by
  unfold f_X1_joined
  rw [if_neg (show ¬ (42 : Int32) = 38 by decide), if_pos (show (42 : Int32) = 42 from rfl)]
theorem yj_j43 (l r : Int32) : f_X1_joined 43 l r = (l + r) := by
  unfold f_X1_joined
  rw [if_neg (show ¬ (43 : Int32) = 38 by decide), if_neg (show ¬ (43 : Int32) = 42 by decide), if_pos (show (43 : Int32) = 43 from rfl)]
theorem yj_j45 (l r : Int32) : f_X1_joined 45 l r = (l - r) := by
  unfold f_X1_joined
  rw [if_neg (show ¬ (45 : Int32) = 38 by decide), if_neg (show ¬ (45 : Int32) = 42 by decide), if_neg (show ¬ (45 : Int32) = 43 by decide), if_pos (show (45 : Int32) = 45 from rfl)]
theorem yj_j47 (l r : Int32) : f_X1_joined 47 l r = (if r = 0 then 0 else l / r) := by
  unfold f_X1_joined
  rw [if_neg (show ¬ (47 : Int32) = 38 by decide), if_neg (show ¬ (47 : Int32) = 42 by decide), if_neg (show ¬ (47 : Int32) = 43 by decide), if_neg (show ¬ (47 : Int32) = 45 by decide), if_pos (show (47 : Int32) = 47 from rfl)]
theorem yj_j60 (l r : Int32) : f_X1_joined 60 l r = (if r ≤ l then 0 else 1) := by
  unfold f_X1_joined
  rw [if_neg (show ¬ (60 : Int32) = 38 by decide), if_neg (show ¬ (60 : Int32) = 42 by decide), if_neg (show ¬ (60 : Int32) = 43 by decide), if_neg (show ¬ (60 : Int32) = 45 by decide), if_neg (show ¬ (60 : Int32) = 47 by decide), if_pos (show (60 : Int32) = 60 from rfl)]
theorem yj_j61 (l r : Int32) : f_X1_joined 61 l r = (if l = r then 1 else 0) := by
  unfold f_X1_joined
  rw [if_neg (show ¬ (61 : Int32) = 38 by decide), if_neg (show ¬ (61 : Int32) = 42 by decide), if_neg (show ¬ (61 : Int32) = 43 by decide), if_neg (show ¬ (61 : Int32) = 45 by decide), if_neg (show ¬ (61 : Int32) = 47 by decide), if_neg (show ¬ (61 : Int32) = 60 by decide), if_pos (show (61 : Int32) = 61 from rfl)]
theorem yj_j62 (l r : Int32) : f_X1_joined 62 l r = (if l ≤ r then 0 else 1) := by
  unfold f_X1_joined
  rw [if_neg (show ¬ (62 : Int32) = 38 by decide), if_neg (show ¬ (62 : Int32) = 42 by decide), if_neg (show ¬ (62 : Int32) = 43 by decide), if_neg (show ¬ (62 : Int32) = 45 by decide), if_neg (show ¬ (62 : Int32) = 47 by decide), if_neg (show ¬ (62 : Int32) = 60 by decide), if_neg (show ¬ (62 : Int32) = 61 by decide), if_pos (show (62 : Int32) = 62 from rfl)]
theorem yj_j124 (l r : Int32) : f_X1_joined 124 l r = (if l = 0 then if r = 0 then 0 else 1 else 1) := by
  unfold f_X1_joined
  rw [if_neg (show ¬ (124 : Int32) = 38 by decide), if_neg (show ¬ (124 : Int32) = 42 by decide), if_neg (show ¬ (124 : Int32) = 43 by decide), if_neg (show ¬ (124 : Int32) = 45 by decide), if_neg (show ¬ (124 : Int32) = 47 by decide), if_neg (show ¬ (124 : Int32) = 60 by decide), if_neg (show ¬ (124 : Int32) = 61 by decide), if_neg (show ¬ (124 : Int32) = 62 by decide), if_pos (show (124 : Int32) = 124 from rfl)]
theorem yj_lv4 {c : Int32} (h : f_X1_levelOf c = nI 4) : c = 37 ∨ c = 42 ∨ c = 47 := by
  rcases yj_lvC c (lv := 4) (by omega) h with ⟨a, k⟩ | ⟨a, k⟩ | ⟨a, k⟩ | ⟨a, k⟩ | ⟨a, k⟩
  · exact k
  · exact absurd a (by decide)
  · exact absurd a (by decide)
  · exact absurd a (by decide)
  · exact absurd a (by decide)
theorem yj_lv1 {c : Int32} (h : f_X1_levelOf c = nI 1) : c = 38 := by
  rcases yj_lvC c (lv := 1) (by omega) h with ⟨a, k⟩ | ⟨a, k⟩ | ⟨a, k⟩ | ⟨a, k⟩ | ⟨a, k⟩
  · exact absurd a (by decide)
  · exact k
  · exact absurd a (by decide)
  · exact absurd a (by decide)
  · exact absurd a (by decide)
theorem yj_lv3 {c : Int32} (h : f_X1_levelOf c = nI 3) : c = 43 ∨ c = 45 := by
  rcases yj_lvC c (lv := 3) (by omega) h with ⟨a, k⟩ | ⟨a, k⟩ | ⟨a, k⟩ | ⟨a, k⟩ | ⟨a, k⟩
  · exact absurd a (by decide)
  · exact absurd a (by decide)
  · exact k
  · exact absurd a (by decide)
  · exact absurd a (by decide)
theorem yj_lv2 {c : Int32} (h : f_X1_levelOf c = nI 2) : c = 60 ∨ c = 61 ∨ c = 62 := by
  rcases yj_lvC c (lv := 2) (by omega) h with ⟨a, k⟩ | ⟨a, k⟩ | ⟨a, k⟩ | ⟨a, k⟩ | ⟨a, k⟩
  · exact absurd a (by decide)
  · exact absurd a (by decide)
  · exact absurd a (by decide)
  · exact k
  · exact absurd a (by decide)
theorem yj_lv0 {c : Int32} (h : f_X1_levelOf c = nI 0) : c = 124 := by
  rcases yj_lvC c (lv := 0) (by omega) h with ⟨a, k⟩ | ⟨a, k⟩ | ⟨a, k⟩ | ⟨a, k⟩ | ⟨a, k⟩
  · exact absurd a (by decide)
  · exact absurd a (by decide)
  · exact absurd a (by decide)
  · exact absurd a (by decide)
  · exact k
theorem yj_LSproduct (FO : (Nat → Nat → Int32) → Int32 × (Nat → Nat → Int32)) : yj_LS 4 FO (fun r t v J => gx_X9_product_10 FO r t v (f_X9_byteAt J) J) := by
  refine ⟨fun r t v J h => ?_, fun r t v J h q => ⟨t + 1, ?_⟩, fun r t v J h q => ?_⟩
  · show (gx_X9_product_10 FO (r + 1) t v (f_X9_byteAt J) J).2 = J
    unfold gx_X9_product_10
    rw [if_pos h]
  · show gx_X9_product_10 FO (r + 1) t v (f_X9_byteAt J) J = gx_X9_product_10 FO r (t + 1) _ _ _
    rw [gx_X9_product_10, if_neg (Int32.not_le.mpr h)]
    rcases yj_lv4 q with e | e | e
    · rw [e, yj_j37, if_neg (show ¬ (37 : Int32) = 42 by decide), if_neg (show ¬ (37 : Int32) = 47 by decide), if_pos (show (37 : Int32) = 37 from rfl)]
      by_cases z : (FO (z_up J 54 12 (J 54 12 + 1))).1 = 0
      · rw [if_pos z, if_pos z]
      · rw [if_neg z, if_neg z]
    · rw [e, yj_j42, if_pos (show (42 : Int32) = 42 from rfl)]
    · rw [e, yj_j47, if_neg (show ¬ (47 : Int32) = 42 by decide), if_pos (show (47 : Int32) = 47 from rfl)]
      by_cases z : (FO (z_up J 54 12 (J 54 12 + 1))).1 = 0
      · rw [if_pos z, if_pos z]
      · rw [if_neg z, if_neg z]
  · show gx_X9_product_10 FO (r + 1) t v (f_X9_byteAt J) J = _
    rw [gx_X9_product_10, if_neg (Int32.not_le.mpr h)]
    have n1 : ¬ f_X9_byteAt J = 42 := fun e => q (by rw [e]; decide)
    have n2 : ¬ f_X9_byteAt J = 47 := fun e => q (by rw [e]; decide)
    have n3 : ¬ f_X9_byteAt J = 37 := fun e => q (by rw [e]; decide)
    rw [if_neg n1, if_neg n2, if_neg n3]
theorem yj_LSsums (FO : (Nat → Nat → Int32) → Int32 × (Nat → Nat → Int32)) : yj_LS 3 (fun J => (f_X9_product J FO, m_X9_product J FO)) (fun r t v J => gx_X9_sums_5 FO r t v J) := by
  refine ⟨fun r t v J h => ?_, fun r t v J h q => ⟨t + 1, ?_⟩, fun r t v J h q => ?_⟩
  · show (gx_X9_sums_5 FO (r + 1) t v J).2 = J
    unfold gx_X9_sums_5
    rw [if_pos h]
  · show gx_X9_sums_5 FO (r + 1) t v J = gx_X9_sums_5 FO r (t + 1) _ _
    rw [gx_X9_sums_5, if_neg (Int32.not_le.mpr h)]
    rcases yj_lv3 q with e | e
    · rw [e, yj_j43, if_pos (show (43 : Int32) = 43 from rfl)]
    · rw [e, yj_j45, if_neg (show ¬ (45 : Int32) = 43 by decide), if_pos (show (45 : Int32) = 45 from rfl)]
  · show gx_X9_sums_5 FO (r + 1) t v J = _
    rw [gx_X9_sums_5, if_neg (Int32.not_le.mpr h)]
    have n1 : ¬ f_X9_byteAt J = 43 := fun e => q (by rw [e]; decide)
    have n2 : ¬ f_X9_byteAt J = 45 := fun e => q (by rw [e]; decide)
    rw [if_neg n1, if_neg n2]
theorem yj_tkp {J : Nat → Nat → Int32} (h : J 54 14 < 0) (c : Int32) : (f_X9_byteAt J = c → f_X9_takes J c = 1 ∧ m_X9_takes J c = z_up J 54 12 (J 54 12 + 1)) ∧ (¬ f_X9_byteAt J = c → f_X9_takes J c = 0 ∧ m_X9_takes J c = J) := by
  unfold f_X9_takes m_X9_takes
  rw [if_neg (Int32.not_le.mpr h), if_neg (Int32.not_le.mpr h)]
  exact ⟨fun e => by rw [if_pos e, if_pos e]; exact ⟨rfl, rfl⟩, fun e => by rw [if_neg e, if_neg e]; exact ⟨rfl, rfl⟩⟩
theorem yj_tkn {J : Nat → Nat → Int32} (h : 0 ≤ J 54 14) (c : Int32) : f_X9_takes J c = 0 ∧ m_X9_takes J c = J := by
  unfold f_X9_takes m_X9_takes
  rw [if_pos h, if_pos h]
  exact ⟨rfl, rfl⟩
theorem yj_LSboth (FO : (Nat → Nat → Int32) → Int32 × (Nat → Nat → Int32)) : yj_LS 1 (fun J => (f_X9_compared J FO, m_X9_compared J FO)) (fun r t v J => gx_X9_both_5 FO r t v J) := by
  refine ⟨fun r t v J h => ?_, fun r t v J h q => ⟨t + 1, ?_⟩, fun r t v J h q => ?_⟩
  · show (gx_X9_both_5 FO (r + 1) t v J).2 = J
    obtain ⟨t0, t1⟩ := yj_tkn h 38
    unfold gx_X9_both_5
    rw [if_pos t0, t1]
  · show gx_X9_both_5 FO (r + 1) t v J = gx_X9_both_5 FO r (t + 1) _ _
    have e : f_X9_byteAt J = 38 := yj_lv1 q
    obtain ⟨t0, t1⟩ := (yj_tkp h 38).1 e
    rw [gx_X9_both_5, t0, if_neg (show ¬ (1 : Int32) = 0 by decide), t1, e, yj_j38]
    by_cases v0 : v = 0
    · rw [if_pos v0, if_pos v0]
    · rw [if_neg v0, if_neg v0]
      show (if f_X9_compared (z_up J 54 12 (J 54 12 + 1)) FO = 0 then _ else _) = gx_X9_both_5 FO r (t + 1) (if f_X9_compared (z_up J 54 12 (J 54 12 + 1)) FO = 0 then 0 else 1) _
      by_cases z : f_X9_compared (z_up J 54 12 (J 54 12 + 1)) FO = 0
      · rw [if_pos z, if_pos z]
      · rw [if_neg z, if_neg z]
  · show gx_X9_both_5 FO (r + 1) t v J = _
    obtain ⟨t0, t1⟩ := (yj_tkp h 38).2 (fun e => q (by rw [e]; decide))
    rw [gx_X9_both_5, if_pos t0, t1]
theorem yj_LSeither (FO : (Nat → Nat → Int32) → Int32 × (Nat → Nat → Int32)) : yj_LS 0 (fun J => (f_X9_both J FO, m_X9_both J FO)) (fun r t v J => gx_X9_either_5 FO r t v J) := by
  refine ⟨fun r t v J h => ?_, fun r t v J h q => ⟨t + 1, ?_⟩, fun r t v J h q => ?_⟩
  · show (gx_X9_either_5 FO (r + 1) t v J).2 = J
    obtain ⟨t0, t1⟩ := yj_tkn h 124
    unfold gx_X9_either_5
    rw [if_pos t0, t1]
  · show gx_X9_either_5 FO (r + 1) t v J = gx_X9_either_5 FO r (t + 1) _ _
    have e : f_X9_byteAt J = 124 := yj_lv0 q
    obtain ⟨t0, t1⟩ := (yj_tkp h 124).1 e
    rw [gx_X9_either_5, t0, if_neg (show ¬ (1 : Int32) = 0 by decide), t1, e, yj_j124]
    by_cases v0 : v = 0
    · rw [if_pos v0, if_pos v0]
      show (if f_X9_both (z_up J 54 12 (J 54 12 + 1)) FO = 0 then _ else _) = gx_X9_either_5 FO r (t + 1) (if f_X9_both (z_up J 54 12 (J 54 12 + 1)) FO = 0 then 0 else 1) _
      by_cases z : f_X9_both (z_up J 54 12 (J 54 12 + 1)) FO = 0
      · rw [if_pos z, if_pos z]
      · rw [if_neg z, if_neg z]
    · rw [if_neg v0, if_neg v0]
  · show gx_X9_either_5 FO (r + 1) t v J = _
    obtain ⟨t0, t1⟩ := (yj_tkp h 124).2 (fun e => q (by rw [e]; decide))
    rw [gx_X9_either_5, if_pos t0, t1]
