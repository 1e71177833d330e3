/-! THE REFERENCE LEAVES THE CLASS'S CELLS, the rest -/
theorem yj_o9d118 (L : Nat → Nat → Int64) (np : Nat) (sh one : Int32) : ∀ (r t : Nat) (x y z : Int32) (I : Nat → Nat → Int32), yj_o9 I (gw_X9_drawn_118 L np sh one r t x y z I).2.2.2 := by
  intro r
  induction r with
  | zero => exact fun t x y z I => yj_o9r _
  | succ r IH =>
    intro t x y z I
    have G : ∀ x' y' z' p q u w, yj_o9 I (gw_X9_drawn_118 L np sh one r (t + 1) x' y' z' (m_X9_isHeld (m_X9_oddsOf I p q u) p q u w)).2.2.2 := fun x' y' z' p q u w => yj_o9t (yj_o9t (yj_o9oo I p q u) (yj_o9ih _ p q u w)) (IH _ _ _ _ _)
    rw [gw_X9_drawn_118]
    (repeat' split) <;> first | exact yj_o9r _ | exact G _ _ _ _ _ _ _
theorem yj_o9d106 (L : Nat → Nat → Int64) (np : Nat) (sh one : Int32) : ∀ (r t : Nat) (x y z : Int32) (I : Nat → Nat → Int32), yj_o9 I (gw_X9_drawn_106 L np sh one r t x y z I).2.2.2
  | 0, t, x, y, z, I => yj_o9r _
  | r + 1, t, x, y, z, I => by
    rw [gw_X9_drawn_106]
    exact yj_o9t (yj_o9t (yj_o9d118 L np sh one 9 0 x y z I) (yj_o9en _ _)) (yj_o9d106 L np sh one r (t + 1) _ _ _ _)
theorem yj_o9d90 (L : Nat → Nat → Int64) (np : Nat) (sh nm one : Int32) : ∀ (r t : Nat) (x y z : Int32) (I : Nat → Nat → Int32), yj_o9 I (gx_X9_drawn_90 L np sh nm one r t x y z I).2
  | 0, t, x, y, z, I => by
    unfold gx_X9_drawn_90
    split <;> exact yj_o9r _
  | r + 1, t, x, y, z, I => by
    rw [gx_X9_drawn_90]
    exact yj_o9t (yj_o9t (yj_o9bg I np) (yj_o9d106 L np sh one _ 0 x y z (m_X9_begins I np))) (yj_o9d90 L np sh nm one r (t + 1) _ _ _ _)
theorem yj_o9drawn (I : Nat → Nat → Int32) (L : Nat → Nat → Int64) (np : Nat) (seed sh nm one : Int32) : yj_o9 I (m_X9_drawn I L np seed sh nm one) := by
  have g : ∀ r, yj_o9 I (gx_X9_drawn_90 L np sh nm one r 0 seed 0 0 I).2 := fun r => yj_o9d90 _ _ _ _ _ _ _ _ _ _ _
  unfold m_X9_drawn
  repeat' (first | with_reducible exact yj_o9r _ | with_reducible exact g _ | with_reducible apply yj_o9i)
theorem yj_o9match (I : Nat → Nat → Int32) {np : Nat} (hn : np ≤ 10) (x : Int32) : yj_o9 I (m_X9_match I np x) := by
  have g0 := yj_o9bg I np
  have g : ∀ v p q u w, yj_o9 I (m_X9_keepsAll (m_X9_isHeld (m_X9_oddsOf (z_up (m_X9_begins I np) 55 41 v) p q u) p q u w) np) := fun v p q u w => yj_o9t (yj_o9t (yj_o9t (yj_o9u g0 (by decide) 41 v) (yj_o9oo _ p q u)) (yj_o9ih _ p q u w)) (yj_o9kp _ hn)
  unfold m_X9_match
  repeat' (first | with_reducible exact yj_o9r _ | with_reducible exact g0 | with_reducible exact g _ _ _ _ _ | with_reducible apply yj_o9i | with_reducible refine yj_o9u ?_ (by decide) _ _)
theorem yj_o9lemonade (I : Nat → Nat → Int32) (np : Nat) (x : Int32) : yj_o9 I (m_X9_lemonade I np x) := by
  unfold m_X9_lemonade
  repeat' (first | with_reducible exact yj_o9r _ | with_reducible apply yj_o9i | with_reducible refine yj_o9u ?_ (by decide) _ _)
theorem yj_o9day (I : Nat → Nat → Int32) {np : Nat} (hn : np ≤ 10) : yj_o9 I (m_X9_day I np) :=
  yj_o9t (yj_o9u (yj_o9u (yj_o9t (yj_o9bg _ _) (yj_o9en _ _)) (by decide) _ _) (by decide) _ _) (yj_o9kp _ hn)
theorem yj_o9im15 (I : Nat → Nat → Int32) (np : Nat) : ∀ i : Nat, yj_o9 I (g_X9_image_15 I np i)
  | 0 => yj_o9u (yj_o9u (yj_o9r _) (by decide) _ _) (by decide) _ _
  | i + 1 => yj_o9u (yj_o9im15 I np i) (by decide) _ _
theorem yj_o9im41 (I : Nat → Nat → Int32) (np : Nat) : ∀ i : Nat, yj_o9 I (g_X9_image_41 I np i)
  | 0 => yj_o9im15 I np 42
  | i + 1 => yj_o9u (yj_o9im41 I np i) (by decide) _ _
theorem yj_o9image (I : Nat → Nat → Int32) (np : Nat) : yj_o9 I (m_X9_image I np) := yj_o9im41 I np 5
theorem yj_o9bk12 (I : Nat → Nat → Int32) : ∀ i : Nat, yj_o9 I (g_X9_back_12 I i)
  | 0 => yj_o9r _
  | i + 1 => yj_o9u (yj_o9u (yj_o9u (yj_o9bk12 I i) (by decide) _ _) (by decide) _ _) (by decide) _ _
theorem yj_o9bk110 (I : Nat → Nat → Int32) (ip : Nat) : ∀ i : Nat, yj_o9 I (g_X9_back_110 I ip i)
  | 0 => yj_o9u (yj_o9u (yj_o9bk12 I ip) (by decide) _ _) (by decide) _ _
  | i + 1 => yj_o9u (yj_o9bk110 I ip i) (by decide) _ _
theorem yj_o9back (I : Nat → Nat → Int32) (ip : Nat) : yj_o9 I (m_X9_back I ip) := by
  unfold m_X9_back
  split
  · exact yj_o9r _
  · exact yj_o9bk110 _ _ _
theorem yj_o9undo (I : Nat → Nat → Int32) (dn : Nat) : yj_o9 I (m_X9_undo I dn) := by
  unfold m_X9_undo
  repeat' (first | with_reducible exact yj_o9r _ | with_reducible apply yj_o9i | with_reducible refine yj_o9u ?_ (by decide) _ _)
theorem yj_o9redo (I : Nat → Nat → Int32) (dn : Nat) : yj_o9 I (m_X9_redo I dn) := by
  unfold m_X9_redo
  repeat' (first | with_reducible exact yj_o9r _ | with_reducible apply yj_o9i | with_reducible refine yj_o9u ?_ (by decide) _ _)
theorem yj_o9body (I : Nat → Nat → Int32) (bo : Nat) (x : Int32) : yj_o9 I (m_X9_body I bo x) := by
  unfold m_X9_body
  repeat' (first | with_reducible exact yj_o9r _ | with_reducible apply yj_o9i | with_reducible refine yj_o9u ?_ (by decide) _ _)
theorem yj_o9PL (l : List Int32) (I : Nat → Nat → Int32) : yj_o9 I (z_PL I l) := fun a j q => yj_plF _ _ (by omega) (by omega) _ _
theorem yj_o9act (I : Nat → Nat → Int32) (bo : Nat) (w act x : Int32) : yj_o9 I (m_X9_act I bo w act x) := by
  have g : yj_o9 I (z_up (z_up (z_up I 54 35 0) 54 36 (I 73 w.toNatClampNeg)) 54 37 w) := yj_o9u (yj_o9u (yj_o9u (yj_o9r _) (by decide) _ _) (by decide) _ _) (by decide) _ _
  have g2 : ∀ l, yj_o9 I (z_PL (z_up (z_up (z_up I 54 35 0) 54 36 (I 73 w.toNatClampNeg)) 54 37 w) l) := fun l => yj_o9t g (yj_o9PL l _)
  unfold m_X9_act
  repeat' (first | with_reducible exact g | with_reducible exact g2 _ | with_reducible exact yj_o9u (yj_o9r _) (by decide) _ _ | with_reducible apply yj_o9i)
theorem yj_o9keep (I : Nat → Nat → Int32) (bo : Nat) (sh w : Int32) : yj_o9 I (m_X9_keep I bo sh w) := by
  unfold m_X9_keep
  repeat' (first | with_reducible exact yj_o9r _ | with_reducible apply yj_o9i | with_reducible refine yj_o9u ?_ (by decide) _ _)
theorem yj_o9row (I : Nat → Nat → Int32) (L : Nat → Nat → Int64) (sh s n : Int32) : yj_o9 I (m_X9_row I L sh s n) ∧ yj_o9 L (n_X9_row I L sh s n) := by
  have g : yj_o9 L (g_X9_row_57 L sh 60) := fun a j q => (yj_rr L sh 60).1 a j (Or.inl (by omega))
  unfold m_X9_row n_X9_row
  constructor
  · repeat' (first | with_reducible exact yj_o9r _ | with_reducible apply yj_o9i | with_reducible refine yj_o9u ?_ (by decide) _ _)
  · repeat' (first | with_reducible exact yj_o9r _ | with_reducible exact g | with_reducible apply yj_o9i)
theorem yj_o9put (I : Nat → Nat → Int32) (L : Nat → Nat → Int64) (sh i : Int32) (v : Int64) : yj_o9 L (n_X9_put I L sh i v) := by
  unfold n_X9_put
  repeat' (first | with_reducible exact yj_o9r _ | with_reducible apply yj_o9i | with_reducible refine yj_o9u ?_ (by decide) _ _)
theorem yj_o9s113 (L : Nat → Nat → Int64) (sh i : Int32) (k : Nat) : yj_o9 L (g_X9_shift_113 L sh i k) := fun a j q => (yj_sh113 L sh i k).1 a j (by omega)
theorem yj_o9s150 (L : Nat → Nat → Int64) (sh i ot j n : Int32) : ∀ k : Nat, yj_o9 L (g_X9_shift_150 L sh i ot j n k)
  | 0 => yj_o9s113 _ _ _ _
  | k + 1 => yj_o9u (yj_o9s150 L sh i ot j n k) (by decide) _ _
theorem yj_o9shift (I : Nat → Nat → Int32) (L : Nat → Nat → Int64) (sh i ot j n : Int32) : yj_o9 L (n_X9_shift I L sh i ot j n) := by
  have g := yj_o9s150 L sh i ot j n n.toNatClampNeg
  unfold n_X9_shift
  repeat' (first | with_reducible exact yj_o9r _ | with_reducible exact g | with_reducible apply yj_o9i)
theorem yj_o9streak (I : Nat → Nat → Int32) (np : Nat) (x y z : Int32) : yj_o9 I (m_X9_streak I np x y z) := by
  have g := yj_o9bg I np
  unfold m_X9_streak
  repeat' (first | with_reducible exact yj_o9r _ | with_reducible exact yj_o9t g (yj_o9oo _ _ _ _) | with_reducible apply yj_o9i)
theorem yj_o9thrownBy (I : Nat → Nat → Int32) (L : Nat → Nat → Int64) (np : Nat) (x y z : Int32) : yj_o9 I (m_X9_thrownBy I L np x y z) := by
  have g : ∀ p q u, yj_o9 I (m_X9_oddsOf (m_X9_begins I np) p q u) := fun p q u => yj_o9t (yj_o9bg I np) (yj_o9oo _ p q u)
  unfold m_X9_thrownBy
  by_cases h1 : f_X9_rowIs I x 0 < 0
  · rw [if_pos h1]; exact yj_o9r _
  · rw [if_neg h1]
    by_cases h2 : f_X9_isAbu np y = 0
    · rw [if_pos h2]; exact yj_o9r _
    · rw [if_neg h2]
      by_cases h3 : f_X9_within z.toInt64 0 1 = 0
      · rw [if_pos h3]; exact yj_o9r _
      · rw [if_neg h3]; exact g _ _ _
theorem yj_o9count (I : Nat → Nat → Int32) (np : Nat) (x : Int32) : yj_o9 I (m_X9_count I np x) := by
  have g : yj_o9 I (m_X9_judges I np) := yj_o9bg I np
  unfold m_X9_count
  repeat' (first | with_reducible exact yj_o9r _ | with_reducible exact g | with_reducible apply yj_o9i)
