/-! THE CLASS LEAVES THE REFERENCE'S CELLS, the rest -/
theorem yj_o8st (I : Nat → Nat → Int32) {k : Nat} (hk : k < 40) (w l u : Nat) : yj_o8 I (m_X7_settle I k w l u) := fun a j q => yj_setF _ _ _ _ _ _ _ (by omega)
theorem yj_o8dr (I : Nat → Nat → Int32) {k : Nat} (hk : k < 40) : yj_o8 I (m_X7_draw I k) := fun a j q => z_drO _ _ _ _ (Or.inl (by omega))
theorem yj_o8match (b : Bool) (I : Nat → Nat → Int32) (sz : Nat) (x : Int32) : yj_o8 I (m_X8_match b I sz x) := by
  have g : ∀ y z w p q r, yj_o8 I (m_X7_settle (m_X1_oddsOn b (m_X7_draw I 1) sz 1 y z w) 1 p q r) := fun y z w p q r => yj_o8t (yj_o8t (yj_o8dr I (by omega)) (yj_o8oo _ _ _ _ _ _ _)) (yj_o8st _ (by omega) _ _ _)
  unfold m_X8_match
  repeat' (first | with_reducible exact yj_o8r _ | with_reducible exact g _ _ _ _ _ _ | with_reducible apply yj_o8i | with_reducible refine yj_o8u ?_ (by decide) _ _ | with_reducible exact yj_o8dr _ (by decide))
theorem yj_o8lemonade (I : Nat → Nat → Int32) (x : Int32) : yj_o8 I (m_X8_lemonade I x) := by
  unfold m_X8_lemonade
  split
  · exact yj_o8r _
  · exact yj_o8u (yj_o8u (yj_o8r _) (by omega) _ _) (by omega) _ _
theorem yj_o8day (I : Nat → Nat → Int32) (np : Nat) : yj_o8 I (m_X8_day I np) :=
  yj_o8t (yj_o8u (yj_o8u (yj_o8r _) (by omega) _ _) (by omega) _ _) (fun a j q => z_edF _ _ _ _ _ (by omega) (by omega) (by omega) (by omega))
theorem yj_o8image (I : Nat → Nat → Int32) (np : Nat) : yj_o8 I (m_X8_image I np) := by
  have g : yj_o8 I (m_X7_copyAll_7 I np) := yj_o8t (yj_o8v (yj_o8u (yj_o8r _) (by omega) _ _) (by omega) _) (fun a j q => yj_lb7F _ _ _ _ (by omega) (by omega) (by omega) (by omega) (by omega))
  exact yj_o8u g (by omega) _ _
theorem yj_o8back (I : Nat → Nat → Int32) (nq : Nat) : yj_o8 I (m_X8_back I nq) := by
  unfold m_X8_back
  split
  · exact yj_o8r _
  · exact fun a j q => yj_lb1F _ _ _ _ (by omega) (by omega) (by omega) (by omega) (by omega)
theorem yj_o8undo (I : Nat → Nat → Int32) (dn : Nat) : yj_o8 I (m_X8_undo I dn) := by
  unfold m_X8_undo m_X0_undoOn
  repeat' (first | with_reducible exact yj_o8r _ | with_reducible apply yj_o8i | exact yj_o8t (yj_o8u (yj_o8u (yj_o8r _) (by omega) _ _) (by omega) _ _) (yj_o8bc _ (by omega) _ _ _))
theorem yj_o8redo (I : Nat → Nat → Int32) (dn : Nat) : yj_o8 I (m_X8_redo I dn) := by
  unfold m_X8_redo m_X0_redoOn
  repeat' (first | with_reducible exact yj_o8r _ | with_reducible apply yj_o8i | exact yj_o8u (yj_o8u (yj_o8bc _ (by omega) _ _ _) (by omega) _ _) (by omega) _ _)
theorem yj_o8body (I : Nat → Nat → Int32) (sz : Nat) (x : Int32) : yj_o8 I (m_X8_body I sz x) := by
  unfold m_X8_body m_X5_add
  repeat' (first | with_reducible exact yj_o8r _ | with_reducible apply yj_o8i | exact yj_o8u (yj_o8u (yj_o8r _) (by omega) _ _) (by omega) _ _)
theorem yj_o8act (I : Nat → Nat → Int32) (w act x : Int32) : yj_o8 I (m_X8_act I w act x) := by
  have g : yj_o8 I (z_up I 38 3 0) := yj_o8u (yj_o8r _) (by omega) _ _
  have g2 : ∀ l, yj_o8 I (yq_QL (z_up (z_up I 38 3 0) 38 4 w) l) := fun l => yj_o8t (yj_o8u g (by omega) _ _) (fun a j q => yj_qlF _ _ (by omega) (by omega) _ _)
  unfold m_X8_act m_X5_perform
  repeat' (first | with_reducible exact g | with_reducible exact g2 _ | with_reducible apply yj_o8i)
theorem yj_o8hs (I : Nat → Nat → Int32) {k : Nat} (hk : k < 54) (w : Int32) : yj_o8 I (m_X4_holdStool I k w) := by
  unfold m_X4_holdStool
  repeat' (first | with_reducible apply yj_o8i | exact yj_o8u (yj_o8u (yj_o8u (yj_o8r _) hk _ _) hk _ _) hk _ _)
theorem yj_shK {d : Int32} (h : ¬ f_X8_isShelf d = 0) : d.toNatClampNeg < 6 := by
  rw [yj_isShelf] at h
  exact (yj_shelf h).2
theorem yj_o8keep (I : Nat → Nat → Int32) (sh w : Int32) : yj_o8 I (m_X8_keep I sh w) := by
  unfold m_X8_keep
  by_cases q : f_X8_isShelf sh = 0
  · rw [if_pos q]; exact yj_o8r _
  · rw [if_neg q]
    have k := yj_shK q
    repeat' (first | with_reducible exact yj_o8r _ | with_reducible apply yj_o8i | exact yj_o8hs _ (by omega) _)
theorem yj_o8row (I : Nat → Nat → Int32) (L : Nat → Nat → Int64) (sh s n : Int32) : yj_o8 I (m_X8_row I L sh s n) ∧ yj_o8 L (n_X8_row I L sh s n) := by
  unfold m_X8_row n_X8_row
  by_cases q : f_X8_isShelf sh = 0
  · rw [if_pos q, if_pos q]; exact ⟨yj_o8r _, yj_o8r _⟩
  · rw [if_neg q, if_neg q]
    have k := yj_shK q
    constructor
    · repeat' (first | with_reducible exact yj_o8r _ | with_reducible apply yj_o8i | exact yj_o8u (yj_o8u (yj_o8u (yj_o8r _) (by omega) _ _) (by omega) _ _) (by omega) _ _)
    · repeat' (first | with_reducible exact yj_o8r _ | with_reducible apply yj_o8i | exact fun a j q => (yj_hr L _ 60).1 a j (by omega))
theorem yj_o8put (I : Nat → Nat → Int32) (L : Nat → Nat → Int64) (sh i : Int32) (v : Int64) : yj_o8 L (n_X8_put I L sh i v) := by
  unfold n_X8_put
  by_cases q : f_X8_placeRefusal I sh i = 0
  · rw [if_pos q]
    have k : sh.toNatClampNeg < 6 := yj_shK (fun w => by
      unfold f_X8_placeRefusal at q
      rw [if_pos w] at q
      exact absurd q (by decide))
    unfold n_X4_setAt
    split
    · exact yj_o8r _
    · exact yj_o8u (yj_o8r _) (by omega) _ _
  · rw [if_neg q]; exact yj_o8r _
theorem yj_o8shift (I : Nat → Nat → Int32) (L : Nat → Nat → Int64) (sh i ot j n : Int32) : yj_o8 L (n_X8_shift I L sh i ot j n) := by
  unfold n_X8_shift
  by_cases q : f_X8_isShelf ot = 0
  · simp only [q, reduceIte, ite_self]; exact yj_o8r _
  · have k := yj_shK q
    repeat' (first | with_reducible exact yj_o8r _ | with_reducible apply yj_o8i | exact yj_o8v (yj_o8r _) (by omega) _)
theorem yj_o8streak (b : Bool) (I : Nat → Nat → Int32) (sz : Nat) (x y z : Int32) : yj_o8 I (m_X8_streak b I sz x y z) := by
  unfold m_X8_streak
  repeat' (first | with_reducible exact yj_o8r _ | with_reducible apply yj_o8i | with_reducible exact yj_o8oo _ _ _ _ _ _ _)
theorem yj_o8thrownBy (b : Bool) (I : Nat → Nat → Int32) (L : Nat → Nat → Int64) (sz : Nat) (x y z : Int32) : yj_o8 I (m_X8_thrownBy b I L sz x y z) := by
  unfold m_X8_thrownBy
  repeat' (first | with_reducible exact yj_o8r _ | with_reducible apply yj_o8i | with_reducible exact yj_o8oo _ _ _ _ _ _ _)
