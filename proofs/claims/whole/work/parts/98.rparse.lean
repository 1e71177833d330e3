/-! THE CLASS AGAINST THE REFERENCE: the text read by both at once: words -/
def yj_jl (s : Int32) (st : List Int32) : List Int32 := if s = 33 then (if st.headD 0 = 0 then 1 :: st.tail else 0 :: st.tail) else if s = 95 then (-(st.headD 0)) :: st.tail else f_X1_joined s (st.tail.headD 0) (st.headD 0) :: st.tail.tail
def yj_s1 (nm : Nat → Int32) (st : List Int32) (e : Int32) : List Int32 := if e < 0 then (if f_X1_isName (-e) = 0 then yj_jl (-e) st else yj_nm nm (-e) :: st) else e :: st
def yj_run (nm : Nat → Int32) (sg st : List Int32) : List Int32 := sg.foldl (yj_s1 nm) st
theorem yj_runA (nm : Nat → Int32) (a c st : List Int32) : yj_run nm (a ++ c) st = yj_run nm c (yj_run nm a st) := by unfold yj_run; rw [List.foldl_append]
/-- the byte of the text, or -1 -/
def yj_ch (ln : Nat) (tx : Nat → Int32) (p : Nat) : Int32 := if p < ln then tx p else (-1)
/-- both read the same text, of ln bytes tx: at p, so many are open, dr entries are written -/
def yj_IS (ln : Nat) (tx : Nat → Int32) (I J : Nat → Nat → Int32) (p op dr : Nat) : Prop := ((I 13 1 = nI ln ∧ ln ≤ 120) ∧ ∀ j, j < ln → I 14 j = tx j) ∧ (I 13 2 = nI p ∧ p ≤ ln) ∧ (I 13 6 = nI dr ∧ dr ≤ p) ∧ (J 54 13 = nI ln ∧ ∀ j, j < ln → (if 0 ≤ J 54 11 then J 60 j else J 59 j) = tx j) ∧ J 54 12 = nI p ∧ J 54 14 = (-1) ∧ J 54 15 = nI op ∧ op ≤ 6
/-- the class's reading leaves all but its place and its draft -/
def yj_FC (b : Bool) (I I' : Nat → Nat → Int32) : Prop := ∀ a j, a ≠ z_df b → (a ≠ 13 ∨ (j ≠ 2 ∧ j ≠ 6)) → I' a j = I a j
theorem yj_FC_rf (b : Bool) (I : Nat → Nat → Int32) : yj_FC b I I := fun _ _ _ _ => rfl
theorem yj_FC_tr {b : Bool} {I I' I'' : Nat → Nat → Int32} (h : yj_FC b I I') (g : yj_FC b I' I'') : yj_FC b I I'' := fun a j p q => (g a j p q).trans (h a j p q)
theorem yj_FC_av (b : Bool) (I : Nat → Nat → Int32) (v : Int32) : yj_FC b I (z_up I 13 2 v) := by
  intro a j _ h
  unfold z_up
  by_cases q : a = 13
  · rw [if_pos q, if_neg (by omega)]
  · rw [if_neg q]
theorem yj_FC_wr (b : Bool) (I : Nat → Nat → Int32) (dr : Nat) (e : Int32) : yj_FC b I (m_X1_write b I dr e) := by
  intro a j h1 h2
  unfold m_X1_write
  by_cases q : 121 ≤ nI dr
  · rw [if_pos q]
  · rw [if_neg q, z_up_k _ _ h1]
    unfold z_up
    by_cases q : a = 13
    · rw [if_pos q, if_neg (by omega)]
    · rw [if_neg q]
/-- the entries dr .. dr' of the draft make v out of the names, on any stack; those in front are as they were -/
def yj_Sg (nm : Nat → Int32) (b : Bool) (I I' : Nat → Nat → Int32) (dr dr' : Nat) (st0 st1 : List Int32) : Prop := ∃ sg : List Int32, dr' = dr + sg.length ∧ (∀ j, j < dr → I' (z_df b) j = I (z_df b) j) ∧ (∀ j, j < sg.length → I' (z_df b) (dr + j) = sg.getD j 0) ∧ (∀ e, e ∈ sg → e ≠ (-63) ∧ e ≠ (-59)) ∧ ∀ st, yj_run nm sg (st0 ++ st) = st1 ++ st
theorem yj_Sg0 (nm : Nat → Int32) (b : Bool) {I I' : Nat → Nat → Int32} (dr : Nat) (st : List Int32) (h : ∀ j, j < dr → I' (z_df b) j = I (z_df b) j) : yj_Sg nm b I I' dr dr st st := ⟨[], rfl, h, fun _ h => absurd h (Nat.not_lt_zero _), fun _ h => absurd h List.not_mem_nil, fun _ => rfl⟩
theorem yj_gA (a c : List Int32) (j : Nat) : (a ++ c).getD j 0 = if j < a.length then a.getD j 0 else c.getD (j - a.length) 0 := by
  rw [List.getD_eq_getElem?_getD, List.getD_eq_getElem?_getD, List.getD_eq_getElem?_getD, List.getElem?_append]
  by_cases h : j < a.length
  · rw [if_pos h, if_pos h]
  · rw [if_neg h, if_neg h]
theorem yj_SgT {nm : Nat → Int32} {b : Bool} {I I' I'' : Nat → Nat → Int32} {d0 d1 d2 : Nat} {s0 s1 s2 : List Int32} (h : yj_Sg nm b I I' d0 d1 s0 s1) (g : yj_Sg nm b I' I'' d1 d2 s1 s2) : yj_Sg nm b I I'' d0 d2 s0 s2 := by
  obtain ⟨a, ha, h1, h2, h3, h4⟩ := h
  obtain ⟨c, hc, g1, g2, g3, g4⟩ := g
  refine ⟨a ++ c, by rw [List.length_append]; omega, fun j hj => ?_, fun j hj => ?_, fun e he => ?_, fun st => ?_⟩
  · rw [g1 j (by omega)]; exact h1 j hj
  · rw [List.length_append] at hj
    by_cases q : j < a.length
    · rw [g1 _ (by omega), h2 j q, yj_gA, if_pos q]
    · have e : d0 + j = d1 + (j - a.length) := by omega
      rw [e, g2 _ (by omega), yj_gA, if_neg q]
  · rcases List.mem_append.mp he with q | q
    · exact h3 e q
    · exact g3 e q
  · rw [yj_runA, h4, g4]
/-- more below -/
theorem yj_SgW {nm : Nat → Int32} {b : Bool} {I I' : Nat → Nat → Int32} {d0 d1 : Nat} {s0 s1 : List Int32} (h : yj_Sg nm b I I' d0 d1 s0 s1) (s : List Int32) : yj_Sg nm b I I' d0 d1 (s0 ++ s) (s1 ++ s) := by
  obtain ⟨a, ha, h1, h2, h3, h4⟩ := h
  exact ⟨a, ha, h1, h2, h3, fun st => by rw [List.append_assoc, h4, List.append_assoc]⟩
/-- the draft's cells moved along -/
theorem yj_SgE {nm : Nat → Int32} {b : Bool} {I I' K K' : Nat → Nat → Int32} {d0 d1 : Nat} {s0 s1 : List Int32} (h : yj_Sg nm b I I' d0 d1 s0 s1) (h1 : K (z_df b) = I (z_df b)) (h2 : K' (z_df b) = I' (z_df b)) : yj_Sg nm b K K' d0 d1 s0 s1 := by
  unfold yj_Sg
  rw [h1, h2]
  exact h
/-- what the class answers and leaves, r and I', against what the reference gives and leaves, v and J' -/
def yj_O (ln : Nat) (tx : Nat → Int32) (b : Bool) (p op dr : Nat) (st0 : List Int32) (I J : Nat → Nat → Int32) (x : Int32 × (Nat → Nat → Int32)) (y : Int32 × (Nat → Nat → Int32)) : Prop := yj_FC b I x.2 ∧ z_FrR J y.2 ∧ ((x.1 = 0 ∧ ∃ f, f ≤ ln ∧ x.2 13 2 = nI f ∧ y.2 54 14 = nI f) ∨ (x.1 = 1 ∧ ∃ p' dr', p ≤ p' ∧ dr' + p ≤ p' + dr ∧ yj_IS ln tx x.2 y.2 p' op dr' ∧ yj_Sg (J 61) b I x.2 dr dr' st0 [y.1]))
theorem yj_dfc (b : Bool) : z_df b ≠ 13 ∧ z_df b ≠ 14 ∧ z_df b < 17 := by cases b <;> decide
theorem yj_nx {ln p op dr : Nat} {tx : Nat → Int32} {I J : Nat → Nat → Int32} (h : yj_IS ln tx I J p op dr) : f_X1_next I ((I 13 1).toNatClampNeg) ((I 13 2).toNatClampNeg) = yj_ch ln tx p := by
  obtain ⟨⟨⟨h1, h2⟩, h3⟩, ⟨h4, h5⟩, -⟩ := h
  rw [h1, h4, nI_clamp (by omega), nI_clamp (by omega)]
  unfold f_X1_next yj_ch
  by_cases q : p < ln
  · rw [if_neg (nI_ge q (by omega)), if_pos q, h3 p q]
  · rw [if_pos (nI_le (by omega) (by omega)), if_neg q]
/-- the reference's byte -/
theorem yj_by {ln p op dr : Nat} {tx : Nat → Int32} {I J : Nat → Nat → Int32} (h : yj_IS ln tx I J p op dr) : f_X9_byteAt J = if p < ln then tx p else 0 := by
  obtain ⟨⟨⟨h1, h2⟩, h3⟩, ⟨h4, h5⟩, -, ⟨g1, g2⟩, g3, -⟩ := h
  unfold f_X9_byteAt
  rw [g1, g3]
  by_cases q : p < ln
  · rw [if_neg (nI_ge q (by omega)), if_pos q, nI_clamp (by omega)]
    exact g2 p q
  · rw [if_pos (nI_le (by omega) (by omega)), if_neg q]
theorem yj_byc {ln p op dr : Nat} {tx : Nat → Int32} {I J : Nat → Nat → Int32} (h : yj_IS ln tx I J p op dr) {k : Int32} (h1 : k ≠ 0) (h2 : k ≠ (-1)) : f_X9_byteAt J = k ↔ yj_ch ln tx p = k := by
  rw [yj_by h]
  unfold yj_ch
  by_cases q : p < ln
  · rw [if_pos q, if_pos q]
  · rw [if_neg q, if_neg q]
    exact ⟨fun e => absurd e.symm h1, fun e => absurd e.symm h2⟩
theorem yj_chp {ln p : Nat} {tx : Nat → Int32} (h : ¬ yj_ch ln tx p = (-1)) : p < ln := by
  unfold yj_ch at h
  by_cases q : p < ln
  · exact q
  · rw [if_neg q] at h; exact absurd rfl h
theorem yj_byE {ln p op dr : Nat} {tx : Nat → Int32} {I J : Nat → Nat → Int32} (h : yj_IS ln tx I J p op dr) (q : p < ln) : f_X9_byteAt J = yj_ch ln tx p := by
  rw [yj_by h]
  unfold yj_ch
  rw [if_pos q, if_pos q]
/-- one byte on -/
theorem yj_adv {ln p op dr : Nat} {tx : Nat → Int32} {I J : Nat → Nat → Int32} (h : yj_IS ln tx I J p op dr) (q : p < ln) : yj_IS ln tx (z_up I 13 2 (I 13 2 + 1)) (z_up J 54 12 (J 54 12 + 1)) (p + 1) op dr := by
  obtain ⟨⟨⟨h1, h2⟩, h3⟩, ⟨h4, h5⟩, ⟨h6, h7⟩, ⟨g1, g2⟩, g3, g4, g5, g6⟩ := h
  unfold yj_IS
  rw [z_up_j _ _ (show (1 : Nat) ≠ 2 by decide), z_up_s, z_up_j _ _ (show (6 : Nat) ≠ 2 by decide), z_up_j _ _ (show (13 : Nat) ≠ 12 by decide), z_up_j _ _ (show (11 : Nat) ≠ 12 by decide), z_up_s, z_up_j _ _ (show (14 : Nat) ≠ 12 by decide), z_up_j _ _ (show (15 : Nat) ≠ 12 by decide), h4, g3]
  refine ⟨⟨⟨h1, h2⟩, fun j hj => ?_⟩, ⟨(nI_succ p).symm, q⟩, ⟨h6, by omega⟩, ⟨g1, fun j hj => ?_⟩, (nI_succ p).symm, g4, g5, g6⟩
  · rw [z_up_k _ _ (by decide)]; exact h3 j hj
  · rw [z_up_k _ _ (by decide), z_up_k _ _ (by decide)]; exact g2 j hj
/-- one more open, and one byte on -/
theorem yj_open {ln p op dr : Nat} {tx : Nat → Int32} {I J : Nat → Nat → Int32} (h : yj_IS ln tx I J p op dr) (q : p < ln) (ho : op < 6) : yj_IS ln tx (z_up I 13 2 (I 13 2 + 1)) (z_up (z_up J 54 15 (J 54 15 + 1)) 54 12 (J 54 12 + 1)) (p + 1) (op + 1) dr := by
  obtain ⟨⟨⟨h1, h2⟩, h3⟩, ⟨h4, h5⟩, ⟨h6, h7⟩, ⟨g1, g2⟩, g3, g4, g5, g6⟩ := h
  unfold yj_IS
  rw [z_up_j _ _ (show (1 : Nat) ≠ 2 by decide), z_up_s, z_up_j _ _ (show (6 : Nat) ≠ 2 by decide), z_up_j _ _ (show (13 : Nat) ≠ 12 by decide), z_up_j _ _ (show (13 : Nat) ≠ 15 by decide), z_up_j _ _ (show (11 : Nat) ≠ 12 by decide), z_up_j _ _ (show (11 : Nat) ≠ 15 by decide), z_up_s, z_up_j _ _ (show (14 : Nat) ≠ 12 by decide), z_up_j _ _ (show (14 : Nat) ≠ 15 by decide), z_up_j _ _ (show (15 : Nat) ≠ 12 by decide), z_up_s, h4, g3, g5]
  refine ⟨⟨⟨h1, h2⟩, fun j hj => ?_⟩, ⟨(nI_succ p).symm, q⟩, ⟨h6, by omega⟩, ⟨g1, fun j hj => ?_⟩, (nI_succ p).symm, g4, (nI_succ op).symm, ho⟩
  · rw [z_up_k _ _ (by decide)]; exact h3 j hj
  · rw [z_up_k _ _ (by decide), z_up_k _ _ (by decide), z_up_k _ _ (by decide), z_up_k _ _ (by decide)]; exact g2 j hj
/-- one less open -/
theorem yj_close {ln p op dr : Nat} {tx : Nat → Int32} {I J : Nat → Nat → Int32} (h : yj_IS ln tx I J p (op + 1) dr) : yj_IS ln tx I (z_up J 54 15 (J 54 15 - 1)) p op dr := by
  obtain ⟨⟨⟨h1, h2⟩, h3⟩, ⟨h4, h5⟩, ⟨h6, h7⟩, ⟨g1, g2⟩, g3, g4, g5, g6⟩ := h
  unfold yj_IS
  rw [z_up_j _ _ (show (13 : Nat) ≠ 15 by decide), z_up_j _ _ (show (11 : Nat) ≠ 15 by decide), z_up_j _ _ (show (12 : Nat) ≠ 15 by decide), z_up_j _ _ (show (14 : Nat) ≠ 15 by decide), z_up_s, g5]
  refine ⟨⟨⟨h1, h2⟩, h3⟩, ⟨h4, h5⟩, ⟨h6, h7⟩, ⟨g1, fun j hj => ?_⟩, g3, g4, nI_pred op, by omega⟩
  rw [z_up_k _ _ (by decide), z_up_k _ _ (by decide)]; exact g2 j hj
/-- an entry is written -/
theorem yj_wrE {ln p op dr : Nat} {tx : Nat → Int32} {b : Bool} {I J : Nat → Nat → Int32} (h : yj_IS ln tx I J p op dr) (e : Int32) : m_X1_write b I ((I 13 6).toNatClampNeg) e = z_up (z_up I 13 6 (nI dr + 1)) (z_df b) dr e := by
  obtain ⟨⟨⟨h1, h2⟩, h3⟩, ⟨h4, h5⟩, ⟨h6, h7⟩, -⟩ := h
  rw [h6, nI_clamp (by omega)]
  unfold m_X1_write
  rw [if_neg (by rw [show (121 : Int32) = nI 121 from rfl, nI_leI (by omega) (by omega)]; omega)]
theorem yj_wrI {ln p op dr : Nat} {tx : Nat → Int32} {b : Bool} {I J : Nat → Nat → Int32} (h : yj_IS ln tx I J p op dr) (hp : dr + 1 ≤ p) (e : Int32) : yj_IS ln tx (m_X1_write b I ((I 13 6).toNatClampNeg) e) J p op (dr + 1) := by
  have d := yj_dfc b
  rw [yj_wrE h]
  obtain ⟨⟨⟨h1, h2⟩, h3⟩, ⟨h4, h5⟩, ⟨h6, h7⟩, g⟩ := h
  unfold yj_IS
  rw [z_up_k _ _ (show (13 : Nat) ≠ z_df b by omega), z_up_j _ _ (show (1 : Nat) ≠ 6 by decide), z_up_k _ _ (show (13 : Nat) ≠ z_df b by omega), z_up_j _ _ (show (2 : Nat) ≠ 6 by decide), z_up_k _ _ (show (13 : Nat) ≠ z_df b by omega), z_up_s]
  refine ⟨⟨⟨h1, h2⟩, fun j hj => ?_⟩, ⟨h4, h5⟩, ⟨(nI_succ dr).symm, hp⟩, g⟩
  rw [z_up_k _ _ (by omega), z_up_k _ _ (by decide)]; exact h3 j hj
theorem yj_wrS {ln p op dr : Nat} {tx : Nat → Int32} {b : Bool} {I J : Nat → Nat → Int32} (h : yj_IS ln tx I J p op dr) {e : Int32} (he : e ≠ (-63) ∧ e ≠ (-59)) {nm : Nat → Int32} {s0 s1 : List Int32} (hs : ∀ st, yj_s1 nm (s0 ++ st) e = s1 ++ st) : yj_Sg nm b I (m_X1_write b I ((I 13 6).toNatClampNeg) e) dr (dr + 1) s0 s1 := by
  have d := yj_dfc b
  rw [yj_wrE h]
  refine ⟨[e], rfl, fun j hj => ?_, fun j hj => ?_, fun q hq => ?_, hs⟩
  · rw [z_up_j _ _ (by omega), z_up_k _ _ (by omega)]
  · have : j = 0 := by
      have : j < 1 := hj
      omega
    subst this
    rw [Nat.add_zero, z_up_s]
    rfl
  · rw [List.mem_singleton] at hq
    rw [hq]
    exact he
