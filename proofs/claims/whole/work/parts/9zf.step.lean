/-! THE LAW'S STEPS -/
theorem yj_qsz {b : Bool} {np nq dn km tm sz bo rn : Nat} {C R : Nat → Nat → Int32} {CL RL : Nat → Nat → Int64} (h : yj_J b np nq dn km tm sz bo rn C R CL RL) : C 13 4 = nI sz ∧ sz ≤ 121 := h.2.2.2.2.1.1
theorem yj_qi10 {b : Bool} {np nq dn km tm sz bo rn : Nat} {C R : Nat → Nat → Int32} {CL RL : Nat → Nat → Int64} (h : yj_J b np nq dn km tm sz bo rn C R CL RL) : nq ≤ 10 := Nat.le_trans (yj_qim h).2.2 (yj_qnp h).2.2
theorem yj_qG {b : Bool} {np nq dn km tm sz bo rn : Nat} {C R : Nat → Nat → Int32} {CL RL : Nat → Nat → Int64} (h : yj_J b np nq dn km tm sz bo rn C R CL RL) : z_G np R := ⟨(yj_qnp h).2.1, fun n0 => by
  rcases h.2.2.2.2.1.2 with ⟨-, q⟩ | ⟨-, tl, ⟨q1, q2⟩, -⟩
  · exact absurd q n0
  · rw [q1, nI_clamp (by omega)]
    exact ⟨rfl, q2⟩⟩
/-- what follows a step -/
def yj_H (N : Nat) (xs : Nat → Int32) (d : Nat) (i : Int32) (E : Option Value → z_Sh → z_M → Prop) : Prop := ∀ (b : Bool) (I : Nat → Nat → Int32) (L : Nat → Nat → Int64), yj_B b I I L L → PS (yq_G N xs) yq_law d 1364 [(3, .int i), (2, .ref 54), (1, .ref 0), (0, .ref 1003)] [] SH (I, L, z_R b) 0 0 E
theorem yj_k204 {N d : Nat} {xs : Nat → Int32} {i : Int32} {b : Bool} {I : Nat → Nat → Int32} {L : Nat → Nat → Int64} {E : Option Value → z_Sh → z_M → Prop} (hd : 74 ≤ d) (hB : yj_B b I I L L) (h1 : vp_in (i + 1) N) (h : yj_H N xs d i E) : PS (yq_G N xs) yq_law d 204 [(3, .int i), (2, .ref 54), (1, .ref 0), (0, .ref 1003)] [] SH (I, L, z_R b) 0 0 E := by
  obtain ⟨np, nq, dn, km, tm, sz, bo, rn, hJ⟩ := hB
  have c1 := c_X8_player (d - 1) (by omega) b I L np (yj_qnp hJ).1 (yj_qnp hJ).2.2 (xs (i + 1).toNatClampNeg)
  have hm : yj_J b np nq dn km tm sz bo rn I (m_X8_player I np (xs (i + 1).toNatClampNeg)) L L := yj_mid hJ (yj_o8player _ _ _) (yj_o8r _)
  have s := yj_s_player hm (xs (i + 1).toNatClampNeg)
  have c2 := c_X9_player (d - 1) (by omega) b (m_X8_player I np (xs (i + 1).toNatClampNeg)) L np (yj_qnp hm).2.1 (yj_qnp hm).2.2 (xs (i + 1).toNatClampNeg)
  rw [← s.1] at c2
  exact yq_kc204 h1 c1 c2 (by omega) (by omega) (h _ _ _ (yj_end (s.2) (yj_o9player _ _ _) (yj_o9r _)))
theorem yj_k227 {N d : Nat} {xs : Nat → Int32} {i : Int32} {b : Bool} {I : Nat → Nat → Int32} {L : Nat → Nat → Int64} {E : Option Value → z_Sh → z_M → Prop} (hd : 74 ≤ d) (hB : yj_B b I I L L) (h1 : vp_in (i + 1) N) (h2 : vp_in (i + 2) N) (h3 : vp_in (i + 3) N) (h : yj_H N xs d i E) : PS (yq_G N xs) yq_law d 227 [(3, .int i), (2, .ref 54), (1, .ref 0), (0, .ref 1003)] [] SH (I, L, z_R b) 0 0 E := by
  obtain ⟨np, nq, dn, km, tm, sz, bo, rn, hJ⟩ := hB
  have c1 := c_X8_players (d - 1) (by omega) b I L np (yj_qnp hJ).1 (yj_qnp hJ).2.2 (yj_qsl hJ) (xs (i + 1).toNatClampNeg) (xs (i + 2).toNatClampNeg) (xs (i + 3).toNatClampNeg)
  have hm : yj_J b np nq dn km tm sz bo rn I (m_X8_players I L np (xs (i + 1).toNatClampNeg) (xs (i + 2).toNatClampNeg) (xs (i + 3).toNatClampNeg)) L L := yj_mid hJ (yj_o8players _ _ _ _ _ _) (yj_o8r _)
  have s := yj_s_players hm (xs (i + 1).toNatClampNeg) (xs (i + 2).toNatClampNeg) (xs (i + 3).toNatClampNeg)
  have c2 := c_X9_players (d - 1) (by omega) b (m_X8_players I L np (xs (i + 1).toNatClampNeg) (xs (i + 2).toNatClampNeg) (xs (i + 3).toNatClampNeg)) L np (yj_qnp hm).2.1 (yj_qnp hm).2.2 (xs (i + 1).toNatClampNeg) (xs (i + 2).toNatClampNeg) (xs (i + 3).toNatClampNeg) (yj_qmn hm)
  rw [← s.1] at c2
  exact yq_kc227 h1 h2 h3 c1 c2 (by omega) (by omega) (h _ _ _ (yj_end (s.2) (yj_o9players _ _ _ _ _ _) (yj_o9r _)))
theorem yj_k270 {N d : Nat} {xs : Nat → Int32} {i : Int32} {b : Bool} {I : Nat → Nat → Int32} {L : Nat → Nat → Int64} {E : Option Value → z_Sh → z_M → Prop} (hd : 74 ≤ d) (hB : yj_B b I I L L) (h1 : vp_in (i + 1) N) (h2 : vp_in (i + 2) N) (h3 : vp_in (i + 3) N) (h : yj_H N xs d i E) : PS (yq_G N xs) yq_law d 270 [(3, .int i), (2, .ref 54), (1, .ref 0), (0, .ref 1003)] [] SH (I, L, z_R b) 0 0 E := by
  obtain ⟨np, nq, dn, km, tm, sz, bo, rn, hJ⟩ := hB
  have c1 := c_X8_mend (d - 1) (by omega) b I L np (yj_qnp hJ).1 (yj_qnp hJ).2.2 dn (yj_qdn hJ).1 (yj_qdn hJ).2.2 (xs (i + 1).toNatClampNeg) (xs (i + 2).toNatClampNeg) (xs (i + 3).toNatClampNeg)
  have hm : yj_J b np nq dn km tm sz bo rn I (m_X8_mend I dn (xs (i + 1).toNatClampNeg) (xs (i + 2).toNatClampNeg) (xs (i + 3).toNatClampNeg)) L L := yj_mid hJ (yj_o8mend _ _ _ _ _) (yj_o8r _)
  have s := yj_s_mend hm (xs (i + 1).toNatClampNeg) (xs (i + 2).toNatClampNeg) (xs (i + 3).toNatClampNeg)
  have c2 := c_X9_mend (d - 1) (by omega) b (m_X8_mend I dn (xs (i + 1).toNatClampNeg) (xs (i + 2).toNatClampNeg) (xs (i + 3).toNatClampNeg)) L np (yj_qnp hm).2.1 (yj_qnp hm).2.2 dn (yj_qdn hm).2.1 (yj_qdn hm).2.2 (xs (i + 1).toNatClampNeg) (xs (i + 2).toNatClampNeg) (xs (i + 3).toNatClampNeg)
  rw [← s.1] at c2
  exact yq_kc270 h1 h2 h3 c1 c2 (by omega) (by omega) (h _ _ _ (yj_end (s.2) (yj_o9mend _ _ _ _ _ _) (yj_o9r _)))
theorem yj_k313 {N d : Nat} {xs : Nat → Int32} {i : Int32} {b : Bool} {I : Nat → Nat → Int32} {L : Nat → Nat → Int64} {E : Option Value → z_Sh → z_M → Prop} (hd : 74 ≤ d) (hB : yj_B b I I L L) (h1 : vp_in (i + 1) N) (h2 : vp_in (i + 2) N) (h : yj_H N xs d i E) : PS (yq_G N xs) yq_law d 313 [(3, .int i), (2, .ref 54), (1, .ref 0), (0, .ref 1003)] [] SH (I, L, z_R b) 0 0 E := by
  obtain ⟨np, nq, dn, km, tm, sz, bo, rn, hJ⟩ := hB
  have c1 := c_X8_of (d - 1) (by omega) b I L np (yj_qnp hJ).1 (yj_qnp hJ).2.2 (xs (i + 1).toNatClampNeg) (xs (i + 2).toNatClampNeg)
  have hm : yj_J b np nq dn km tm sz bo rn I I L L := yj_mid hJ (yj_o8r _) (yj_o8r _)
  have s := yj_s_of hm (xs (i + 1).toNatClampNeg) (xs (i + 2).toNatClampNeg)
  have c2 := c_X9_of (d - 1) (by omega) b I L np (yj_qnp hm).2.1 (yj_qnp hm).2.2 (xs (i + 1).toNatClampNeg) (xs (i + 2).toNatClampNeg)
  rw [← s] at c2
  exact yq_kc313 h1 h2 c1 c2 (by omega) (by omega) (h _ _ _ (yj_end (⟨np, nq, dn, km, tm, sz, bo, rn, hm⟩) (yj_o9r _) (yj_o9r _)))
theorem yj_k346 {N d : Nat} {xs : Nat → Int32} {i : Int32} {b : Bool} {I : Nat → Nat → Int32} {L : Nat → Nat → Int64} {E : Option Value → z_Sh → z_M → Prop} (hd : 74 ≤ d) (hB : yj_B b I I L L) (h1 : vp_in (i + 1) N) (h : yj_H N xs d i E) : PS (yq_G N xs) yq_law d 346 [(3, .int i), (2, .ref 54), (1, .ref 0), (0, .ref 1003)] [] SH (I, L, z_R b) 0 0 E := by
  obtain ⟨np, nq, dn, km, tm, sz, bo, rn, hJ⟩ := hB
  have c1 := c_X8_feed (d - 1) (by omega) b I L tm (yj_qtm hJ).1 (yj_qtm hJ).2.2 (xs (i + 1).toNatClampNeg)
  have hm : yj_J b np nq dn km tm sz bo rn I (m_X8_feed I tm (xs (i + 1).toNatClampNeg)) L L := yj_mid hJ (yj_o8feed _ _ _) (yj_o8r _)
  have s := yj_s_feed hm (xs (i + 1).toNatClampNeg)
  have c2 := c_X9_feed (d - 1) (by omega) b (m_X8_feed I tm (xs (i + 1).toNatClampNeg)) L tm (yj_qtm hm).2.1 (yj_qtm hm).2.2 (xs (i + 1).toNatClampNeg)
  rw [← s.1] at c2
  exact yq_kc346 h1 c1 c2 (by omega) (by omega) (h _ _ _ (yj_end (s.2) (yj_o9feed _ _ _) (yj_o9r _)))
theorem yj_k382 {N d : Nat} {xs : Nat → Int32} {i : Int32} {b : Bool} {I : Nat → Nat → Int32} {L : Nat → Nat → Int64} {E : Option Value → z_Sh → z_M → Prop} (hd : 74 ≤ d) (hB : yj_B b I I L L) (h1 : vp_in (i + 1) N) (h : yj_H N xs d i E) : PS (yq_G N xs) yq_law d 382 [(3, .int i), (2, .ref 54), (1, .ref 0), (0, .ref 1003)] [] SH (I, L, z_R b) 0 0 E := by
  obtain ⟨np, nq, dn, km, tm, sz, bo, rn, hJ⟩ := hB
  have c1 := c_X8_odds (d - 1) (by omega) b I L np (yj_qnp hJ).1 (yj_qnp hJ).2.2 sz (yj_qsz hJ).1 (yj_qsz hJ).2 (xs (i + 1).toNatClampNeg)
  have hm : yj_J b np nq dn km tm sz bo rn I (m_X8_odds b I sz (xs (i + 1).toNatClampNeg)) L L := yj_mid hJ (yj_o8odds _ _ _ _) (yj_o8r _)
  have s := yj_s_odds hm (xs (i + 1).toNatClampNeg)
  have c2 := c_X9_odds (d - 1) (by omega) b (m_X8_odds b I sz (xs (i + 1).toNatClampNeg)) L np (yj_qnp hm).2.2 (yj_qG hm) (xs (i + 1).toNatClampNeg)
  rw [← s.1] at c2
  exact yq_kc382 h1 c1 c2 (by omega) (by omega) (h _ _ _ (yj_end (s.2) (yj_o9odds _ _ _) (yj_o9r _)))
theorem yj_k418 {N d : Nat} {xs : Nat → Int32} {i : Int32} {b : Bool} {I : Nat → Nat → Int32} {L : Nat → Nat → Int64} {E : Option Value → z_Sh → z_M → Prop} (hd : 74 ≤ d) (hB : yj_B b I I L L) (h1 : vp_in (i + 1) N) (h : yj_H N xs d i E) : PS (yq_G N xs) yq_law d 418 [(3, .int i), (2, .ref 54), (1, .ref 0), (0, .ref 1003)] [] SH (I, L, z_R b) 0 0 E := by
  obtain ⟨np, nq, dn, km, tm, sz, bo, rn, hJ⟩ := hB
  have c1 := c_X8_bestJudge (d - 1) (by omega) b I L np (yj_qnp hJ).1 (yj_qnp hJ).2.2 sz (yj_qsz hJ).1 (yj_qsz hJ).2 (xs (i + 1).toNatClampNeg)
  have hm : yj_J b np nq dn km tm sz bo rn I (m_X8_bestJudge b I np sz (xs (i + 1).toNatClampNeg)) L L := yj_mid hJ (yj_o8bestJudge _ _ _ _ _) (yj_o8r _)
  have s := yj_s_bestJudge hm (xs (i + 1).toNatClampNeg)
  have c2 := c_X9_bestJudge (d - 1) (by omega) b (m_X8_bestJudge b I np sz (xs (i + 1).toNatClampNeg)) L np (yj_qnp hm).2.2 (yj_qG hm) (xs (i + 1).toNatClampNeg)
  rw [← s.1] at c2
  exact yq_kc418 h1 c1 c2 (by omega) (by omega) (h _ _ _ (yj_end (s.2) (yj_o9bestJudge _ _ _) (yj_o9r _)))
theorem yj_k441 {N d : Nat} {xs : Nat → Int32} {i : Int32} {b : Bool} {I : Nat → Nat → Int32} {L : Nat → Nat → Int64} {E : Option Value → z_Sh → z_M → Prop} (hd : 74 ≤ d) (hB : yj_B b I I L L) (h1 : vp_in (i + 1) N) (h : yj_H N xs d i E) : PS (yq_G N xs) yq_law d 441 [(3, .int i), (2, .ref 54), (1, .ref 0), (0, .ref 1003)] [] SH (I, L, z_R b) 0 0 E := by
  obtain ⟨np, nq, dn, km, tm, sz, bo, rn, hJ⟩ := hB
  have c1 := c_X8_held (d - 1) (by omega) b I L np (yj_qnp hJ).1 (yj_qnp hJ).2.2 sz (yj_qsz hJ).1 (yj_qsz hJ).2 (yj_qsl hJ) (xs (i + 1).toNatClampNeg)
  have hm : yj_J b np nq dn km tm sz bo rn I (m_X8_held b I L np sz (xs (i + 1).toNatClampNeg)) L L := yj_mid hJ (yj_o8held _ _ _ _ _ _) (yj_o8r _)
  have s := yj_s_held hm (xs (i + 1).toNatClampNeg)
  have c2 := c_X9_held (d - 1) (by omega) b (m_X8_held b I L np sz (xs (i + 1).toNatClampNeg)) L np (yj_qnp hm).2.2 (yj_qG hm) (xs (i + 1).toNatClampNeg)
  rw [← s.1] at c2
  exact yq_kc441 h1 c1 c2 (by omega) (by omega) (h _ _ _ (yj_end (s.2) (yj_o9held _ _ _ _) (yj_o9r _)))
theorem yj_k464 {N d : Nat} {xs : Nat → Int32} {i : Int32} {b : Bool} {I : Nat → Nat → Int32} {L : Nat → Nat → Int64} {E : Option Value → z_Sh → z_M → Prop} (hd : 74 ≤ d) (hB : yj_B b I I L L) (h1 : vp_in (i + 1) N) (h : yj_H N xs d i E) : PS (yq_G N xs) yq_law d 464 [(3, .int i), (2, .ref 54), (1, .ref 0), (0, .ref 1003)] [] SH (I, L, z_R b) 0 0 E := by
  obtain ⟨np, nq, dn, km, tm, sz, bo, rn, hJ⟩ := hB
  have c1 := c_X8_loses (d - 1) (by omega) b I L np (yj_qnp hJ).1 (yj_qnp hJ).2.2 sz (yj_qsz hJ).1 (yj_qsz hJ).2 (yj_qsl hJ) (xs (i + 1).toNatClampNeg)
  have hm : yj_J b np nq dn km tm sz bo rn I (m_X8_loses b I L np sz (xs (i + 1).toNatClampNeg)) L L := yj_mid hJ (yj_o8loses _ _ _ _ _ _) (yj_o8r _)
  have s := yj_s_loses hm (xs (i + 1).toNatClampNeg)
  have c2 := c_X9_loses (d - 1) (by omega) b (m_X8_loses b I L np sz (xs (i + 1).toNatClampNeg)) L np (yj_qnp hm).2.2 (yj_qG hm) (xs (i + 1).toNatClampNeg)
  rw [← s.1] at c2
  exact yq_kc464 h1 c1 c2 (by omega) (by omega) (h _ _ _ (yj_end (s.2) (yj_o9loses _ _ _ _) (yj_o9r _)))
theorem yj_k487 {N d : Nat} {xs : Nat → Int32} {i : Int32} {b : Bool} {I : Nat → Nat → Int32} {L : Nat → Nat → Int64} {E : Option Value → z_Sh → z_M → Prop} (hd : 74 ≤ d) (hB : yj_B b I I L L) (h1 : vp_in (i + 1) N) (h2 : vp_in (i + 2) N) (h3 : vp_in (i + 3) N) (h4 : vp_in (i + 4) N) (h : yj_H N xs d i E) : PS (yq_G N xs) yq_law d 487 [(3, .int i), (2, .ref 54), (1, .ref 0), (0, .ref 1003)] [] SH (I, L, z_R b) 0 0 E := by
  obtain ⟨np, nq, dn, km, tm, sz, bo, rn, hJ⟩ := hB
  have c1 := c_X8_behind (d - 1) (by omega) b I L np (yj_qnp hJ).1 (yj_qnp hJ).2.2 sz (yj_qsz hJ).1 (yj_qsz hJ).2 (yj_qsl hJ) (xs (i + 1).toNatClampNeg) (xs (i + 2).toNatClampNeg) (xs (i + 3).toNatClampNeg) (xs (i + 4).toNatClampNeg)
  have hm : yj_J b np nq dn km tm sz bo rn I (m_X8_behind b I L np sz (xs (i + 1).toNatClampNeg) (xs (i + 2).toNatClampNeg) (xs (i + 3).toNatClampNeg) (xs (i + 4).toNatClampNeg)) L L := yj_mid hJ (yj_o8behind _ _ _ _ _ _ _ _ _) (yj_o8r _)
  have s := yj_s_behind hm (xs (i + 1).toNatClampNeg) (xs (i + 2).toNatClampNeg) (xs (i + 3).toNatClampNeg) (xs (i + 4).toNatClampNeg)
  have c2 := c_X9_behind (d - 1) (by omega) b (m_X8_behind b I L np sz (xs (i + 1).toNatClampNeg) (xs (i + 2).toNatClampNeg) (xs (i + 3).toNatClampNeg) (xs (i + 4).toNatClampNeg)) L np (yj_qnp hm).2.2 (yj_qG hm) (xs (i + 1).toNatClampNeg) (xs (i + 2).toNatClampNeg) (xs (i + 3).toNatClampNeg) (xs (i + 4).toNatClampNeg)
  rw [← s.1] at c2
  exact yq_kc487 h1 h2 h3 h4 c1 c2 (by omega) (by omega) (h _ _ _ (yj_end (s.2) (yj_o9behind _ _ _ _ _ _ _) (yj_o9r _)))
theorem yj_k540 {N d : Nat} {xs : Nat → Int32} {i : Int32} {b : Bool} {I : Nat → Nat → Int32} {L : Nat → Nat → Int64} {E : Option Value → z_Sh → z_M → Prop} (hd : 74 ≤ d) (hB : yj_B b I I L L) (h1 : vp_in (i + 1) N) (h : yj_H N xs d i E) : PS (yq_G N xs) yq_law d 540 [(3, .int i), (2, .ref 54), (1, .ref 0), (0, .ref 1003)] [] SH (I, L, z_R b) 0 0 E := by
  obtain ⟨np, nq, dn, km, tm, sz, bo, rn, hJ⟩ := hB
  have c1 := c_X8_atOnce (d - 1) (by omega) b I L np (yj_qnp hJ).1 (yj_qnp hJ).2.2 (xs (i + 1).toNatClampNeg)
  have hm : yj_J b np nq dn km tm sz bo rn I I L L := yj_mid hJ (yj_o8r _) (yj_o8r _)
  have s := yj_s_atOnce hm (xs (i + 1).toNatClampNeg)
  have c2 := c_X9_atOnce (d - 1) (by omega) b I L np (yj_qnp hm).2.2 (yj_qnp hm).2.1 (xs (i + 1).toNatClampNeg)
  rw [← s.1] at c2
  exact yq_kc540 h1 c1 c2 (by omega) (by omega) (h _ _ _ (yj_end (s.2) (yj_o9atOnce _ _ _) (yj_o9r _)))
theorem yj_k563 {N d : Nat} {xs : Nat → Int32} {i : Int32} {b : Bool} {I : Nat → Nat → Int32} {L : Nat → Nat → Int64} {E : Option Value → z_Sh → z_M → Prop} (hd : 74 ≤ d) (hB : yj_B b I I L L) (h1 : vp_in (i + 1) N) (h : yj_H N xs d i E) : PS (yq_G N xs) yq_law d 563 [(3, .int i), (2, .ref 54), (1, .ref 0), (0, .ref 1003)] [] SH (I, L, z_R b) 0 0 E := by
  obtain ⟨np, nq, dn, km, tm, sz, bo, rn, hJ⟩ := hB
  have c1 := c_X8_tomorrow (d - 1) (by omega) b I L np (yj_qnp hJ).1 (yj_qnp hJ).2.2 sz (yj_qsz hJ).1 (yj_qsz hJ).2 (xs (i + 1).toNatClampNeg)
  have hm : yj_J b np nq dn km tm sz bo rn I (m_X8_tomorrow b I np sz (xs (i + 1).toNatClampNeg)) L L := yj_mid hJ (yj_o8tomorrow _ _ _ _ _) (yj_o8r _)
  have s := yj_s_tomorrow hm (xs (i + 1).toNatClampNeg)
  have c2 := c_X9_tomorrow (d - 1) (by omega) b (m_X8_tomorrow b I np sz (xs (i + 1).toNatClampNeg)) L np (yj_qnp hm).2.2 (yj_qG hm) (xs (i + 1).toNatClampNeg)
  rw [← s.1] at c2
  exact yq_kc563 h1 c1 c2 (by omega) (by omega) (h _ _ _ (yj_end (s.2) (yj_o9tomorrow _ _ _) (yj_o9r _)))
theorem yj_k586 {N d : Nat} {xs : Nat → Int32} {i : Int32} {b : Bool} {I : Nat → Nat → Int32} {L : Nat → Nat → Int64} {E : Option Value → z_Sh → z_M → Prop} (hd : 74 ≤ d) (hB : yj_B b I I L L) (h1 : vp_in (i + 1) N) (h2 : vp_in (i + 2) N) (h : yj_H N xs d i E) : PS (yq_G N xs) yq_law d 586 [(3, .int i), (2, .ref 54), (1, .ref 0), (0, .ref 1003)] [] SH (I, L, z_R b) 0 0 E := by
  obtain ⟨np, nq, dn, km, tm, sz, bo, rn, hJ⟩ := hB
  have c1 := c_X8_order (d - 1) (by omega) b I L np (yj_qnp hJ).1 (yj_qnp hJ).2.2 (yj_qsl hJ) (xs (i + 1).toNatClampNeg) (xs (i + 2).toNatClampNeg)
  have hm : yj_J b np nq dn km tm sz bo rn I (m_X8_order I L np (xs (i + 1).toNatClampNeg) (xs (i + 2).toNatClampNeg)) L (n_X8_order I L np (xs (i + 1).toNatClampNeg) (xs (i + 2).toNatClampNeg)) := yj_mid hJ ((yj_o8order _ _ _ _ _).1) ((yj_o8order _ _ _ _ _).2)
  have s := yj_s_order hm (xs (i + 1).toNatClampNeg) (xs (i + 2).toNatClampNeg)
  have c2 := c_X9_order (d - 1) (by omega) b (m_X8_order I L np (xs (i + 1).toNatClampNeg) (xs (i + 2).toNatClampNeg)) (n_X8_order I L np (xs (i + 1).toNatClampNeg) (xs (i + 2).toNatClampNeg)) np (yj_qnp hm).2.2 (yj_qnp hm).2.1 (xs (i + 1).toNatClampNeg) (xs (i + 2).toNatClampNeg) (yj_oHJ hm _)
  rw [← s.1] at c2
  exact yq_kc586 h1 h2 c1 c2 (by omega) (by omega) (h _ _ _ (yj_end (s.2) (yj_o9order _ _ _ _ _) (yj_o9r _)))
theorem yj_k642 {N d : Nat} {xs : Nat → Int32} {i : Int32} {b : Bool} {I : Nat → Nat → Int32} {L : Nat → Nat → Int64} {E : Option Value → z_Sh → z_M → Prop} (hd : 74 ≤ d) (hB : yj_B b I I L L) (h1 : vp_in (i + 1) N) (h2 : vp_in (i + 2) N) (h3 : vp_in (i + 3) N) (h : yj_H N xs d i E) : PS (yq_G N xs) yq_law d 642 [(3, .int i), (2, .ref 54), (1, .ref 0), (0, .ref 1003)] [] SH (I, L, z_R b) 0 0 E := by
  obtain ⟨np, nq, dn, km, tm, sz, bo, rn, hJ⟩ := hB
  have c1 := c_X8_thrownBy (d - 1) (by omega) b I L np (yj_qnp hJ).1 (yj_qnp hJ).2.2 sz (yj_qsz hJ).1 (yj_qsz hJ).2 (yj_qsl hJ) (xs (i + 1).toNatClampNeg) (xs (i + 2).toNatClampNeg) (xs (i + 3).toNatClampNeg)
  have hm : yj_J b np nq dn km tm sz bo rn I (m_X8_thrownBy b I L sz (xs (i + 1).toNatClampNeg) (xs (i + 2).toNatClampNeg) (xs (i + 3).toNatClampNeg)) L L := yj_mid hJ (yj_o8thrownBy _ _ _ _ _ _ _) (yj_o8r _)
  have s := yj_s_thrownBy hm (xs (i + 1).toNatClampNeg) (xs (i + 2).toNatClampNeg) (xs (i + 3).toNatClampNeg)
  have c2 := c_X9_thrownBy (d - 1) (by omega) b (m_X8_thrownBy b I L sz (xs (i + 1).toNatClampNeg) (xs (i + 2).toNatClampNeg) (xs (i + 3).toNatClampNeg)) L np (yj_qnp hm).2.2 (yj_qG hm) (xs (i + 1).toNatClampNeg) (xs (i + 2).toNatClampNeg) (xs (i + 3).toNatClampNeg)
  rw [← s.1] at c2
  exact yq_kc642 h1 h2 h3 c1 c2 (by omega) (by omega) (h _ _ _ (yj_end (s.2) (yj_o9thrownBy _ _ _ _ _ _) (yj_o9r _)))
theorem yj_k699 {N d : Nat} {xs : Nat → Int32} {i : Int32} {b : Bool} {I : Nat → Nat → Int32} {L : Nat → Nat → Int64} {E : Option Value → z_Sh → z_M → Prop} (hd : 74 ≤ d) (hB : yj_B b I I L L) (h1 : vp_in (i + 1) N) (h2 : vp_in (i + 2) N) (h3 : vp_in (i + 3) N) (h : yj_H N xs d i E) : PS (yq_G N xs) yq_law d 699 [(3, .int i), (2, .ref 54), (1, .ref 0), (0, .ref 1003)] [] SH (I, L, z_R b) 0 0 E := by
  obtain ⟨np, nq, dn, km, tm, sz, bo, rn, hJ⟩ := hB
  have c1 := c_X8_streak (d - 1) (by omega) b I L np (yj_qnp hJ).1 (yj_qnp hJ).2.2 sz (yj_qsz hJ).1 (yj_qsz hJ).2 (xs (i + 1).toNatClampNeg) (xs (i + 2).toNatClampNeg) (xs (i + 3).toNatClampNeg)
  have hm : yj_J b np nq dn km tm sz bo rn I (m_X8_streak b I sz (xs (i + 1).toNatClampNeg) (xs (i + 2).toNatClampNeg) (xs (i + 3).toNatClampNeg)) L L := yj_mid hJ (yj_o8streak _ _ _ _ _ _) (yj_o8r _)
  have s := yj_s_streak hm (xs (i + 1).toNatClampNeg) (xs (i + 2).toNatClampNeg) (xs (i + 3).toNatClampNeg)
  have c2 := c_X9_streak (d - 1) (by omega) b (m_X8_streak b I sz (xs (i + 1).toNatClampNeg) (xs (i + 2).toNatClampNeg) (xs (i + 3).toNatClampNeg)) L np (yj_qnp hm).2.2 (yj_qG hm) (xs (i + 1).toNatClampNeg) (xs (i + 2).toNatClampNeg) (xs (i + 3).toNatClampNeg)
  rw [← s.1] at c2
  exact yq_kc699 h1 h2 h3 c1 c2 (by omega) (by omega) (h _ _ _ (yj_end (s.2) (yj_o9streak _ _ _ _ _) (yj_o9r _)))
theorem yj_k743 {N d : Nat} {xs : Nat → Int32} {i : Int32} {b : Bool} {I : Nat → Nat → Int32} {L : Nat → Nat → Int64} {E : Option Value → z_Sh → z_M → Prop} (hd : 74 ≤ d) (hB : yj_B b I I L L) (h1 : vp_in (i + 1) N) (h2 : vp_in (i + 2) N) (h3 : vp_in (i + 3) N) (h : yj_H N xs d i E) : PS (yq_G N xs) yq_law d 743 [(3, .int i), (2, .ref 54), (1, .ref 0), (0, .ref 1003)] [] SH (I, L, z_R b) 0 0 E := by
  obtain ⟨np, nq, dn, km, tm, sz, bo, rn, hJ⟩ := hB
  have c1 := c_X8_byTurns (d - 1) (by omega) b I L np (yj_qnp hJ).1 (yj_qnp hJ).2.2 sz (yj_qsz hJ).1 (yj_qsz hJ).2 (xs (i + 1).toNatClampNeg) (xs (i + 2).toNatClampNeg) (xs (i + 3).toNatClampNeg)
  have hm : yj_J b np nq dn km tm sz bo rn I (m_X8_byTurns b I np sz (xs (i + 1).toNatClampNeg) (xs (i + 2).toNatClampNeg) (xs (i + 3).toNatClampNeg)) L L := yj_mid hJ (yj_o8byTurns _ _ _ _ _ _ _) (yj_o8r _)
  have s := yj_s_byTurns hm (xs (i + 1).toNatClampNeg) (xs (i + 2).toNatClampNeg) (xs (i + 3).toNatClampNeg)
  have c2 := c_X9_byTurns (d - 1) (by omega) b (m_X8_byTurns b I np sz (xs (i + 1).toNatClampNeg) (xs (i + 2).toNatClampNeg) (xs (i + 3).toNatClampNeg)) L np (yj_qnp hm).2.2 (yj_qG hm) (xs (i + 1).toNatClampNeg) (xs (i + 2).toNatClampNeg) (xs (i + 3).toNatClampNeg)
  rw [← s.1] at c2
  exact yq_kc743 h1 h2 h3 c1 c2 (by omega) (by omega) (h _ _ _ (yj_end (s.2) (yj_o9byTurns _ _ _ _ _) (yj_o9r _)))
theorem yj_k786 {N d : Nat} {xs : Nat → Int32} {i : Int32} {b : Bool} {I : Nat → Nat → Int32} {L : Nat → Nat → Int64} {E : Option Value → z_Sh → z_M → Prop} (hd : 74 ≤ d) (hB : yj_B b I I L L) (h1 : vp_in (i + 1) N) (h2 : vp_in (i + 2) N) (h3 : vp_in (i + 3) N) (h4 : vp_in (i + 4) N) (h : yj_H N xs d i E) : PS (yq_G N xs) yq_law d 786 [(3, .int i), (2, .ref 54), (1, .ref 0), (0, .ref 1003)] [] SH (I, L, z_R b) 0 0 E := by
  obtain ⟨np, nq, dn, km, tm, sz, bo, rn, hJ⟩ := hB
  have c1 := c_X8_drawn (d - 1) (by omega) b I L np (yj_qnp hJ).1 (yj_qnp hJ).2.2 sz (yj_qsz hJ).1 (yj_qsz hJ).2 (yj_qsl hJ) (xs (i + 1).toNatClampNeg) (xs (i + 2).toNatClampNeg) (xs (i + 3).toNatClampNeg) (xs (i + 4).toNatClampNeg)
  have hm : yj_J b np nq dn km tm sz bo rn I (m_X8_drawn b I L np sz (xs (i + 1).toNatClampNeg) (xs (i + 2).toNatClampNeg) (xs (i + 3).toNatClampNeg) (xs (i + 4).toNatClampNeg)) L L := yj_mid hJ (yj_o8drawn _ _ _ _ _ _ _ _ _) (yj_o8r _)
  have s := yj_s_drawn hm (xs (i + 1).toNatClampNeg) (xs (i + 2).toNatClampNeg) (xs (i + 3).toNatClampNeg) (xs (i + 4).toNatClampNeg)
  have c2 := c_X9_drawn (d - 1) (by omega) b (m_X8_drawn b I L np sz (xs (i + 1).toNatClampNeg) (xs (i + 2).toNatClampNeg) (xs (i + 3).toNatClampNeg) (xs (i + 4).toNatClampNeg)) L np (yj_qnp hm).2.2 (yj_qG hm) (xs (i + 1).toNatClampNeg) (xs (i + 2).toNatClampNeg) (xs (i + 3).toNatClampNeg) (xs (i + 4).toNatClampNeg)
  rw [← s.1] at c2
  exact yq_kc786 h1 h2 h3 h4 c1 c2 (by omega) (by omega) (h _ _ _ (yj_end (s.2) (yj_o9drawn _ _ _ _ _ _ _) (yj_o9r _)))
theorem yj_k839 {N d : Nat} {xs : Nat → Int32} {i : Int32} {b : Bool} {I : Nat → Nat → Int32} {L : Nat → Nat → Int64} {E : Option Value → z_Sh → z_M → Prop} (hd : 74 ≤ d) (hB : yj_B b I I L L) (h1 : vp_in (i + 1) N) (h : yj_H N xs d i E) : PS (yq_G N xs) yq_law d 839 [(3, .int i), (2, .ref 54), (1, .ref 0), (0, .ref 1003)] [] SH (I, L, z_R b) 0 0 E := by
  obtain ⟨np, nq, dn, km, tm, sz, bo, rn, hJ⟩ := hB
  have c1 := c_X8_match (d - 1) (by omega) b I L np (yj_qnp hJ).1 (yj_qnp hJ).2.2 sz (yj_qsz hJ).1 (yj_qsz hJ).2 (xs (i + 1).toNatClampNeg)
  have hm : yj_J b np nq dn km tm sz bo rn I (m_X8_match b I sz (xs (i + 1).toNatClampNeg)) L L := yj_mid hJ (yj_o8match _ _ _ _) (yj_o8r _)
  have s := yj_s_match hm (xs (i + 1).toNatClampNeg)
  have c2 := c_X9_match (d - 1) (by omega) b (m_X8_match b I sz (xs (i + 1).toNatClampNeg)) L np (yj_qnp hm).2.2 (yj_qG hm) (xs (i + 1).toNatClampNeg)
  rw [← s.1] at c2
  exact yq_kc839 h1 c1 c2 (by omega) (by omega) (h _ _ _ (yj_end (s.2) (yj_o9match _ (yj_qnp hJ).2.2 _) (yj_o9r _)))
theorem yj_k862 {N d : Nat} {xs : Nat → Int32} {i : Int32} {b : Bool} {I : Nat → Nat → Int32} {L : Nat → Nat → Int64} {E : Option Value → z_Sh → z_M → Prop} (hd : 74 ≤ d) (hB : yj_B b I I L L) (h1 : vp_in (i + 1) N) (h : yj_H N xs d i E) : PS (yq_G N xs) yq_law d 862 [(3, .int i), (2, .ref 54), (1, .ref 0), (0, .ref 1003)] [] SH (I, L, z_R b) 0 0 E := by
  obtain ⟨np, nq, dn, km, tm, sz, bo, rn, hJ⟩ := hB
  have c1 := c_X8_lemonade (d - 1) (by omega) b I L np (yj_qnp hJ).1 (yj_qnp hJ).2.2 (xs (i + 1).toNatClampNeg)
  have hm : yj_J b np nq dn km tm sz bo rn I (m_X8_lemonade I (xs (i + 1).toNatClampNeg)) L L := yj_mid hJ (yj_o8lemonade _ _) (yj_o8r _)
  have s := yj_s_lemonade hm (xs (i + 1).toNatClampNeg)
  have c2 := c_X9_lemonade (d - 1) (by omega) b (m_X8_lemonade I (xs (i + 1).toNatClampNeg)) L np (yj_qnp hm).2.1 (yj_qnp hm).2.2 (xs (i + 1).toNatClampNeg)
  rw [← s.1] at c2
  exact yq_kc862 h1 c1 c2 (by omega) (by omega) (h _ _ _ (yj_end (s.2) (yj_o9lemonade _ _ _) (yj_o9r _)))
theorem yj_k885 {N d : Nat} {xs : Nat → Int32} {i : Int32} {b : Bool} {I : Nat → Nat → Int32} {L : Nat → Nat → Int64} {E : Option Value → z_Sh → z_M → Prop} (hd : 74 ≤ d) (hB : yj_B b I I L L) (h : yj_H N xs d i E) : PS (yq_G N xs) yq_law d 885 [(3, .int i), (2, .ref 54), (1, .ref 0), (0, .ref 1003)] [] SH (I, L, z_R b) 0 0 E := by
  obtain ⟨np, nq, dn, km, tm, sz, bo, rn, hJ⟩ := hB
  have c1 := c_X8_day (d - 1) (by omega) b I L np (yj_qnp hJ).1 (yj_qnp hJ).2.2
  have hm : yj_J b np nq dn km tm sz bo rn I (m_X8_day I np) L L := yj_mid hJ (yj_o8day _ _) (yj_o8r _)
  have s := yj_s_day hm 
  have c2 := c_X9_day (d - 1) (by omega) b (m_X8_day I np) L np (yj_qnp hm).2.1 (yj_qnp hm).2.2
  rw [← s.1] at c2
  exact yq_kc885 c1 c2 (by omega) (by omega) (h _ _ _ (yj_end (s.2) (yj_o9day _ (yj_qnp hJ).2.2) (yj_o9r _)))
theorem yj_k898 {N d : Nat} {xs : Nat → Int32} {i : Int32} {b : Bool} {I : Nat → Nat → Int32} {L : Nat → Nat → Int64} {E : Option Value → z_Sh → z_M → Prop} (hd : 74 ≤ d) (hB : yj_B b I I L L) (h1 : vp_in (i + 1) N) (h : yj_H N xs d i E) : PS (yq_G N xs) yq_law d 898 [(3, .int i), (2, .ref 54), (1, .ref 0), (0, .ref 1003)] [] SH (I, L, z_R b) 0 0 E := by
  obtain ⟨np, nq, dn, km, tm, sz, bo, rn, hJ⟩ := hB
  have c1 := c_X8_led (d - 1) (by omega) b I L (xs (i + 1).toNatClampNeg)
  have hm : yj_J b np nq dn km tm sz bo rn I I L L := yj_mid hJ (yj_o8r _) (yj_o8r _)
  have s := yj_s_led hm (xs (i + 1).toNatClampNeg)
  have c2 := c_X9_led (d - 1) (by omega) b I L (xs (i + 1).toNatClampNeg)
  rw [← s] at c2
  exact yq_kc898 h1 c1 c2 (by omega) (by omega) (h _ _ _ (yj_end (⟨np, nq, dn, km, tm, sz, bo, rn, hm⟩) (yj_o9r _) (yj_o9r _)))
theorem yj_k921 {N d : Nat} {xs : Nat → Int32} {i : Int32} {b : Bool} {I : Nat → Nat → Int32} {L : Nat → Nat → Int64} {E : Option Value → z_Sh → z_M → Prop} (hd : 74 ≤ d) (hB : yj_B b I I L L) (h : yj_H N xs d i E) : PS (yq_G N xs) yq_law d 921 [(3, .int i), (2, .ref 54), (1, .ref 0), (0, .ref 1003)] [] SH (I, L, z_R b) 0 0 E := by
  obtain ⟨np, nq, dn, km, tm, sz, bo, rn, hJ⟩ := hB
  have c1 := c_X8_image (d - 1) (by omega) b I L np (yj_qnp hJ).1 (yj_qnp hJ).2.2
  have hm : yj_J b np nq dn km tm sz bo rn I (m_X8_image I np) L L := yj_mid hJ (yj_o8image _ _) (yj_o8r _)
  have s := yj_s_image hm 
  have c2 := c_X9_image (d - 1) (by omega) b (m_X8_image I np) L np (yj_qnp hm).2.1 (yj_qnp hm).2.2
  rw [← s.1] at c2
  exact yq_kc921 c1 c2 (by omega) (by omega) (h _ _ _ (yj_end (s.2) (yj_o9image _ _) (yj_o9r _)))
theorem yj_k934 {N d : Nat} {xs : Nat → Int32} {i : Int32} {b : Bool} {I : Nat → Nat → Int32} {L : Nat → Nat → Int64} {E : Option Value → z_Sh → z_M → Prop} (hd : 74 ≤ d) (hB : yj_B b I I L L) (h : yj_H N xs d i E) : PS (yq_G N xs) yq_law d 934 [(3, .int i), (2, .ref 54), (1, .ref 0), (0, .ref 1003)] [] SH (I, L, z_R b) 0 0 E := by
  obtain ⟨np, nq, dn, km, tm, sz, bo, rn, hJ⟩ := hB
  have c1 := c_X8_back (d - 1) (by omega) b I L np (yj_qnp hJ).1 (yj_qnp hJ).2.2 nq (yj_qim hJ).1 (yj_qim hJ).2.2
  have hm : yj_J b np nq dn km tm sz bo rn I (m_X8_back I nq) L L := yj_mid hJ (yj_o8back _ _) (yj_o8r _)
  have s := yj_s_back hm 
  have c2 := c_X9_back (d - 1) (by omega) b (m_X8_back I nq) L nq (yj_qim hm).2.1 (yj_qi10 hm)
  rw [← s.1] at c2
  exact yq_kc934 c1 c2 (by omega) (by omega) (h _ _ _ (yj_end (s.2) (yj_o9back _ _) (yj_o9r _)))
theorem yj_k947 {N d : Nat} {xs : Nat → Int32} {i : Int32} {b : Bool} {I : Nat → Nat → Int32} {L : Nat → Nat → Int64} {E : Option Value → z_Sh → z_M → Prop} (hd : 74 ≤ d) (hB : yj_B b I I L L) (h : yj_H N xs d i E) : PS (yq_G N xs) yq_law d 947 [(3, .int i), (2, .ref 54), (1, .ref 0), (0, .ref 1003)] [] SH (I, L, z_R b) 0 0 E := by
  obtain ⟨np, nq, dn, km, tm, sz, bo, rn, hJ⟩ := hB
  have c1 := c_X8_undo (d - 1) (by omega) b I L np (yj_qnp hJ).1 (yj_qnp hJ).2.2 dn (yj_qdn hJ).1 (yj_qdn hJ).2.2
  have hm : yj_J b np nq dn km tm sz bo rn I (m_X8_undo I dn) L L := yj_mid hJ (yj_o8undo _ _) (yj_o8r _)
  have s := yj_s_undo hm 
  have c2 := c_X9_undo (d - 1) (by omega) b (m_X8_undo I dn) L dn (yj_qdn hm).2.1 (yj_qdn hm).2.2 (yj_qca hm)
  rw [← s.1] at c2
  exact yq_kc947 c1 c2 (by omega) (by omega) (h _ _ _ (yj_end (s.2) (yj_o9undo _ _) (yj_o9r _)))
theorem yj_k960 {N d : Nat} {xs : Nat → Int32} {i : Int32} {b : Bool} {I : Nat → Nat → Int32} {L : Nat → Nat → Int64} {E : Option Value → z_Sh → z_M → Prop} (hd : 74 ≤ d) (hB : yj_B b I I L L) (h : yj_H N xs d i E) : PS (yq_G N xs) yq_law d 960 [(3, .int i), (2, .ref 54), (1, .ref 0), (0, .ref 1003)] [] SH (I, L, z_R b) 0 0 E := by
  obtain ⟨np, nq, dn, km, tm, sz, bo, rn, hJ⟩ := hB
  have c1 := c_X8_redo (d - 1) (by omega) b I L np (yj_qnp hJ).1 (yj_qnp hJ).2.2 dn (yj_qdn hJ).1 (yj_qdn hJ).2.2
  have hm : yj_J b np nq dn km tm sz bo rn I (m_X8_redo I dn) L L := yj_mid hJ (yj_o8redo _ _) (yj_o8r _)
  have s := yj_s_redo hm 
  have c2 := c_X9_redo (d - 1) (by omega) b (m_X8_redo I dn) L dn (yj_qdn hm).2.1 (yj_qdn hm).2.2 (yj_qca hm) (yj_qdk hm)
  rw [← s.1] at c2
  exact yq_kc960 c1 c2 (by omega) (by omega) (h _ _ _ (yj_end (s.2) (yj_o9redo _ _) (yj_o9r _)))
theorem yj_k973 {N d : Nat} {xs : Nat → Int32} {i : Int32} {b : Bool} {I : Nat → Nat → Int32} {L : Nat → Nat → Int64} {E : Option Value → z_Sh → z_M → Prop} (hd : 74 ≤ d) (hB : yj_B b I I L L) (h1 : vp_in (i + 1) N) (h : yj_H N xs d i E) : PS (yq_G N xs) yq_law d 973 [(3, .int i), (2, .ref 54), (1, .ref 0), (0, .ref 1003)] [] SH (I, L, z_R b) 0 0 E := by
  obtain ⟨np, nq, dn, km, tm, sz, bo, rn, hJ⟩ := hB
  have c1 := c_X8_body (d - 1) (by omega) b I L bo (yj_qbo hJ).1 (yj_qbo hJ).2.2 (xs (i + 1).toNatClampNeg)
  have hm : yj_J b np nq dn km tm sz bo rn I (m_X8_body I bo (xs (i + 1).toNatClampNeg)) L L := yj_mid hJ (yj_o8body _ _ _) (yj_o8r _)
  have s := yj_s_body hm (xs (i + 1).toNatClampNeg)
  have c2 := c_X9_body (d - 1) (by omega) b (m_X8_body I bo (xs (i + 1).toNatClampNeg)) L bo (yj_qbo hm).2.1 (yj_qbo hm).2.2 (xs (i + 1).toNatClampNeg)
  rw [← s.1] at c2
  exact yq_kc973 h1 c1 c2 (by omega) (by omega) (h _ _ _ (yj_end (s.2) (yj_o9body _ _ _) (yj_o9r _)))
theorem yj_k996 {N d : Nat} {xs : Nat → Int32} {i : Int32} {b : Bool} {I : Nat → Nat → Int32} {L : Nat → Nat → Int64} {E : Option Value → z_Sh → z_M → Prop} (hd : 74 ≤ d) (hB : yj_B b I I L L) (h1 : vp_in (i + 1) N) (h2 : vp_in (i + 2) N) (h3 : vp_in (i + 3) N) (h : yj_H N xs d i E) : PS (yq_G N xs) yq_law d 996 [(3, .int i), (2, .ref 54), (1, .ref 0), (0, .ref 1003)] [] SH (I, L, z_R b) 0 0 E := by
  obtain ⟨np, nq, dn, km, tm, sz, bo, rn, hJ⟩ := hB
  have c1 := c_X8_act (d - 1) (by omega) b I L bo (yj_qbo hJ).1 (yj_qbo hJ).2.2 (yj_qks hJ) (xs (i + 1).toNatClampNeg) (xs (i + 2).toNatClampNeg) (xs (i + 3).toNatClampNeg)
  have hm : yj_J b np nq dn km tm sz bo rn I (m_X8_act I (xs (i + 1).toNatClampNeg) (xs (i + 2).toNatClampNeg) (xs (i + 3).toNatClampNeg)) L L := yj_mid hJ (yj_o8act _ _ _ _) (yj_o8r _)
  have s := yj_s_act hm (xs (i + 1).toNatClampNeg) (xs (i + 2).toNatClampNeg) (xs (i + 3).toNatClampNeg)
  have c2 := c_X9_act (d - 1) (by omega) b (m_X8_act I (xs (i + 1).toNatClampNeg) (xs (i + 2).toNatClampNeg) (xs (i + 3).toNatClampNeg)) L bo (yj_qbo hm).2.1 (yj_qbo hm).2.2 (xs (i + 1).toNatClampNeg) (xs (i + 2).toNatClampNeg) (xs (i + 3).toNatClampNeg)
  rw [← s.1] at c2
  exact yq_kc996 h1 h2 h3 c1 c2 (by omega) (by omega) (h _ _ _ (yj_end (s.2) (yj_o9act _ _ _ _ _) (yj_o9r _)))
theorem yj_k1039 {N d : Nat} {xs : Nat → Int32} {i : Int32} {b : Bool} {I : Nat → Nat → Int32} {L : Nat → Nat → Int64} {E : Option Value → z_Sh → z_M → Prop} (hd : 74 ≤ d) (hB : yj_B b I I L L) (h1 : vp_in (i + 1) N) (h : yj_H N xs d i E) : PS (yq_G N xs) yq_law d 1039 [(3, .int i), (2, .ref 54), (1, .ref 0), (0, .ref 1003)] [] SH (I, L, z_R b) 0 0 E := by
  obtain ⟨np, nq, dn, km, tm, sz, bo, rn, hJ⟩ := hB
  have c1 := c_X8_trace (d - 1) (by omega) b I L (xs (i + 1).toNatClampNeg)
  have hm : yj_J b np nq dn km tm sz bo rn I I L L := yj_mid hJ (yj_o8r _) (yj_o8r _)
  have s := yj_s_trace hm (xs (i + 1).toNatClampNeg)
  have c2 := c_X9_trace (d - 1) (by omega) b I L (xs (i + 1).toNatClampNeg)
  rw [← s] at c2
  exact yq_kc1039 h1 c1 c2 (by omega) (by omega) (h _ _ _ (yj_end (⟨np, nq, dn, km, tm, sz, bo, rn, hm⟩) (yj_o9r _) (yj_o9r _)))
theorem yj_k1062 {N d : Nat} {xs : Nat → Int32} {i : Int32} {b : Bool} {I : Nat → Nat → Int32} {L : Nat → Nat → Int64} {E : Option Value → z_Sh → z_M → Prop} (hd : 74 ≤ d) (hB : yj_B b I I L L) (h1 : vp_in (i + 1) N) (h2 : vp_in (i + 2) N) (h : yj_H N xs d i E) : PS (yq_G N xs) yq_law d 1062 [(3, .int i), (2, .ref 54), (1, .ref 0), (0, .ref 1003)] [] SH (I, L, z_R b) 0 0 E := by
  obtain ⟨np, nq, dn, km, tm, sz, bo, rn, hJ⟩ := hB
  have c1 := c_X8_keep (d - 1) (by omega) b I L (xs (i + 1).toNatClampNeg) (xs (i + 2).toNatClampNeg)
  have hm : yj_J b np nq dn km tm sz bo rn I (m_X8_keep I (xs (i + 1).toNatClampNeg) (xs (i + 2).toNatClampNeg)) L L := yj_mid hJ (yj_o8keep _ _ _) (yj_o8r _)
  have s := yj_s_keep hm (xs (i + 1).toNatClampNeg) (xs (i + 2).toNatClampNeg)
  have c2 := c_X9_keep (d - 1) (by omega) b (m_X8_keep I (xs (i + 1).toNatClampNeg) (xs (i + 2).toNatClampNeg)) L bo (yj_qbo hm).2.1 (yj_qbo hm).2.2 (xs (i + 1).toNatClampNeg) (xs (i + 2).toNatClampNeg)
  rw [← s.1] at c2
  exact yq_kc1062 h1 h2 c1 c2 (by omega) (by omega) (h _ _ _ (yj_end (s.2) (yj_o9keep _ _ _ _) (yj_o9r _)))
theorem yj_k1095 {N d : Nat} {xs : Nat → Int32} {i : Int32} {b : Bool} {I : Nat → Nat → Int32} {L : Nat → Nat → Int64} {E : Option Value → z_Sh → z_M → Prop} (hd : 74 ≤ d) (hB : yj_B b I I L L) (h1 : vp_in (i + 1) N) (h2 : vp_in (i + 2) N) (h3 : vp_in (i + 3) N) (h : yj_H N xs d i E) : PS (yq_G N xs) yq_law d 1095 [(3, .int i), (2, .ref 54), (1, .ref 0), (0, .ref 1003)] [] SH (I, L, z_R b) 0 0 E := by
  obtain ⟨np, nq, dn, km, tm, sz, bo, rn, hJ⟩ := hB
  have c1 := c_X8_row (d - 1) (by omega) b I L (xs (i + 1).toNatClampNeg) (xs (i + 2).toNatClampNeg) (xs (i + 3).toNatClampNeg)
  have hm : yj_J b np nq dn km tm sz bo rn I (m_X8_row I L (xs (i + 1).toNatClampNeg) (xs (i + 2).toNatClampNeg) (xs (i + 3).toNatClampNeg)) L (n_X8_row I L (xs (i + 1).toNatClampNeg) (xs (i + 2).toNatClampNeg) (xs (i + 3).toNatClampNeg)) := yj_mid hJ ((yj_o8row _ _ _ _ _).1) ((yj_o8row _ _ _ _ _).2)
  have s := yj_s_row hm (xs (i + 1).toNatClampNeg) (xs (i + 2).toNatClampNeg) (xs (i + 3).toNatClampNeg)
  have c2 := c_X9_row (d - 1) (by omega) b (m_X8_row I L (xs (i + 1).toNatClampNeg) (xs (i + 2).toNatClampNeg) (xs (i + 3).toNatClampNeg)) (n_X8_row I L (xs (i + 1).toNatClampNeg) (xs (i + 2).toNatClampNeg) (xs (i + 3).toNatClampNeg)) (xs (i + 1).toNatClampNeg) (xs (i + 2).toNatClampNeg) (xs (i + 3).toNatClampNeg)
  rw [← s.1] at c2
  exact yq_kc1095 h1 h2 h3 c1 c2 (by omega) (by omega) (h _ _ _ (yj_end (s.2) ((yj_o9row _ _ _ _ _).1) ((yj_o9row _ _ _ _ _).2)))
theorem yj_k1211 {N d : Nat} {xs : Nat → Int32} {i : Int32} {b : Bool} {I : Nat → Nat → Int32} {L : Nat → Nat → Int64} {E : Option Value → z_Sh → z_M → Prop} (hd : 74 ≤ d) (hB : yj_B b I I L L) (h1 : vp_in (i + 1) N) (h2 : vp_in (i + 2) N) (h : yj_H N xs d i E) : PS (yq_G N xs) yq_law d 1211 [(3, .int i), (2, .ref 54), (1, .ref 0), (0, .ref 1003)] [] SH (I, L, z_R b) 0 0 E := by
  obtain ⟨np, nq, dn, km, tm, sz, bo, rn, hJ⟩ := hB
  have c1 := c_X8_element (d - 1) (by omega) b I L (yj_qsl hJ) (xs (i + 1).toNatClampNeg) (xs (i + 2).toNatClampNeg)
  have hm : yj_J b np nq dn km tm sz bo rn I I L L := yj_mid hJ (yj_o8r _) (yj_o8r _)
  have s := yj_s_element hm (xs (i + 1).toNatClampNeg) (xs (i + 2).toNatClampNeg)
  have c2 := c_X9_element (d - 1) (by omega) b I L (xs (i + 1).toNatClampNeg) (xs (i + 2).toNatClampNeg) (yj_qmn hm)
  rw [← s] at c2
  exact yq_kc1211 h1 h2 c1 c2 (by omega) (by omega) (h _ _ _ (yj_end (⟨np, nq, dn, km, tm, sz, bo, rn, hm⟩) (yj_o9r _) (yj_o9r _)))
theorem yj_k1245 {N d : Nat} {xs : Nat → Int32} {i : Int32} {b : Bool} {I : Nat → Nat → Int32} {L : Nat → Nat → Int64} {E : Option Value → z_Sh → z_M → Prop} (hd : 74 ≤ d) (hB : yj_B b I I L L) (h1 : vp_in (i + 1) N) (h2 : vp_in (i + 2) N) (h3 : vp_in (i + 3) N) (h4 : vp_in (i + 4) N) (h5 : vp_in (i + 5) N) (h : yj_H N xs d i E) : PS (yq_G N xs) yq_law d 1245 [(3, .int i), (2, .ref 54), (1, .ref 0), (0, .ref 1003)] [] SH (I, L, z_R b) 0 0 E := by
  obtain ⟨np, nq, dn, km, tm, sz, bo, rn, hJ⟩ := hB
  have c1 := c_X8_shift (d - 1) (by omega) b I L (yj_qsl hJ) (xs (i + 1).toNatClampNeg) (xs (i + 2).toNatClampNeg) (xs (i + 3).toNatClampNeg) (xs (i + 4).toNatClampNeg) (xs (i + 5).toNatClampNeg)
  have hm : yj_J b np nq dn km tm sz bo rn I I L (n_X8_shift I L (xs (i + 1).toNatClampNeg) (xs (i + 2).toNatClampNeg) (xs (i + 3).toNatClampNeg) (xs (i + 4).toNatClampNeg) (xs (i + 5).toNatClampNeg)) := yj_mid hJ (yj_o8r _) (yj_o8shift _ _ _ _ _ _ _)
  have s := yj_s_shift hm (xs (i + 1).toNatClampNeg) (xs (i + 2).toNatClampNeg) (xs (i + 3).toNatClampNeg) (xs (i + 4).toNatClampNeg) (xs (i + 5).toNatClampNeg)
  have c2 := c_X9_shift (d - 1) (by omega) b I (n_X8_shift I L (xs (i + 1).toNatClampNeg) (xs (i + 2).toNatClampNeg) (xs (i + 3).toNatClampNeg) (xs (i + 4).toNatClampNeg) (xs (i + 5).toNatClampNeg)) (xs (i + 1).toNatClampNeg) (xs (i + 2).toNatClampNeg) (xs (i + 3).toNatClampNeg) (xs (i + 4).toNatClampNeg) (xs (i + 5).toNatClampNeg) (yj_qmn hm)
  rw [← s.1] at c2
  exact yq_kc1245 h1 h2 h3 h4 h5 c1 c2 (by omega) (by omega) (h _ _ _ (yj_end (s.2) (yj_o9r _) (yj_o9shift _ _ _ _ _ _ _)))
theorem yj_k1308 {N d : Nat} {xs : Nat → Int32} {i : Int32} {b : Bool} {I : Nat → Nat → Int32} {L : Nat → Nat → Int64} {E : Option Value → z_Sh → z_M → Prop} (hd : 74 ≤ d) (hB : yj_B b I I L L) (h1 : vp_in (i + 1) N) (h2 : vp_in (i + 2) N) (h : yj_H N xs d i E) : PS (yq_G N xs) yq_law d 1308 [(3, .int i), (2, .ref 54), (1, .ref 0), (0, .ref 1003)] [] SH (I, L, z_R b) 0 0 E := by
  obtain ⟨np, nq, dn, km, tm, sz, bo, rn, hJ⟩ := hB
  have c1 := c_X8_taken (d - 1) (by omega) b I L bo (yj_qbo hJ).1 (yj_qbo hJ).2.2 (xs (i + 1).toNatClampNeg) (xs (i + 2).toNatClampNeg)
  have hm : yj_J b np nq dn km tm sz bo rn I I L L := yj_mid hJ (yj_o8r _) (yj_o8r _)
  have s := yj_s_taken hm (xs (i + 1).toNatClampNeg) (xs (i + 2).toNatClampNeg)
  have c2 := c_X9_taken (d - 1) (by omega) b I L bo (yj_qbo hm).2.1 (yj_qbo hm).2.2 (xs (i + 1).toNatClampNeg) (xs (i + 2).toNatClampNeg) (yj_qsb hm) (yj_qbk hm)
  rw [← s] at c2
  exact yq_kc1308 h1 h2 c1 c2 (by omega) (by omega) (h _ _ _ (yj_end (⟨np, nq, dn, km, tm, sz, bo, rn, hm⟩) (yj_o9r _) (yj_o9r _)))
theorem yj_k1341 {N d : Nat} {xs : Nat → Int32} {i : Int32} {b : Bool} {I : Nat → Nat → Int32} {L : Nat → Nat → Int64} {E : Option Value → z_Sh → z_M → Prop} (hd : 74 ≤ d) (hB : yj_B b I I L L) (h1 : vp_in (i + 1) N) (h : yj_H N xs d i E) : PS (yq_G N xs) yq_law d 1341 [(3, .int i), (2, .ref 54), (1, .ref 0), (0, .ref 1003)] [] SH (I, L, z_R b) 0 0 E := by
  obtain ⟨np, nq, dn, km, tm, sz, bo, rn, hJ⟩ := hB
  have c1 := c_X8_count (d - 1) (by omega) b I L np (yj_qnp hJ).1 (yj_qnp hJ).2.2 (xs (i + 1).toNatClampNeg)
  have hm : yj_J b np nq dn km tm sz bo rn I I L L := yj_mid hJ (yj_o8r _) (yj_o8r _)
  have s := yj_s_count hm (xs (i + 1).toNatClampNeg)
  have c2 := c_X9_count (d - 1) (by omega) b I L np (yj_qnp hm).2.1 (yj_qnp hm).2.2 (xs (i + 1).toNatClampNeg)
  rw [← s.1] at c2
  exact yq_kc1341 h1 c1 c2 (by omega) (by omega) (h _ _ _ (yj_end (s.2) (yj_o9count _ _ _) (yj_o9r _)))
