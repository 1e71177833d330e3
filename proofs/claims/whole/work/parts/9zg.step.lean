/-! THE LAW'S STEPS, the other five -/
theorem yj_k405 {N d : Nat} {xs : Nat → Int32} {i : Int32} {b : Bool} {I : Nat → Nat → Int32} {L : Nat → Nat → Int64} {E : Option Value → z_Sh → z_M → Prop} (hd : 74 ≤ d) (hB : yj_B b I I L L) (h : yj_H N xs d i E) : PS (yq_G N xs) yq_law d 405 [(3, .int i), (2, .ref 54), (1, .ref 0), (0, .ref 1003)] [] SH (I, L, z_R b) 0 0 E := by
  obtain ⟨np, nq, dn, km, tm, sz, bo, rn, hJ⟩ := hB
  have c1 := c_X8_judges (d - 1) (by omega) b I L np (yj_qnp hJ).1 (yj_qnp hJ).2.2
  have s := yj_s_judges hJ
  have c2 := c_X9_judges (d - 1) (by omega) b I L np (yj_qnp hJ).2.1 (yj_qnp hJ).2.2
  rw [← s] at c2
  exact yq_kc405 c1 c2 (by omega) (by omega) (h _ _ _ (yj_end (yj_mk (yj_begJ hJ np)) (yj_o9bg _ _) (yj_o9r _)))
theorem yj_k686 {N d : Nat} {xs : Nat → Int32} {i : Int32} {b : Bool} {I : Nat → Nat → Int32} {L : Nat → Nat → Int64} {E : Option Value → z_Sh → z_M → Prop} (hd : 74 ≤ d) (hB : yj_B b I I L L) (h : yj_H N xs d i E) : PS (yq_G N xs) yq_law d 686 [(3, .int i), (2, .ref 54), (1, .ref 0), (0, .ref 1003)] [] SH (I, L, z_R b) 0 0 E := by
  obtain ⟨np, nq, dn, km, tm, sz, bo, rn, hJ⟩ := hB
  have c1 := c_X8_three (d - 1) (by omega) b I L np (yj_qnp hJ).1 (yj_qnp hJ).2.2
  have s := yj_s_three hJ
  have c2 := c_X9_three (d - 1) (by omega) b I L np (yj_qnp hJ).2.1 (yj_qnp hJ).2.2
  rw [← s] at c2
  exact yq_kc686 c1 c2 (by omega) (by omega) (h _ _ _ (yj_end (yj_mk (yj_begJ hJ np)) (yj_o9bg _ _) (yj_o9r _)))
theorem yj_k1138 {N d : Nat} {xs : Nat → Int32} {i : Int32} {b : Bool} {I : Nat → Nat → Int32} {L : Nat → Nat → Int64} {E : Option Value → z_Sh → z_M → Prop} (hd : 74 ≤ d) (hB : yj_B b I I L L) (h1 : vp_in (i + 1) N) (h2 : vp_in (i + 2) N) (h3 : vp_in (i + 3) N) (h4 : vp_in (i + 4) N) (h : yj_H N xs d i E) : PS (yq_G N xs) yq_law d 1138 [(3, .int i), (2, .ref 54), (1, .ref 0), (0, .ref 1003)] [] SH (I, L, z_R b) 0 0 E := by
  obtain ⟨np, nq, dn, km, tm, sz, bo, rn, hJ⟩ := hB
  have c1 := c_X8_put (d - 1) (by omega) b I L (yj_qsl hJ) (xs (i + 1).toNatClampNeg) (xs (i + 2).toNatClampNeg) (((xs (i + 3).toNatClampNeg).toInt64 <<< ((32 : Int32).toInt64 &&& 63)) ||| ((xs (i + 4).toNatClampNeg).toInt64 &&& 4294967295))
  have hm : yj_J b np nq dn km tm sz bo rn I I L (n_X8_put I L (xs (i + 1).toNatClampNeg) (xs (i + 2).toNatClampNeg) (((xs (i + 3).toNatClampNeg).toInt64 <<< ((32 : Int32).toInt64 &&& 63)) ||| ((xs (i + 4).toNatClampNeg).toInt64 &&& 4294967295))) := yj_mid hJ (yj_o8r _) (yj_o8put _ _ _ _ _)
  have s := yj_s_put hm (xs (i + 1).toNatClampNeg) (xs (i + 2).toNatClampNeg) (((xs (i + 3).toNatClampNeg).toInt64 <<< ((32 : Int32).toInt64 &&& 63)) ||| ((xs (i + 4).toNatClampNeg).toInt64 &&& 4294967295))
  have c2 := c_X9_put (d - 1) (by omega) b I (n_X8_put I L (xs (i + 1).toNatClampNeg) (xs (i + 2).toNatClampNeg) (((xs (i + 3).toNatClampNeg).toInt64 <<< ((32 : Int32).toInt64 &&& 63)) ||| ((xs (i + 4).toNatClampNeg).toInt64 &&& 4294967295))) (xs (i + 1).toNatClampNeg) (xs (i + 2).toNatClampNeg) (((xs (i + 3).toNatClampNeg).toInt64 <<< ((32 : Int32).toInt64 &&& 63)) ||| ((xs (i + 4).toNatClampNeg).toInt64 &&& 4294967295)) (yj_qmn hm)
  rw [← s.1] at c2
  exact yq_kc1138 h1 h2 h3 h4 c1 c2 (by omega) (by omega) (h _ _ _ (yj_end s.2 (yj_o9r _) (yj_o9put _ _ _ _ _)))
theorem yj_k369 {N d : Nat} {xs : Nat → Int32} {i : Int32} {b : Bool} {I : Nat → Nat → Int32} {L : Nat → Nat → Int64} {E : Option Value → z_Sh → z_M → Prop} (hd : 74 ≤ d) (hB : yj_B b I I L L) (h : yj_H N xs d i E) : PS (yq_G N xs) yq_law d 369 [(3, .int i), (2, .ref 54), (1, .ref 0), (0, .ref 1003)] [] SH (I, L, z_R b) 0 0 E := by
  obtain ⟨np, nq, dn, km, tm, sz, bo, rn, hJ⟩ := hB
  have c1 := c_X8_law (d - 1) (by omega) b I L tm (yj_qtm hJ).1 (yj_qtm hJ).2.2
  have zd : z_df b < 54 := by cases b <;> decide
  have hm : yj_J b np nq dn km tm sz bo rn I (m_X8_law b I) L L := yj_mid hJ (fun a j q => (yj_law hJ.2.2.2.1 hJ.2.2.2.2.1).2.2.2.1 a j (by omega) (by omega)) (yj_o8r _)
  have s := yj_s_law hm
  have c2 := c_X9_law (d - 1) (by omega) (z_nb b I) (m_X8_law b I) L tm (yj_qtm hm).2.1 (yj_qtm hm).2.2
  rw [← s.1] at c2
  exact yq_kc369 c1 c2 (by omega) (by omega) (h _ _ _ (yj_end s.2 (fun a j q => (yj_law hm.2.2.2.1 hm.2.2.2.2.1).2.2.2.2 a j (by omega) (by omega)) (yj_o9r _)))
