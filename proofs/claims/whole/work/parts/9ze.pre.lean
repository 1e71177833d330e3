/-! WHAT THE CONTRACTS ASK, out of the relation -/
section
variable {b : Bool} {np nq dn km tm sz bo rn : Nat} {C R : Nat → Nat → Int32} {CL RL : Nat → Nat → Int64}
theorem yj_qnp (h : yj_J b np nq dn km tm sz bo rn C R CL RL) : C 1 0 = nI np ∧ R 54 6 = nI np ∧ np ≤ 10 := h.1.1
theorem yj_qim (h : yj_J b np nq dn km tm sz bo rn C R CL RL) : C 7 0 = nI nq ∧ R 54 29 = nI nq ∧ nq ≤ np := h.2.1.1.2
theorem yj_qdn (h : yj_J b np nq dn km tm sz bo rn C R CL RL) : C 33 4 = nI dn ∧ R 54 5 = nI dn ∧ dn ≤ 40 := ⟨h.2.2.1.1.1, h.2.2.1.1.2.1, by have := h.2.2.1.1; omega⟩
theorem yj_qtm (h : yj_J b np nq dn km tm sz bo rn C R CL RL) : C 13 1 = nI tm ∧ R 54 8 = nI tm ∧ tm ≤ 120 := h.2.2.2.1.1
theorem yj_qbo (h : yj_J b np nq dn km tm sz bo rn C R CL RL) : C 38 1 = nI bo ∧ R 54 32 = nI bo ∧ bo ≤ 50 := h.2.2.2.2.2.1.1
theorem yj_qsl (h : yj_J b np nq dn km tm sz bo rn C R CL RL) : ∀ j, j < 6 → C (42 + 2 * j) 2 = nI (C (42 + 2 * j) 2).toNatClampNeg ∧ (C (42 + 2 * j) 2).toNatClampNeg ≤ 60 := fun j hj => by
  obtain ⟨m, m1, m2, -⟩ := h.2.2.2.2.2.2.1 j hj
  rw [m2, nI_clamp (by omega)]
  exact ⟨rfl, m1⟩
theorem yj_qmn (h : yj_J b np nq dn km tm sz bo rn C R CL RL) : ∀ j, j < 6 → R 76 j = nI (R 76 j).toNatClampNeg ∧ (R 76 j).toNatClampNeg ≤ 60 := fun j hj => by
  obtain ⟨m, m1, -, m3, -⟩ := h.2.2.2.2.2.2.1 j hj
  rw [m3, nI_clamp (by omega)]
  exact ⟨rfl, m1⟩
theorem yj_qca (h : yj_J b np nq dn km tm sz bo rn C R CL RL) : ∀ j, j < 40 → R 56 j = nI (R 56 j).toNatClampNeg ∧ (R 56 j).toNatClampNeg < 42 := fun j hj => by
  obtain ⟨q, q1, q2⟩ := h.2.2.1.2.1 j hj
  rw [q2, nI_clamp (by omega)]
  exact ⟨rfl, q1⟩
theorem yj_qdk (h : yj_J b np nq dn km tm sz bo rn C R CL RL) : ¬ nI dn = R 54 4 → dn < 40 := fun q => by
  obtain ⟨-, -, e, -, x, y⟩ := h.2.2.1.1
  refine Nat.lt_of_not_le fun w => q ?_
  rw [e, show dn = km by omega]
theorem yj_qsb (h : yj_J b np nq dn km tm sz bo rn C R CL RL) : ∀ j, j < 6 → ¬ R 75 j < 0 → R 75 j < 50 → R 75 j = nI (R 75 j).toNatClampNeg ∧ (R 75 j).toNatClampNeg < 50 := fun j hj n0 n50 => z_inN (N := 50) n0 (Int32.not_le.mpr n50) (by omega)
theorem yj_qks (h : yj_J b np nq dn km tm sz bo rn C R CL RL) : ∀ j, j < bo → C 39 j = nI (C 39 j).toNatClampNeg ∧ (C 39 j).toNatClampNeg < 8 := fun j hj => by
  have e := h.2.2.2.2.2.1.2.1 j hj
  have hb := (yj_qbo h).2.2
  obtain ⟨n, n1, n2⟩ := h.2.2.2.2.2.1.2.2.1 j (by omega)
  rw [e, n2, nI_clamp (by omega)]
  exact ⟨rfl, by omega⟩
theorem yj_qbk (h : yj_J b np nq dn km tm sz bo rn C R CL RL) : ∀ j, j < 50 → R 73 j ≤ 7 := fun j hj => by
  obtain ⟨n, n1, n2⟩ := h.2.2.2.2.2.1.2.2.1 j hj
  rw [n2]
  exact nI_le (b := 7) n1 (by omega)
/-- the reference's call comes upon the store that the class's left -/
theorem yj_mid {I1 : Nat → Nat → Int32} {L1 : Nat → Nat → Int64} (h : yj_J b np nq dn km tm sz bo rn C C CL CL) (h1 : yj_o8 C I1) (h2 : yj_o8 CL L1) : yj_J b np nq dn km tm sz bo rn C I1 CL L1 := yj_Jx h (fun _ _ _ => rfl) h1 (fun _ _ _ => rfl) h2
theorem yj_end {b' : Bool} {I1 I2 : Nat → Nat → Int32} {L1 L2 : Nat → Nat → Int64} (h : yj_B b' I1 I2 L1 L2) (h1 : yj_o9 I1 I2) (h2 : yj_o9 L1 L2) : yj_B b' I2 I2 L2 L2 := by
  obtain ⟨np, nq, dn, km, tm, sz, bo, rn, h⟩ := h
  exact ⟨np, nq, dn, km, tm, sz, bo, rn, yj_Jx h h1 (fun _ _ _ => rfl) h2 (fun _ _ _ => rfl)⟩
end
