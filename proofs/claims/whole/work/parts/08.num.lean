/-! numbers -/
theorem fa_and (a b : Nat) : nI a &&& nI b = nI (a &&& b) := by
  apply Int32.toBitVec_inj.1
  show BitVec.ofNat 32 a &&& BitVec.ofNat 32 b = BitVec.ofNat 32 (a &&& b)
  apply BitVec.eq_of_getLsbD_eq
  intro i hi
  simp [hi]
theorem fa_or (a b : Nat) : nI a ||| nI b = nI (a ||| b) := by
  apply Int32.toBitVec_inj.1
  show BitVec.ofNat 32 a ||| BitVec.ofNat 32 b = BitVec.ofNat 32 (a ||| b)
  apply BitVec.eq_of_getLsbD_eq
  intro i hi
  simp [hi]
theorem wb_of32 (x : Int32) : ∃ n, n < 2 ^ 32 ∧ x = nI n := ⟨x.toBitVec.toNat, x.toBitVec.isLt, Int32.toBitVec_inj.mp (by show _ = BitVec.ofNat 32 _; simp)⟩
/-- a mask of a small number is small -/
theorem z_andN {g : Nat} (hg : g < 2000000000) (x : Int32) : (nI g &&& x) = nI (nI g &&& x).toNatClampNeg ∧ (nI g &&& x).toNatClampNeg ≤ g := by
  obtain ⟨n, hn, rfl⟩ := wb_of32 x
  rw [fa_and]
  have h : g &&& n ≤ g := Nat.and_le_left
  rw [nI_clamp (by omega)]
  exact ⟨rfl, h⟩
/-- 1 << k -/
theorem z_shl1 : ∀ k : Nat, k < 31 → (1 : Int32) <<< (nI k &&& 31) = nI (2 ^ k) := by
  intro k hk
  have key : ∀ k : Fin 31, (1 : Int32) <<< (nI k.val &&& 31) = nI (2 ^ k.val) := by decide +kernel
  exact key ⟨k, hk⟩
