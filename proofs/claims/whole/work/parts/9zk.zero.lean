/-! AT THE START -/
/-- in the order of making; by the numbers of the walks -/
def yn_I0 : Nat → Nat → Int32 := yq_IX9_init_60 (yq_IX8_init_0 (fun _ _ => 0))
def yj_I0 : Nat → Nat → Int32 := fun a b => yn_I0 (z_pm 1 a) b
def yj_L0 : Nat → Nat → Int64 := fun _ _ => 0
theorem yj_B0 : yj_B false yj_I0 yj_I0 yj_L0 yj_L0 := by
  refine yj_mk (np := 0) (nq := 0) (dn := 0) (km := 0) (tm := 0) (sz := 0) (bo := 0) (rn := 0) ⟨⟨by decide +kernel, fun j hj => absurd hj (Nat.not_lt_zero _), ?_, ⟨by decide +kernel, ⟨0, by omega, by decide +kernel⟩, by decide +kernel⟩, by decide +kernel⟩, ⟨by decide +kernel, fun j hj => absurd hj (Nat.not_lt_zero _), fun q => absurd (by decide +kernel) q⟩, ⟨by decide +kernel, fun j hj => ⟨0, by omega, ?_⟩, fun k hk => absurd hk (Nat.not_lt_zero _)⟩, ⟨by decide +kernel, fun j hj => absurd hj (Nat.not_lt_zero _)⟩, ⟨by decide +kernel, Or.inl (by decide +kernel)⟩, ⟨by decide +kernel, fun j hj => absurd hj (Nat.not_lt_zero _), fun j hj => ⟨0, by omega, ?_⟩, by decide +kernel, fun j _ hj => absurd hj (Nat.not_lt_zero _)⟩, fun d hd => ⟨0, by omega, ?_, ?_, Or.inl ⟨?_, ?_, rfl⟩⟩, by decide +kernel⟩
  · exact fun j _ hj => (by decide +kernel : ∀ j, j < 10 → yj_I0 55 (30 + j) = 0) j hj
  · exact (by decide +kernel : ∀ j, j < 40 → yj_I0 56 j = nI 0) j hj
  · exact (by decide +kernel : ∀ j, j < 50 → yj_I0 73 j = nI 0) j hj
  · exact (by decide +kernel : ∀ d, d < 6 → yj_I0 (42 + 2 * d) 2 = nI 0) d hd
  · exact (by decide +kernel : ∀ d, d < 6 → yj_I0 76 d = nI 0) d hd
  · exact (by decide +kernel : ∀ d, d < 6 → yj_I0 (42 + 2 * d) 0 = (-1)) d hd
  · exact (by decide +kernel : ∀ d, d < 6 → yj_I0 75 d = (-1)) d hd
