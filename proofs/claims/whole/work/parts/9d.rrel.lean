/-! THE CLASS AGAINST THE REFERENCE: what holds between two calls -/
/-- the image -/
def yj_Im (np nq : Nat) (C R : Nat → Nat → Int32) : Prop := (C 0 2 = R 54 28 ∧ C 7 0 = nI nq ∧ R 54 29 = nI nq ∧ nq ≤ np) ∧ (∀ j, j < nq → (C 9 j = R 71 (10 + j) ∧ C 10 j = R 71 (20 + j) ∧ C 11 j = R 71 (30 + j)) ∧ yj_r 99 (R 71 (10 + j)) ∧ yj_r 255 (R 71 (20 + j)) ∧ yj_r 3 (R 71 (30 + j))) ∧ (¬ C 0 2 = 0 → (C 7 5 = R 71 40 ∧ yj_r 99 (R 71 40) ∧ C 7 6 = R 71 41) ∧ ∀ j, j < 5 → C 12 j = R 72 j)
/-- what a number may be -/
def yj_ok (w : Nat) (v : Int32) : Prop := (w = 0 → yj_r 9 v) ∧ (w = 1 → yj_r 99 v) ∧ (w = 2 → yj_r 255 v) ∧ (w = 3 → yj_r 3 v) ∧ (w = 4 → yj_r 99 v)
/-- a change: of whom, what, the reference's place -/
def yj_pl (np : Nat) (n w q : Int32) (k : Nat) : Prop := (∃ m, m < np ∧ k ≤ 3 ∧ n = nI m ∧ w = nI k ∧ q = nI (10 * k + m)) ∨ (n = 0 ∧ k = 4 ∧ w = 4 ∧ q = nI 40) ∨ (n = 0 ∧ k = 5 ∧ w = 5 ∧ q = nI 41)
def yj_Ch (np dn km : Nat) (C R : Nat → Nat → Int32) : Prop := (C 33 4 = nI dn ∧ R 54 5 = nI dn ∧ R 54 4 = nI km ∧ C 33 5 = nI (km - dn) ∧ dn ≤ km ∧ km ≤ 40) ∧ (∀ j, j < 40 → ∃ q, q < 42 ∧ R 56 j = nI q) ∧ ∀ k, k < km → ∃ w, yj_pl np (C 34 k) (C 35 k) (R 56 k) w ∧ C 36 k = R 57 k ∧ C 37 k = R 58 k ∧ yj_ok w (R 57 k) ∧ yj_ok w (R 58 k)
/-- bodies, what ran -/
def yj_Bo (bo rn : Nat) (C R : Nat → Nat → Int32) : Prop := (C 38 1 = nI bo ∧ R 54 32 = nI bo ∧ bo ≤ 50) ∧ (∀ j, j < bo → C 39 j = R 73 j) ∧ (∀ j, j < 50 → yj_r 7 (R 73 j)) ∧ (C 38 3 = nI rn ∧ R 54 35 = nI rn ∧ rn ≤ 998) ∧ ∀ j, j < 24 → j < rn → C 40 j = R 74 j
/-- a shelf -/
def yj_Sd (bo d : Nat) (C R : Nat → Nat → Int32) (CL RL : Nat → Nat → Int64) : Prop := ∃ m : Nat, m ≤ 60 ∧ C (42 + 2 * d) 2 = nI m ∧ R 76 d = nI m ∧ ((C (42 + 2 * d) 0 = (-1) ∧ R 75 d = (-1) ∧ m = 0) ∨ (C (42 + 2 * d) 0 = 5 ∧ m = 0 ∧ ∃ w, w < bo ∧ C (42 + 2 * d) 1 = nI w ∧ R 75 d = nI w) ∨ (∃ s, s ≤ 4 ∧ C (42 + 2 * d) 0 = nI s ∧ R 75 d = nI (50 + s) ∧ ∀ j, j < 60 → CL (43 + 2 * d) j = RL 77 (60 * d + j) ∧ (s ≤ 1 → (RL 77 (60 * d + j)).toInt32.toInt64 = RL 77 (60 * d + j))))
def yj_Sh (bo : Nat) (C R : Nat → Nat → Int32) (CL RL : Nat → Nat → Int64) : Prop := ∀ d, d < 6 → yj_Sd bo d C R CL RL
/-- all of it -/
def yj_J (b : Bool) (np nq dn km tm sz bo rn : Nat) (C R : Nat → Nat → Int32) (CL RL : Nat → Nat → Int64) : Prop := yj_Y np C R ∧ yj_Im np nq C R ∧ yj_Ch np dn km C R ∧ yj_Tp tm C R ∧ yj_L sz b C R ∧ yj_Bo bo rn C R ∧ yj_Sh bo C R CL RL ∧ R 68 0 = 0
/-- cells that last: the class's, the reference's -/
def yj_kC (a j : Nat) : Prop := a < 13 ∨ 32 < a ∨ a = 14 ∨ a = 15 ∨ a = 16 ∨ (a = 13 ∧ (j = 1 ∨ j = 4))
def yj_kR (a j : Nat) : Prop := (54 < a ∧ a < 61) ∨ (69 < a ∧ a < 77) ∨ (a = 68 ∧ j = 0) ∨ (a = 54 ∧ (j = 4 ∨ j = 5 ∨ j = 6 ∨ j = 8 ∨ j = 10 ∨ j = 28 ∨ j = 29 ∨ j = 32 ∨ j = 35))
theorem yj_Yf {np : Nat} {C R C' R' : Nat → Nat → Int32} (h : yj_Y np C R) (hC : ∀ a j, 1 ≤ a → a ≤ 6 → C' a j = C a j) (h6 : R' 54 6 = R 54 6) (hR : ∀ a j, a = 55 ∨ a = 70 → R' a j = R a j) : yj_Y np C' R' := by
  unfold yj_Y
  rw [hC 1 0 (by omega) (by omega), h6, hC 1 5 (by omega) (by omega), hC 1 6 (by omega) (by omega), hR 55 40 (by omega), hR 55 41 (by omega)]
  refine ⟨h.1, fun j hj => ?_, fun j hj hj2 => ?_, h.2.2.2.1, fun j hj => ?_⟩
  · rw [hC 2 j (by omega) (by omega), hC 3 j (by omega) (by omega), hC 4 j (by omega) (by omega), hC 5 j (by omega) (by omega), hR 55 j (by omega), hR 55 (10 + j) (by omega), hR 55 (20 + j) (by omega), hR 55 (30 + j) (by omega)]
    exact h.2.1 j hj
  · rw [hR 55 (30 + j) (by omega)]; exact h.2.2.1 j hj hj2
  · rw [hC 6 j (by omega) (by omega), hR 70 j (by omega)]; exact h.2.2.2.2 j hj
theorem yj_Imf {np nq : Nat} {C R C' R' : Nat → Nat → Int32} (h : yj_Im np nq C R) (hC : ∀ a j, a = 7 ∨ (9 ≤ a ∧ a ≤ 12) ∨ (a = 0 ∧ j = 2) → C' a j = C a j) (hR : ∀ a j, a = 71 ∨ a = 72 ∨ (a = 54 ∧ (j = 28 ∨ j = 29)) → R' a j = R a j) : yj_Im np nq C' R' := by
  unfold yj_Im
  rw [hC 0 2 (by omega), hR 54 28 (by omega), hC 7 0 (by omega), hR 54 29 (by omega), hC 7 5 (by omega), hC 7 6 (by omega), hR 71 40 (by omega), hR 71 41 (by omega)]
  refine ⟨h.1, fun j hj => ?_, fun q => ⟨(h.2.2 q).1, fun j hj => ?_⟩⟩
  · rw [hC 9 j (by omega), hC 10 j (by omega), hC 11 j (by omega), hR 71 (10 + j) (by omega), hR 71 (20 + j) (by omega), hR 71 (30 + j) (by omega)]
    exact h.2.1 j hj
  · rw [hC 12 j (by omega), hR 72 j (by omega)]; exact (h.2.2 q).2 j hj
theorem yj_Chf {np dn km : Nat} {C R C' R' : Nat → Nat → Int32} (h : yj_Ch np dn km C R) (hC : ∀ a j, 33 ≤ a → a ≤ 37 → C' a j = C a j) (hR : ∀ a j, (56 ≤ a ∧ a ≤ 58) ∨ (a = 54 ∧ (j = 4 ∨ j = 5)) → R' a j = R a j) : yj_Ch np dn km C' R' := by
  unfold yj_Ch
  rw [hC 33 4 (by omega) (by omega), hC 33 5 (by omega) (by omega), hR 54 5 (by omega), hR 54 4 (by omega)]
  refine ⟨h.1, fun j hj => ?_, fun k hk => ?_⟩
  · rw [hR 56 j (by omega)]; exact h.2.1 j hj
  · rw [hC 34 k (by omega) (by omega), hC 35 k (by omega) (by omega), hC 36 k (by omega) (by omega), hC 37 k (by omega) (by omega), hR 56 k (by omega), hR 57 k (by omega), hR 58 k (by omega)]
    exact h.2.2 k hk
theorem yj_Tpf {tm : Nat} {C R C' R' : Nat → Nat → Int32} (h : yj_Tp tm C R) (h1 : C' 13 1 = C 13 1) (h2 : ∀ j, C' 14 j = C 14 j) (h3 : R' 54 8 = R 54 8) (h4 : ∀ j, R' 59 j = R 59 j) : yj_Tp tm C' R' := by
  unfold yj_Tp
  rw [h1, h3]
  refine ⟨h.1, fun j hj => ?_⟩
  rw [h2, h4]; exact h.2 j hj
theorem yj_Bof {bo rn : Nat} {C R C' R' : Nat → Nat → Int32} (h : yj_Bo bo rn C R) (hC : ∀ a j, 38 ≤ a → a ≤ 40 → C' a j = C a j) (hR : ∀ a j, a = 73 ∨ a = 74 ∨ (a = 54 ∧ (j = 32 ∨ j = 35)) → R' a j = R a j) : yj_Bo bo rn C' R' := by
  unfold yj_Bo
  rw [hC 38 1 (by omega) (by omega), hC 38 3 (by omega) (by omega), hR 54 32 (by omega), hR 54 35 (by omega)]
  refine ⟨h.1, fun j hj => ?_, fun j hj => ?_, h.2.2.2.1, fun j hj hj2 => ?_⟩
  · rw [hC 39 j (by omega) (by omega), hR 73 j (by omega)]; exact h.2.1 j hj
  · rw [hR 73 j (by omega)]; exact h.2.2.1 j hj
  · rw [hC 40 j (by omega) (by omega), hR 74 j (by omega)]; exact h.2.2.2.2 j hj hj2
theorem yj_Sdf {bo d : Nat} {C R C' R' : Nat → Nat → Int32} {CL RL CL' RL' : Nat → Nat → Int64} (h : yj_Sd bo d C R CL RL) (hC : ∀ j, C' (42 + 2 * d) j = C (42 + 2 * d) j) (hR : R' 75 d = R 75 d ∧ R' 76 d = R 76 d) (hCL : ∀ j, CL' (43 + 2 * d) j = CL (43 + 2 * d) j) (hRL : ∀ j, j < 60 → RL' 77 (60 * d + j) = RL 77 (60 * d + j)) : yj_Sd bo d C' R' CL' RL' := by
  unfold yj_Sd
  rw [hC 0, hC 1, hC 2, hR.1, hR.2]
  obtain ⟨m, h1, h2, h3, h4⟩ := h
  refine ⟨m, h1, h2, h3, ?_⟩
  rcases h4 with h4 | h4 | ⟨s, g1, g2, g3, g4⟩
  · exact Or.inl h4
  · exact Or.inr (Or.inl h4)
  · refine Or.inr (Or.inr ⟨s, g1, g2, g3, fun j hj => ?_⟩)
    rw [hCL j, hRL j hj]; exact g4 j hj
theorem yj_Shf {bo : Nat} {C R C' R' : Nat → Nat → Int32} {CL RL CL' RL' : Nat → Nat → Int64} (h : yj_Sh bo C R CL RL) (hC : ∀ a j, 41 < a → C' a j = C a j) (hR : ∀ a j, a = 75 ∨ a = 76 → R' a j = R a j) (hCL : ∀ a j, 42 < a → a < 54 → CL' a j = CL a j) (hRL : ∀ j, RL' 77 j = RL 77 j) : yj_Sh bo C' R' CL' RL' := fun d hd => yj_Sdf (h d hd) (fun j => hC _ j (by omega)) ⟨hR 75 d (by omega), hR 76 d (by omega)⟩ (fun j => hCL _ j (by omega) (by omega)) (fun j _ => hRL _)
/-- a call that changes nothing that lasts -/
theorem yj_Jf {b : Bool} {np nq dn km tm sz bo rn : Nat} {C R C' R' : Nat → Nat → Int32} {CL RL CL' RL' : Nat → Nat → Int64} (h : yj_J b np nq dn km tm sz bo rn C R CL RL) (hC : ∀ a j, a < 54 → yj_kC a j → C' a j = C a j) (hR : ∀ a j, yj_kR a j → R' a j = R a j) (hCL : ∀ a j, 42 < a → a < 54 → CL' a j = CL a j) (hRL : ∀ j, RL' 77 j = RL 77 j) : yj_J b np nq dn km tm sz bo rn C' R' CL' RL' := by
  obtain ⟨h1, h2, h3, h4, h5, h6, h7, h8⟩ := h
  refine ⟨yj_Yf h1 (fun a j q1 q2 => hC a j (by omega) (by unfold yj_kC; omega)) (hR 54 6 (by unfold yj_kR; omega)) (fun a j q => hR a j (by unfold yj_kR; omega)), yj_Imf h2 (fun a j q => hC a j (by omega) (by unfold yj_kC; omega)) (fun a j q => hR a j (by unfold yj_kR; omega)), yj_Chf h3 (fun a j q1 q2 => hC a j (by omega) (by unfold yj_kC; omega)) (fun a j q => hR a j (by unfold yj_kR; omega)), yj_Tpf h4 (hC 13 1 (by omega) (by unfold yj_kC; omega)) (fun j => hC 14 j (by omega) (by unfold yj_kC; omega)) (hR 54 8 (by unfold yj_kR; omega)) (fun j => hR 59 j (by unfold yj_kR; omega)), yj_Lf h5 (hC 13 4 (by omega) (by unfold yj_kC; omega)) ?_ (hR 54 10 (by unfold yj_kR; omega)) (funext fun j => hR 60 j (by unfold yj_kR; omega)), yj_Bof h6 (fun a j q1 q2 => hC a j (by omega) (by unfold yj_kC; omega)) (fun a j q => hR a j (by unfold yj_kR; omega)), ?_, ?_⟩
  · funext j
    cases b
    · exact hC 15 j (by omega) (by unfold yj_kC; omega)
    · exact hC 16 j (by omega) (by unfold yj_kC; omega)
  · exact fun d hd => yj_Sdf (h7 d hd) (fun j => hC _ j (by omega) (by unfold yj_kC; omega)) ⟨hR 75 d (by unfold yj_kR; omega), hR 76 d (by unfold yj_kR; omega)⟩ (fun j => hCL _ j (by omega) (by omega)) (fun j _ => hRL _)
  · rw [hR 68 0 (by unfold yj_kR; omega)]; exact h8
/-- the other side's cells may be read out of another store -/
theorem yj_Jx {b : Bool} {np nq dn km tm sz bo rn : Nat} {C R C' R' : Nat → Nat → Int32} {CL RL CL' RL' : Nat → Nat → Int64} (h : yj_J b np nq dn km tm sz bo rn C R CL RL) (hC : ∀ a j, a < 54 → C' a j = C a j) (hR : ∀ a j, (54 ≤ a ∧ a < 79) → R' a j = R a j) (hCL : ∀ a j, a < 54 → CL' a j = CL a j) (hRL : ∀ a j, (54 ≤ a ∧ a < 79) → RL' a j = RL a j) : yj_J b np nq dn km tm sz bo rn C' R' CL' RL' :=
  yj_Jf h (fun a j q _ => hC a j q) (fun a j q => hR a j ⟨by unfold yj_kR at q; omega, by unfold yj_kR at q; omega⟩) (fun a j q1 q2 => hCL a j q2) (fun j => hRL 77 j ⟨by omega, by omega⟩)
/-- a step of both: the answers are alike, and it holds again -/
def yj_B (b : Bool) (C R : Nat → Nat → Int32) (CL RL : Nat → Nat → Int64) : Prop := ∃ np nq dn km tm sz bo rn, yj_J b np nq dn km tm sz bo rn C R CL RL
