/-! THE LAW'S STEPS: ring -/
theorem yj_rdF (k : Nat) : ∀ (r t : Nat) (I : Nat → Nat → Int32) (L : Nat → Nat → Int64), (∀ a j, a ≠ 27 → (gx_X2_read_38 k r t I L).1 a j = I a j) ∧ ∀ a j, a ≠ 28 → (gx_X2_read_38 k r t I L).2 a j = L a j
  | 0, t, I, L => ⟨fun _ _ _ => rfl, fun _ _ _ => rfl⟩
  | r + 1, t, I, L => by
    unfold gx_X2_read_38
    (repeat' split) <;> first | exact ⟨fun _ _ _ => rfl, fun _ _ _ => rfl⟩ | exact yj_rdF k r (t + 1) _ _ | exact ⟨fun a j q => ((yj_rdF k r (t + 1) _ _).1 a j q).trans (z_up_k _ _ q), fun a j q => ((yj_rdF k r (t + 1) _ _).2 a j q).trans (z_up_k _ _ q)⟩
theorem yj_rdG (I : Nat → Nat → Int32) (L : Nat → Nat → Int64) (np k : Nat) : (∀ a j, a ≠ 26 → a ≠ 27 → m_X2_read I L np k a j = I a j) ∧ ∀ a j, a ≠ 28 → n_X2_read I L np k a j = L a j := by
  unfold m_X2_read n_X2_read
  obtain ⟨⟨a1, a2⟩, -⟩ := yj_rd10 10 0 (z_up I 26 0 (nI np)) L
  exact ⟨fun a j q1 q2 => ((yj_rdF k 20 0 _ _).1 a j q2).trans ((a1 a j q2).trans (z_up_k _ _ q1)), fun a j q => ((yj_rdF k 20 0 _ _).2 a j q).trans (a2 a j q)⟩
def yj_o6 (I J : Nat → Nat → Int32) : Prop := ∀ a j, a ≠ 67 → a ≠ 69 → J a j = I a j
theorem yj_o6f (I : Nat → Nat → Int32) : yj_o6 I I := fun _ _ _ _ => rfl
theorem yj_o6t {I J K : Nat → Nat → Int32} (h : yj_o6 I J) (g : yj_o6 J K) : yj_o6 I K := fun a j q1 q2 => (g a j q1 q2).trans (h a j q1 q2)
theorem yj_o6u (I : Nat → Nat → Int32) {k : Nat} (hk : k = 67 ∨ k = 69) (i : Nat) (v : Int32) : yj_o6 I (z_up I k i v) := fun a j q1 q2 => z_up_k _ _ (by omega)
theorem yj_o6i {I A B : Nat → Nat → Int32} {c : Prop} [Decidable c] (h : yj_o6 I A) (g : yj_o6 I B) : yj_o6 I (if c then A else B) := by
  by_cases q : c
  · rw [if_pos q]; exact h
  · rw [if_neg q]; exact g
theorem yj_o6a (L : Nat → Nat → Int64) (np sh : Nat) : ∀ (r t : Nat) (I : Nat → Nat → Int32), yj_o6 I (gx_X9_takesResults_23 L np sh r t I)
  | 0, t, I => fun _ _ _ _ => rfl
  | r + 1, t, I => by
    have IH := yj_o6a L np sh r (t + 1)
    rw [gx_X9_takesResults_23]
    repeat' (first | with_reducible exact yj_o6f _ | with_reducible exact IH _ | with_reducible exact yj_o6t (yj_o6u I (Or.inl rfl) _ _) (IH _) | with_reducible apply yj_o6i)
theorem yj_o6b (p m : Nat) : ∀ (r t : Nat) (I : Nat → Nat → Int32), yj_o6 I (gw_X9_ring_79 p m r t I)
  | 0, t, I => fun _ _ _ _ => rfl
  | r + 1, t, I => by
    have IH := yj_o6b p m r (t + 1)
    rw [gw_X9_ring_79]
    repeat' (first | with_reducible exact yj_o6t (yj_o6u I (Or.inr rfl) _ _) (IH _) | with_reducible apply yj_o6i)
theorem yj_o6c (np m : Nat) : ∀ (r t : Nat) (I : Nat → Nat → Int32), yj_o6 I (gw_X9_ring_68 np m r t I)
  | 0, t, I => fun _ _ _ _ => rfl
  | r + 1, t, I => yj_o6t (yj_o6b _ _ _ _ _) (yj_o6c np m r (t + 1) _)
theorem yj_o6d (np : Nat) : ∀ (r t : Nat) (I : Nat → Nat → Int32), yj_o6 I (gw_X9_ring_58 np r t I)
  | 0, t, I => fun _ _ _ _ => rfl
  | r + 1, t, I => yj_o6t (yj_o6c _ _ _ _ _) (yj_o6d np r (t + 1) _)
theorem yj_o6r (I : Nat → Nat → Int32) (L : Nat → Nat → Int64) (np : Nat) (sh : Int32) : yj_o6 I (m_X9_ring I L np sh) := by
  have g1 : yj_o6 I (m_X9_takesResults I L np sh.toNatClampNeg) := yj_o6t (fun a j q1 q2 => (yj_tr2 I 100).1 a j q1) (yj_o6a L np sh.toNatClampNeg 20 0 (g_X9_takesResults_2 I 100))
  have g2 : ∀ J, yj_o6 I J → yj_o6 I (gw_X9_ring_58 np np 0 (gw_X9_ring_23 100 0 J)) := fun J g => yj_o6t (yj_o6t g (fun a j q1 q2 => (yj_r23 100 0 J).1 a j q2)) (yj_o6d np np 0 (gw_X9_ring_23 100 0 J))
  have g3 := g2 _ g1
  unfold m_X9_ring
  exact yj_o6i g3 (yj_o6f I)
theorem yj_k619 {N d : Nat} {xs : Nat → Int32} {i : Int32} {b : Bool} {I : Nat → Nat → Int32} {L : Nat → Nat → Int64} {E : Option Value → z_Sh → z_M → Prop} (hd : 74 ≤ d) (hB : yj_B b I I L L) (h1 : vp_in (i + 1) N) (h : yj_H N xs d i E) : PS (yq_G N xs) yq_law d 619 [(3, .int i), (2, .ref 54), (1, .ref 0), (0, .ref 1003)] [] SH (I, L, z_R b) 0 0 E := by
  obtain ⟨np, nq, dn, km, tm, sz, bo, rn, hJ⟩ := hB
  have c1 := c_X8_ring (d - 1) (by omega) b I L np (yj_qnp hJ).1 (yj_qnp hJ).2.2 (yj_qsl hJ) (xs (i + 1).toNatClampNeg)
  obtain ⟨x, hx⟩ : ∃ x, xs (i + 1).toNatClampNeg = x := ⟨_, rfl⟩
  rw [hx] at c1
  have hm : yj_J b np nq dn km tm sz bo rn I (m_X8_ring I L np x) L (n_X8_ring I L np x) := yj_mid hJ (yj_o8ring _ _ _ _).1 (yj_o8ring _ _ _ _).2
  have s := yj_s_ring hm x
  have F1 : ∀ a j, a ≠ 26 → a ≠ 27 → m_X8_ring I L np x a j = I a j := by
    intro a j q1 q2
    unfold m_X8_ring
    (repeat' split) <;> first | rfl | exact (yj_rdG _ _ _ _).1 a j q1 q2
  have F2 : ∀ a j, a ≠ 28 → n_X8_ring I L np x a j = L a j := by
    intro a j q1
    unfold n_X8_ring
    (repeat' split) <;> first | rfl | exact (yj_rdG _ _ _ _).2 a j q1
  have B : yj_B b (m_X8_ring I L np x) (m_X9_ring (m_X8_ring I L np x) (n_X8_ring I L np x) np x) (n_X8_ring I L np x) (n_X8_ring I L np x) := yj_mk (yj_Jf hm (fun a j a54 q => F1 a j (by unfold yj_kC at q; omega) (by unfold yj_kC at q; omega)) (fun a j q => yj_o6r _ _ _ _ a j (by unfold yj_kR at q; omega) (by unfold yj_kR at q; omega)) (fun a j q1 q2 => F2 a j (by omega)) (fun _ => rfl))
  have c2 := c_X9_ring (d - 1) (by omega) b (m_X8_ring I L np x) (n_X8_ring I L np x) np (yj_qnp hm).2.2 (yj_qnp hm).2.1 x
  rw [← s] at c2
  exact yq_kc619 h1 (by rw [hx]; exact c1) (by rw [hx]; exact c2) (by omega) (by omega) (h _ _ _ (yj_end B (yj_o9ring _ _ _ _) (yj_o9r _)))
