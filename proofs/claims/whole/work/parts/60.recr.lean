theorem z_op2 {J A M : Nat → Nat → Int32} (h : z_K J A) (g : (A 54 15).toNatClampNeg = (J 54 15).toNatClampNeg + 1) (k : z_K A M) : z_K J (z_up M 54 15 (M 54 15 - 1)) := by
  obtain ⟨⟨a, c, e, d1, d2⟩, k2, k3, k4⟩ := k
  obtain ⟨-, h2, h3, -⟩ := h
  have e15 : (z_up M 54 15 (M 54 15 - 1)) 54 15 = nI ((M 54 15).toNatClampNeg - 1) := by
    rw [z_up_s, d1, z_pred (by omega), nI_clamp (by omega)]
  have e15n : ((z_up M 54 15 (M 54 15 - 1)) 54 15).toNatClampNeg = (M 54 15).toNatClampNeg - 1 := by rw [e15, nI_clamp (by omega)]
  refine ⟨⟨a, c, e, ?_, ?_⟩, k2.trans h2, Nat.le_trans h3 k3, ?_⟩
  · rw [e15n, e15]
  · rw [e15n]; omega
  · rw [e15n]; omega
theorem z_Kgx176 : ∀ (r t : Nat) (v : Int32) (Iv : Nat → Nat → Int32), z_Q Iv → z_K Iv (gx_X9_one_176 r t v Iv).2
  | 0, t, v, Iv, h => by
    unfold gx_X9_one_176
    split
    · exact z_K_wr h
    · exact z_K_rf h
  | r + 1, t, v, Iv, h => by
    unfold gx_X9_one_176
    (repeat' split) <;> first | exact z_K_wr h | exact z_K_rf h | (have ha := (z_K_ad h (z_dg0 (by assumption))).1; exact z_K_tr ha (z_Kgx176 r (t + 1) _ _ ha.1))
theorem z_K_one {FO FE : (Nat → Nat → Int32) → Int32 × (Nat → Nat → Int32)} (hKO : z_FK FO) (hKE : z_FK FE) {J : Nat → Nat → Int32} (h : z_Q J) : z_K J (m_X9_one J FO FE) := by
  have key : ∀ c : Int32, f_X9_byteAt J = c → ¬ c = 0 → ¬ J 54 15 = 6 → z_K J (z_up (z_up J 54 15 ((J 54 15) + 1)) 54 12 ((J 54 12) + 1)) ∧ ((z_up (z_up J 54 15 ((J 54 15) + 1)) 54 12 ((J 54 12) + 1)) 54 15).toNatClampNeg = (J 54 15).toNatClampNeg + 1 := fun c h1 h2 h6 => by
    have ho := z_op1 h h6
    have ha := (z_K_ad ho.1.1 (show ¬ z_by (z_up J 54 15 (J 54 15 + 1)) = 0 from z_b0 (I := J) rfl h1 h2)).1
    exact ⟨z_K_tr ho.1 ha, ho.2⟩
  have kO : ∀ c : Int32, f_X9_byteAt J = c → ¬ c = 0 → ¬ J 54 15 = 6 → z_K J (z_up (FO (z_up (z_up J 54 15 ((J 54 15) + 1)) 54 12 ((J 54 12) + 1))).2 54 15 (((FO (z_up (z_up J 54 15 ((J 54 15) + 1)) 54 12 ((J 54 12) + 1))).2 54 15) - 1)) := fun c h1 h2 h6 => by
    have ha := key c h1 h2 h6
    exact z_op2 ha.1 ha.2 (hKO _ ha.1.1)
  have kE : ∀ c : Int32, f_X9_byteAt J = c → ¬ c = 0 → ¬ J 54 15 = 6 → z_K J (m_X9_wrong (m_X9_takes ((FE (z_up (z_up J 54 15 ((J 54 15) + 1)) 54 12 ((J 54 12) + 1))).2) 41)) ∧ z_K J (z_up (m_X9_takes ((FE (z_up (z_up J 54 15 ((J 54 15) + 1)) 54 12 ((J 54 12) + 1))).2) 41) 54 15 (((m_X9_takes ((FE (z_up (z_up J 54 15 ((J 54 15) + 1)) 54 12 ((J 54 12) + 1))).2) 41) 54 15) - 1)) := fun c h1 h2 h6 => by
    have ha := key c h1 h2 h6
    have hb := hKE _ ha.1.1
    have hc := z_K_tr hb (z_K_tk hb.1 (c := 41) (by decide))
    exact ⟨z_K_tr ha.1 (z_K_tr hc (z_K_wr hc.1)), z_op2 ha.1 ha.2 hc⟩
  unfold m_X9_one
  (repeat' split) <;> first | exact z_K_rf h | exact z_K_wr h | exact kO 33 (by assumption) (by decide) (by assumption) | exact kO 45 (by assumption) (by decide) (by assumption) | exact (kE 40 (by assumption) (by decide) (by assumption)).1 | exact (kE 40 (by assumption) (by decide) (by assumption)).2 | exact z_Kgx176 4 0 0 J h | exact (z_K_ad h (z_nm0 (by assumption))).1
/-- a whole E out of an operand's reading -/
def z_eF (FO : (Nat → Nat → Int32) → Int32 × (Nat → Nat → Int32)) (K : Nat → Nat → Int32) : Int32 × (Nat → Nat → Int32) := (f_X9_either K FO, m_X9_either K FO)
theorem z_eF_1 (FO : (Nat → Nat → Int32) → Int32 × (Nat → Nat → Int32)) (K : Nat → Nat → Int32) : (z_eF FO K).1 = f_X9_either K FO := by simp only [z_eF]
theorem z_eF_2 (FO : (Nat → Nat → Int32) → Int32 × (Nat → Nat → Int32)) (K : Nat → Nat → Int32) : (z_eF FO K).2 = m_X9_either K FO := by simp only [z_eF]
theorem z_K_eitherF {FO : (Nat → Nat → Int32) → Int32 × (Nat → Nat → Int32)} (hKO : z_FK FO) : z_FK (z_eF FO) := by
  intro J h
  rw [z_eF_2]
  exact z_K_either hKO h
/-- the reference's reading by n rounds: an operand; a whole E -/
def z_oneR : Nat → (Nat → Nat → Int32) → Int32 × (Nat → Nat → Int32)
  | 0 => fun J => (0, J)
  | n + 1 => fun J => (f_X9_one J (z_oneR n) (z_eF (z_oneR n)), m_X9_one J (z_oneR n) (z_eF (z_oneR n)))
theorem z_oneR_1 (n : Nat) (J : Nat → Nat → Int32) : (z_oneR (n + 1) J).1 = f_X9_one J (z_oneR n) (z_eF (z_oneR n)) := by rw [z_oneR]
theorem z_oneR_2 (n : Nat) (J : Nat → Nat → Int32) : (z_oneR (n + 1) J).2 = m_X9_one J (z_oneR n) (z_eF (z_oneR n)) := by rw [z_oneR]
theorem z_oneK : ∀ n : Nat, z_FK (z_oneR n)
  | 0 => fun J h => z_K_rf h
  | n + 1 => by
    intro J h
    rw [z_oneR_2]
    exact z_K_one (z_oneK n) (z_K_eitherF (z_oneK n)) h
theorem z_recR (b : Bool) (L : Nat → Nat → Int64) : ∀ (n d : Nat) (J : Nat → Nat → Int32), 6 * n ≤ d → z_Q J → 7 - (J 54 15).toNatClampNeg < n → z_CT zm_X9_one d [.ref 54] SH (J, L, z_R b) 0 0 (z_ret (some (.int (z_oneR n J).1)) ((z_oneR n J).2, L, z_R b))
  | 0, d, J, hd, hQ, hn => absurd hn (Nat.not_lt_zero _)
  | n + 1, d, J, hd, hQ, hn => by
    rw [z_oneR_1, z_oneR_2]
    refine c_X9_one d b J L hQ (6 * n) n (z_oneR n) (fun d J a1 a2 a3 => z_recR b L n d J a1 a2 a3) (z_oneK n) (z_eF (z_oneR n)) (fun d J a1 a2 a3 => ?_) (z_K_eitherF (z_oneK n)) hn (by omega)
    rw [z_eF_1, z_eF_2]
    exact c_X9_either d b J L a2 (6 * n) n (z_oneR n) (fun d J a1 a2 a3 => z_recR b L n d J a1 a2 a3) (z_oneK n) a3 a1
def z_eE (K : Nat → Nat → Int32) : Int32 × (Nat → Nat → Int32) := z_eF (z_oneR 8) K
theorem z_eE_1 (K : Nat → Nat → Int32) : (z_eE K).1 = f_X9_either K (z_oneR 8) := by unfold z_eE; exact z_eF_1 _ _
theorem z_eE_2 (K : Nat → Nat → Int32) : (z_eE K).2 = m_X9_either K (z_oneR 8) := by unfold z_eE; exact z_eF_2 _ _
theorem z_eEK : z_FK z_eE := by
  intro J h
  rw [z_eE_2]
  exact z_K_either (z_oneK 8) h
theorem c_zE (d : Nat) (hd : 53 ≤ d) (b : Bool) (I : Nat → Nat → Int32) (L : Nat → Nat → Int64) (hQ : z_Q I) : z_CT zm_X9_either d [.ref 54] SH (I, L, z_R b) 0 0 (z_ret (some (.int (z_eE I).1)) ((z_eE I).2, L, z_R b)) := by
  rw [z_eE_1, z_eE_2]
  exact c_X9_either d b I L hQ 48 8 (z_oneR 8) (fun d J a1 a2 a3 => z_recR b L 8 d J a1 a2 a3) (z_oneK 8) (by omega) hd
/-- what a reading changes -/
def z_FrR (I J : Nat → Nat → Int32) : Prop := ∀ a j, (a ≠ 54 ∨ (j ≠ 12 ∧ j ≠ 14 ∧ j ≠ 15)) → J a j = I a j
def z_FF (F : (Nat → Nat → Int32) → Int32 × (Nat → Nat → Int32)) : Prop := ∀ J, z_FrR J (F J).2
theorem z_FrR_rf (I : Nat → Nat → Int32) : z_FrR I I := fun _ _ _ => rfl
theorem z_FrR_tr {I J K : Nat → Nat → Int32} (h1 : z_FrR I J) (h2 : z_FrR J K) : z_FrR I K := fun a j p => (h2 a j p).trans (h1 a j p)
theorem z_FrR_up (I : Nat → Nat → Int32) (k : Nat) (v : Int32) (hk : k = 12 ∨ k = 14 ∨ k = 15) : z_FrR I (z_up I 54 k v) := by
  intro a j h
  by_cases q : a = 54
  · subst q
    rcases h with h | h
    · exact absurd rfl h
    · exact z_up_j _ _ (by omega)
  · exact z_up_k _ _ q
theorem z_FrR_12 (I : Nat → Nat → Int32) (v : Int32) : z_FrR I (z_up I 54 12 v) := z_FrR_up I 12 v (Or.inl rfl)
theorem z_FrR_15 (I : Nat → Nat → Int32) (v : Int32) : z_FrR I (z_up I 54 15 v) := z_FrR_up I 15 v (Or.inr (Or.inr rfl))
theorem z_FrR_wr (I : Nat → Nat → Int32) : z_FrR I (m_X9_wrong I) := by
  unfold m_X9_wrong
  split <;> exact z_FrR_up I 14 _ (Or.inr (Or.inl rfl))
theorem z_FrR_tk (I : Nat → Nat → Int32) (c : Int32) : z_FrR I (m_X9_takes I c) := by
  unfold m_X9_takes
  (repeat' split) <;> first | exact z_FrR_rf _ | exact z_FrR_12 _ _
theorem z_Frg10 {FO : (Nat → Nat → Int32) → Int32 × (Nat → Nat → Int32)} (hF : z_FF FO) : ∀ (r t : Nat) (v1 : Int32) (v2 : Int32) (Iv : Nat → Nat → Int32), z_FrR Iv (gx_X9_product_10 FO r t v1 v2 Iv).2
  | 0, t, v1, v2, Iv => z_FrR_rf _
  | r + 1, t, v1, v2, Iv => by
    unfold gx_X9_product_10
    (repeat' split) <;> first | exact z_FrR_rf _ | exact z_FrR_tr (z_FrR_tr (z_FrR_12 _ _) (hF _)) (z_Frg10 hF r (t + 1) _ _ _)
theorem z_Fr_product {FO : (Nat → Nat → Int32) → Int32 × (Nat → Nat → Int32)} (hF : z_FF FO) (J : Nat → Nat → Int32) : z_FrR J (m_X9_product J FO) := z_FrR_tr (hF J) (z_Frg10 hF 121 0 _ _ _)
theorem z_Frg5s {FO : (Nat → Nat → Int32) → Int32 × (Nat → Nat → Int32)} (hF : z_FF FO) : ∀ (r t : Nat) (v1 : Int32) (Iv : Nat → Nat → Int32), z_FrR Iv (gx_X9_sums_5 FO r t v1 Iv).2
  | 0, t, v1, Iv => z_FrR_rf _
  | r + 1, t, v1, Iv => by
    unfold gx_X9_sums_5
    (repeat' split) <;> first | exact z_FrR_rf _ | exact z_FrR_tr (z_FrR_tr (z_FrR_12 _ _) (z_Fr_product hF _)) (z_Frg5s hF r (t + 1) _ _)
theorem z_Fr_sums {FO : (Nat → Nat → Int32) → Int32 × (Nat → Nat → Int32)} (hF : z_FF FO) (J : Nat → Nat → Int32) : z_FrR J (m_X9_sums J FO) := z_FrR_tr (z_Fr_product hF J) (z_Frg5s hF 121 0 _ _)
theorem z_Fr_compared {FO : (Nat → Nat → Int32) → Int32 × (Nat → Nat → Int32)} (hF : z_FF FO) (J : Nat → Nat → Int32) : z_FrR J (m_X9_compared J FO) := by
  unfold m_X9_compared
  (repeat' split) <;> first | exact z_Fr_sums hF J | exact z_FrR_tr (z_FrR_tr (z_Fr_sums hF J) (z_FrR_12 _ _)) (z_Fr_sums hF _)
theorem z_Frg5b {FO : (Nat → Nat → Int32) → Int32 × (Nat → Nat → Int32)} (hF : z_FF FO) : ∀ (r t : Nat) (v1 : Int32) (Iv : Nat → Nat → Int32), z_FrR Iv (gx_X9_both_5 FO r t v1 Iv).2
  | 0, t, v1, Iv => z_FrR_rf _
  | r + 1, t, v1, Iv => by
    unfold gx_X9_both_5
    (repeat' split) <;> first | exact z_FrR_rf _ | exact z_FrR_tk _ _ | exact z_FrR_tr (z_FrR_tr (z_FrR_tk _ _) (z_Fr_compared hF _)) (z_Frg5b hF r (t + 1) _ _)
theorem z_Fr_both {FO : (Nat → Nat → Int32) → Int32 × (Nat → Nat → Int32)} (hF : z_FF FO) (J : Nat → Nat → Int32) : z_FrR J (m_X9_both J FO) := z_FrR_tr (z_Fr_compared hF J) (z_Frg5b hF 121 0 _ _)
theorem z_Frg5e {FO : (Nat → Nat → Int32) → Int32 × (Nat → Nat → Int32)} (hF : z_FF FO) : ∀ (r t : Nat) (v1 : Int32) (Iv : Nat → Nat → Int32), z_FrR Iv (gx_X9_either_5 FO r t v1 Iv).2
  | 0, t, v1, Iv => z_FrR_rf _
  | r + 1, t, v1, Iv => by
    unfold gx_X9_either_5
    (repeat' split) <;> first | exact z_FrR_rf _ | exact z_FrR_tk _ _ | exact z_FrR_tr (z_FrR_tr (z_FrR_tk _ _) (z_Fr_both hF _)) (z_Frg5e hF r (t + 1) _ _)
theorem z_Fr_either {FO : (Nat → Nat → Int32) → Int32 × (Nat → Nat → Int32)} (hF : z_FF FO) (J : Nat → Nat → Int32) : z_FrR J (m_X9_either J FO) := z_FrR_tr (z_Fr_both hF J) (z_Frg5e hF 121 0 _ _)
theorem z_Frg176 : ∀ (r t : Nat) (v : Int32) (Iv : Nat → Nat → Int32), z_FrR Iv (gx_X9_one_176 r t v Iv).2
  | 0, t, v, Iv => by
    unfold gx_X9_one_176
    split <;> first | exact z_FrR_wr _ | exact z_FrR_rf _
  | r + 1, t, v, Iv => by
    unfold gx_X9_one_176
    (repeat' split) <;> first | exact z_FrR_wr _ | exact z_FrR_rf _ | exact z_FrR_tr (z_FrR_12 _ _) (z_Frg176 r (t + 1) _ _)
theorem z_Fr_one {FO FE : (Nat → Nat → Int32) → Int32 × (Nat → Nat → Int32)} (hF : z_FF FO) (hE : z_FF FE) (J : Nat → Nat → Int32) : z_FrR J (m_X9_one J FO FE) := by
  have k0 : z_FrR J (z_up (z_up J 54 15 ((J 54 15) + 1)) 54 12 ((J 54 12) + 1)) := z_FrR_tr (z_FrR_15 _ _) (z_FrR_12 _ _)
  unfold m_X9_one
  (repeat' split) <;> first | exact z_FrR_rf _ | exact z_FrR_wr _ | exact z_FrR_tr (z_FrR_tr k0 (hF _)) (z_FrR_15 _ _) | exact z_FrR_tr (z_FrR_tr (z_FrR_tr k0 (hE _)) (z_FrR_tk _ _)) (z_FrR_wr _) | exact z_FrR_tr (z_FrR_tr (z_FrR_tr k0 (hE _)) (z_FrR_tk _ _)) (z_FrR_15 _ _) | exact z_Frg176 4 0 0 J | exact z_FrR_12 _ _
theorem z_oneF : ∀ n : Nat, z_FF (z_oneR n)
  | 0 => fun J => z_FrR_rf J
  | n + 1 => fun J => by
    rw [z_oneR_2]
    refine z_Fr_one (z_oneF n) (fun K => ?_) J
    rw [z_eF_2]
    exact z_Fr_either (z_oneF n) K
theorem z_eEF : z_FF z_eE := fun K => by
  rw [z_eE_2]
  exact z_Fr_either (z_oneF 8) K
