/-! THE CLASS AGAINST THE REFERENCE: a number, a name, an operand -/
theorem yj_nameOf (c : Int32) : (f_X1_isName c = 0 ∧ f_X9_nameOf c < 0) ∨ (¬ f_X1_isName c = 0 ∧ ¬ f_X9_nameOf c < 0 ∧ (∀ nm : Nat → Int32, nm (f_X9_nameOf c).toNatClampNeg = yj_nm nm c) ∧ c ≠ (-1) ∧ f_X1_isDigit c = 0 ∧ c ≠ 33 ∧ c ≠ 45 ∧ c ≠ 40 ∧ -c < 0 ∧ -(-c) = c ∧ -c ≠ (-63) ∧ -c ≠ (-59)) := by
  by_cases h0 : c = 97
  · subst h0; exact Or.inr ⟨by decide, by decide, fun nm => rfl, by decide, by decide, by decide, by decide, by decide, by decide, by decide, by decide, by decide⟩
  · by_cases h1 : c = 98
    · subst h1; exact Or.inr ⟨by decide, by decide, fun nm => rfl, by decide, by decide, by decide, by decide, by decide, by decide, by decide, by decide, by decide⟩
    · by_cases h2 : c = 103
      · subst h2; exact Or.inr ⟨by decide, by decide, fun nm => rfl, by decide, by decide, by decide, by decide, by decide, by decide, by decide, by decide, by decide⟩
      · by_cases h3 : c = 108
        · subst h3; exact Or.inr ⟨by decide, by decide, fun nm => rfl, by decide, by decide, by decide, by decide, by decide, by decide, by decide, by decide, by decide⟩
        · by_cases h4 : c = 109
          · subst h4; exact Or.inr ⟨by decide, by decide, fun nm => rfl, by decide, by decide, by decide, by decide, by decide, by decide, by decide, by decide, by decide⟩
          · by_cases h5 : c = 100
            · subst h5; exact Or.inr ⟨by decide, by decide, fun nm => rfl, by decide, by decide, by decide, by decide, by decide, by decide, by decide, by decide, by decide⟩
            · refine Or.inl ⟨?_, ?_⟩
              · unfold f_X1_isName
                rw [if_neg h0, if_neg h1, if_neg h2, if_neg h3, if_neg h4, if_neg h5]
              · unfold f_X9_nameOf
                (repeat' split) <;> first | decide | contradiction
theorem yj_digit {c : Int32} (h : ¬ f_X1_isDigit c = 0) : ∃ k : Nat, k ≤ 9 ∧ c = nI (48 + k) := by
  unfold f_X1_isDigit at h
  by_cases h0 : c < 48
  · rw [if_pos h0] at h; exact absurd rfl h
  · rw [if_neg h0] at h
    by_cases h1 : 57 < c
    · rw [if_pos h1] at h; exact absurd rfl h
    · have t : (48 : Int32).toInt = 48 := rfl
      have t2 : (57 : Int32).toInt = 57 := rfl
      rw [Int32.lt_iff_toInt_lt] at h0 h1
      obtain ⟨n, hn, rfl⟩ := nI_of (x := c) (by rw [Int32.lt_iff_toInt_lt, show (0 : Int32).toInt = 0 from rfl]; omega)
      rw [nI_toInt hn] at h0 h1
      exact ⟨n - 48, by omega, by rw [show 48 + (n - 48) = n by omega]⟩
theorem yj_digK : ∀ k : Nat, k < 10 → ¬ nI (48 + k) < 48 ∧ ¬ 57 < nI (48 + k) ∧ nI (48 + k) ≠ 33 ∧ nI (48 + k) ≠ 45 ∧ nI (48 + k) ≠ 40 ∧ f_X9_nameOf (nI (48 + k)) < 0 ∧ nI (48 + k) ≠ (-1) ∧ f_X1_isName (nI (48 + k)) = 0 := by decide +kernel
theorem yj_nodig {ln p op dr : Nat} {tx : Nat → Int32} {I J : Nat → Nat → Int32} (h : yj_IS ln tx I J p op dr) (hd : f_X1_isDigit (yj_ch ln tx p) = 0) : f_X9_byteAt J < 48 ∨ 57 < f_X9_byteAt J := by
  by_cases q : p < ln
  · rw [yj_byE h q]
    unfold f_X1_isDigit at hd
    by_cases h0 : yj_ch ln tx p < 48
    · exact Or.inl h0
    · rw [if_neg h0] at hd
      by_cases h1 : 57 < yj_ch ln tx p
      · exact Or.inr h1
      · rw [if_neg h1] at hd; exact absurd hd (by decide)
  · rw [yj_by h, if_neg q]
    exact Or.inl (by decide)
/-- a number, its digits one by one -/
theorem yj_num {ln op dr : Nat} {tx : Nat → Int32} {b : Bool} (nm : Nat → Int32) : ∀ (r t w p : Nat) (I J : Nat → Nat → Int32), t + r = 4 → w < 10 ^ t → dr + t ≤ p → yj_IS ln tx I J p op dr → (t = 0 → ¬ f_X1_isDigit (yj_ch ln tx p) = 0) → yj_FC b I (gx_X1_readNumber_4 b r t (nI w) I) ∧ z_FrR J (gx_X9_one_176 r t (nI w) J).2 ∧ ∃ p', p ≤ p' ∧ dr + 1 + p ≤ p' + dr + t ∧ yj_IS ln tx (gx_X1_readNumber_4 b r t (nI w) I) (gx_X9_one_176 r t (nI w) J).2 p' op (dr + 1) ∧ yj_Sg nm b I (gx_X1_readNumber_4 b r t (nI w) I) dr (dr + 1) [] [(gx_X9_one_176 r t (nI w) J).1] := by
  have fin : ∀ (t w p : Nat) (I J : Nat → Nat → Int32), t ≤ 4 → 0 < t → w < 10 ^ t → dr + t ≤ p → yj_IS ln tx I J p op dr → yj_FC b I (m_X1_write b I ((I 13 6).toNatClampNeg) (nI w)) ∧ z_FrR J J ∧ ∃ p', p ≤ p' ∧ dr + 1 + p ≤ p' + dr + t ∧ yj_IS ln tx (m_X1_write b I ((I 13 6).toNatClampNeg) (nI w)) J p' op (dr + 1) ∧ yj_Sg nm b I (m_X1_write b I ((I 13 6).toNatClampNeg) (nI w)) dr (dr + 1) [] [nI w] := by
    intro t w p I J ht ht0 hw hp hI
    have hw2 : w < 10000 := Nat.lt_of_lt_of_le hw (Nat.pow_le_pow_right (n := 10) (by decide) ht)
    have hnn : ¬ nI w < 0 := nI_pos (by omega)
    refine ⟨yj_FC_wr b I _ _, z_FrR_rf J, p, Nat.le_refl _, by omega, yj_wrI hI (by omega) _, yj_wrS hI ⟨fun q => hnn (by rw [q]; decide), fun q => hnn (by rw [q]; decide)⟩ (fun st => ?_)⟩
    unfold yj_s1
    rw [if_neg hnn]
    rfl
  intro r
  induction r with
  | zero =>
    intro t w p I J h4 hw hp hI h0
    have ht : t = 4 := by omega
    subst ht
    unfold gx_X1_readNumber_4 gx_X9_one_176
    rw [if_neg (show ¬ nI 4 = 0 by decide)]
    exact fin 4 w p I J (by omega) (by omega) hw hp hI
  | succ r ih =>
    intro t w p I J h4 hw hp hI h0
    unfold gx_X1_readNumber_4 gx_X9_one_176
    rw [yj_nx hI]
    by_cases hd : f_X1_isDigit (yj_ch ln tx p) = 0
    · have ht0 : 0 < t := by
        rcases Nat.eq_zero_or_pos t with q | q
        · exact absurd hd (h0 q)
        · exact q
      have hz : ¬ nI t = 0 := nI_ne0 ht0 (by omega)
      rw [if_pos hd]
      rcases yj_nodig hI hd with q | q
      · rw [if_pos q, if_neg hz]
        exact fin t w p I J (by omega) ht0 hw hp hI
      · by_cases q2 : f_X9_byteAt J < 48
        · rw [if_pos q2, if_neg hz]
          exact fin t w p I J (by omega) ht0 hw hp hI
        · rw [if_neg q2, if_pos q, if_neg hz]
          exact fin t w p I J (by omega) ht0 hw hp hI
    · obtain ⟨k, hk, hc⟩ := yj_digit hd
      have K := yj_digK k (by omega)
      have hpl : p < ln := yj_chp (by rw [hc]; exact K.2.2.2.2.2.2.1)
      rw [if_neg hd, yj_byE hI hpl, hc, if_neg K.1, if_neg K.2.1]
      have e : 10 * nI w + nI (48 + k) - 48 = nI (10 * w + k) := by
        show nI 10 * nI w + nI (48 + k) - nI 48 = _
        rw [pk_mul, nI_add, pk_sub (by omega)]
        congr 1
        omega
      rw [e]
      have hw3 : 10 * w + k < 10 ^ (t + 1) := by rw [Nat.pow_succ]; omega
      obtain ⟨a1, a2, p', a3, a4, a5, a6⟩ := ih (t + 1) (10 * w + k) (p + 1) _ _ (by omega) hw3 (by omega) (yj_adv hI hpl) (fun q => absurd q (Nat.succ_ne_zero t))
      exact ⟨yj_FC_tr (yj_FC_av b I _) a1, z_FrR_tr (z_FrR_12 J _) a2, p', by omega, by omega, a5, yj_SgE a6 (z_up_r _ _ (by have := yj_dfc b; omega)).symm rfl⟩
theorem yj_wrongV (J : Nat → Nat → Int32) : m_X9_wrong J 54 14 = if 0 ≤ J 54 14 then J 54 14 else J 54 12 := by
  unfold m_X9_wrong
  by_cases h : 0 ≤ J 54 14
  · rw [if_pos h, if_pos h, z_up_s]
  · rw [if_neg h, if_neg h, z_up_s]
/-- both fail at p -/
theorem yj_fail {ln p op dr : Nat} {tx : Nat → Int32} {b : Bool} {st0 : List Int32} {I J : Nat → Nat → Int32} (h : yj_IS ln tx I J p op dr) (v : Int32) : yj_O ln tx b p op dr st0 I J (0, I) (v, m_X9_wrong J) := by
  refine ⟨yj_FC_rf b I, z_FrR_wr J, Or.inl ⟨rfl, p, h.2.1.2, h.2.1.1, ?_⟩⟩
  show m_X9_wrong J 54 14 = nI p
  rw [yj_wrongV, h.2.2.2.2.2.1, if_neg (by decide)]
  exact h.2.2.2.2.1
theorem yj_tk0 {J : Nat → Nat → Int32} {f : Nat} (hf : f ≤ 120) (h : J 54 14 = nI f) (c : Int32) : f_X9_takes J c = 0 ∧ m_X9_takes J c = J := by
  unfold f_X9_takes m_X9_takes
  rw [h, if_pos (nI_pos' (by omega)), if_pos (nI_pos' (by omega))]
  exact ⟨rfl, rfl⟩
theorem yj_tk {ln p op dr : Nat} {tx : Nat → Int32} {I J : Nat → Nat → Int32} (h : yj_IS ln tx I J p op dr) {c : Int32} (h1 : c ≠ 0) (h2 : c ≠ (-1)) : (yj_ch ln tx p = c ∧ p < ln ∧ f_X9_takes J c = 1 ∧ m_X9_takes J c = z_up J 54 12 (J 54 12 + 1)) ∨ (¬ yj_ch ln tx p = c ∧ f_X9_takes J c = 0 ∧ m_X9_takes J c = J) := by
  unfold f_X9_takes m_X9_takes
  rw [h.2.2.2.2.2.1, if_neg (show ¬ (0 : Int32) ≤ (-1) by decide), if_neg (show ¬ (0 : Int32) ≤ (-1) by decide)]
  by_cases q : yj_ch ln tx p = c
  · have q2 := (yj_byc h h1 h2).mpr q
    rw [if_pos q2, if_pos q2]
    exact Or.inl ⟨q, yj_chp (fun e => h2 (q.symm.trans e)), rfl, rfl⟩
  · have q2 : ¬ f_X9_byteAt J = c := fun e => q ((yj_byc h h1 h2).mp e)
    rw [if_neg q2, if_neg q2]
    exact Or.inr ⟨q, rfl, rfl⟩
theorem yj_d4033 : ((40 : Int32) = 33) = False := eq_false (by decide)
theorem yj_d4045 : ((40 : Int32) = 45) = False := eq_false (by decide)
theorem yj_d3340 : ((33 : Int32) = 40) = False := eq_false (by decide)
theorem yj_d3345 : ((33 : Int32) = 45) = False := eq_false (by decide)
theorem yj_d4540 : ((45 : Int32) = 40) = False := eq_false (by decide)
theorem yj_d4533 : ((45 : Int32) = 33) = False := eq_false (by decide)
theorem yj_d10 : ((1 : Int32) = 0) = False := eq_false (by decide)
theorem yj_d66 : (nI 6 < 6) = False := eq_false (by decide)
theorem yj_e66 : (nI 6 = 6) = True := eq_true (by decide)
theorem yj_i40 : f_X1_isDigit 40 = 0 ∧ f_X1_isName 40 = 0 := by decide
theorem yj_i33 : f_X1_isDigit 33 = 0 ∧ f_X1_isName 33 = 0 := by decide
theorem yj_i45 : f_X1_isDigit 45 = 0 ∧ f_X1_isName 45 = 0 := by decide
/-- an operand -/
theorem yj_operand {ln p op dr : Nat} {tx : Nat → Int32} {b : Bool} {FL : Nat → Nat → (Nat → Nat → Int32) → Int32 × (Nat → Nat → Int32)} {FO : Nat → (Nat → Nat → Int32) → Int32 × (Nat → Nat → Int32)} {RO RE : (Nat → Nat → Int32) → Int32 × (Nat → Nat → Int32)} (hE : op < 6 → ∀ (I J : Nat → Nat → Int32) (p dr : Nat), yj_IS ln tx I J p (op + 1) dr → yj_O ln tx b p (op + 1) dr [] I J (FL 0 (op + 1) I) (RE J)) (hO : op < 6 → ∀ (I J : Nat → Nat → Int32) (p dr : Nat), yj_IS ln tx I J p (op + 1) dr → yj_O ln tx b p (op + 1) dr [] I J (FO (op + 1) I) (RO J)) {I J : Nat → Nat → Int32} (h : yj_IS ln tx I J p op dr) : yj_O ln tx b p op dr [] I J (f_X1_readOperand b I FL FO op, m_X1_readOperand b I FL FO op) (f_X9_one J RO RE, m_X9_one J RO RE) := by
  have hln : ln ≤ 120 := h.1.1.2
  have dfb := yj_dfc b
  unfold f_X1_readOperand m_X1_readOperand f_X9_one m_X9_one
  rw [yj_nx h]
  have hJ14 : J 54 14 < 0 := by rw [h.2.2.2.2.2.1]; decide
  have ho6 : op ≤ 6 := h.2.2.2.2.2.2.2
  rw [if_pos hJ14, if_pos hJ14]
  by_cases hd : f_X1_isDigit (yj_ch ln tx p) = 0
  · simp only [hd, reduceIte]
    rcases yj_nameOf (yj_ch ln tx p) with ⟨n1, n2⟩ | ⟨n1, n2, n3, n4, -, n6, n7, n8, n9, n10, n11, n12⟩
    · simp only [n1, reduceIte]
      have o6 : J 54 15 = nI op := h.2.2.2.2.2.2.1
      by_cases c40 : yj_ch ln tx p = 40
      · skip
        have hpl : p < ln := yj_chp (by rw [c40]; decide)
        rw [yj_byE h hpl, c40, o6]
        simp only [yj_d4033, yj_d4045, reduceIte]
        by_cases q : op = 6
        · subst q
          simp only [yj_d66, yj_e66, reduceIte]
          exact yj_fail h _
        · have q6 : op < 6 := by omega
          have q7 : nI op < 6 := nI_lt (b := 6) q6 (by omega)
          have q8 : ¬ nI op = 6 := fun e => q ((nI_eq (b := 6) (by omega) (by omega)).mp e)
          simp only [q7, q8, reduceIte]
          obtain ⟨f1, f2, f3⟩ := hE q6 _ _ _ _ (yj_open h hpl q6)
          rw [o6] at f2 f3
          generalize RE (z_up (z_up J 54 15 (nI op + 1)) 54 12 (J 54 12 + 1)) = Y at f1 f2 f3 ⊢
          generalize FL 0 (op + 1) (z_up I 13 2 (I 13 2 + 1)) = X at f1 f2 f3 ⊢
          have F1 := yj_FC_tr (yj_FC_av b I _) f1
          have F2 := z_FrR_tr (z_FrR_tr (z_FrR_15 J _) (z_FrR_12 _ _)) f2
          have e61 : (z_up (z_up J 54 15 (nI op + 1)) 54 12 (J 54 12 + 1)) 61 = J 61 := by rw [z_up_r _ _ (by decide), z_up_r _ _ (by decide)]
          have hdr := h.2.2.1.2
          rcases f3 with ⟨x0, f, hf, xf, yf⟩ | ⟨x1, p', dr', a1, a2, a3, a4⟩
          · obtain ⟨t0, t1⟩ := yj_tk0 (by omega) yf 41
            simp only [x0, t0, t1, reduceIte]
            refine ⟨F1, z_FrR_tr F2 (z_FrR_wr _), Or.inl ⟨rfl, f, hf, xf, ?_⟩⟩
            show m_X9_wrong Y.2 54 14 = nI f
            rw [yj_wrongV, yf, if_pos (nI_pos' (by omega))]
          · simp only [x1, yj_d10, reduceIte]
            rw [yj_nx a3]
            rcases yj_tk a3 (c := 41) (by decide) (by decide) with ⟨c41, pl, t0, t1⟩ | ⟨c41, t0, t1⟩
            · simp only [c41, t0, t1, yj_d10, reduceIte]
              refine ⟨yj_FC_tr F1 (yj_FC_av b _ _), z_FrR_tr F2 (z_FrR_tr (z_FrR_12 _ _) (z_FrR_15 _ _)), Or.inr ⟨rfl, p' + 1, dr', by omega, by omega, yj_close (yj_adv a3 pl), ?_⟩⟩
              rw [e61] at a4
              exact yj_SgE a4 (z_up_r _ _ (by omega)).symm (z_up_r _ _ (by omega))
            · simp only [c41, t0, t1, reduceIte]
              refine ⟨F1, z_FrR_tr F2 (z_FrR_wr _), Or.inl ⟨rfl, p', a3.2.1.2, a3.2.1.1, ?_⟩⟩
              show m_X9_wrong Y.2 54 14 = nI p'
              rw [yj_wrongV, a3.2.2.2.2.2.1, if_neg (by decide)]
              exact a3.2.2.2.2.1
      · simp only [c40, reduceIte]
        by_cases c33 : yj_ch ln tx p = 33
        · skip
          have hpl : p < ln := yj_chp (by rw [c33]; decide)
          rw [yj_byE h hpl, c33, o6]
          simp only [yj_d3340, yj_d3345, reduceIte]
          by_cases q : op = 6
          · subst q
            simp only [yj_d66, yj_e66, reduceIte]
            exact yj_fail h _
          · have q6 : op < 6 := by omega
            have q7 : nI op < 6 := nI_lt (b := 6) q6 (by omega)
            have q8 : ¬ nI op = 6 := fun e => q ((nI_eq (b := 6) (by omega) (by omega)).mp e)
            simp only [q7, q8, reduceIte]
            obtain ⟨f1, f2, f3⟩ := hO q6 _ _ _ _ (yj_open h hpl q6)
            rw [o6] at f2 f3
            generalize RO (z_up (z_up J 54 15 (nI op + 1)) 54 12 (J 54 12 + 1)) = Y at f1 f2 f3 ⊢
            generalize FO (op + 1) (z_up I 13 2 (I 13 2 + 1)) = X at f1 f2 f3 ⊢
            have F1 := yj_FC_tr (yj_FC_av b I _) f1
            have F2 := z_FrR_tr (z_FrR_tr (z_FrR_15 J _) (z_FrR_12 _ _)) f2
            have e61 : (z_up (z_up J 54 15 (nI op + 1)) 54 12 (J 54 12 + 1)) 61 = J 61 := by rw [z_up_r _ _ (by decide), z_up_r _ _ (by decide)]
            have hdr := h.2.2.1.2
            simp only [ite_self]
            rcases f3 with ⟨x0, f, hf, xf, yf⟩ | ⟨x1, p', dr', a1, a2, a3, a4⟩
            · simp only [x0, reduceIte]
              refine ⟨F1, z_FrR_tr F2 (z_FrR_15 _ _), Or.inl ⟨rfl, f, hf, xf, ?_⟩⟩
              show z_up Y.2 54 15 (Y.2 54 15 - 1) 54 14 = nI f
              rw [z_up_j _ _ (by decide)]; exact yf
            · simp only [x1, yj_d10, reduceIte]
              rw [e61] at a4
              refine ⟨yj_FC_tr F1 (yj_FC_wr b _ _ _), z_FrR_tr F2 (z_FrR_15 _ _), Or.inr ⟨rfl, p', dr' + 1, by omega, by omega, yj_close (yj_wrI a3 (by omega) _), ?_⟩⟩
              refine yj_SgT (yj_SgE a4 (z_up_r _ _ (by omega)).symm rfl) (yj_wrS a3 ⟨by decide, by decide⟩ (fun st => ?_))
              show yj_s1 (J 61) (Y.1 :: st) (-33) = [if Y.1 = 0 then 1 else 0] ++ st
              unfold yj_s1
              rw [if_pos (by decide), if_pos (by decide)]
              unfold yj_jl
              rw [if_pos (by decide)]
              show (if Y.1 = 0 then 1 :: st else 0 :: st) = _
              by_cases z : Y.1 = 0
              · rw [if_pos z, if_pos z]; rfl
              · rw [if_neg z, if_neg z]; rfl
        · simp only [c33, reduceIte]
          by_cases c45 : yj_ch ln tx p = 45
          · skip
            have hpl : p < ln := yj_chp (by rw [c45]; decide)
            rw [yj_byE h hpl, c45, o6]
            simp only [yj_d4540, yj_d4533, reduceIte]
            by_cases q : op = 6
            · subst q
              simp only [yj_d66, yj_e66, reduceIte]
              exact yj_fail h _
            · have q6 : op < 6 := by omega
              have q7 : nI op < 6 := nI_lt (b := 6) q6 (by omega)
              have q8 : ¬ nI op = 6 := fun e => q ((nI_eq (b := 6) (by omega) (by omega)).mp e)
              simp only [q7, q8, reduceIte]
              obtain ⟨f1, f2, f3⟩ := hO q6 _ _ _ _ (yj_open h hpl q6)
              rw [o6] at f2 f3
              generalize RO (z_up (z_up J 54 15 (nI op + 1)) 54 12 (J 54 12 + 1)) = Y at f1 f2 f3 ⊢
              generalize FO (op + 1) (z_up I 13 2 (I 13 2 + 1)) = X at f1 f2 f3 ⊢
              have F1 := yj_FC_tr (yj_FC_av b I _) f1
              have F2 := z_FrR_tr (z_FrR_tr (z_FrR_15 J _) (z_FrR_12 _ _)) f2
              have e61 : (z_up (z_up J 54 15 (nI op + 1)) 54 12 (J 54 12 + 1)) 61 = J 61 := by rw [z_up_r _ _ (by decide), z_up_r _ _ (by decide)]
              have hdr := h.2.2.1.2
              rcases f3 with ⟨x0, f, hf, xf, yf⟩ | ⟨x1, p', dr', a1, a2, a3, a4⟩
              · simp only [x0, reduceIte]
                refine ⟨F1, z_FrR_tr F2 (z_FrR_15 _ _), Or.inl ⟨rfl, f, hf, xf, ?_⟩⟩
                show z_up Y.2 54 15 (Y.2 54 15 - 1) 54 14 = nI f
                rw [z_up_j _ _ (by decide)]; exact yf
              · simp only [x1, yj_d10, reduceIte]
                rw [e61] at a4
                refine ⟨yj_FC_tr F1 (yj_FC_wr b _ _ _), z_FrR_tr F2 (z_FrR_15 _ _), Or.inr ⟨rfl, p', dr' + 1, by omega, by omega, yj_close (yj_wrI a3 (by omega) _), ?_⟩⟩
                refine yj_SgT (yj_SgE a4 (z_up_r _ _ (by omega)).symm rfl) (yj_wrS a3 ⟨by decide, by decide⟩ (fun st => ?_))
                show yj_s1 (J 61) (Y.1 :: st) (-95) = [-Y.1] ++ st
                unfold yj_s1
                rw [if_pos (by decide), if_pos (by decide)]
                unfold yj_jl
                rw [if_neg (by decide), if_pos (by decide)]
                rfl
          · simp only [c45, reduceIte]
            have b33 : ¬ f_X9_byteAt J = 33 := fun e => c33 ((yj_byc h (by decide) (by decide)).mp e)
            have b45 : ¬ f_X9_byteAt J = 45 := fun e => c45 ((yj_byc h (by decide) (by decide)).mp e)
            have b40 : ¬ f_X9_byteAt J = 40 := fun e => c40 ((yj_byc h (by decide) (by decide)).mp e)
            have bn : f_X9_nameOf (f_X9_byteAt J) < 0 := by
              by_cases q : p < ln
              · rw [yj_byE h q]; exact n2
              · rw [yj_by h, if_neg q]; decide
            simp only [b33, b45, b40, bn, reduceIte]
            have e : gx_X9_one_176 4 0 0 J = (f_X9_wrong J, m_X9_wrong J) := by
              unfold gx_X9_one_176
              rcases yj_nodig h hd with q | q
              · rw [if_pos q, if_pos (show nI 0 = 0 from rfl)]
              · by_cases q2 : f_X9_byteAt J < 48
                · rw [if_pos q2, if_pos (show nI 0 = 0 from rfl)]
                · rw [if_neg q2, if_pos q, if_pos (show nI 0 = 0 from rfl)]
            rw [e]
            exact yj_fail h _
    · have hpl : p < ln := yj_chp n4
      rw [yj_byE h hpl]
      simp only [n1, n2, n6, n7, n8, reduceIte]
      rw [n3 (J 61)]
      have A := yj_adv h hpl
      have hdr := h.2.2.1.2
      have e : (z_up I 13 2 (I 13 2 + 1)) 13 6 = I 13 6 := z_up_j _ _ (by decide)
      refine ⟨yj_FC_tr (yj_FC_av b I _) (yj_FC_wr b _ _ _), z_FrR_12 J _, Or.inr ⟨rfl, p + 1, dr + 1, by omega, by omega, yj_wrI A (by omega) _, ?_⟩⟩
      refine yj_SgE (yj_wrS (nm := J 61) (s0 := []) (s1 := [yj_nm (J 61) (yj_ch ln tx p)]) A ⟨n11, n12⟩ (fun st => ?_)) (z_up_r _ _ (by omega)).symm rfl
      show yj_s1 (J 61) st (-(yj_ch ln tx p)) = yj_nm (J 61) (yj_ch ln tx p) :: st
      unfold yj_s1
      rw [if_pos n9, n10, if_neg n1]
  · simp only [hd, reduceIte]
    obtain ⟨k, hk, hc⟩ := yj_digit hd
    have K := yj_digK k (by omega)
    have hpl : p < ln := yj_chp (by rw [hc]; exact K.2.2.2.2.2.2.1)
    rw [yj_byE h hpl, hc]
    simp only [K.2.2.1, K.2.2.2.1, K.2.2.2.2.1, K.2.2.2.2.2.1, reduceIte]
    have hdr := h.2.2.1.2
    obtain ⟨a1, a2, p', a3, a4, a5, a6⟩ := yj_num (b := b) (J 61) 4 0 0 p I J rfl (by decide) (by omega) h (fun _ => hd)
    exact ⟨a1, a2, Or.inr ⟨rfl, p', dr + 1, a3, by omega, a5, a6⟩⟩
