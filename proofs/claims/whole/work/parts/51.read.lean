/-- the place of the reference's reading stands within its text: ends, at, base, opened -/
def z_Q (I : Nat → Nat → Int32) : Prop := (I 54 13 = nI (I 54 13).toNatClampNeg ∧ (I 54 13).toNatClampNeg ≤ 120) ∧ (I 54 12 = nI (I 54 12).toNatClampNeg ∧ (I 54 12).toNatClampNeg ≤ (I 54 13).toNatClampNeg) ∧ (I 54 11 < 0 ∨ I 54 11 = 0) ∧ (I 54 15 = nI (I 54 15).toNatClampNeg ∧ (I 54 15).toNatClampNeg ≤ 6)
theorem z_Qlt {I : Nat → Nat → Int32} (h : z_Q I) (h8 : ¬ I 54 13 ≤ I 54 12) : (I 54 12).toNatClampNeg < 120 := by
  obtain ⟨⟨a1, a2⟩, ⟨b1, b2⟩, -, -⟩ := h
  rw [a1, b1] at h8
  have := z_nge h8
  omega
theorem z_Qix {I : Nat → Nat → Int32} (h : z_Q I) (h15 : 0 ≤ I 54 11) : I 54 11 + I 54 12 = nI (I 54 12).toNatClampNeg := by
  obtain ⟨-, ⟨b1, b2⟩, c, -⟩ := h
  rcases c with c | c
  · exact absurd h15 (Int32.not_le.mpr c)
  · rw [c, b1, nI_clamp (by have := (I 54 12).toBitVec.isLt; have : (I 54 12).toNatClampNeg < 2147483648 := by show (I 54 12).toInt.toNat < _; have := Int32.toInt_lt (I 54 12); omega
                            omega)]
    exact Int32.zero_add _
def f_X9_byteAt (I : Nat → Nat → Int32) : Int32 := if (I 54 13) ≤ (I 54 12) then 0 else if 0 ≤ (I 54 11) then (I 60 ((I 54 12).toNatClampNeg)) else (I 59 ((I 54 12).toNatClampNeg))
set_option maxHeartbeats 4000000 in
set_option maxRecDepth 100000 in
theorem c_X9_byteAt (d : Nat) (hd : 0 ≤ d) (b : Bool) (I : Nat → Nat → Int32) (L : Nat → Nat → Int64) (hQ : z_Q I) : z_CT zm_X9_byteAt d [.ref 54] SH (I, L, z_R b) 0 0 (z_ret (some (.int (f_X9_byteAt I))) (I, L, z_R b)) := by
  refine z_enter (by decide +kernel) (Nat.le_of_ble_eq_true rfl) ?_
  have hentry : PW zm_X9_byteAt d 0 [(0, .ref 54)] [] SH (I, L, z_R b) 0 0 (z_ret (some (.int (f_X9_byteAt I))) (I, L, z_R b)) := by
    refine p_aload_n (z_dec zd_X9_byteAt 0 rfl) rfl 0 rfl (n := 1) rfl ?_
    refine q_getI (z_dec zd_X9_byteAt 1 rfl) zf_X9_144 (by decide) rfl (v := (I 54 12)) rfl (n := 4) rfl ?_
    refine p_aload_n (z_dec zd_X9_byteAt 2 rfl) rfl 0 rfl (n := 5) rfl ?_
    refine q_getI (z_dec zd_X9_byteAt 3 rfl) zf_X9_147 (by decide) rfl (v := (I 54 13)) rfl (n := 8) rfl ?_
    refine p_icmp_ge (z_dec zd_X9_byteAt 4 rfl) (t := 47) (by decide) (n := 11) rfl (fun h8 => ?_) (fun h8 => ?_)
    · refine p_iconst (z_dec zd_X9_byteAt 23 rfl) (v := 0) (by decide) (n := 48) rfl ?_
      exact p_iret (z_dec zd_X9_byteAt 24 rfl) rfl ⟨(by unfold f_X9_byteAt; rw [if_pos h8]), rfl, rfl⟩
    · have hlt := z_Qlt hQ h8
      refine p_aload_n (z_dec zd_X9_byteAt 5 rfl) rfl 0 rfl (n := 12) rfl ?_
      refine q_getI (z_dec zd_X9_byteAt 6 rfl) zf_X9_150 (by decide) rfl (v := (I 54 11)) rfl (n := 15) rfl ?_
      refine p_if_ge (z_dec zd_X9_byteAt 7 rfl) (t := 30) (by decide) (n := 18) rfl (fun h15 => ?_) (fun h15 => ?_)
      · refine p_aload_n (z_dec zd_X9_byteAt 14 rfl) rfl 0 rfl (n := 31) rfl ?_
        refine q_getR (z_dec zd_X9_byteAt 15 rfl) zf_X9_25 (i := 60) rfl rfl (n := 34) rfl ?_
        refine p_aload_n (z_dec zd_X9_byteAt 16 rfl) rfl 0 rfl (n := 35) rfl ?_
        refine q_getI (z_dec zd_X9_byteAt 17 rfl) zf_X9_150 (by decide) rfl (v := (I 54 11)) rfl (n := 38) rfl ?_
        refine p_aload_n (z_dec zd_X9_byteAt 18 rfl) rfl 0 rfl (n := 39) rfl ?_
        refine q_getI (z_dec zd_X9_byteAt 19 rfl) zf_X9_144 (by decide) rfl (v := (I 54 12)) rfl (n := 42) rfl ?_
        refine p_iadd (z_dec zd_X9_byteAt 20 rfl) (n := 43) rfl ?_
        refine q_iald (z_dec zd_X9_byteAt 21 rfl) rfl (by decide) ((I 54 12).toNatClampNeg) (z_Qix hQ h15) hlt (v := (I 60 ((I 54 12).toNatClampNeg))) rfl (n := 44) rfl ?_
        refine p_goto (z_dec zd_X9_byteAt 22 rfl) (t := 48) (by decide) ?_
        exact p_iret (z_dec zd_X9_byteAt 24 rfl) rfl ⟨(by unfold f_X9_byteAt; rw [if_neg h8, if_pos h15]), rfl, rfl⟩
      · refine p_aload_n (z_dec zd_X9_byteAt 8 rfl) rfl 0 rfl (n := 19) rfl ?_
        refine q_getR (z_dec zd_X9_byteAt 9 rfl) zf_X9_22 (i := 59) rfl rfl (n := 22) rfl ?_
        refine p_aload_n (z_dec zd_X9_byteAt 10 rfl) rfl 0 rfl (n := 23) rfl ?_
        refine q_getI (z_dec zd_X9_byteAt 11 rfl) zf_X9_144 (by decide) rfl (v := (I 54 12)) rfl (n := 26) rfl ?_
        refine q_iald (z_dec zd_X9_byteAt 12 rfl) rfl (by decide) ((I 54 12).toNatClampNeg) hQ.2.1.1 hlt (v := (I 59 ((I 54 12).toNatClampNeg))) rfl (n := 27) rfl ?_
        refine p_goto (z_dec zd_X9_byteAt 13 rfl) (t := 48) (by decide) ?_
        exact p_iret (z_dec zd_X9_byteAt 24 rfl) rfl ⟨(by unfold f_X9_byteAt; rw [if_neg h8, if_neg h15]), rfl, rfl⟩
  exact hentry
def f_X9_takes (I : Nat → Nat → Int32) (c : Int32) : Int32 := if 0 ≤ (I 54 14) then 0 else if (f_X9_byteAt I) = c then 1 else 0
def m_X9_takes (I : Nat → Nat → Int32) (c : Int32) : Nat → Nat → Int32 := if 0 ≤ (I 54 14) then I else if (f_X9_byteAt I) = c then (z_up I 54 12 ((I 54 12) + 1)) else I
set_option maxHeartbeats 4000000 in
set_option maxRecDepth 100000 in
theorem c_X9_takes (d : Nat) (hd : 1 ≤ d) (b : Bool) (I : Nat → Nat → Int32) (L : Nat → Nat → Int64) (c : Int32) (hQ : z_Q I) : z_CT zm_X9_takes d [.ref 54, .int c] SH (I, L, z_R b) 0 0 (z_ret (some (.int (f_X9_takes I c))) ((m_X9_takes I c), L, z_R b)) := by
  refine z_enter (by decide +kernel) (Nat.le_of_ble_eq_true rfl) ?_
  have hentry : PW zm_X9_takes d 0 [(0, .ref 54), (1, .int c)] [] SH (I, L, z_R b) 0 0 (z_ret (some (.int (f_X9_takes I c))) ((m_X9_takes I c), L, z_R b)) := by
    refine p_aload_n (z_dec zd_X9_takes 0 rfl) rfl 0 rfl (n := 1) rfl ?_
    refine q_getI (z_dec zd_X9_takes 1 rfl) zf_X9_153 (by decide) rfl (v := (I 54 14)) rfl (n := 4) rfl ?_
    refine p_if_ge (z_dec zd_X9_takes 2 rfl) (t := 15) (by decide) (n := 7) rfl (fun h4 => ?_) (fun h4 => ?_)
    · refine p_iconst (z_dec zd_X9_takes 7 rfl) (v := 0) (by decide) (n := 16) rfl ?_
      exact p_zret (z_dec zd_X9_takes 8 rfl) rfl (Or.inl rfl) ⟨(by unfold f_X9_takes; rw [if_pos h4]), rfl, (z_3 (by unfold m_X9_takes; rw [if_pos h4]) rfl)⟩
    · refine p_aload_n (z_dec zd_X9_takes 3 rfl) rfl 0 rfl (n := 8) rfl ?_
      refine q_callV (As := []) (rest := []) (z_dec zd_X9_takes 4 rfl) zk_X9_156 zv_X9_byteAt (c_X9_byteAt (d - 1) (by omega) b I L hQ) rfl ⟨_, _, rfl⟩ rfl rfl (Nat.le_of_ble_eq_true rfl) (by omega) (n := 11) rfl ?_
      show PW zm_X9_takes d 11 [(0, .ref 54), (1, .int c)] [.int (f_X9_byteAt I)] SH (I, L, z_R b) 0 0 _
      refine p_iload_n (z_dec zd_X9_takes 5 rfl) rfl 1 rfl (n := 12) rfl ?_
      refine p_icmp_eq (z_dec zd_X9_takes 6 rfl) (t := 17) (by decide) (n := 15) rfl (fun h12 => ?_) (fun h12 => ?_)
      · refine p_aload_n (z_dec zd_X9_takes 9 rfl) rfl 0 rfl (n := 18) rfl ?_
        refine p_dup (z_dec zd_X9_takes 10 rfl) rfl (n := 19) rfl ?_
        refine q_getI (z_dec zd_X9_takes 11 rfl) zf_X9_144 (by decide) rfl (v := (I 54 12)) rfl (n := 22) rfl ?_
        refine p_iconst (z_dec zd_X9_takes 12 rfl) (v := 1) (by decide) (n := 23) rfl ?_
        refine p_iadd (z_dec zd_X9_takes 13 rfl) (n := 24) rfl ?_
        refine q_putI (z_dec zd_X9_takes 14 rfl) zp_X9_144 (fun q => by cases q) rfl (n := 27) rfl ?_
        refine p_iconst (z_dec zd_X9_takes 15 rfl) (v := 1) (by decide) (n := 28) rfl ?_
        exact p_zret (z_dec zd_X9_takes 16 rfl) rfl (Or.inr rfl) ⟨(by unfold f_X9_takes; rw [if_neg h4, if_pos h12]), rfl, (z_3 (by unfold m_X9_takes; rw [if_neg h4, if_pos h12]) rfl)⟩
      · refine p_iconst (z_dec zd_X9_takes 7 rfl) (v := 0) (by decide) (n := 16) rfl ?_
        exact p_zret (z_dec zd_X9_takes 8 rfl) rfl (Or.inl rfl) ⟨(by unfold f_X9_takes; rw [if_neg h4, if_neg h12]), rfl, (z_3 (by unfold m_X9_takes; rw [if_neg h4, if_neg h12]) rfl)⟩
  exact hentry
theorem fb_X9_takes (I : Nat → Nat → Int32) (c : Int32) : f_X9_takes I c = 0 ∨ f_X9_takes I c = 1 := by
  unfold f_X9_takes
  (repeat' split) <;> first | exact Or.inl rfl | exact Or.inr rfl
/-- the byte at the place, 0 behind the end -/
def z_by (I : Nat → Nat → Int32) : Int32 := f_X9_byteAt I
def z_ad1 (I : Nat → Nat → Int32) : Nat → Nat → Int32 := z_up I 54 12 (I 54 12 + 1)
theorem z_by0 {I : Nat → Nat → Int32} (h : ¬ z_by I = 0) : ¬ I 54 13 ≤ I 54 12 := by
  intro q
  apply h
  unfold z_by f_X9_byteAt
  rw [if_pos q]
theorem z_Q_ad {I : Nat → Nat → Int32} (h : z_Q I) (hb : ¬ z_by I = 0) : z_Q (z_ad1 I) := by
  have hlt := z_by0 hb
  obtain ⟨⟨a1, a2⟩, ⟨b1, b2⟩, c, d⟩ := h
  rw [a1, b1] at hlt
  have hl := z_nge hlt
  have e13 : z_ad1 I 54 13 = I 54 13 := rfl
  have e12 : z_ad1 I 54 12 = nI ((I 54 12).toNatClampNeg + 1) := by
    show I 54 12 + 1 = _
    rw [b1, nI_1, nI_clamp (by omega)]
  have e11 : z_ad1 I 54 11 = I 54 11 := rfl
  have e15 : z_ad1 I 54 15 = I 54 15 := rfl
  unfold z_Q
  rw [e13, e12, e11, e15, nI_clamp (by omega)]
  exact ⟨⟨a1, a2⟩, ⟨rfl, by omega⟩, c, d⟩
theorem z_Q_wr {I : Nat → Nat → Int32} (h : z_Q I) : z_Q (m_X9_wrong I) := by
  unfold m_X9_wrong
  split <;> exact h
