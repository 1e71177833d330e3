theorem z_ooF (I : Nat → Nat → Int32) (x y z a j : Nat) (h : a ≠ 54 ∨ (j ≠ 11 ∧ j ≠ 12 ∧ j ≠ 13 ∧ j ≠ 14 ∧ j ≠ 15)) (h61 : a ≠ 61) : m_X9_oddsOf I x y z a j = I a j := by
  unfold m_X9_oddsOf
  (repeat' split) <;> first | (rw [z_woF _ _ _ _ _ h, z_up_k _ _ h61, z_up_k _ _ h61, z_up_k _ _ h61, z_up_k _ _ h61, z_up_k _ _ h61, z_up_k _ _ h61]) | exact Eq.refl (I a j)
theorem z_Goo {np : Nat} {I : Nat → Nat → Int32} (h : z_G np I) (x y z : Nat) : z_G np (m_X9_oddsOf I x y z) := z_Gf h (z_ooF _ _ _ _ _ _ (Or.inr (by decide)) (by decide)) (z_ooF _ _ _ _ _ _ (Or.inr (by decide)) (by decide))
theorem z_abuR {np : Nat} {abu : Int32} (hn10 : np ≤ 10) (h : ¬ f_X9_isAbu np abu = 0) : (abu / 100 = nI (abu / 100).toNatClampNeg ∧ (abu / 100).toNatClampNeg < np) ∧ ((abu / 10) - (abu / 10) / 10 * 10 = nI ((abu / 10) - (abu / 10) / 10 * 10).toNatClampNeg ∧ ((abu / 10) - (abu / 10) / 10 * 10).toNatClampNeg < np) ∧ (abu - abu / 10 * 10 = nI (abu - abu / 10 * 10).toNatClampNeg ∧ (abu - abu / 10 * 10).toNatClampNeg < np) := by
  unfold f_X9_isAbu at h
  by_cases h1 : abu < 0
  · rw [if_pos h1] at h; exact absurd rfl h
  · rw [if_neg h1] at h
    by_cases h2 : f_X9_areThree np (abu / 100).toInt64 ((abu / 10) - (abu / 10) / 10 * 10).toInt64 (abu - abu / 10 * 10).toInt64 = 0
    · rw [if_pos h2] at h; exact absurd rfl h
    · obtain ⟨a1, a2, a3⟩ := z_thrL hn10 h2
      exact ⟨z_one hn10 a1, z_one hn10 a2, z_one hn10 a3⟩
theorem z_thr3 {np : Nat} {x y z : Int32} (hn10 : np ≤ 10) (h : ¬ f_X9_areThree np x.toInt64 y.toInt64 z.toInt64 = 0) : (x = nI x.toNatClampNeg ∧ x.toNatClampNeg < np) ∧ (y = nI y.toNatClampNeg ∧ y.toNatClampNeg < np) ∧ (z = nI z.toNatClampNeg ∧ z.toNatClampNeg < np) := by
  obtain ⟨a1, a2, a3⟩ := z_thrL hn10 h
  exact ⟨z_one hn10 a1, z_one hn10 a2, z_one hn10 a3⟩
def f_X9_odds (I : Nat → Nat → Int32) (np : Nat) (abu : Int32) : Int32 := if (f_X9_isAbu np abu) = 0 then (-1) else (f_X9_oddsOf (m_X9_begins I np) ((abu / 100).toNatClampNeg) (((abu / 10) - (abu / 10) / 10 * 10).toNatClampNeg) ((abu - abu / 10 * 10).toNatClampNeg))
def m_X9_odds (I : Nat → Nat → Int32) (np : Nat) (abu : Int32) : Nat → Nat → Int32 := if (f_X9_isAbu np abu) = 0 then I else (m_X9_oddsOf (m_X9_begins I np) ((abu / 100).toNatClampNeg) (((abu / 10) - (abu / 10) / 10 * 10).toNatClampNeg) ((abu - abu / 10 * 10).toNatClampNeg))
set_option maxHeartbeats 1000000 in
set_option maxRecDepth 100000 in
theorem c_X9_odds (d : Nat) (hd : 57 ≤ d) (b : Bool) (I : Nat → Nat → Int32) (L : Nat → Nat → Int64) (np : Nat) (hn10 : np ≤ 10) (hG : z_G np I) (abu : Int32) : z_CT zm_X9_odds d [.ref 54, .int abu] SH (I, L, z_R b) 0 0 (z_ret (some (.int (f_X9_odds I np abu))) ((m_X9_odds I np abu), L, z_R b)) := by
  refine z_enter (by decide +kernel) (Nat.le_of_ble_eq_true rfl) ?_
  have hentry : PW zm_X9_odds d 0 [(0, .ref 54), (1, .int abu)] [] SH (I, L, z_R b) 0 0 (z_ret (some (.int (f_X9_odds I np abu))) ((m_X9_odds I np abu), L, z_R b)) := by
    refine p_aload_n (z_dec zd_X9_odds 0 rfl) rfl 0 rfl (n := 1) rfl ?_
    refine p_iload_n (z_dec zd_X9_odds 1 rfl) rfl 1 rfl (n := 2) rfl ?_
    refine q_callV (As := [.int abu]) (rest := []) (z_dec zd_X9_odds 2 rfl) zk_X9_203 zv_X9_isAbu (c_X9_isAbu (d - 1) (by omega) b I L np hG.1 hn10 abu) rfl ⟨_, _, rfl⟩ rfl rfl (Nat.le_of_ble_eq_true rfl) (by omega) (n := 5) rfl ?_
    show PW zm_X9_odds d 5 [(0, .ref 54), (1, .int abu)] [.int (f_X9_isAbu np abu)] SH (I, L, z_R b) 0 0 _
    refine p_if_ne (z_dec zd_X9_odds 3 rfl) (t := 10) (by decide) (n := 8) rfl (fun h5 => ?_) (fun h5 => ?_)
    · have hu := z_abuR hn10 h5
      refine p_aload_n (z_dec zd_X9_odds 6 rfl) rfl 0 rfl (n := 11) rfl ?_
      refine q_callV (As := []) (rest := []) (z_dec zd_X9_odds 7 rfl) zk_X9_206 zv_X9_begins (c_X9_begins (d - 1) (by omega) b I L np hG.1 hn10) rfl ⟨_, _, rfl⟩ rfl rfl (Nat.le_of_ble_eq_true rfl) (by omega) (n := 14) rfl ?_
      show PW zm_X9_odds d 14 [(0, .ref 54), (1, .int abu)] [] SH ((m_X9_begins I np), L, z_R b) 0 0 _
      have hP14 : z_G np ((m_X9_begins I np)) := z_Gbg hG
      refine p_aload_n (z_dec zd_X9_odds 8 rfl) rfl 0 rfl (n := 15) rfl ?_
      refine p_iload_n (z_dec zd_X9_odds 9 rfl) rfl 1 rfl (n := 16) rfl ?_
      refine p_bipush (z_dec zd_X9_odds 10 rfl) (v := 100) (by decide) (n := 18) rfl ?_
      refine p_idiv (z_dec zd_X9_odds 11 rfl) (by decide) (n := 19) rfl ?_
      refine p_iload_n (z_dec zd_X9_odds 12 rfl) rfl 1 rfl (n := 20) rfl ?_
      refine p_bipush (z_dec zd_X9_odds 13 rfl) (v := 10) (by decide) (n := 22) rfl ?_
      refine p_idiv (z_dec zd_X9_odds 14 rfl) (by decide) (n := 23) rfl ?_
      refine p_bipush (z_dec zd_X9_odds 15 rfl) (v := 10) (by decide) (n := 25) rfl ?_
      refine p_irem (z_dec zd_X9_odds 16 rfl) (by decide) (n := 26) rfl ?_
      refine p_iload_n (z_dec zd_X9_odds 17 rfl) rfl 1 rfl (n := 27) rfl ?_
      refine p_bipush (z_dec zd_X9_odds 18 rfl) (v := 10) (by decide) (n := 29) rfl ?_
      refine p_irem (z_dec zd_X9_odds 19 rfl) (by decide) (n := 30) rfl ?_
      refine q_callV (As := [.int (nI ((abu / 100).toNatClampNeg)), .int (nI (((abu / 10) - (abu / 10) / 10 * 10).toNatClampNeg)), .int (nI ((abu - abu / 10 * 10).toNatClampNeg))]) (rest := []) (z_dec zd_X9_odds 20 rfl) zk_X9_209 zv_X9_oddsOf (c_X9_oddsOf (d - 1) (by omega) b (m_X9_begins I np) L ((abu / 100).toNatClampNeg) (Nat.lt_of_lt_of_le hu.1.2 hn10) (((abu / 10) - (abu / 10) / 10 * 10).toNatClampNeg) (Nat.lt_of_lt_of_le hu.2.1.2 hn10) ((abu - abu / 10 * 10).toNatClampNeg) (Nat.lt_of_lt_of_le hu.2.2.2 hn10) hP14.2) rfl ⟨_, _, rfl⟩ (by simp only [← hu.1.1, ← hu.2.1.1, ← hu.2.2.1]; rfl) rfl (Nat.le_of_ble_eq_true rfl) (by omega) (n := 33) rfl ?_
      show PW zm_X9_odds d 33 [(0, .ref 54), (1, .int abu)] [.int (f_X9_oddsOf (m_X9_begins I np) ((abu / 100).toNatClampNeg) (((abu / 10) - (abu / 10) / 10 * 10).toNatClampNeg) ((abu - abu / 10 * 10).toNatClampNeg))] SH ((m_X9_oddsOf (m_X9_begins I np) ((abu / 100).toNatClampNeg) (((abu / 10) - (abu / 10) / 10 * 10).toNatClampNeg) ((abu - abu / 10 * 10).toNatClampNeg)), L, z_R b) 0 0 _
      exact p_iret (z_dec zd_X9_odds 21 rfl) rfl ⟨(by unfold f_X9_odds; rw [if_neg h5]), rfl, (z_3 (by unfold m_X9_odds; rw [if_neg h5]) rfl)⟩
    · refine p_iconst (z_dec zd_X9_odds 4 rfl) (v := (-1)) (by decide) (n := 9) rfl ?_
      exact p_iret (z_dec zd_X9_odds 5 rfl) rfl ⟨(by unfold f_X9_odds; rw [if_pos h5]), rfl, (z_3 (by unfold m_X9_odds; rw [if_pos h5]) rfl)⟩
  exact hentry
