theorem z_enO (I : Nat → Nat → Int32) (np : Nat) : m_X9_endsDay I np 54 6 = I 54 6 := by
  unfold m_X9_endsDay
  split
  · rw [z_up_j _ _ (by decide)]; exact gi_X9_endsDay_4_54_6 I np
  · rw [z_up_j _ _ (by decide)]; exact gi_X9_endsDay_4_54_6 I np
theorem z_kaO (I : Nat → Nat → Int32) (np : Nat) : m_X9_keepsAll I np 54 6 = I 54 6 := by
  unfold m_X9_keepsAll
  rw [z_up_k _ _ (by decide)]
  exact gi_X9_keepsAll_2_54_6 I np
def f_X9_day (I : Nat → Nat → Int32) (np : Nat) : Int32 := (f_X9_judgesNow (m_X9_keepsAll (z_up (z_up (m_X9_endsDay (m_X9_begins I np) np) 70 4 (((m_X9_begins I np) 70 4) + (f_X9_endsDay (m_X9_begins I np) np))) 70 3 (((m_X9_endsDay (m_X9_begins I np) np) 70 3) + 1)) np) np)
def m_X9_day (I : Nat → Nat → Int32) (np : Nat) : Nat → Nat → Int32 := (m_X9_keepsAll (z_up (z_up (m_X9_endsDay (m_X9_begins I np) np) 70 4 (((m_X9_begins I np) 70 4) + (f_X9_endsDay (m_X9_begins I np) np))) 70 3 (((m_X9_endsDay (m_X9_begins I np) np) 70 3) + 1)) np)
set_option maxHeartbeats 1000000 in
set_option maxRecDepth 100000 in
theorem c_X9_day (d : Nat) (hd : 1 ≤ d) (b : Bool) (I : Nat → Nat → Int32) (L : Nat → Nat → Int64) (np : Nat) (hnp : I 54 6 = nI np) (hn10 : np ≤ 10) : z_CT zm_X9_day d [.ref 54] SH (I, L, z_R b) 0 0 (z_ret (some (.int (f_X9_day I np))) ((m_X9_day I np), L, z_R b)) := by
  refine z_enter (by decide +kernel) (Nat.le_of_ble_eq_true rfl) ?_
  have hentry : PW zm_X9_day d 0 [(0, .ref 54)] [] SH (I, L, z_R b) 0 0 (z_ret (some (.int (f_X9_day I np))) ((m_X9_day I np), L, z_R b)) := by
    refine p_aload_n (z_dec zd_X9_day 0 rfl) rfl 0 rfl (n := 1) rfl ?_
    refine q_callV (As := []) (rest := []) (z_dec zd_X9_day 1 rfl) zk_X9_206 zv_X9_begins (c_X9_begins (d - 1) (by omega) b I L np hnp hn10) rfl ⟨_, _, rfl⟩ rfl rfl (Nat.le_of_ble_eq_true rfl) (by omega) (n := 4) rfl ?_
    show PW zm_X9_day d 4 [(0, .ref 54)] [] SH ((m_X9_begins I np), L, z_R b) 0 0 _
    refine p_aload_n (z_dec zd_X9_day 2 rfl) rfl 0 rfl (n := 5) rfl ?_
    refine q_getR (z_dec zd_X9_day 3 rfl) zf_X9_55 (i := 70) rfl rfl (n := 8) rfl ?_
    refine p_iconst (z_dec zd_X9_day 4 rfl) (v := 4) (by decide) (n := 9) rfl ?_
    refine p_dup2 (z_dec zd_X9_day 5 rfl) rfl rfl (n := 10) rfl ?_
    refine q_iald (z_dec zd_X9_day 6 rfl) rfl (by decide) (4) rfl (by decide) (v := ((m_X9_begins I np) 70 4)) rfl (n := 11) rfl ?_
    refine p_aload_n (z_dec zd_X9_day 7 rfl) rfl 0 rfl (n := 12) rfl ?_
    refine q_callV (As := []) (rest := [.int ((m_X9_begins I np) 70 4), .int 4, .ref 70]) (z_dec zd_X9_day 8 rfl) zk_X9_241 zv_X9_endsDay (c_X9_endsDay (d - 1) (by omega) b (m_X9_begins I np) L np ((z_begO _ _ _ _ (by decide) (by decide) (by decide) (Or.inr (by decide))).trans hnp) hn10) rfl ⟨_, _, rfl⟩ rfl rfl (Nat.le_of_ble_eq_true rfl) (by omega) (n := 15) rfl ?_
    show PW zm_X9_day d 15 [(0, .ref 54)] [.int (f_X9_endsDay (m_X9_begins I np) np), .int ((m_X9_begins I np) 70 4), .int 4, .ref 70] SH ((m_X9_endsDay (m_X9_begins I np) np), L, z_R b) 0 0 _
    refine p_iadd (z_dec zd_X9_day 9 rfl) (n := 16) rfl ?_
    refine q_iast (z_dec zd_X9_day 10 rfl) rfl (by decide) (4) rfl (by decide) (n := 17) rfl ?_
    refine p_aload_n (z_dec zd_X9_day 11 rfl) rfl 0 rfl (n := 18) rfl ?_
    refine q_getR (z_dec zd_X9_day 12 rfl) zf_X9_55 (i := 70) rfl rfl (n := 21) rfl ?_
    refine p_iconst (z_dec zd_X9_day 13 rfl) (v := 3) (by decide) (n := 22) rfl ?_
    refine p_dup2 (z_dec zd_X9_day 14 rfl) rfl rfl (n := 23) rfl ?_
    refine q_iald (z_dec zd_X9_day 15 rfl) rfl (by decide) (3) rfl (by decide) (v := ((m_X9_endsDay (m_X9_begins I np) np) 70 3)) (z_up_j _ _ (by decide)) (n := 24) rfl ?_
    refine p_iconst (z_dec zd_X9_day 16 rfl) (v := 1) (by decide) (n := 25) rfl ?_
    refine p_iadd (z_dec zd_X9_day 17 rfl) (n := 26) rfl ?_
    refine q_iast (z_dec zd_X9_day 18 rfl) rfl (by decide) (3) rfl (by decide) (n := 27) rfl ?_
    refine p_aload_n (z_dec zd_X9_day 19 rfl) rfl 0 rfl (n := 28) rfl ?_
    refine q_callV (As := []) (rest := []) (z_dec zd_X9_day 20 rfl) zk_X9_282 zv_X9_keepsAll (c_X9_keepsAll (d - 1) (by omega) b (z_up (z_up (m_X9_endsDay (m_X9_begins I np) np) 70 4 (((m_X9_begins I np) 70 4) + (f_X9_endsDay (m_X9_begins I np) np))) 70 3 (((m_X9_endsDay (m_X9_begins I np) np) 70 3) + 1)) L np ((z_up_k _ _ (by decide)).trans ((z_up_k _ _ (by decide)).trans ((z_enO _ _).trans ((z_begO _ _ _ _ (by decide) (by decide) (by decide) (Or.inr (by decide))).trans hnp)))) hn10) rfl ⟨_, _, rfl⟩ rfl rfl (Nat.le_of_ble_eq_true rfl) (by omega) (n := 31) rfl ?_
    show PW zm_X9_day d 31 [(0, .ref 54)] [] SH ((m_X9_keepsAll (z_up (z_up (m_X9_endsDay (m_X9_begins I np) np) 70 4 (((m_X9_begins I np) 70 4) + (f_X9_endsDay (m_X9_begins I np) np))) 70 3 (((m_X9_endsDay (m_X9_begins I np) np) 70 3) + 1)) np), L, z_R b) 0 0 _
    refine p_aload_n (z_dec zd_X9_day 21 rfl) rfl 0 rfl (n := 32) rfl ?_
    refine q_callV (As := []) (rest := []) (z_dec zd_X9_day 22 rfl) zk_X9_213 zv_X9_judgesNow (c_X9_judgesNow (d - 1) (by omega) b (m_X9_keepsAll (z_up (z_up (m_X9_endsDay (m_X9_begins I np) np) 70 4 (((m_X9_begins I np) 70 4) + (f_X9_endsDay (m_X9_begins I np) np))) 70 3 (((m_X9_endsDay (m_X9_begins I np) np) 70 3) + 1)) np) L np ((z_kaO _ _).trans ((z_up_k _ _ (by decide)).trans ((z_up_k _ _ (by decide)).trans ((z_enO _ _).trans ((z_begO _ _ _ _ (by decide) (by decide) (by decide) (Or.inr (by decide))).trans hnp))))) hn10) rfl ⟨_, _, rfl⟩ rfl rfl (Nat.le_of_ble_eq_true rfl) (by omega) (n := 35) rfl ?_
    show PW zm_X9_day d 35 [(0, .ref 54)] [.int (f_X9_judgesNow (m_X9_keepsAll (z_up (z_up (m_X9_endsDay (m_X9_begins I np) np) 70 4 (((m_X9_begins I np) 70 4) + (f_X9_endsDay (m_X9_begins I np) np))) 70 3 (((m_X9_endsDay (m_X9_begins I np) np) 70 3) + 1)) np) np)] SH ((m_X9_keepsAll (z_up (z_up (m_X9_endsDay (m_X9_begins I np) np) 70 4 (((m_X9_begins I np) 70 4) + (f_X9_endsDay (m_X9_begins I np) np))) 70 3 (((m_X9_endsDay (m_X9_begins I np) np) 70 3) + 1)) np), L, z_R b) 0 0 _
    exact p_iret (z_dec zd_X9_day 23 rfl) rfl ⟨(by unfold f_X9_day; rfl), rfl, (z_3 (by unfold m_X9_day; rfl) rfl)⟩
  exact hentry
