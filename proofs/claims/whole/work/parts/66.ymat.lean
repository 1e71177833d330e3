def f_X9_match (I : Nat → Nat → Int32) (np : Nat) (abu : Int32) : Int32 := if (f_X9_isAbu np abu) = 0 then (-1) else if (f_X9_canBeHeld (m_X9_begins I np) ((abu / 100).toNatClampNeg) (((abu / 10) - (abu / 10) / 10 * 10).toNatClampNeg) ((abu - abu / 10 * 10).toNatClampNeg)) = 0 then (-5) else if (f_X9_oddsOf (z_up (m_X9_begins I np) 55 41 ((((m_X9_begins I np) 55 41) * 1103515245) + 12345)) ((abu / 100).toNatClampNeg) (((abu / 10) - (abu / 10) / 10 * 10).toNatClampNeg) ((abu - abu / 10 * 10).toNatClampNeg)) ≤ ((((((m_X9_begins I np) 55 41) * 1103515245) + 12345).toUInt32 >>> ((8 : Int32).toUInt32 &&& Int32.toUInt32 31)).toInt32 - (((((m_X9_begins I np) 55 41) * 1103515245) + 12345).toUInt32 >>> ((8 : Int32).toUInt32 &&& Int32.toUInt32 31)).toInt32 / 12 * 12) then 0 else 1
def m_X9_match (I : Nat → Nat → Int32) (np : Nat) (abu : Int32) : Nat → Nat → Int32 := if (f_X9_isAbu np abu) = 0 then I else if (f_X9_canBeHeld (m_X9_begins I np) ((abu / 100).toNatClampNeg) (((abu / 10) - (abu / 10) / 10 * 10).toNatClampNeg) ((abu - abu / 10 * 10).toNatClampNeg)) = 0 then (m_X9_begins I np) else if (f_X9_oddsOf (z_up (m_X9_begins I np) 55 41 ((((m_X9_begins I np) 55 41) * 1103515245) + 12345)) ((abu / 100).toNatClampNeg) (((abu / 10) - (abu / 10) / 10 * 10).toNatClampNeg) ((abu - abu / 10 * 10).toNatClampNeg)) ≤ ((((((m_X9_begins I np) 55 41) * 1103515245) + 12345).toUInt32 >>> ((8 : Int32).toUInt32 &&& Int32.toUInt32 31)).toInt32 - (((((m_X9_begins I np) 55 41) * 1103515245) + 12345).toUInt32 >>> ((8 : Int32).toUInt32 &&& Int32.toUInt32 31)).toInt32 / 12 * 12) then (z_up (z_up (m_X9_keepsAll (m_X9_isHeld (m_X9_oddsOf (z_up (m_X9_begins I np) 55 41 ((((m_X9_begins I np) 55 41) * 1103515245) + 12345)) ((abu / 100).toNatClampNeg) (((abu / 10) - (abu / 10) / 10 * 10).toNatClampNeg) ((abu - abu / 10 * 10).toNatClampNeg)) ((abu / 100).toNatClampNeg) (((abu / 10) - (abu / 10) / 10 * 10).toNatClampNeg) ((abu - abu / 10 * 10).toNatClampNeg) 0) np) 70 0 (((m_X9_keepsAll (m_X9_isHeld (m_X9_oddsOf (z_up (m_X9_begins I np) 55 41 ((((m_X9_begins I np) 55 41) * 1103515245) + 12345)) ((abu / 100).toNatClampNeg) (((abu / 10) - (abu / 10) / 10 * 10).toNatClampNeg) ((abu - abu / 10 * 10).toNatClampNeg)) ((abu / 100).toNatClampNeg) (((abu / 10) - (abu / 10) / 10 * 10).toNatClampNeg) ((abu - abu / 10 * 10).toNatClampNeg) 0) np) 70 0) + 1)) 70 1 (((m_X9_keepsAll (m_X9_isHeld (m_X9_oddsOf (z_up (m_X9_begins I np) 55 41 ((((m_X9_begins I np) 55 41) * 1103515245) + 12345)) ((abu / 100).toNatClampNeg) (((abu / 10) - (abu / 10) / 10 * 10).toNatClampNeg) ((abu - abu / 10 * 10).toNatClampNeg)) ((abu / 100).toNatClampNeg) (((abu / 10) - (abu / 10) / 10 * 10).toNatClampNeg) ((abu - abu / 10 * 10).toNatClampNeg) 0) np) 70 1) + 0)) else (z_up (z_up (m_X9_keepsAll (m_X9_isHeld (m_X9_oddsOf (z_up (m_X9_begins I np) 55 41 ((((m_X9_begins I np) 55 41) * 1103515245) + 12345)) ((abu / 100).toNatClampNeg) (((abu / 10) - (abu / 10) / 10 * 10).toNatClampNeg) ((abu - abu / 10 * 10).toNatClampNeg)) ((abu / 100).toNatClampNeg) (((abu / 10) - (abu / 10) / 10 * 10).toNatClampNeg) ((abu - abu / 10 * 10).toNatClampNeg) 1) np) 70 0 (((m_X9_keepsAll (m_X9_isHeld (m_X9_oddsOf (z_up (m_X9_begins I np) 55 41 ((((m_X9_begins I np) 55 41) * 1103515245) + 12345)) ((abu / 100).toNatClampNeg) (((abu / 10) - (abu / 10) / 10 * 10).toNatClampNeg) ((abu - abu / 10 * 10).toNatClampNeg)) ((abu / 100).toNatClampNeg) (((abu / 10) - (abu / 10) / 10 * 10).toNatClampNeg) ((abu - abu / 10 * 10).toNatClampNeg) 1) np) 70 0) + 1)) 70 1 (((m_X9_keepsAll (m_X9_isHeld (m_X9_oddsOf (z_up (m_X9_begins I np) 55 41 ((((m_X9_begins I np) 55 41) * 1103515245) + 12345)) ((abu / 100).toNatClampNeg) (((abu / 10) - (abu / 10) / 10 * 10).toNatClampNeg) ((abu - abu / 10 * 10).toNatClampNeg)) ((abu / 100).toNatClampNeg) (((abu / 10) - (abu / 10) / 10 * 10).toNatClampNeg) ((abu - abu / 10 * 10).toNatClampNeg) 1) np) 70 1) + 1))
set_option maxHeartbeats 1000000 in
set_option maxRecDepth 100000 in
theorem c_X9_match (d : Nat) (hd : 57 ≤ d) (b : Bool) (I : Nat → Nat → Int32) (L : Nat → Nat → Int64) (np : Nat) (hn10 : np ≤ 10) (hG : z_G np I) (abu : Int32) : z_CT zm_X9_match d [.ref 54, .int abu] SH (I, L, z_R b) 0 0 (z_ret (some (.int (f_X9_match I np abu))) ((m_X9_match I np abu), L, z_R b)) := by
  refine z_enter (by decide +kernel) (Nat.le_of_ble_eq_true rfl) ?_
  have hentry : PW zm_X9_match d 0 [(0, .ref 54), (1, .int abu)] [] SH (I, L, z_R b) 0 0 (z_ret (some (.int (f_X9_match I np abu))) ((m_X9_match I np abu), L, z_R b)) := by
    refine p_aload_n (z_dec zd_X9_match 0 rfl) rfl 0 rfl (n := 1) rfl ?_
    refine p_iload_n (z_dec zd_X9_match 1 rfl) rfl 1 rfl (n := 2) rfl ?_
    refine q_callV (As := [.int abu]) (rest := []) (z_dec zd_X9_match 2 rfl) zk_X9_203 zv_X9_isAbu (c_X9_isAbu (d - 1) (by omega) b I L np hG.1 hn10 abu) rfl ⟨_, _, rfl⟩ rfl rfl (Nat.le_of_ble_eq_true rfl) (by omega) (n := 5) rfl ?_
    show PW zm_X9_match d 5 [(0, .ref 54), (1, .int abu)] [.int (f_X9_isAbu np abu)] SH (I, L, z_R b) 0 0 _
    refine p_if_ne (z_dec zd_X9_match 3 rfl) (t := 10) (by decide) (n := 8) rfl (fun h5 => ?_) (fun h5 => ?_)
    · have hu := z_abuR hn10 h5
      refine p_iload_n (z_dec zd_X9_match 6 rfl) rfl 1 rfl (n := 11) rfl ?_
      refine p_bipush (z_dec zd_X9_match 7 rfl) (v := 100) (by decide) (n := 13) rfl ?_
      refine p_idiv (z_dec zd_X9_match 8 rfl) (by decide) (n := 14) rfl ?_
      refine p_istore_n (z_dec zd_X9_match 9 rfl) rfl (lv2 := [(2, .int (abu / 100)), (0, .ref 54), (1, .int abu)]) (by decide) rfl (n := 15) rfl ?_
      refine p_iload_n (z_dec zd_X9_match 10 rfl) rfl 2 rfl (n := 16) rfl ?_
      refine p_bipush (z_dec zd_X9_match 11 rfl) (v := 10) (by decide) (n := 18) rfl ?_
      refine p_idiv (z_dec zd_X9_match 12 rfl) (by decide) (n := 19) rfl ?_
      refine p_bipush (z_dec zd_X9_match 13 rfl) (v := 10) (by decide) (n := 21) rfl ?_
      refine p_irem (z_dec zd_X9_match 14 rfl) (by decide) (n := 22) rfl ?_
      refine p_istore_n (z_dec zd_X9_match 15 rfl) rfl (lv2 := [(3, .int ((abu / 10) - (abu / 10) / 10 * 10)), (2, .int (abu / 100)), (0, .ref 54), (1, .int abu)]) (by decide) rfl (n := 23) rfl ?_
      refine p_iload_n (z_dec zd_X9_match 16 rfl) rfl 3 rfl (n := 24) rfl ?_
      refine p_bipush (z_dec zd_X9_match 17 rfl) (v := 10) (by decide) (n := 26) rfl ?_
      refine p_irem (z_dec zd_X9_match 18 rfl) (by decide) (n := 27) rfl ?_
      refine p_istore (z_dec zd_X9_match 19 rfl) (lv2 := [(4, .int (abu - abu / 10 * 10)), (3, .int ((abu / 10) - (abu / 10) / 10 * 10)), (2, .int (abu / 100)), (0, .ref 54), (1, .int abu)]) (by decide) rfl (n := 29) rfl ?_
      refine p_aload_n (z_dec zd_X9_match 20 rfl) rfl 3 rfl (n := 30) rfl ?_
      refine q_callV (As := []) (rest := []) (z_dec zd_X9_match 21 rfl) zk_X9_206 zv_X9_begins (c_X9_begins (d - 1) (by omega) b I L np hG.1 hn10) rfl ⟨_, _, rfl⟩ rfl rfl (Nat.le_of_ble_eq_true rfl) (by omega) (n := 33) rfl ?_
      show PW zm_X9_match d 33 [(4, .int (abu - abu / 10 * 10)), (3, .int ((abu / 10) - (abu / 10) / 10 * 10)), (2, .int (abu / 100)), (0, .ref 54), (1, .int abu)] [] SH ((m_X9_begins I np), L, z_R b) 0 0 _
      have hP33 : z_G np ((m_X9_begins I np)) := z_Gbg hG
      refine p_aload_n (z_dec zd_X9_match 22 rfl) rfl 3 rfl (n := 34) rfl ?_
      refine p_iload_n (z_dec zd_X9_match 23 rfl) rfl 2 rfl (n := 35) rfl ?_
      refine p_iload_n (z_dec zd_X9_match 24 rfl) rfl 1 rfl (n := 36) rfl ?_
      refine p_iload (z_dec zd_X9_match 25 rfl) 0 rfl (n := 38) rfl ?_
      refine q_callV (As := [.int (nI ((abu / 100).toNatClampNeg)), .int (nI (((abu / 10) - (abu / 10) / 10 * 10).toNatClampNeg)), .int (nI ((abu - abu / 10 * 10).toNatClampNeg))]) (rest := []) (z_dec zd_X9_match 26 rfl) zk_X9_219 zv_X9_canBeHeld (c_X9_canBeHeld (d - 1) (by omega) b (m_X9_begins I np) L ((abu / 100).toNatClampNeg) (Nat.lt_of_lt_of_le hu.1.2 hn10) (((abu / 10) - (abu / 10) / 10 * 10).toNatClampNeg) (Nat.lt_of_lt_of_le hu.2.1.2 hn10) ((abu - abu / 10 * 10).toNatClampNeg) (Nat.lt_of_lt_of_le hu.2.2.2 hn10)) rfl ⟨_, _, rfl⟩ (by simp only [← hu.1.1, ← hu.2.1.1, ← hu.2.2.1]; rfl) rfl (Nat.le_of_ble_eq_true rfl) (by omega) (n := 41) rfl ?_
      show PW zm_X9_match d 41 [(4, .int (abu - abu / 10 * 10)), (3, .int ((abu / 10) - (abu / 10) / 10 * 10)), (2, .int (abu / 100)), (0, .ref 54), (1, .int abu)] [.int (f_X9_canBeHeld (m_X9_begins I np) ((abu / 100).toNatClampNeg) (((abu / 10) - (abu / 10) / 10 * 10).toNatClampNeg) ((abu - abu / 10 * 10).toNatClampNeg))] SH ((m_X9_begins I np), L, z_R b) 0 0 _
      refine p_if_ne (z_dec zd_X9_match 27 rfl) (t := 47) (by decide) (n := 44) rfl (fun h41 => ?_) (fun h41 => ?_)
      · refine p_aload_n (z_dec zd_X9_match 30 rfl) rfl 3 rfl (n := 48) rfl ?_
        refine q_getR (z_dec zd_X9_match 31 rfl) zf_X9_9 (i := 55) rfl rfl (n := 51) rfl ?_
        refine p_bipush (z_dec zd_X9_match 32 rfl) (v := 41) (by decide) (n := 53) rfl ?_
        refine q_iald (z_dec zd_X9_match 33 rfl) rfl (by decide) (41) rfl (by decide) (v := ((m_X9_begins I np) 55 41)) rfl (n := 54) rfl ?_
        refine p_ldcw (z_dec zd_X9_match 34 rfl) zq_X9_281 (n := 57) rfl ?_
        refine p_imul (z_dec zd_X9_match 35 rfl) (n := 58) rfl ?_
        refine p_sipush (z_dec zd_X9_match 36 rfl) (v := 12345) (by decide) (n := 61) rfl ?_
        refine p_iadd (z_dec zd_X9_match 37 rfl) (n := 62) rfl ?_
        refine p_istore (z_dec zd_X9_match 38 rfl) (lv2 := [(5, .int ((((m_X9_begins I np) 55 41) * 1103515245) + 12345)), (4, .int (abu - abu / 10 * 10)), (3, .int ((abu / 10) - (abu / 10) / 10 * 10)), (2, .int (abu / 100)), (0, .ref 54), (1, .int abu)]) (by decide) rfl (n := 64) rfl ?_
        refine p_aload_n (z_dec zd_X9_match 39 rfl) rfl 4 rfl (n := 65) rfl ?_
        refine q_getR (z_dec zd_X9_match 40 rfl) zf_X9_9 (i := 55) rfl rfl (n := 68) rfl ?_
        refine p_bipush (z_dec zd_X9_match 41 rfl) (v := 41) (by decide) (n := 70) rfl ?_
        refine p_iload (z_dec zd_X9_match 42 rfl) 0 rfl (n := 72) rfl ?_
        refine q_iast (z_dec zd_X9_match 43 rfl) rfl (by decide) (41) rfl (by decide) (n := 73) rfl ?_
        have hP73 : z_G np ((z_up (m_X9_begins I np) 55 41 ((((m_X9_begins I np) 55 41) * 1103515245) + 12345))) := z_Gf hP33 (z_up_k _ _ (by decide)) (z_up_k _ _ (by decide))
        refine p_iload (z_dec zd_X9_match 44 rfl) 0 rfl (n := 75) rfl ?_
        refine p_bipush (z_dec zd_X9_match 45 rfl) (v := 8) (by decide) (n := 77) rfl ?_
        refine p_iushr (z_dec zd_X9_match 46 rfl) (n := 78) rfl ?_
        refine p_bipush (z_dec zd_X9_match 47 rfl) (v := 12) (by decide) (n := 80) rfl ?_
        refine p_irem (z_dec zd_X9_match 48 rfl) (by decide) (n := 81) rfl ?_
        refine p_aload_n (z_dec zd_X9_match 49 rfl) rfl 4 rfl (n := 82) rfl ?_
        refine p_iload_n (z_dec zd_X9_match 50 rfl) rfl 3 rfl (n := 83) rfl ?_
        refine p_iload_n (z_dec zd_X9_match 51 rfl) rfl 2 rfl (n := 84) rfl ?_
        refine p_iload (z_dec zd_X9_match 52 rfl) 1 rfl (n := 86) rfl ?_
        refine q_callV (As := [.int (nI ((abu / 100).toNatClampNeg)), .int (nI (((abu / 10) - (abu / 10) / 10 * 10).toNatClampNeg)), .int (nI ((abu - abu / 10 * 10).toNatClampNeg))]) (rest := [.int ((((((m_X9_begins I np) 55 41) * 1103515245) + 12345).toUInt32 >>> ((8 : Int32).toUInt32 &&& Int32.toUInt32 31)).toInt32 - (((((m_X9_begins I np) 55 41) * 1103515245) + 12345).toUInt32 >>> ((8 : Int32).toUInt32 &&& Int32.toUInt32 31)).toInt32 / 12 * 12)]) (z_dec zd_X9_match 53 rfl) zk_X9_209 zv_X9_oddsOf (c_X9_oddsOf (d - 1) (by omega) b (z_up (m_X9_begins I np) 55 41 ((((m_X9_begins I np) 55 41) * 1103515245) + 12345)) L ((abu / 100).toNatClampNeg) (Nat.lt_of_lt_of_le hu.1.2 hn10) (((abu / 10) - (abu / 10) / 10 * 10).toNatClampNeg) (Nat.lt_of_lt_of_le hu.2.1.2 hn10) ((abu - abu / 10 * 10).toNatClampNeg) (Nat.lt_of_lt_of_le hu.2.2.2 hn10) hP73.2) rfl ⟨_, _, rfl⟩ (by simp only [← hu.1.1, ← hu.2.1.1, ← hu.2.2.1]; rfl) rfl (Nat.le_of_ble_eq_true rfl) (by omega) (n := 89) rfl ?_
        show PW zm_X9_match d 89 [(5, .int ((((m_X9_begins I np) 55 41) * 1103515245) + 12345)), (4, .int (abu - abu / 10 * 10)), (3, .int ((abu / 10) - (abu / 10) / 10 * 10)), (2, .int (abu / 100)), (0, .ref 54), (1, .int abu)] [.int (f_X9_oddsOf (z_up (m_X9_begins I np) 55 41 ((((m_X9_begins I np) 55 41) * 1103515245) + 12345)) ((abu / 100).toNatClampNeg) (((abu / 10) - (abu / 10) / 10 * 10).toNatClampNeg) ((abu - abu / 10 * 10).toNatClampNeg)), .int ((((((m_X9_begins I np) 55 41) * 1103515245) + 12345).toUInt32 >>> ((8 : Int32).toUInt32 &&& Int32.toUInt32 31)).toInt32 - (((((m_X9_begins I np) 55 41) * 1103515245) + 12345).toUInt32 >>> ((8 : Int32).toUInt32 &&& Int32.toUInt32 31)).toInt32 / 12 * 12)] SH ((m_X9_oddsOf (z_up (m_X9_begins I np) 55 41 ((((m_X9_begins I np) 55 41) * 1103515245) + 12345)) ((abu / 100).toNatClampNeg) (((abu / 10) - (abu / 10) / 10 * 10).toNatClampNeg) ((abu - abu / 10 * 10).toNatClampNeg)), L, z_R b) 0 0 _
        have hP89 : z_G np ((m_X9_oddsOf (z_up (m_X9_begins I np) 55 41 ((((m_X9_begins I np) 55 41) * 1103515245) + 12345)) ((abu / 100).toNatClampNeg) (((abu / 10) - (abu / 10) / 10 * 10).toNatClampNeg) ((abu - abu / 10 * 10).toNatClampNeg))) := z_Goo hP73 _ _ _
        refine p_icmp_ge (z_dec zd_X9_match 54 rfl) (t := 96) (by decide) (n := 92) rfl (fun h89 => ?_) (fun h89 => ?_)
        · refine p_iconst (z_dec zd_X9_match 57 rfl) (v := 0) (by decide) (n := 97) rfl ?_
          refine p_istore (z_dec zd_X9_match 58 rfl) (lv2 := [(6, .int 0), (5, .int ((((m_X9_begins I np) 55 41) * 1103515245) + 12345)), (4, .int (abu - abu / 10 * 10)), (3, .int ((abu / 10) - (abu / 10) / 10 * 10)), (2, .int (abu / 100)), (0, .ref 54), (1, .int abu)]) (by decide) rfl (n := 99) rfl ?_
          refine p_aload_n (z_dec zd_X9_match 59 rfl) rfl 5 rfl (n := 100) rfl ?_
          refine p_iload_n (z_dec zd_X9_match 60 rfl) rfl 4 rfl (n := 101) rfl ?_
          refine p_iload_n (z_dec zd_X9_match 61 rfl) rfl 3 rfl (n := 102) rfl ?_
          refine p_iload (z_dec zd_X9_match 62 rfl) 2 rfl (n := 104) rfl ?_
          refine p_iload (z_dec zd_X9_match 63 rfl) 0 rfl (n := 106) rfl ?_
          refine q_callV (As := [.int (nI ((abu / 100).toNatClampNeg)), .int (nI (((abu / 10) - (abu / 10) / 10 * 10).toNatClampNeg)), .int (nI ((abu - abu / 10 * 10).toNatClampNeg)), .int 0]) (rest := []) (z_dec zd_X9_match 64 rfl) zk_X9_229 zv_X9_isHeld (c_X9_isHeld (d - 1) (by omega) b (m_X9_oddsOf (z_up (m_X9_begins I np) 55 41 ((((m_X9_begins I np) 55 41) * 1103515245) + 12345)) ((abu / 100).toNatClampNeg) (((abu / 10) - (abu / 10) / 10 * 10).toNatClampNeg) ((abu - abu / 10 * 10).toNatClampNeg)) L ((abu / 100).toNatClampNeg) (Nat.lt_of_lt_of_le hu.1.2 hn10) (((abu / 10) - (abu / 10) / 10 * 10).toNatClampNeg) (Nat.lt_of_lt_of_le hu.2.1.2 hn10) ((abu - abu / 10 * 10).toNatClampNeg) (Nat.lt_of_lt_of_le hu.2.2.2 hn10) 0) rfl ⟨_, _, rfl⟩ (by simp only [← hu.1.1, ← hu.2.1.1, ← hu.2.2.1]; rfl) rfl (Nat.le_of_ble_eq_true rfl) (by omega) (n := 109) rfl ?_
          show PW zm_X9_match d 109 [(6, .int 0), (5, .int ((((m_X9_begins I np) 55 41) * 1103515245) + 12345)), (4, .int (abu - abu / 10 * 10)), (3, .int ((abu / 10) - (abu / 10) / 10 * 10)), (2, .int (abu / 100)), (0, .ref 54), (1, .int abu)] [] SH ((m_X9_isHeld (m_X9_oddsOf (z_up (m_X9_begins I np) 55 41 ((((m_X9_begins I np) 55 41) * 1103515245) + 12345)) ((abu / 100).toNatClampNeg) (((abu / 10) - (abu / 10) / 10 * 10).toNatClampNeg) ((abu - abu / 10 * 10).toNatClampNeg)) ((abu / 100).toNatClampNeg) (((abu / 10) - (abu / 10) / 10 * 10).toNatClampNeg) ((abu - abu / 10 * 10).toNatClampNeg) 0), L, z_R b) 0 0 _
          have hP109 : z_G np ((m_X9_isHeld (m_X9_oddsOf (z_up (m_X9_begins I np) 55 41 ((((m_X9_begins I np) 55 41) * 1103515245) + 12345)) ((abu / 100).toNatClampNeg) (((abu / 10) - (abu / 10) / 10 * 10).toNatClampNeg) ((abu - abu / 10 * 10).toNatClampNeg)) ((abu / 100).toNatClampNeg) (((abu / 10) - (abu / 10) / 10 * 10).toNatClampNeg) ((abu - abu / 10 * 10).toNatClampNeg) 0)) := z_Gih hP89 _ _ _ _
          refine p_aload_n (z_dec zd_X9_match 65 rfl) rfl 5 rfl (n := 110) rfl ?_
          refine q_callV (As := []) (rest := []) (z_dec zd_X9_match 66 rfl) zk_X9_282 zv_X9_keepsAll (c_X9_keepsAll (d - 1) (by omega) b (m_X9_isHeld (m_X9_oddsOf (z_up (m_X9_begins I np) 55 41 ((((m_X9_begins I np) 55 41) * 1103515245) + 12345)) ((abu / 100).toNatClampNeg) (((abu / 10) - (abu / 10) / 10 * 10).toNatClampNeg) ((abu - abu / 10 * 10).toNatClampNeg)) ((abu / 100).toNatClampNeg) (((abu / 10) - (abu / 10) / 10 * 10).toNatClampNeg) ((abu - abu / 10 * 10).toNatClampNeg) 0) L np hP109.1 hn10) rfl ⟨_, _, rfl⟩ rfl rfl (Nat.le_of_ble_eq_true rfl) (by omega) (n := 113) rfl ?_
          show PW zm_X9_match d 113 [(6, .int 0), (5, .int ((((m_X9_begins I np) 55 41) * 1103515245) + 12345)), (4, .int (abu - abu / 10 * 10)), (3, .int ((abu / 10) - (abu / 10) / 10 * 10)), (2, .int (abu / 100)), (0, .ref 54), (1, .int abu)] [] SH ((m_X9_keepsAll (m_X9_isHeld (m_X9_oddsOf (z_up (m_X9_begins I np) 55 41 ((((m_X9_begins I np) 55 41) * 1103515245) + 12345)) ((abu / 100).toNatClampNeg) (((abu / 10) - (abu / 10) / 10 * 10).toNatClampNeg) ((abu - abu / 10 * 10).toNatClampNeg)) ((abu / 100).toNatClampNeg) (((abu / 10) - (abu / 10) / 10 * 10).toNatClampNeg) ((abu - abu / 10 * 10).toNatClampNeg) 0) np), L, z_R b) 0 0 _
          refine p_aload_n (z_dec zd_X9_match 67 rfl) rfl 5 rfl (n := 114) rfl ?_
          refine q_getR (z_dec zd_X9_match 68 rfl) zf_X9_55 (i := 70) rfl rfl (n := 117) rfl ?_
          refine p_iconst (z_dec zd_X9_match 69 rfl) (v := 0) (by decide) (n := 118) rfl ?_
          refine p_dup2 (z_dec zd_X9_match 70 rfl) rfl rfl (n := 119) rfl ?_
          refine q_iald (z_dec zd_X9_match 71 rfl) rfl (by decide) (0) rfl (by decide) (v := ((m_X9_keepsAll (m_X9_isHeld (m_X9_oddsOf (z_up (m_X9_begins I np) 55 41 ((((m_X9_begins I np) 55 41) * 1103515245) + 12345)) ((abu / 100).toNatClampNeg) (((abu / 10) - (abu / 10) / 10 * 10).toNatClampNeg) ((abu - abu / 10 * 10).toNatClampNeg)) ((abu / 100).toNatClampNeg) (((abu / 10) - (abu / 10) / 10 * 10).toNatClampNeg) ((abu - abu / 10 * 10).toNatClampNeg) 0) np) 70 0)) rfl (n := 120) rfl ?_
          refine p_iconst (z_dec zd_X9_match 72 rfl) (v := 1) (by decide) (n := 121) rfl ?_
          refine p_iadd (z_dec zd_X9_match 73 rfl) (n := 122) rfl ?_
          refine q_iast (z_dec zd_X9_match 74 rfl) rfl (by decide) (0) rfl (by decide) (n := 123) rfl ?_
          refine p_aload_n (z_dec zd_X9_match 75 rfl) rfl 5 rfl (n := 124) rfl ?_
          refine q_getR (z_dec zd_X9_match 76 rfl) zf_X9_55 (i := 70) rfl rfl (n := 127) rfl ?_
          refine p_iconst (z_dec zd_X9_match 77 rfl) (v := 1) (by decide) (n := 128) rfl ?_
          refine p_dup2 (z_dec zd_X9_match 78 rfl) rfl rfl (n := 129) rfl ?_
          refine q_iald (z_dec zd_X9_match 79 rfl) rfl (by decide) (1) rfl (by decide) (v := ((m_X9_keepsAll (m_X9_isHeld (m_X9_oddsOf (z_up (m_X9_begins I np) 55 41 ((((m_X9_begins I np) 55 41) * 1103515245) + 12345)) ((abu / 100).toNatClampNeg) (((abu / 10) - (abu / 10) / 10 * 10).toNatClampNeg) ((abu - abu / 10 * 10).toNatClampNeg)) ((abu / 100).toNatClampNeg) (((abu / 10) - (abu / 10) / 10 * 10).toNatClampNeg) ((abu - abu / 10 * 10).toNatClampNeg) 0) np) 70 1)) (z_up_j _ _ (by decide)) (n := 130) rfl ?_
          refine p_iload (z_dec zd_X9_match 80 rfl) 0 rfl (n := 132) rfl ?_
          refine p_if_eq (z_dec zd_X9_match 81 rfl) (t := 139) (by decide) (n := 135) rfl (fun h132 => ?_) (fun h132 => ?_)
          · refine p_iconst (z_dec zd_X9_match 84 rfl) (v := 0) (by decide) (n := 140) rfl ?_
            refine p_iadd (z_dec zd_X9_match 85 rfl) (n := 141) rfl ?_
            refine q_iast (z_dec zd_X9_match 86 rfl) rfl (by decide) (1) rfl (by decide) (n := 142) rfl ?_
            refine p_iload (z_dec zd_X9_match 87 rfl) 0 rfl (n := 144) rfl ?_
            refine p_if_eq (z_dec zd_X9_match 88 rfl) (t := 151) (by decide) (n := 147) rfl (fun h144 => ?_) (fun h144 => ?_)
            · refine p_iconst (z_dec zd_X9_match 91 rfl) (v := 0) (by decide) (n := 152) rfl ?_
              exact p_iret (z_dec zd_X9_match 92 rfl) rfl ⟨(by unfold f_X9_match; rw [if_neg h5, if_neg h41, if_pos h89]), rfl, (z_3 (by unfold m_X9_match; rw [if_neg h5, if_neg h41, if_pos h89]) rfl)⟩
            · exact absurd h144 (by decide)
          · exact absurd h132 (by decide)
        · refine p_iconst (z_dec zd_X9_match 55 rfl) (v := 1) (by decide) (n := 93) rfl ?_
          refine p_goto (z_dec zd_X9_match 56 rfl) (t := 97) (by decide) ?_
          refine p_istore (z_dec zd_X9_match 58 rfl) (lv2 := [(6, .int 1), (5, .int ((((m_X9_begins I np) 55 41) * 1103515245) + 12345)), (4, .int (abu - abu / 10 * 10)), (3, .int ((abu / 10) - (abu / 10) / 10 * 10)), (2, .int (abu / 100)), (0, .ref 54), (1, .int abu)]) (by decide) rfl (n := 99) rfl ?_
          refine p_aload_n (z_dec zd_X9_match 59 rfl) rfl 5 rfl (n := 100) rfl ?_
          refine p_iload_n (z_dec zd_X9_match 60 rfl) rfl 4 rfl (n := 101) rfl ?_
          refine p_iload_n (z_dec zd_X9_match 61 rfl) rfl 3 rfl (n := 102) rfl ?_
          refine p_iload (z_dec zd_X9_match 62 rfl) 2 rfl (n := 104) rfl ?_
          refine p_iload (z_dec zd_X9_match 63 rfl) 0 rfl (n := 106) rfl ?_
          refine q_callV (As := [.int (nI ((abu / 100).toNatClampNeg)), .int (nI (((abu / 10) - (abu / 10) / 10 * 10).toNatClampNeg)), .int (nI ((abu - abu / 10 * 10).toNatClampNeg)), .int 1]) (rest := []) (z_dec zd_X9_match 64 rfl) zk_X9_229 zv_X9_isHeld (c_X9_isHeld (d - 1) (by omega) b (m_X9_oddsOf (z_up (m_X9_begins I np) 55 41 ((((m_X9_begins I np) 55 41) * 1103515245) + 12345)) ((abu / 100).toNatClampNeg) (((abu / 10) - (abu / 10) / 10 * 10).toNatClampNeg) ((abu - abu / 10 * 10).toNatClampNeg)) L ((abu / 100).toNatClampNeg) (Nat.lt_of_lt_of_le hu.1.2 hn10) (((abu / 10) - (abu / 10) / 10 * 10).toNatClampNeg) (Nat.lt_of_lt_of_le hu.2.1.2 hn10) ((abu - abu / 10 * 10).toNatClampNeg) (Nat.lt_of_lt_of_le hu.2.2.2 hn10) 1) rfl ⟨_, _, rfl⟩ (by simp only [← hu.1.1, ← hu.2.1.1, ← hu.2.2.1]; rfl) rfl (Nat.le_of_ble_eq_true rfl) (by omega) (n := 109) rfl ?_
          show PW zm_X9_match d 109 [(6, .int 1), (5, .int ((((m_X9_begins I np) 55 41) * 1103515245) + 12345)), (4, .int (abu - abu / 10 * 10)), (3, .int ((abu / 10) - (abu / 10) / 10 * 10)), (2, .int (abu / 100)), (0, .ref 54), (1, .int abu)] [] SH ((m_X9_isHeld (m_X9_oddsOf (z_up (m_X9_begins I np) 55 41 ((((m_X9_begins I np) 55 41) * 1103515245) + 12345)) ((abu / 100).toNatClampNeg) (((abu / 10) - (abu / 10) / 10 * 10).toNatClampNeg) ((abu - abu / 10 * 10).toNatClampNeg)) ((abu / 100).toNatClampNeg) (((abu / 10) - (abu / 10) / 10 * 10).toNatClampNeg) ((abu - abu / 10 * 10).toNatClampNeg) 1), L, z_R b) 0 0 _
          have hP109 : z_G np ((m_X9_isHeld (m_X9_oddsOf (z_up (m_X9_begins I np) 55 41 ((((m_X9_begins I np) 55 41) * 1103515245) + 12345)) ((abu / 100).toNatClampNeg) (((abu / 10) - (abu / 10) / 10 * 10).toNatClampNeg) ((abu - abu / 10 * 10).toNatClampNeg)) ((abu / 100).toNatClampNeg) (((abu / 10) - (abu / 10) / 10 * 10).toNatClampNeg) ((abu - abu / 10 * 10).toNatClampNeg) 1)) := z_Gih hP89 _ _ _ _
          refine p_aload_n (z_dec zd_X9_match 65 rfl) rfl 5 rfl (n := 110) rfl ?_
          refine q_callV (As := []) (rest := []) (z_dec zd_X9_match 66 rfl) zk_X9_282 zv_X9_keepsAll (c_X9_keepsAll (d - 1) (by omega) b (m_X9_isHeld (m_X9_oddsOf (z_up (m_X9_begins I np) 55 41 ((((m_X9_begins I np) 55 41) * 1103515245) + 12345)) ((abu / 100).toNatClampNeg) (((abu / 10) - (abu / 10) / 10 * 10).toNatClampNeg) ((abu - abu / 10 * 10).toNatClampNeg)) ((abu / 100).toNatClampNeg) (((abu / 10) - (abu / 10) / 10 * 10).toNatClampNeg) ((abu - abu / 10 * 10).toNatClampNeg) 1) L np hP109.1 hn10) rfl ⟨_, _, rfl⟩ rfl rfl (Nat.le_of_ble_eq_true rfl) (by omega) (n := 113) rfl ?_
          show PW zm_X9_match d 113 [(6, .int 1), (5, .int ((((m_X9_begins I np) 55 41) * 1103515245) + 12345)), (4, .int (abu - abu / 10 * 10)), (3, .int ((abu / 10) - (abu / 10) / 10 * 10)), (2, .int (abu / 100)), (0, .ref 54), (1, .int abu)] [] SH ((m_X9_keepsAll (m_X9_isHeld (m_X9_oddsOf (z_up (m_X9_begins I np) 55 41 ((((m_X9_begins I np) 55 41) * 1103515245) + 12345)) ((abu / 100).toNatClampNeg) (((abu / 10) - (abu / 10) / 10 * 10).toNatClampNeg) ((abu - abu / 10 * 10).toNatClampNeg)) ((abu / 100).toNatClampNeg) (((abu / 10) - (abu / 10) / 10 * 10).toNatClampNeg) ((abu - abu / 10 * 10).toNatClampNeg) 1) np), L, z_R b) 0 0 _
          refine p_aload_n (z_dec zd_X9_match 67 rfl) rfl 5 rfl (n := 114) rfl ?_
          refine q_getR (z_dec zd_X9_match 68 rfl) zf_X9_55 (i := 70) rfl rfl (n := 117) rfl ?_
          refine p_iconst (z_dec zd_X9_match 69 rfl) (v := 0) (by decide) (n := 118) rfl ?_
          refine p_dup2 (z_dec zd_X9_match 70 rfl) rfl rfl (n := 119) rfl ?_
          refine q_iald (z_dec zd_X9_match 71 rfl) rfl (by decide) (0) rfl (by decide) (v := ((m_X9_keepsAll (m_X9_isHeld (m_X9_oddsOf (z_up (m_X9_begins I np) 55 41 ((((m_X9_begins I np) 55 41) * 1103515245) + 12345)) ((abu / 100).toNatClampNeg) (((abu / 10) - (abu / 10) / 10 * 10).toNatClampNeg) ((abu - abu / 10 * 10).toNatClampNeg)) ((abu / 100).toNatClampNeg) (((abu / 10) - (abu / 10) / 10 * 10).toNatClampNeg) ((abu - abu / 10 * 10).toNatClampNeg) 1) np) 70 0)) rfl (n := 120) rfl ?_
          refine p_iconst (z_dec zd_X9_match 72 rfl) (v := 1) (by decide) (n := 121) rfl ?_
          refine p_iadd (z_dec zd_X9_match 73 rfl) (n := 122) rfl ?_
          refine q_iast (z_dec zd_X9_match 74 rfl) rfl (by decide) (0) rfl (by decide) (n := 123) rfl ?_
          refine p_aload_n (z_dec zd_X9_match 75 rfl) rfl 5 rfl (n := 124) rfl ?_
          refine q_getR (z_dec zd_X9_match 76 rfl) zf_X9_55 (i := 70) rfl rfl (n := 127) rfl ?_
          refine p_iconst (z_dec zd_X9_match 77 rfl) (v := 1) (by decide) (n := 128) rfl ?_
          refine p_dup2 (z_dec zd_X9_match 78 rfl) rfl rfl (n := 129) rfl ?_
          refine q_iald (z_dec zd_X9_match 79 rfl) rfl (by decide) (1) rfl (by decide) (v := ((m_X9_keepsAll (m_X9_isHeld (m_X9_oddsOf (z_up (m_X9_begins I np) 55 41 ((((m_X9_begins I np) 55 41) * 1103515245) + 12345)) ((abu / 100).toNatClampNeg) (((abu / 10) - (abu / 10) / 10 * 10).toNatClampNeg) ((abu - abu / 10 * 10).toNatClampNeg)) ((abu / 100).toNatClampNeg) (((abu / 10) - (abu / 10) / 10 * 10).toNatClampNeg) ((abu - abu / 10 * 10).toNatClampNeg) 1) np) 70 1)) (z_up_j _ _ (by decide)) (n := 130) rfl ?_
          refine p_iload (z_dec zd_X9_match 80 rfl) 0 rfl (n := 132) rfl ?_
          refine p_if_eq (z_dec zd_X9_match 81 rfl) (t := 139) (by decide) (n := 135) rfl (fun h132 => ?_) (fun h132 => ?_)
          · exact absurd h132 (by decide)
          · refine p_iconst (z_dec zd_X9_match 82 rfl) (v := 1) (by decide) (n := 136) rfl ?_
            refine p_goto (z_dec zd_X9_match 83 rfl) (t := 140) (by decide) ?_
            refine p_iadd (z_dec zd_X9_match 85 rfl) (n := 141) rfl ?_
            refine q_iast (z_dec zd_X9_match 86 rfl) rfl (by decide) (1) rfl (by decide) (n := 142) rfl ?_
            refine p_iload (z_dec zd_X9_match 87 rfl) 0 rfl (n := 144) rfl ?_
            refine p_if_eq (z_dec zd_X9_match 88 rfl) (t := 151) (by decide) (n := 147) rfl (fun h144 => ?_) (fun h144 => ?_)
            · exact absurd h144 (by decide)
            · refine p_iconst (z_dec zd_X9_match 89 rfl) (v := 1) (by decide) (n := 148) rfl ?_
              refine p_goto (z_dec zd_X9_match 90 rfl) (t := 152) (by decide) ?_
              exact p_iret (z_dec zd_X9_match 92 rfl) rfl ⟨(by unfold f_X9_match; rw [if_neg h5, if_neg h41, if_neg h89]), rfl, (z_3 (by unfold m_X9_match; rw [if_neg h5, if_neg h41, if_neg h89]) rfl)⟩
      · refine p_bipush (z_dec zd_X9_match 28 rfl) (v := (-5)) (by decide) (n := 46) rfl ?_
        exact p_iret (z_dec zd_X9_match 29 rfl) rfl ⟨(by unfold f_X9_match; rw [if_neg h5, if_pos h41]), rfl, (z_3 (by unfold m_X9_match; rw [if_neg h5, if_pos h41]) rfl)⟩
    · refine p_iconst (z_dec zd_X9_match 4 rfl) (v := (-1)) (by decide) (n := 9) rfl ?_
      exact p_iret (z_dec zd_X9_match 5 rfl) rfl ⟨(by unfold f_X9_match; rw [if_pos h5]), rfl, (z_3 (by unfold m_X9_match; rw [if_pos h5]) rfl)⟩
  exact hentry
