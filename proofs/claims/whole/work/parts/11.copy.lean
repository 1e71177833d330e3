def m_X7_layBack_1_7 (I : Nat → Nat → Int32) (nq : Nat) : Nat → Nat → Int32 := (z_up (z_up (z_ro (z_ro (z_ro (z_ro I 3 (va_cpy (I 9) (I 3) 0 0 nq)) 4 (va_cpy ((z_ro I 3 (va_cpy (I 9) (I 3) 0 0 nq)) 10) ((z_ro I 3 (va_cpy (I 9) (I 3) 0 0 nq)) 4) 0 0 nq)) 5 (va_cpy ((z_ro (z_ro I 3 (va_cpy (I 9) (I 3) 0 0 nq)) 4 (va_cpy ((z_ro I 3 (va_cpy (I 9) (I 3) 0 0 nq)) 10) ((z_ro I 3 (va_cpy (I 9) (I 3) 0 0 nq)) 4) 0 0 nq)) 11) ((z_ro (z_ro I 3 (va_cpy (I 9) (I 3) 0 0 nq)) 4 (va_cpy ((z_ro I 3 (va_cpy (I 9) (I 3) 0 0 nq)) 10) ((z_ro I 3 (va_cpy (I 9) (I 3) 0 0 nq)) 4) 0 0 nq)) 5) 0 0 nq)) 6 (va_cpy ((z_ro (z_ro (z_ro I 3 (va_cpy (I 9) (I 3) 0 0 nq)) 4 (va_cpy ((z_ro I 3 (va_cpy (I 9) (I 3) 0 0 nq)) 10) ((z_ro I 3 (va_cpy (I 9) (I 3) 0 0 nq)) 4) 0 0 nq)) 5 (va_cpy ((z_ro (z_ro I 3 (va_cpy (I 9) (I 3) 0 0 nq)) 4 (va_cpy ((z_ro I 3 (va_cpy (I 9) (I 3) 0 0 nq)) 10) ((z_ro I 3 (va_cpy (I 9) (I 3) 0 0 nq)) 4) 0 0 nq)) 11) ((z_ro (z_ro I 3 (va_cpy (I 9) (I 3) 0 0 nq)) 4 (va_cpy ((z_ro I 3 (va_cpy (I 9) (I 3) 0 0 nq)) 10) ((z_ro I 3 (va_cpy (I 9) (I 3) 0 0 nq)) 4) 0 0 nq)) 5) 0 0 nq)) 12) ((z_ro (z_ro (z_ro I 3 (va_cpy (I 9) (I 3) 0 0 nq)) 4 (va_cpy ((z_ro I 3 (va_cpy (I 9) (I 3) 0 0 nq)) 10) ((z_ro I 3 (va_cpy (I 9) (I 3) 0 0 nq)) 4) 0 0 nq)) 5 (va_cpy ((z_ro (z_ro I 3 (va_cpy (I 9) (I 3) 0 0 nq)) 4 (va_cpy ((z_ro I 3 (va_cpy (I 9) (I 3) 0 0 nq)) 10) ((z_ro I 3 (va_cpy (I 9) (I 3) 0 0 nq)) 4) 0 0 nq)) 11) ((z_ro (z_ro I 3 (va_cpy (I 9) (I 3) 0 0 nq)) 4 (va_cpy ((z_ro I 3 (va_cpy (I 9) (I 3) 0 0 nq)) 10) ((z_ro I 3 (va_cpy (I 9) (I 3) 0 0 nq)) 4) 0 0 nq)) 5) 0 0 nq)) 6) 0 0 5)) 1 5 (I 7 5)) 1 6 (I 7 6))
set_option maxHeartbeats 4000000 in
set_option maxRecDepth 100000 in
theorem c_X7_layBack_1_7 (d : Nat) (hd : 1 ≤ d) (b : Bool) (I : Nat → Nat → Int32) (L : Nat → Nat → Int64) (np nq : Nat) (hnp : I 1 0 = nI np) (hnq : I 7 0 = nI nq) (hq10 : nq ≤ np) (hn10 : np ≤ 10) : z_CT zm_X7_layBack d [.ref 1, .ref 7] SH (I, L, z_R b) 0 0 (z_ret (none) ((m_X7_layBack_1_7 I nq), L, z_R b)) := by
  refine z_enter (by decide +kernel) (Nat.le_of_ble_eq_true rfl) ?_
  have hentry : PW zm_X7_layBack d 0 [(0, .ref 1), (1, .ref 7)] [] SH (I, L, z_R b) 0 0 (z_ret (none) ((m_X7_layBack_1_7 I nq), L, z_R b)) := by
    refine p_aload_n (z_dec zd_X7_layBack 0 rfl) rfl 0 rfl (n := 1) rfl ?_
    refine q_getI (z_dec zd_X7_layBack 1 rfl) zf_X7_9 (by decide) rfl (v := (nI np)) hnp (n := 4) rfl ?_
    refine p_aload_n (z_dec zd_X7_layBack 2 rfl) rfl 1 rfl (n := 5) rfl ?_
    refine q_getI (z_dec zd_X7_layBack 3 rfl) zf_X7_9 (by decide) rfl (v := (nI nq)) hnq (n := 8) rfl ?_
    refine p_mmin (z_dec zd_X7_layBack 4 rfl) zk_X7_66 (by omega) (Nat.le_of_ble_eq_true rfl) (n := 11) rfl ?_
    refine z_lv rfl (show _ = [.int (nI nq)] from (by rw [z_min hq10 (by omega)])) rfl ?_
    refine p_istore_n (z_dec zd_X7_layBack 5 rfl) rfl (lv2 := [(2, .int (nI nq)), (0, .ref 1), (1, .ref 7)]) (by decide) rfl (n := 12) rfl ?_
    refine p_aload_n (z_dec zd_X7_layBack 6 rfl) rfl 2 rfl (n := 13) rfl ?_
    refine q_getR (z_dec zd_X7_layBack 7 rfl) zf_X7_19 (i := 9) rfl rfl (n := 16) rfl ?_
    refine p_iconst (z_dec zd_X7_layBack 8 rfl) (v := 0) (by decide) (n := 17) rfl ?_
    refine p_aload_n (z_dec zd_X7_layBack 9 rfl) rfl 1 rfl (n := 18) rfl ?_
    refine q_getR (z_dec zd_X7_layBack 10 rfl) zf_X7_19 (i := 3) rfl rfl (n := 21) rfl ?_
    refine p_iconst (z_dec zd_X7_layBack 11 rfl) (v := 0) (by decide) (n := 22) rfl ?_
    refine p_iload_n (z_dec zd_X7_layBack 12 rfl) rfl 0 rfl (n := 23) rfl ?_
    refine q_copyI (z_dec zd_X7_layBack 13 rfl) zk_X7_82 zk_copy rfl rfl (by decide) (by decide) (0) (0) (nq) rfl rfl rfl (by omega) (by omega) (by omega) (Nat.le_of_ble_eq_true rfl) (n := 26) rfl ?_
    refine p_aload_n (z_dec zd_X7_layBack 14 rfl) rfl 2 rfl (n := 27) rfl ?_
    refine q_getR (z_dec zd_X7_layBack 15 rfl) zf_X7_22 (i := 10) rfl rfl (n := 30) rfl ?_
    refine p_iconst (z_dec zd_X7_layBack 16 rfl) (v := 0) (by decide) (n := 31) rfl ?_
    refine p_aload_n (z_dec zd_X7_layBack 17 rfl) rfl 1 rfl (n := 32) rfl ?_
    refine q_getR (z_dec zd_X7_layBack 18 rfl) zf_X7_22 (i := 4) rfl rfl (n := 35) rfl ?_
    refine p_iconst (z_dec zd_X7_layBack 19 rfl) (v := 0) (by decide) (n := 36) rfl ?_
    refine p_iload_n (z_dec zd_X7_layBack 20 rfl) rfl 0 rfl (n := 37) rfl ?_
    refine q_copyI (z_dec zd_X7_layBack 21 rfl) zk_X7_82 zk_copy rfl rfl (by decide) (by decide) (0) (0) (nq) rfl rfl rfl (by omega) (by omega) (by omega) (Nat.le_of_ble_eq_true rfl) (n := 40) rfl ?_
    refine p_aload_n (z_dec zd_X7_layBack 22 rfl) rfl 2 rfl (n := 41) rfl ?_
    refine q_getR (z_dec zd_X7_layBack 23 rfl) zf_X7_25 (i := 11) rfl rfl (n := 44) rfl ?_
    refine p_iconst (z_dec zd_X7_layBack 24 rfl) (v := 0) (by decide) (n := 45) rfl ?_
    refine p_aload_n (z_dec zd_X7_layBack 25 rfl) rfl 1 rfl (n := 46) rfl ?_
    refine q_getR (z_dec zd_X7_layBack 26 rfl) zf_X7_25 (i := 5) rfl rfl (n := 49) rfl ?_
    refine p_iconst (z_dec zd_X7_layBack 27 rfl) (v := 0) (by decide) (n := 50) rfl ?_
    refine p_iload_n (z_dec zd_X7_layBack 28 rfl) rfl 0 rfl (n := 51) rfl ?_
    refine q_copyI (z_dec zd_X7_layBack 29 rfl) zk_X7_82 zk_copy rfl rfl (by decide) (by decide) (0) (0) (nq) rfl rfl rfl (by omega) (by omega) (by omega) (Nat.le_of_ble_eq_true rfl) (n := 54) rfl ?_
    refine p_aload_n (z_dec zd_X7_layBack 30 rfl) rfl 2 rfl (n := 55) rfl ?_
    refine q_getR (z_dec zd_X7_layBack 31 rfl) zf_X7_34 (i := 12) rfl rfl (n := 58) rfl ?_
    refine p_iconst (z_dec zd_X7_layBack 32 rfl) (v := 0) (by decide) (n := 59) rfl ?_
    refine p_aload_n (z_dec zd_X7_layBack 33 rfl) rfl 1 rfl (n := 60) rfl ?_
    refine q_getR (z_dec zd_X7_layBack 34 rfl) zf_X7_34 (i := 6) rfl rfl (n := 63) rfl ?_
    refine p_iconst (z_dec zd_X7_layBack 35 rfl) (v := 0) (by decide) (n := 64) rfl ?_
    refine p_iconst (z_dec zd_X7_layBack 36 rfl) (v := 5) (by decide) (n := 65) rfl ?_
    refine q_copyI (z_dec zd_X7_layBack 37 rfl) zk_X7_82 zk_copy rfl rfl (by decide) (by decide) (0) (0) (5) rfl rfl rfl (by decide) (by decide) (by omega) (Nat.le_of_ble_eq_true rfl) (n := 68) rfl ?_
    refine p_aload_n (z_dec zd_X7_layBack 38 rfl) rfl 1 rfl (n := 69) rfl ?_
    refine p_aload_n (z_dec zd_X7_layBack 39 rfl) rfl 2 rfl (n := 70) rfl ?_
    refine q_getI (z_dec zd_X7_layBack 40 rfl) zf_X7_28 (by decide) rfl (v := (I 7 5)) rfl (n := 73) rfl ?_
    refine q_putI (z_dec zd_X7_layBack 41 rfl) zp_X7_28 (fun q => by cases q) rfl (n := 76) rfl ?_
    refine p_aload_n (z_dec zd_X7_layBack 42 rfl) rfl 1 rfl (n := 77) rfl ?_
    refine p_aload_n (z_dec zd_X7_layBack 43 rfl) rfl 2 rfl (n := 78) rfl ?_
    refine q_getI (z_dec zd_X7_layBack 44 rfl) zf_X7_31 (by decide) rfl (v := (I 7 6)) rfl (n := 81) rfl ?_
    refine q_putI (z_dec zd_X7_layBack 45 rfl) zp_X7_31 (fun q => by cases q) rfl (n := 84) rfl ?_
    exact p_vret (z_dec zd_X7_layBack 46 rfl) rfl ⟨rfl, rfl, (z_3 (by unfold m_X7_layBack_1_7; rfl) rfl)⟩
  exact hentry
def m_X7_layBack_7_1 (I : Nat → Nat → Int32) (nq : Nat) : Nat → Nat → Int32 := (z_up (z_up (z_ro (z_ro (z_ro (z_ro I 9 (va_cpy (I 3) (I 9) 0 0 nq)) 10 (va_cpy ((z_ro I 9 (va_cpy (I 3) (I 9) 0 0 nq)) 4) ((z_ro I 9 (va_cpy (I 3) (I 9) 0 0 nq)) 10) 0 0 nq)) 11 (va_cpy ((z_ro (z_ro I 9 (va_cpy (I 3) (I 9) 0 0 nq)) 10 (va_cpy ((z_ro I 9 (va_cpy (I 3) (I 9) 0 0 nq)) 4) ((z_ro I 9 (va_cpy (I 3) (I 9) 0 0 nq)) 10) 0 0 nq)) 5) ((z_ro (z_ro I 9 (va_cpy (I 3) (I 9) 0 0 nq)) 10 (va_cpy ((z_ro I 9 (va_cpy (I 3) (I 9) 0 0 nq)) 4) ((z_ro I 9 (va_cpy (I 3) (I 9) 0 0 nq)) 10) 0 0 nq)) 11) 0 0 nq)) 12 (va_cpy ((z_ro (z_ro (z_ro I 9 (va_cpy (I 3) (I 9) 0 0 nq)) 10 (va_cpy ((z_ro I 9 (va_cpy (I 3) (I 9) 0 0 nq)) 4) ((z_ro I 9 (va_cpy (I 3) (I 9) 0 0 nq)) 10) 0 0 nq)) 11 (va_cpy ((z_ro (z_ro I 9 (va_cpy (I 3) (I 9) 0 0 nq)) 10 (va_cpy ((z_ro I 9 (va_cpy (I 3) (I 9) 0 0 nq)) 4) ((z_ro I 9 (va_cpy (I 3) (I 9) 0 0 nq)) 10) 0 0 nq)) 5) ((z_ro (z_ro I 9 (va_cpy (I 3) (I 9) 0 0 nq)) 10 (va_cpy ((z_ro I 9 (va_cpy (I 3) (I 9) 0 0 nq)) 4) ((z_ro I 9 (va_cpy (I 3) (I 9) 0 0 nq)) 10) 0 0 nq)) 11) 0 0 nq)) 6) ((z_ro (z_ro (z_ro I 9 (va_cpy (I 3) (I 9) 0 0 nq)) 10 (va_cpy ((z_ro I 9 (va_cpy (I 3) (I 9) 0 0 nq)) 4) ((z_ro I 9 (va_cpy (I 3) (I 9) 0 0 nq)) 10) 0 0 nq)) 11 (va_cpy ((z_ro (z_ro I 9 (va_cpy (I 3) (I 9) 0 0 nq)) 10 (va_cpy ((z_ro I 9 (va_cpy (I 3) (I 9) 0 0 nq)) 4) ((z_ro I 9 (va_cpy (I 3) (I 9) 0 0 nq)) 10) 0 0 nq)) 5) ((z_ro (z_ro I 9 (va_cpy (I 3) (I 9) 0 0 nq)) 10 (va_cpy ((z_ro I 9 (va_cpy (I 3) (I 9) 0 0 nq)) 4) ((z_ro I 9 (va_cpy (I 3) (I 9) 0 0 nq)) 10) 0 0 nq)) 11) 0 0 nq)) 12) 0 0 5)) 7 5 (I 1 5)) 7 6 (I 1 6))
set_option maxHeartbeats 4000000 in
set_option maxRecDepth 100000 in
theorem c_X7_layBack_7_1 (d : Nat) (hd : 1 ≤ d) (b : Bool) (I : Nat → Nat → Int32) (L : Nat → Nat → Int64) (np nq : Nat) (hnp : I 7 0 = nI np) (hnq : I 1 0 = nI nq) (hq10 : nq ≤ np) (hn10 : np ≤ 10) : z_CT zm_X7_layBack d [.ref 7, .ref 1] SH (I, L, z_R b) 0 0 (z_ret (none) ((m_X7_layBack_7_1 I nq), L, z_R b)) := by
  refine z_enter (by decide +kernel) (Nat.le_of_ble_eq_true rfl) ?_
  have hentry : PW zm_X7_layBack d 0 [(0, .ref 7), (1, .ref 1)] [] SH (I, L, z_R b) 0 0 (z_ret (none) ((m_X7_layBack_7_1 I nq), L, z_R b)) := by
    refine p_aload_n (z_dec zd_X7_layBack 0 rfl) rfl 0 rfl (n := 1) rfl ?_
    refine q_getI (z_dec zd_X7_layBack 1 rfl) zf_X7_9 (by decide) rfl (v := (nI np)) hnp (n := 4) rfl ?_
    refine p_aload_n (z_dec zd_X7_layBack 2 rfl) rfl 1 rfl (n := 5) rfl ?_
    refine q_getI (z_dec zd_X7_layBack 3 rfl) zf_X7_9 (by decide) rfl (v := (nI nq)) hnq (n := 8) rfl ?_
    refine p_mmin (z_dec zd_X7_layBack 4 rfl) zk_X7_66 (by omega) (Nat.le_of_ble_eq_true rfl) (n := 11) rfl ?_
    refine z_lv rfl (show _ = [.int (nI nq)] from (by rw [z_min hq10 (by omega)])) rfl ?_
    refine p_istore_n (z_dec zd_X7_layBack 5 rfl) rfl (lv2 := [(2, .int (nI nq)), (0, .ref 7), (1, .ref 1)]) (by decide) rfl (n := 12) rfl ?_
    refine p_aload_n (z_dec zd_X7_layBack 6 rfl) rfl 2 rfl (n := 13) rfl ?_
    refine q_getR (z_dec zd_X7_layBack 7 rfl) zf_X7_19 (i := 3) rfl rfl (n := 16) rfl ?_
    refine p_iconst (z_dec zd_X7_layBack 8 rfl) (v := 0) (by decide) (n := 17) rfl ?_
    refine p_aload_n (z_dec zd_X7_layBack 9 rfl) rfl 1 rfl (n := 18) rfl ?_
    refine q_getR (z_dec zd_X7_layBack 10 rfl) zf_X7_19 (i := 9) rfl rfl (n := 21) rfl ?_
    refine p_iconst (z_dec zd_X7_layBack 11 rfl) (v := 0) (by decide) (n := 22) rfl ?_
    refine p_iload_n (z_dec zd_X7_layBack 12 rfl) rfl 0 rfl (n := 23) rfl ?_
    refine q_copyI (z_dec zd_X7_layBack 13 rfl) zk_X7_82 zk_copy rfl rfl (by decide) (by decide) (0) (0) (nq) rfl rfl rfl (by omega) (by omega) (by omega) (Nat.le_of_ble_eq_true rfl) (n := 26) rfl ?_
    refine p_aload_n (z_dec zd_X7_layBack 14 rfl) rfl 2 rfl (n := 27) rfl ?_
    refine q_getR (z_dec zd_X7_layBack 15 rfl) zf_X7_22 (i := 4) rfl rfl (n := 30) rfl ?_
    refine p_iconst (z_dec zd_X7_layBack 16 rfl) (v := 0) (by decide) (n := 31) rfl ?_
    refine p_aload_n (z_dec zd_X7_layBack 17 rfl) rfl 1 rfl (n := 32) rfl ?_
    refine q_getR (z_dec zd_X7_layBack 18 rfl) zf_X7_22 (i := 10) rfl rfl (n := 35) rfl ?_
    refine p_iconst (z_dec zd_X7_layBack 19 rfl) (v := 0) (by decide) (n := 36) rfl ?_
    refine p_iload_n (z_dec zd_X7_layBack 20 rfl) rfl 0 rfl (n := 37) rfl ?_
    refine q_copyI (z_dec zd_X7_layBack 21 rfl) zk_X7_82 zk_copy rfl rfl (by decide) (by decide) (0) (0) (nq) rfl rfl rfl (by omega) (by omega) (by omega) (Nat.le_of_ble_eq_true rfl) (n := 40) rfl ?_
    refine p_aload_n (z_dec zd_X7_layBack 22 rfl) rfl 2 rfl (n := 41) rfl ?_
    refine q_getR (z_dec zd_X7_layBack 23 rfl) zf_X7_25 (i := 5) rfl rfl (n := 44) rfl ?_
    refine p_iconst (z_dec zd_X7_layBack 24 rfl) (v := 0) (by decide) (n := 45) rfl ?_
    refine p_aload_n (z_dec zd_X7_layBack 25 rfl) rfl 1 rfl (n := 46) rfl ?_
    refine q_getR (z_dec zd_X7_layBack 26 rfl) zf_X7_25 (i := 11) rfl rfl (n := 49) rfl ?_
    refine p_iconst (z_dec zd_X7_layBack 27 rfl) (v := 0) (by decide) (n := 50) rfl ?_
    refine p_iload_n (z_dec zd_X7_layBack 28 rfl) rfl 0 rfl (n := 51) rfl ?_
    refine q_copyI (z_dec zd_X7_layBack 29 rfl) zk_X7_82 zk_copy rfl rfl (by decide) (by decide) (0) (0) (nq) rfl rfl rfl (by omega) (by omega) (by omega) (Nat.le_of_ble_eq_true rfl) (n := 54) rfl ?_
    refine p_aload_n (z_dec zd_X7_layBack 30 rfl) rfl 2 rfl (n := 55) rfl ?_
    refine q_getR (z_dec zd_X7_layBack 31 rfl) zf_X7_34 (i := 6) rfl rfl (n := 58) rfl ?_
    refine p_iconst (z_dec zd_X7_layBack 32 rfl) (v := 0) (by decide) (n := 59) rfl ?_
    refine p_aload_n (z_dec zd_X7_layBack 33 rfl) rfl 1 rfl (n := 60) rfl ?_
    refine q_getR (z_dec zd_X7_layBack 34 rfl) zf_X7_34 (i := 12) rfl rfl (n := 63) rfl ?_
    refine p_iconst (z_dec zd_X7_layBack 35 rfl) (v := 0) (by decide) (n := 64) rfl ?_
    refine p_iconst (z_dec zd_X7_layBack 36 rfl) (v := 5) (by decide) (n := 65) rfl ?_
    refine q_copyI (z_dec zd_X7_layBack 37 rfl) zk_X7_82 zk_copy rfl rfl (by decide) (by decide) (0) (0) (5) rfl rfl rfl (by decide) (by decide) (by omega) (Nat.le_of_ble_eq_true rfl) (n := 68) rfl ?_
    refine p_aload_n (z_dec zd_X7_layBack 38 rfl) rfl 1 rfl (n := 69) rfl ?_
    refine p_aload_n (z_dec zd_X7_layBack 39 rfl) rfl 2 rfl (n := 70) rfl ?_
    refine q_getI (z_dec zd_X7_layBack 40 rfl) zf_X7_28 (by decide) rfl (v := (I 1 5)) rfl (n := 73) rfl ?_
    refine q_putI (z_dec zd_X7_layBack 41 rfl) zp_X7_28 (fun q => by cases q) rfl (n := 76) rfl ?_
    refine p_aload_n (z_dec zd_X7_layBack 42 rfl) rfl 1 rfl (n := 77) rfl ?_
    refine p_aload_n (z_dec zd_X7_layBack 43 rfl) rfl 2 rfl (n := 78) rfl ?_
    refine q_getI (z_dec zd_X7_layBack 44 rfl) zf_X7_31 (by decide) rfl (v := (I 1 6)) rfl (n := 81) rfl ?_
    refine q_putI (z_dec zd_X7_layBack 45 rfl) zp_X7_31 (fun q => by cases q) rfl (n := 84) rfl ?_
    exact p_vret (z_dec zd_X7_layBack 46 rfl) rfl ⟨rfl, rfl, (z_3 (by unfold m_X7_layBack_7_1; rfl) rfl)⟩
  exact hentry
def m_X7_layBack_19_1 (I : Nat → Nat → Int32) (nq : Nat) : Nat → Nat → Int32 := (z_up (z_up (z_ro (z_ro (z_ro (z_ro I 21 (va_cpy (I 3) (I 21) 0 0 nq)) 22 (va_cpy ((z_ro I 21 (va_cpy (I 3) (I 21) 0 0 nq)) 4) ((z_ro I 21 (va_cpy (I 3) (I 21) 0 0 nq)) 22) 0 0 nq)) 23 (va_cpy ((z_ro (z_ro I 21 (va_cpy (I 3) (I 21) 0 0 nq)) 22 (va_cpy ((z_ro I 21 (va_cpy (I 3) (I 21) 0 0 nq)) 4) ((z_ro I 21 (va_cpy (I 3) (I 21) 0 0 nq)) 22) 0 0 nq)) 5) ((z_ro (z_ro I 21 (va_cpy (I 3) (I 21) 0 0 nq)) 22 (va_cpy ((z_ro I 21 (va_cpy (I 3) (I 21) 0 0 nq)) 4) ((z_ro I 21 (va_cpy (I 3) (I 21) 0 0 nq)) 22) 0 0 nq)) 23) 0 0 nq)) 24 (va_cpy ((z_ro (z_ro (z_ro I 21 (va_cpy (I 3) (I 21) 0 0 nq)) 22 (va_cpy ((z_ro I 21 (va_cpy (I 3) (I 21) 0 0 nq)) 4) ((z_ro I 21 (va_cpy (I 3) (I 21) 0 0 nq)) 22) 0 0 nq)) 23 (va_cpy ((z_ro (z_ro I 21 (va_cpy (I 3) (I 21) 0 0 nq)) 22 (va_cpy ((z_ro I 21 (va_cpy (I 3) (I 21) 0 0 nq)) 4) ((z_ro I 21 (va_cpy (I 3) (I 21) 0 0 nq)) 22) 0 0 nq)) 5) ((z_ro (z_ro I 21 (va_cpy (I 3) (I 21) 0 0 nq)) 22 (va_cpy ((z_ro I 21 (va_cpy (I 3) (I 21) 0 0 nq)) 4) ((z_ro I 21 (va_cpy (I 3) (I 21) 0 0 nq)) 22) 0 0 nq)) 23) 0 0 nq)) 6) ((z_ro (z_ro (z_ro I 21 (va_cpy (I 3) (I 21) 0 0 nq)) 22 (va_cpy ((z_ro I 21 (va_cpy (I 3) (I 21) 0 0 nq)) 4) ((z_ro I 21 (va_cpy (I 3) (I 21) 0 0 nq)) 22) 0 0 nq)) 23 (va_cpy ((z_ro (z_ro I 21 (va_cpy (I 3) (I 21) 0 0 nq)) 22 (va_cpy ((z_ro I 21 (va_cpy (I 3) (I 21) 0 0 nq)) 4) ((z_ro I 21 (va_cpy (I 3) (I 21) 0 0 nq)) 22) 0 0 nq)) 5) ((z_ro (z_ro I 21 (va_cpy (I 3) (I 21) 0 0 nq)) 22 (va_cpy ((z_ro I 21 (va_cpy (I 3) (I 21) 0 0 nq)) 4) ((z_ro I 21 (va_cpy (I 3) (I 21) 0 0 nq)) 22) 0 0 nq)) 23) 0 0 nq)) 24) 0 0 5)) 19 5 (I 1 5)) 19 6 (I 1 6))
set_option maxHeartbeats 4000000 in
set_option maxRecDepth 100000 in
theorem c_X7_layBack_19_1 (d : Nat) (hd : 1 ≤ d) (b : Bool) (I : Nat → Nat → Int32) (L : Nat → Nat → Int64) (np nq : Nat) (hnp : I 19 0 = nI np) (hnq : I 1 0 = nI nq) (hq10 : nq ≤ np) (hn10 : np ≤ 10) : z_CT zm_X7_layBack d [.ref 19, .ref 1] SH (I, L, z_R b) 0 0 (z_ret (none) ((m_X7_layBack_19_1 I nq), L, z_R b)) := by
  refine z_enter (by decide +kernel) (Nat.le_of_ble_eq_true rfl) ?_
  have hentry : PW zm_X7_layBack d 0 [(0, .ref 19), (1, .ref 1)] [] SH (I, L, z_R b) 0 0 (z_ret (none) ((m_X7_layBack_19_1 I nq), L, z_R b)) := by
    refine p_aload_n (z_dec zd_X7_layBack 0 rfl) rfl 0 rfl (n := 1) rfl ?_
    refine q_getI (z_dec zd_X7_layBack 1 rfl) zf_X7_9 (by decide) rfl (v := (nI np)) hnp (n := 4) rfl ?_
    refine p_aload_n (z_dec zd_X7_layBack 2 rfl) rfl 1 rfl (n := 5) rfl ?_
    refine q_getI (z_dec zd_X7_layBack 3 rfl) zf_X7_9 (by decide) rfl (v := (nI nq)) hnq (n := 8) rfl ?_
    refine p_mmin (z_dec zd_X7_layBack 4 rfl) zk_X7_66 (by omega) (Nat.le_of_ble_eq_true rfl) (n := 11) rfl ?_
    refine z_lv rfl (show _ = [.int (nI nq)] from (by rw [z_min hq10 (by omega)])) rfl ?_
    refine p_istore_n (z_dec zd_X7_layBack 5 rfl) rfl (lv2 := [(2, .int (nI nq)), (0, .ref 19), (1, .ref 1)]) (by decide) rfl (n := 12) rfl ?_
    refine p_aload_n (z_dec zd_X7_layBack 6 rfl) rfl 2 rfl (n := 13) rfl ?_
    refine q_getR (z_dec zd_X7_layBack 7 rfl) zf_X7_19 (i := 3) rfl rfl (n := 16) rfl ?_
    refine p_iconst (z_dec zd_X7_layBack 8 rfl) (v := 0) (by decide) (n := 17) rfl ?_
    refine p_aload_n (z_dec zd_X7_layBack 9 rfl) rfl 1 rfl (n := 18) rfl ?_
    refine q_getR (z_dec zd_X7_layBack 10 rfl) zf_X7_19 (i := 21) rfl rfl (n := 21) rfl ?_
    refine p_iconst (z_dec zd_X7_layBack 11 rfl) (v := 0) (by decide) (n := 22) rfl ?_
    refine p_iload_n (z_dec zd_X7_layBack 12 rfl) rfl 0 rfl (n := 23) rfl ?_
    refine q_copyI (z_dec zd_X7_layBack 13 rfl) zk_X7_82 zk_copy rfl rfl (by decide) (by decide) (0) (0) (nq) rfl rfl rfl (by omega) (by omega) (by omega) (Nat.le_of_ble_eq_true rfl) (n := 26) rfl ?_
    refine p_aload_n (z_dec zd_X7_layBack 14 rfl) rfl 2 rfl (n := 27) rfl ?_
    refine q_getR (z_dec zd_X7_layBack 15 rfl) zf_X7_22 (i := 4) rfl rfl (n := 30) rfl ?_
    refine p_iconst (z_dec zd_X7_layBack 16 rfl) (v := 0) (by decide) (n := 31) rfl ?_
    refine p_aload_n (z_dec zd_X7_layBack 17 rfl) rfl 1 rfl (n := 32) rfl ?_
    refine q_getR (z_dec zd_X7_layBack 18 rfl) zf_X7_22 (i := 22) rfl rfl (n := 35) rfl ?_
    refine p_iconst (z_dec zd_X7_layBack 19 rfl) (v := 0) (by decide) (n := 36) rfl ?_
    refine p_iload_n (z_dec zd_X7_layBack 20 rfl) rfl 0 rfl (n := 37) rfl ?_
    refine q_copyI (z_dec zd_X7_layBack 21 rfl) zk_X7_82 zk_copy rfl rfl (by decide) (by decide) (0) (0) (nq) rfl rfl rfl (by omega) (by omega) (by omega) (Nat.le_of_ble_eq_true rfl) (n := 40) rfl ?_
    refine p_aload_n (z_dec zd_X7_layBack 22 rfl) rfl 2 rfl (n := 41) rfl ?_
    refine q_getR (z_dec zd_X7_layBack 23 rfl) zf_X7_25 (i := 5) rfl rfl (n := 44) rfl ?_
    refine p_iconst (z_dec zd_X7_layBack 24 rfl) (v := 0) (by decide) (n := 45) rfl ?_
    refine p_aload_n (z_dec zd_X7_layBack 25 rfl) rfl 1 rfl (n := 46) rfl ?_
    refine q_getR (z_dec zd_X7_layBack 26 rfl) zf_X7_25 (i := 23) rfl rfl (n := 49) rfl ?_
    refine p_iconst (z_dec zd_X7_layBack 27 rfl) (v := 0) (by decide) (n := 50) rfl ?_
    refine p_iload_n (z_dec zd_X7_layBack 28 rfl) rfl 0 rfl (n := 51) rfl ?_
    refine q_copyI (z_dec zd_X7_layBack 29 rfl) zk_X7_82 zk_copy rfl rfl (by decide) (by decide) (0) (0) (nq) rfl rfl rfl (by omega) (by omega) (by omega) (Nat.le_of_ble_eq_true rfl) (n := 54) rfl ?_
    refine p_aload_n (z_dec zd_X7_layBack 30 rfl) rfl 2 rfl (n := 55) rfl ?_
    refine q_getR (z_dec zd_X7_layBack 31 rfl) zf_X7_34 (i := 6) rfl rfl (n := 58) rfl ?_
    refine p_iconst (z_dec zd_X7_layBack 32 rfl) (v := 0) (by decide) (n := 59) rfl ?_
    refine p_aload_n (z_dec zd_X7_layBack 33 rfl) rfl 1 rfl (n := 60) rfl ?_
    refine q_getR (z_dec zd_X7_layBack 34 rfl) zf_X7_34 (i := 24) rfl rfl (n := 63) rfl ?_
    refine p_iconst (z_dec zd_X7_layBack 35 rfl) (v := 0) (by decide) (n := 64) rfl ?_
    refine p_iconst (z_dec zd_X7_layBack 36 rfl) (v := 5) (by decide) (n := 65) rfl ?_
    refine q_copyI (z_dec zd_X7_layBack 37 rfl) zk_X7_82 zk_copy rfl rfl (by decide) (by decide) (0) (0) (5) rfl rfl rfl (by decide) (by decide) (by omega) (Nat.le_of_ble_eq_true rfl) (n := 68) rfl ?_
    refine p_aload_n (z_dec zd_X7_layBack 38 rfl) rfl 1 rfl (n := 69) rfl ?_
    refine p_aload_n (z_dec zd_X7_layBack 39 rfl) rfl 2 rfl (n := 70) rfl ?_
    refine q_getI (z_dec zd_X7_layBack 40 rfl) zf_X7_28 (by decide) rfl (v := (I 1 5)) rfl (n := 73) rfl ?_
    refine q_putI (z_dec zd_X7_layBack 41 rfl) zp_X7_28 (fun q => by cases q) rfl (n := 76) rfl ?_
    refine p_aload_n (z_dec zd_X7_layBack 42 rfl) rfl 1 rfl (n := 77) rfl ?_
    refine p_aload_n (z_dec zd_X7_layBack 43 rfl) rfl 2 rfl (n := 78) rfl ?_
    refine q_getI (z_dec zd_X7_layBack 44 rfl) zf_X7_31 (by decide) rfl (v := (I 1 6)) rfl (n := 81) rfl ?_
    refine q_putI (z_dec zd_X7_layBack 45 rfl) zp_X7_31 (fun q => by cases q) rfl (n := 84) rfl ?_
    exact p_vret (z_dec zd_X7_layBack 46 rfl) rfl ⟨rfl, rfl, (z_3 (by unfold m_X7_layBack_19_1; rfl) rfl)⟩
  exact hentry
def m_X7_layBack_79_1 (I : Nat → Nat → Int32) (nq : Nat) : Nat → Nat → Int32 := (z_up (z_up (z_ro (z_ro (z_ro (z_ro I 81 (va_cpy (I 3) (I 81) 0 0 nq)) 82 (va_cpy ((z_ro I 81 (va_cpy (I 3) (I 81) 0 0 nq)) 4) ((z_ro I 81 (va_cpy (I 3) (I 81) 0 0 nq)) 82) 0 0 nq)) 83 (va_cpy ((z_ro (z_ro I 81 (va_cpy (I 3) (I 81) 0 0 nq)) 82 (va_cpy ((z_ro I 81 (va_cpy (I 3) (I 81) 0 0 nq)) 4) ((z_ro I 81 (va_cpy (I 3) (I 81) 0 0 nq)) 82) 0 0 nq)) 5) ((z_ro (z_ro I 81 (va_cpy (I 3) (I 81) 0 0 nq)) 82 (va_cpy ((z_ro I 81 (va_cpy (I 3) (I 81) 0 0 nq)) 4) ((z_ro I 81 (va_cpy (I 3) (I 81) 0 0 nq)) 82) 0 0 nq)) 83) 0 0 nq)) 84 (va_cpy ((z_ro (z_ro (z_ro I 81 (va_cpy (I 3) (I 81) 0 0 nq)) 82 (va_cpy ((z_ro I 81 (va_cpy (I 3) (I 81) 0 0 nq)) 4) ((z_ro I 81 (va_cpy (I 3) (I 81) 0 0 nq)) 82) 0 0 nq)) 83 (va_cpy ((z_ro (z_ro I 81 (va_cpy (I 3) (I 81) 0 0 nq)) 82 (va_cpy ((z_ro I 81 (va_cpy (I 3) (I 81) 0 0 nq)) 4) ((z_ro I 81 (va_cpy (I 3) (I 81) 0 0 nq)) 82) 0 0 nq)) 5) ((z_ro (z_ro I 81 (va_cpy (I 3) (I 81) 0 0 nq)) 82 (va_cpy ((z_ro I 81 (va_cpy (I 3) (I 81) 0 0 nq)) 4) ((z_ro I 81 (va_cpy (I 3) (I 81) 0 0 nq)) 82) 0 0 nq)) 83) 0 0 nq)) 6) ((z_ro (z_ro (z_ro I 81 (va_cpy (I 3) (I 81) 0 0 nq)) 82 (va_cpy ((z_ro I 81 (va_cpy (I 3) (I 81) 0 0 nq)) 4) ((z_ro I 81 (va_cpy (I 3) (I 81) 0 0 nq)) 82) 0 0 nq)) 83 (va_cpy ((z_ro (z_ro I 81 (va_cpy (I 3) (I 81) 0 0 nq)) 82 (va_cpy ((z_ro I 81 (va_cpy (I 3) (I 81) 0 0 nq)) 4) ((z_ro I 81 (va_cpy (I 3) (I 81) 0 0 nq)) 82) 0 0 nq)) 5) ((z_ro (z_ro I 81 (va_cpy (I 3) (I 81) 0 0 nq)) 82 (va_cpy ((z_ro I 81 (va_cpy (I 3) (I 81) 0 0 nq)) 4) ((z_ro I 81 (va_cpy (I 3) (I 81) 0 0 nq)) 82) 0 0 nq)) 83) 0 0 nq)) 84) 0 0 5)) 79 5 (I 1 5)) 79 6 (I 1 6))
set_option maxHeartbeats 4000000 in
set_option maxRecDepth 100000 in
theorem c_X7_layBack_79_1 (d : Nat) (hd : 1 ≤ d) (b : Bool) (I : Nat → Nat → Int32) (L : Nat → Nat → Int64) (np nq : Nat) (hnp : I 79 0 = nI np) (hnq : I 1 0 = nI nq) (hq10 : nq ≤ np) (hn10 : np ≤ 10) : z_CT zm_X7_layBack d [.ref 79, .ref 1] SH (I, L, z_R b) 0 0 (z_ret (none) ((m_X7_layBack_79_1 I nq), L, z_R b)) := by
  refine z_enter (by decide +kernel) (Nat.le_of_ble_eq_true rfl) ?_
  have hentry : PW zm_X7_layBack d 0 [(0, .ref 79), (1, .ref 1)] [] SH (I, L, z_R b) 0 0 (z_ret (none) ((m_X7_layBack_79_1 I nq), L, z_R b)) := by
    refine p_aload_n (z_dec zd_X7_layBack 0 rfl) rfl 0 rfl (n := 1) rfl ?_
    refine q_getI (z_dec zd_X7_layBack 1 rfl) zf_X7_9 (by decide) rfl (v := (nI np)) hnp (n := 4) rfl ?_
    refine p_aload_n (z_dec zd_X7_layBack 2 rfl) rfl 1 rfl (n := 5) rfl ?_
    refine q_getI (z_dec zd_X7_layBack 3 rfl) zf_X7_9 (by decide) rfl (v := (nI nq)) hnq (n := 8) rfl ?_
    refine p_mmin (z_dec zd_X7_layBack 4 rfl) zk_X7_66 (by omega) (Nat.le_of_ble_eq_true rfl) (n := 11) rfl ?_
    refine z_lv rfl (show _ = [.int (nI nq)] from (by rw [z_min hq10 (by omega)])) rfl ?_
    refine p_istore_n (z_dec zd_X7_layBack 5 rfl) rfl (lv2 := [(2, .int (nI nq)), (0, .ref 79), (1, .ref 1)]) (by decide) rfl (n := 12) rfl ?_
    refine p_aload_n (z_dec zd_X7_layBack 6 rfl) rfl 2 rfl (n := 13) rfl ?_
    refine q_getR (z_dec zd_X7_layBack 7 rfl) zf_X7_19 (i := 3) rfl rfl (n := 16) rfl ?_
    refine p_iconst (z_dec zd_X7_layBack 8 rfl) (v := 0) (by decide) (n := 17) rfl ?_
    refine p_aload_n (z_dec zd_X7_layBack 9 rfl) rfl 1 rfl (n := 18) rfl ?_
    refine q_getR (z_dec zd_X7_layBack 10 rfl) zf_X7_19 (i := 81) rfl rfl (n := 21) rfl ?_
    refine p_iconst (z_dec zd_X7_layBack 11 rfl) (v := 0) (by decide) (n := 22) rfl ?_
    refine p_iload_n (z_dec zd_X7_layBack 12 rfl) rfl 0 rfl (n := 23) rfl ?_
    refine q_copyI (z_dec zd_X7_layBack 13 rfl) zk_X7_82 zk_copy rfl rfl (by decide) (by decide) (0) (0) (nq) rfl rfl rfl (by omega) (by omega) (by omega) (Nat.le_of_ble_eq_true rfl) (n := 26) rfl ?_
    refine p_aload_n (z_dec zd_X7_layBack 14 rfl) rfl 2 rfl (n := 27) rfl ?_
    refine q_getR (z_dec zd_X7_layBack 15 rfl) zf_X7_22 (i := 4) rfl rfl (n := 30) rfl ?_
    refine p_iconst (z_dec zd_X7_layBack 16 rfl) (v := 0) (by decide) (n := 31) rfl ?_
    refine p_aload_n (z_dec zd_X7_layBack 17 rfl) rfl 1 rfl (n := 32) rfl ?_
    refine q_getR (z_dec zd_X7_layBack 18 rfl) zf_X7_22 (i := 82) rfl rfl (n := 35) rfl ?_
    refine p_iconst (z_dec zd_X7_layBack 19 rfl) (v := 0) (by decide) (n := 36) rfl ?_
    refine p_iload_n (z_dec zd_X7_layBack 20 rfl) rfl 0 rfl (n := 37) rfl ?_
    refine q_copyI (z_dec zd_X7_layBack 21 rfl) zk_X7_82 zk_copy rfl rfl (by decide) (by decide) (0) (0) (nq) rfl rfl rfl (by omega) (by omega) (by omega) (Nat.le_of_ble_eq_true rfl) (n := 40) rfl ?_
    refine p_aload_n (z_dec zd_X7_layBack 22 rfl) rfl 2 rfl (n := 41) rfl ?_
    refine q_getR (z_dec zd_X7_layBack 23 rfl) zf_X7_25 (i := 5) rfl rfl (n := 44) rfl ?_
    refine p_iconst (z_dec zd_X7_layBack 24 rfl) (v := 0) (by decide) (n := 45) rfl ?_
    refine p_aload_n (z_dec zd_X7_layBack 25 rfl) rfl 1 rfl (n := 46) rfl ?_
    refine q_getR (z_dec zd_X7_layBack 26 rfl) zf_X7_25 (i := 83) rfl rfl (n := 49) rfl ?_
    refine p_iconst (z_dec zd_X7_layBack 27 rfl) (v := 0) (by decide) (n := 50) rfl ?_
    refine p_iload_n (z_dec zd_X7_layBack 28 rfl) rfl 0 rfl (n := 51) rfl ?_
    refine q_copyI (z_dec zd_X7_layBack 29 rfl) zk_X7_82 zk_copy rfl rfl (by decide) (by decide) (0) (0) (nq) rfl rfl rfl (by omega) (by omega) (by omega) (Nat.le_of_ble_eq_true rfl) (n := 54) rfl ?_
    refine p_aload_n (z_dec zd_X7_layBack 30 rfl) rfl 2 rfl (n := 55) rfl ?_
    refine q_getR (z_dec zd_X7_layBack 31 rfl) zf_X7_34 (i := 6) rfl rfl (n := 58) rfl ?_
    refine p_iconst (z_dec zd_X7_layBack 32 rfl) (v := 0) (by decide) (n := 59) rfl ?_
    refine p_aload_n (z_dec zd_X7_layBack 33 rfl) rfl 1 rfl (n := 60) rfl ?_
    refine q_getR (z_dec zd_X7_layBack 34 rfl) zf_X7_34 (i := 84) rfl rfl (n := 63) rfl ?_
    refine p_iconst (z_dec zd_X7_layBack 35 rfl) (v := 0) (by decide) (n := 64) rfl ?_
    refine p_iconst (z_dec zd_X7_layBack 36 rfl) (v := 5) (by decide) (n := 65) rfl ?_
    refine q_copyI (z_dec zd_X7_layBack 37 rfl) zk_X7_82 zk_copy rfl rfl (by decide) (by decide) (0) (0) (5) rfl rfl rfl (by decide) (by decide) (by omega) (Nat.le_of_ble_eq_true rfl) (n := 68) rfl ?_
    refine p_aload_n (z_dec zd_X7_layBack 38 rfl) rfl 1 rfl (n := 69) rfl ?_
    refine p_aload_n (z_dec zd_X7_layBack 39 rfl) rfl 2 rfl (n := 70) rfl ?_
    refine q_getI (z_dec zd_X7_layBack 40 rfl) zf_X7_28 (by decide) rfl (v := (I 1 5)) rfl (n := 73) rfl ?_
    refine q_putI (z_dec zd_X7_layBack 41 rfl) zp_X7_28 (fun q => by cases q) rfl (n := 76) rfl ?_
    refine p_aload_n (z_dec zd_X7_layBack 42 rfl) rfl 1 rfl (n := 77) rfl ?_
    refine p_aload_n (z_dec zd_X7_layBack 43 rfl) rfl 2 rfl (n := 78) rfl ?_
    refine q_getI (z_dec zd_X7_layBack 44 rfl) zf_X7_31 (by decide) rfl (v := (I 1 6)) rfl (n := 81) rfl ?_
    refine q_putI (z_dec zd_X7_layBack 45 rfl) zp_X7_31 (fun q => by cases q) rfl (n := 84) rfl ?_
    exact p_vret (z_dec zd_X7_layBack 46 rfl) rfl ⟨rfl, rfl, (z_3 (by unfold m_X7_layBack_79_1; rfl) rfl)⟩
  exact hentry
def m_X7_copyAll_7 (I : Nat → Nat → Int32) (np : Nat) : Nat → Nat → Int32 := (m_X7_layBack_7_1 (z_ro (z_up I 7 0 (nI np)) 8 (va_cpy ((z_up I 7 0 (nI np)) 2) ((z_up I 7 0 (nI np)) 8) 0 0 10)) np)
set_option maxHeartbeats 4000000 in
set_option maxRecDepth 100000 in
theorem c_X7_copyAll_7 (d : Nat) (hd : 2 ≤ d) (b : Bool) (I : Nat → Nat → Int32) (L : Nat → Nat → Int64) (np : Nat) (hnp : I 1 0 = nI np) (hn10 : np ≤ 10) : z_CT zm_X7_copyAll d [.ref 7, .ref 1] SH (I, L, z_R b) 0 0 (z_ret (none) ((m_X7_copyAll_7 I np), L, z_R b)) := by
  refine z_enter (by decide +kernel) (Nat.le_of_ble_eq_true rfl) ?_
  have hentry : PW zm_X7_copyAll d 0 [(0, .ref 7), (1, .ref 1)] [] SH (I, L, z_R b) 0 0 (z_ret (none) ((m_X7_copyAll_7 I np), L, z_R b)) := by
    refine p_aload_n (z_dec zd_X7_copyAll 0 rfl) rfl 0 rfl (n := 1) rfl ?_
    refine p_aload_n (z_dec zd_X7_copyAll 1 rfl) rfl 1 rfl (n := 2) rfl ?_
    refine q_getI (z_dec zd_X7_copyAll 2 rfl) zf_X7_9 (by decide) rfl (v := (nI np)) hnp (n := 5) rfl ?_
    refine q_putI (z_dec zd_X7_copyAll 3 rfl) zp_X7_9 (fun q => by cases q) rfl (n := 8) rfl ?_
    refine p_aload_n (z_dec zd_X7_copyAll 4 rfl) rfl 1 rfl (n := 9) rfl ?_
    refine q_getR (z_dec zd_X7_copyAll 5 rfl) zf_X7_15 (i := 2) rfl rfl (n := 12) rfl ?_
    refine p_iconst (z_dec zd_X7_copyAll 6 rfl) (v := 0) (by decide) (n := 13) rfl ?_
    refine p_aload_n (z_dec zd_X7_copyAll 7 rfl) rfl 0 rfl (n := 14) rfl ?_
    refine q_getR (z_dec zd_X7_copyAll 8 rfl) zf_X7_15 (i := 8) rfl rfl (n := 17) rfl ?_
    refine p_iconst (z_dec zd_X7_copyAll 9 rfl) (v := 0) (by decide) (n := 18) rfl ?_
    refine p_bipush (z_dec zd_X7_copyAll 10 rfl) (v := 10) (by decide) (n := 20) rfl ?_
    refine q_copyI (z_dec zd_X7_copyAll 11 rfl) zk_X7_82 zk_copy rfl rfl (by decide) (by decide) (0) (0) (10) rfl rfl rfl (by decide) (by decide) (by omega) (Nat.le_of_ble_eq_true rfl) (n := 23) rfl ?_
    refine p_aload_n (z_dec zd_X7_copyAll 12 rfl) rfl 0 rfl (n := 24) rfl ?_
    refine p_aload_n (z_dec zd_X7_copyAll 13 rfl) rfl 1 rfl (n := 25) rfl ?_
    refine q_callV (As := [.ref 1]) (rest := []) (z_dec zd_X7_copyAll 14 rfl) zk_X7_88 zv_X7_layBack (c_X7_layBack_7_1 (d - 1) (by omega) b (z_ro (z_up I 7 0 (nI np)) 8 (va_cpy ((z_up I 7 0 (nI np)) 2) ((z_up I 7 0 (nI np)) 8) 0 0 10)) L np np rfl hnp (Nat.le_refl _) hn10) rfl ⟨_, _, rfl⟩ rfl rfl (Nat.le_of_ble_eq_true rfl) (by omega) (n := 28) rfl ?_
    show PW zm_X7_copyAll d 28 [(0, .ref 7), (1, .ref 1)] [] SH ((m_X7_layBack_7_1 (z_ro (z_up I 7 0 (nI np)) 8 (va_cpy ((z_up I 7 0 (nI np)) 2) ((z_up I 7 0 (nI np)) 8) 0 0 10)) np), L, z_R b) 0 0 _
    exact p_vret (z_dec zd_X7_copyAll 15 rfl) rfl ⟨rfl, rfl, (z_3 (by unfold m_X7_copyAll_7; rfl) rfl)⟩
  exact hentry
def m_X7_copyAll_19 (I : Nat → Nat → Int32) (np : Nat) : Nat → Nat → Int32 := (m_X7_layBack_19_1 (z_ro (z_up I 19 0 (nI np)) 20 (va_cpy ((z_up I 19 0 (nI np)) 2) ((z_up I 19 0 (nI np)) 20) 0 0 10)) np)
set_option maxHeartbeats 4000000 in
set_option maxRecDepth 100000 in
theorem c_X7_copyAll_19 (d : Nat) (hd : 2 ≤ d) (b : Bool) (I : Nat → Nat → Int32) (L : Nat → Nat → Int64) (np : Nat) (hnp : I 1 0 = nI np) (hn10 : np ≤ 10) : z_CT zm_X7_copyAll d [.ref 19, .ref 1] SH (I, L, z_R b) 0 0 (z_ret (none) ((m_X7_copyAll_19 I np), L, z_R b)) := by
  refine z_enter (by decide +kernel) (Nat.le_of_ble_eq_true rfl) ?_
  have hentry : PW zm_X7_copyAll d 0 [(0, .ref 19), (1, .ref 1)] [] SH (I, L, z_R b) 0 0 (z_ret (none) ((m_X7_copyAll_19 I np), L, z_R b)) := by
    refine p_aload_n (z_dec zd_X7_copyAll 0 rfl) rfl 0 rfl (n := 1) rfl ?_
    refine p_aload_n (z_dec zd_X7_copyAll 1 rfl) rfl 1 rfl (n := 2) rfl ?_
    refine q_getI (z_dec zd_X7_copyAll 2 rfl) zf_X7_9 (by decide) rfl (v := (nI np)) hnp (n := 5) rfl ?_
    refine q_putI (z_dec zd_X7_copyAll 3 rfl) zp_X7_9 (fun q => by cases q) rfl (n := 8) rfl ?_
    refine p_aload_n (z_dec zd_X7_copyAll 4 rfl) rfl 1 rfl (n := 9) rfl ?_
    refine q_getR (z_dec zd_X7_copyAll 5 rfl) zf_X7_15 (i := 2) rfl rfl (n := 12) rfl ?_
    refine p_iconst (z_dec zd_X7_copyAll 6 rfl) (v := 0) (by decide) (n := 13) rfl ?_
    refine p_aload_n (z_dec zd_X7_copyAll 7 rfl) rfl 0 rfl (n := 14) rfl ?_
    refine q_getR (z_dec zd_X7_copyAll 8 rfl) zf_X7_15 (i := 20) rfl rfl (n := 17) rfl ?_
    refine p_iconst (z_dec zd_X7_copyAll 9 rfl) (v := 0) (by decide) (n := 18) rfl ?_
    refine p_bipush (z_dec zd_X7_copyAll 10 rfl) (v := 10) (by decide) (n := 20) rfl ?_
    refine q_copyI (z_dec zd_X7_copyAll 11 rfl) zk_X7_82 zk_copy rfl rfl (by decide) (by decide) (0) (0) (10) rfl rfl rfl (by decide) (by decide) (by omega) (Nat.le_of_ble_eq_true rfl) (n := 23) rfl ?_
    refine p_aload_n (z_dec zd_X7_copyAll 12 rfl) rfl 0 rfl (n := 24) rfl ?_
    refine p_aload_n (z_dec zd_X7_copyAll 13 rfl) rfl 1 rfl (n := 25) rfl ?_
    refine q_callV (As := [.ref 1]) (rest := []) (z_dec zd_X7_copyAll 14 rfl) zk_X7_88 zv_X7_layBack (c_X7_layBack_19_1 (d - 1) (by omega) b (z_ro (z_up I 19 0 (nI np)) 20 (va_cpy ((z_up I 19 0 (nI np)) 2) ((z_up I 19 0 (nI np)) 20) 0 0 10)) L np np rfl hnp (Nat.le_refl _) hn10) rfl ⟨_, _, rfl⟩ rfl rfl (Nat.le_of_ble_eq_true rfl) (by omega) (n := 28) rfl ?_
    show PW zm_X7_copyAll d 28 [(0, .ref 19), (1, .ref 1)] [] SH ((m_X7_layBack_19_1 (z_ro (z_up I 19 0 (nI np)) 20 (va_cpy ((z_up I 19 0 (nI np)) 2) ((z_up I 19 0 (nI np)) 20) 0 0 10)) np), L, z_R b) 0 0 _
    exact p_vret (z_dec zd_X7_copyAll 15 rfl) rfl ⟨rfl, rfl, (z_3 (by unfold m_X7_copyAll_19; rfl) rfl)⟩
  exact hentry
def m_X7_copyAll_79 (I : Nat → Nat → Int32) (np : Nat) : Nat → Nat → Int32 := (m_X7_layBack_79_1 (z_ro (z_up I 79 0 (nI np)) 80 (va_cpy ((z_up I 79 0 (nI np)) 2) ((z_up I 79 0 (nI np)) 80) 0 0 10)) np)
set_option maxHeartbeats 4000000 in
set_option maxRecDepth 100000 in
theorem c_X7_copyAll_79 (d : Nat) (hd : 2 ≤ d) (b : Bool) (I : Nat → Nat → Int32) (L : Nat → Nat → Int64) (np : Nat) (hnp : I 1 0 = nI np) (hn10 : np ≤ 10) : z_CT zm_X7_copyAll d [.ref 79, .ref 1] SH (I, L, z_R b) 0 0 (z_ret (none) ((m_X7_copyAll_79 I np), L, z_R b)) := by
  refine z_enter (by decide +kernel) (Nat.le_of_ble_eq_true rfl) ?_
  have hentry : PW zm_X7_copyAll d 0 [(0, .ref 79), (1, .ref 1)] [] SH (I, L, z_R b) 0 0 (z_ret (none) ((m_X7_copyAll_79 I np), L, z_R b)) := by
    refine p_aload_n (z_dec zd_X7_copyAll 0 rfl) rfl 0 rfl (n := 1) rfl ?_
    refine p_aload_n (z_dec zd_X7_copyAll 1 rfl) rfl 1 rfl (n := 2) rfl ?_
    refine q_getI (z_dec zd_X7_copyAll 2 rfl) zf_X7_9 (by decide) rfl (v := (nI np)) hnp (n := 5) rfl ?_
    refine q_putI (z_dec zd_X7_copyAll 3 rfl) zp_X7_9 (fun q => by cases q) rfl (n := 8) rfl ?_
    refine p_aload_n (z_dec zd_X7_copyAll 4 rfl) rfl 1 rfl (n := 9) rfl ?_
    refine q_getR (z_dec zd_X7_copyAll 5 rfl) zf_X7_15 (i := 2) rfl rfl (n := 12) rfl ?_
    refine p_iconst (z_dec zd_X7_copyAll 6 rfl) (v := 0) (by decide) (n := 13) rfl ?_
    refine p_aload_n (z_dec zd_X7_copyAll 7 rfl) rfl 0 rfl (n := 14) rfl ?_
    refine q_getR (z_dec zd_X7_copyAll 8 rfl) zf_X7_15 (i := 80) rfl rfl (n := 17) rfl ?_
    refine p_iconst (z_dec zd_X7_copyAll 9 rfl) (v := 0) (by decide) (n := 18) rfl ?_
    refine p_bipush (z_dec zd_X7_copyAll 10 rfl) (v := 10) (by decide) (n := 20) rfl ?_
    refine q_copyI (z_dec zd_X7_copyAll 11 rfl) zk_X7_82 zk_copy rfl rfl (by decide) (by decide) (0) (0) (10) rfl rfl rfl (by decide) (by decide) (by omega) (Nat.le_of_ble_eq_true rfl) (n := 23) rfl ?_
    refine p_aload_n (z_dec zd_X7_copyAll 12 rfl) rfl 0 rfl (n := 24) rfl ?_
    refine p_aload_n (z_dec zd_X7_copyAll 13 rfl) rfl 1 rfl (n := 25) rfl ?_
    refine q_callV (As := [.ref 1]) (rest := []) (z_dec zd_X7_copyAll 14 rfl) zk_X7_88 zv_X7_layBack (c_X7_layBack_79_1 (d - 1) (by omega) b (z_ro (z_up I 79 0 (nI np)) 80 (va_cpy ((z_up I 79 0 (nI np)) 2) ((z_up I 79 0 (nI np)) 80) 0 0 10)) L np np rfl hnp (Nat.le_refl _) hn10) rfl ⟨_, _, rfl⟩ rfl rfl (Nat.le_of_ble_eq_true rfl) (by omega) (n := 28) rfl ?_
    show PW zm_X7_copyAll d 28 [(0, .ref 79), (1, .ref 1)] [] SH ((m_X7_layBack_79_1 (z_ro (z_up I 79 0 (nI np)) 80 (va_cpy ((z_up I 79 0 (nI np)) 2) ((z_up I 79 0 (nI np)) 80) 0 0 10)) np), L, z_R b) 0 0 _
    exact p_vret (z_dec zd_X7_copyAll 15 rfl) rfl ⟨rfl, rfl, (z_3 (by unfold m_X7_copyAll_79; rfl) rfl)⟩
  exact hentry
