set_option maxHeartbeats 1000000 in
set_option maxRecDepth 100000 in
theorem c_X5_run2 (d : Nat) (hd : 12 ≤ d) (b : Bool) (I : Nat → Nat → Int32) (L : Nat → Nat → Int64) (n : Nat) (nb : Nat) (hnb : nb < 50) (kd : Nat) (hkd : kd < 8) (hac : yq_ac n nb kd I) (dp : Nat) (hn : n ≤ 740) (hdp : dp ≤ 35) (x : Int32) : z_CT zm_X5_run d [.ref 38, .int 2, .int (-1), .int x, .int (nI dp)] SH (I, L, z_R b) 0 0 (z_ret (some (.int (z_V1 (nI kd) (nI kd) (nI nb) x - z_V2 (nI kd) (nI kd) (nI nb) 1))) ((yq_QL I (2 :: (z_T1 (nI kd) (nI kd) ++ z_T2 (nI kd) (nI kd)))), L, z_R b)) := by
  refine z_enter (by decide +kernel) (Nat.le_of_ble_eq_true rfl) ?_
  have hentry : PW zm_X5_run d 0 [(0, .ref 38), (1, .int 2), (2, .int (-1)), (3, .int x), (4, .int (nI dp))] [] SH (I, L, z_R b) 0 0 (z_ret (some (.int (z_V1 (nI kd) (nI kd) (nI nb) x - z_V2 (nI kd) (nI kd) (nI nb) 1))) ((yq_QL I (2 :: (z_T1 (nI kd) (nI kd) ++ z_T2 (nI kd) (nI kd)))), L, z_R b)) := by
    have hj0 : PW zm_X5_run d 29 [(0, .ref 38), (1, .int 2), (2, .int (-1)), (3, .int x), (4, .int (nI dp))] [] SH ((yq_pC I 2), L, z_R b) 0 0 (z_ret (some (.int (z_V1 (nI kd) (nI kd) (nI nb) x - z_V2 (nI kd) (nI kd) (nI nb) 1))) ((yq_QL I (2 :: (z_T1 (nI kd) (nI kd) ++ z_T2 (nI kd) (nI kd)))), L, z_R b)) := by
      have hA : yq_ac (n + 1) nb kd ((yq_pC I 2)) := yq_acP hac (by omega) _
      refine p_iload_n (z_dec zd_X5_run 16 rfl) rfl 1 rfl (n := 30) rfl ?_
      refine p_lookup (z_dec zd_X5_run 17 rfl) (off := 121) (t := 151) (by decide) rfl (by decide) ?_
      refine p_aload_n (z_dec zd_X5_run 23 rfl) rfl 0 rfl (n := 152) rfl ?_
      refine p_iconst (z_dec zd_X5_run 24 rfl) (v := 1) (by decide) (n := 153) rfl ?_
      refine p_iload_n (z_dec zd_X5_run 25 rfl) rfl 3 rfl (n := 154) rfl ?_
      refine p_iload (z_dec zd_X5_run 26 rfl) 4 rfl (n := 156) rfl ?_
      refine q_callV (As := [.int 1, .int x, .int (nI dp)]) (rest := []) (z_dec zd_X5_run 27 rfl) zk_X5_38 zv_X5_own (c_X5_own1 (d - 1) (by omega) b (yq_pC I 2) L (n + 1) nb hnb kd hkd hA dp (by omega) (by omega) x) rfl ⟨_, _, rfl⟩ rfl rfl (Nat.le_of_ble_eq_true rfl) (by omega) (n := 159) rfl ?_
      show PW zm_X5_run d 159 [(0, .ref 38), (1, .int 2), (2, .int (-1)), (3, .int x), (4, .int (nI dp))] [.int (z_V1 (nI kd) (nI kd) (nI nb) x)] SH ((yq_QL (yq_pC I 2) (z_T1 (nI kd) (nI kd))), L, z_R b) 0 0 _
      have hA1 : yq_ac (n + 1 + 8) nb kd ((yq_QL (yq_pC I 2) (z_T1 (nI kd) (nI kd)))) := yq_acL hA (z_T1 (nI kd) (nI kd)) _ (z_L1 _ _) (by omega)
      refine p_aload_n (z_dec zd_X5_run 28 rfl) rfl 0 rfl (n := 160) rfl ?_
      refine p_iconst (z_dec zd_X5_run 29 rfl) (v := 2) (by decide) (n := 161) rfl ?_
      refine p_iconst (z_dec zd_X5_run 30 rfl) (v := 1) (by decide) (n := 162) rfl ?_
      refine p_iload (z_dec zd_X5_run 31 rfl) 4 rfl (n := 164) rfl ?_
      refine q_callV (As := [.int 2, .int 1, .int (nI dp)]) (rest := [.int (z_V1 (nI kd) (nI kd) (nI nb) x)]) (z_dec zd_X5_run 32 rfl) zk_X5_38 zv_X5_own (c_X5_own2 (d - 1) (by omega) b (yq_QL (yq_pC I 2) (z_T1 (nI kd) (nI kd))) L (n + 1 + 8) nb hnb kd hkd hA1 dp (by omega) (by omega) 1) rfl ⟨_, _, rfl⟩ rfl rfl (Nat.le_of_ble_eq_true rfl) (by omega) (n := 167) rfl ?_
      show PW zm_X5_run d 167 [(0, .ref 38), (1, .int 2), (2, .int (-1)), (3, .int x), (4, .int (nI dp))] [.int (z_V2 (nI kd) (nI kd) (nI nb) 1), .int (z_V1 (nI kd) (nI kd) (nI nb) x)] SH ((yq_QL (yq_QL (yq_pC I 2) (z_T1 (nI kd) (nI kd))) (z_T2 (nI kd) (nI kd))), L, z_R b) 0 0 _
      have hA2 : yq_ac (n + 1 + 8 + 4) nb kd ((yq_QL (yq_QL (yq_pC I 2) (z_T1 (nI kd) (nI kd))) (z_T2 (nI kd) (nI kd)))) := yq_acL hA1 (z_T2 (nI kd) (nI kd)) _ (z_L2 _ _) (by omega)
      refine p_isub (z_dec zd_X5_run 33 rfl) (n := 168) rfl ?_
      exact p_iret (z_dec zd_X5_run 34 rfl) rfl ⟨(z_si (by first | done | rfl)), rfl, (z_3 (by simp only [yq_QL, List.foldl_cons, List.foldl_nil, List.foldl_append]) rfl)⟩
    refine p_aload_n (z_dec zd_X5_run 0 rfl) rfl 0 rfl (n := 1) rfl ?_
    refine q_getI (z_dec zd_X5_run 1 rfl) zf_X5_22 (by decide) rfl (v := (I 38 3)) rfl (n := 4) rfl ?_
    refine p_bipush (z_dec zd_X5_run 2 rfl) (v := 24) (by decide) (n := 6) rfl ?_
    refine p_icmp_ge (z_dec zd_X5_run 3 rfl) (t := 19) (by decide) (n := 9) rfl (fun h6 => ?_) (fun h6 => ?_)
    · refine p_aload_n (z_dec zd_X5_run 10 rfl) rfl 0 rfl (n := 20) rfl ?_
      refine p_dup (z_dec zd_X5_run 11 rfl) rfl (n := 21) rfl ?_
      refine q_getI (z_dec zd_X5_run 12 rfl) zf_X5_22 (by decide) rfl (v := (I 38 3)) rfl (n := 24) rfl ?_
      refine p_iconst (z_dec zd_X5_run 13 rfl) (v := 1) (by decide) (n := 25) rfl ?_
      refine p_iadd (z_dec zd_X5_run 14 rfl) (n := 26) rfl ?_
      refine q_putI (z_dec zd_X5_run 15 rfl) zp_X5_22 (fun q => by cases q) rfl (n := 29) rfl ?_
      exact z_lv rfl rfl (show (_ : z_M) = _ from (z_3 (by unfold yq_pC; first | rw [if_pos h6] | rw [if_neg h6]) rfl)) hj0
    · refine p_aload_n (z_dec zd_X5_run 4 rfl) rfl 0 rfl (n := 10) rfl ?_
      refine q_getR (z_dec zd_X5_run 5 rfl) zf_X5_19 (i := 40) rfl rfl (n := 13) rfl ?_
      refine p_aload_n (z_dec zd_X5_run 6 rfl) rfl 0 rfl (n := 14) rfl ?_
      refine q_getI (z_dec zd_X5_run 7 rfl) zf_X5_22 (by decide) rfl (v := (I 38 3)) rfl (n := 17) rfl ?_
      refine p_iload_n (z_dec zd_X5_run 8 rfl) rfl 1 rfl (n := 18) rfl ?_
      refine q_iast (z_dec zd_X5_run 9 rfl) rfl (by decide) ((I 38 3).toNatClampNeg) hac.1.1 (yq_ix hac.1.1 h6) (n := 19) rfl ?_
      refine p_aload_n (z_dec zd_X5_run 10 rfl) rfl 0 rfl (n := 20) rfl ?_
      refine p_dup (z_dec zd_X5_run 11 rfl) rfl (n := 21) rfl ?_
      refine q_getI (z_dec zd_X5_run 12 rfl) zf_X5_22 (by decide) rfl (v := (I 38 3)) (z_up_k _ _ (by decide)) (n := 24) rfl ?_
      refine p_iconst (z_dec zd_X5_run 13 rfl) (v := 1) (by decide) (n := 25) rfl ?_
      refine p_iadd (z_dec zd_X5_run 14 rfl) (n := 26) rfl ?_
      refine q_putI (z_dec zd_X5_run 15 rfl) zp_X5_22 (fun q => by cases q) rfl (n := 29) rfl ?_
      exact z_lv rfl rfl (show (_ : z_M) = _ from (z_3 (by unfold yq_pC; first | rw [if_pos h6] | rw [if_neg h6]) rfl)) hj0
  exact hentry
set_option maxHeartbeats 1000000 in
set_option maxRecDepth 100000 in
theorem c_X5_from0_3 (d : Nat) (hd : 13 ≤ d) (b : Bool) (I : Nat → Nat → Int32) (L : Nat → Nat → Int64) (n : Nat) (nb : Nat) (hnb : nb < 50) (kd : Nat) (hkd : kd < 8) (hac : yq_ac n nb kd I) (dp : Nat) (hn : n ≤ 720) (hdp : dp ≤ 34) (x : Int32) : z_CT zm_X5_from d [.ref 38, .int 0, .int 3, .int x, .int (nI dp)] SH (I, L, z_R b) 0 0 (z_ret (some (.int (z_V1 (nI kd) (nI kd) (nI nb) x - z_V2 (nI kd) (nI kd) (nI nb) 1))) ((yq_QL I (2 :: (z_T1 (nI kd) (nI kd) ++ z_T2 (nI kd) (nI kd)))), L, z_R b)) := by
  refine z_enter (by decide +kernel) (Nat.le_of_ble_eq_true rfl) ?_
  have hentry : PW zm_X5_from d 0 [(0, .ref 38), (1, .int 0), (2, .int 3), (3, .int x), (4, .int (nI dp))] [] SH (I, L, z_R b) 0 0 (z_ret (some (.int (z_V1 (nI kd) (nI kd) (nI nb) x - z_V2 (nI kd) (nI kd) (nI nb) 1))) ((yq_QL I (2 :: (z_T1 (nI kd) (nI kd) ++ z_T2 (nI kd) (nI kd)))), L, z_R b)) := by
    refine p_iload_n (z_dec zd_X5_from 0 rfl) rfl 1 rfl (n := 1) rfl ?_
    refine p_istore (z_dec zd_X5_from 1 rfl) (lv2 := [(5, .int 0), (0, .ref 38), (1, .int 0), (2, .int 3), (3, .int x), (4, .int (nI dp))]) (by decide) rfl (n := 3) rfl ?_
    refine p_iconst (z_dec zd_X5_from 2 rfl) (v := 0) (by decide) (n := 4) rfl ?_
    refine p_istore (z_dec zd_X5_from 3 rfl) (lv2 := [(6, .int 0), (5, .int 0), (0, .ref 38), (1, .int 0), (2, .int 3), (3, .int x), (4, .int (nI dp))]) (by decide) rfl (n := 6) rfl ?_
    refine p_iload (z_dec zd_X5_from 4 rfl) 0 rfl (n := 8) rfl ?_
    refine p_bipush (z_dec zd_X5_from 5 rfl) (v := 8) (by decide) (n := 10) rfl ?_
    refine p_icmp_ge (z_dec zd_X5_from 6 rfl) (t := 81) (by decide) (n := 13) rfl (fun h10 => ?_) (fun h10 => ?_)
    · exact absurd h10 (by decide)
    · refine p_iload (z_dec zd_X5_from 7 rfl) 1 rfl (n := 15) rfl ?_
      refine q_callS (As := [.int 0]) (rest := []) (z_dec zd_X5_from 8 rfl) zk_X5_28 zs_X5_isKind (c_X5_isKind (d - 1) (by omega) b I L 0) rfl rfl (Nat.le_of_ble_eq_true rfl) (by omega) (n := 18) rfl ?_
      show PW zm_X5_from d 18 [(6, .int 0), (5, .int 0), (0, .ref 38), (1, .int 0), (2, .int 3), (3, .int x), (4, .int (nI dp))] [.int (f_X5_isKind 0)] SH (I, L, z_R b) 0 0 _
      refine z_lv rfl (show _ = [.int 1] from (by first | rfl | decide)) rfl ?_
      refine p_if_eq (z_dec zd_X5_from 9 rfl) (t := 81) (by decide) (n := 21) rfl (fun h18 => ?_) (fun h18 => ?_)
      · exact absurd h18 (by decide)
      · refine p_gets2 (z_dec zd_X5_from 10 rfl) zg_X5_46 (n := 24) rfl ?_
        refine p_iconst (z_dec zd_X5_from 11 rfl) (v := 4) (by decide) (n := 25) rfl ?_
        refine p_iload (z_dec zd_X5_from 12 rfl) 1 rfl (n := 27) rfl ?_
        refine p_imul (z_dec zd_X5_from 13 rfl) (n := 28) rfl ?_
        refine z_lv rfl (show _ = [.int 0, .ref 1002] from (by first | rfl | decide)) rfl ?_
        refine p_iload_n (z_dec zd_X5_from 14 rfl) rfl 4 rfl (n := 29) rfl ?_
        refine p_iadd (z_dec zd_X5_from 15 rfl) (n := 30) rfl ?_
        refine z_lv rfl (show _ = [.int 3, .ref 1002] from (by first | rfl | decide)) rfl ?_
        refine q_tld2 (z_dec zd_X5_from 16 rfl) (3) rfl (by decide) (n := 31) rfl ?_
        refine z_lv rfl (show _ = [.int 2] from (by first | rfl | decide)) rfl ?_
        refine p_istore (z_dec zd_X5_from 17 rfl) (lv2 := [(7, .int 2), (6, .int 0), (5, .int 0), (0, .ref 38), (1, .int 0), (2, .int 3), (3, .int x), (4, .int (nI dp))]) (by decide) rfl (n := 33) rfl ?_
        refine p_iload (z_dec zd_X5_from 18 rfl) 0 rfl (n := 35) rfl ?_
        refine p_if_eq (z_dec zd_X5_from 19 rfl) (t := 67) (by decide) (n := 38) rfl (fun h35 => ?_) (fun h35 => ?_)
        · exact absurd h35 (by decide)
        · refine p_iload (z_dec zd_X5_from 20 rfl) 7 rfl (n := 40) rfl ?_
          refine p_bipush (z_dec zd_X5_from 21 rfl) (v := 40) (by decide) (n := 42) rfl ?_
          refine p_icmp_ge (z_dec zd_X5_from 22 rfl) (t := 65) (by decide) (n := 45) rfl (fun h42 => ?_) (fun h42 => ?_)
          · exact absurd (z_ge (a := 40) h42) (by omega)
          · refine p_aload_n (z_dec zd_X5_from 23 rfl) rfl 3 rfl (n := 46) rfl ?_
            refine p_iload (z_dec zd_X5_from 24 rfl) 0 rfl (n := 48) rfl ?_
            refine p_gets1 (z_dec zd_X5_from 25 rfl) zg_X5_32 (n := 51) rfl ?_
            refine p_iload (z_dec zd_X5_from 26 rfl) 2 rfl (n := 53) rfl ?_
            refine q_tld1 (z_dec zd_X5_from 27 rfl) (0) rfl (by decide) (n := 54) rfl ?_
            refine z_lv rfl (show _ = [.int (-1), .int 2, .ref 38] from (by first | rfl | decide)) rfl ?_
            refine p_iload_n (z_dec zd_X5_from 28 rfl) rfl 6 rfl (n := 55) rfl ?_
            refine p_iload (z_dec zd_X5_from 29 rfl) 7 rfl (n := 57) rfl ?_
            refine p_iconst (z_dec zd_X5_from 30 rfl) (v := 1) (by decide) (n := 58) rfl ?_
            refine p_iadd (z_dec zd_X5_from 31 rfl) (n := 59) rfl ?_
            refine z_lv rfl (show _ = [.int (nI (dp + 1)), .int x, .int (-1), .int 2, .ref 38] from (by rw [nI_1])) rfl ?_
            refine q_callV (As := [.int 2, .int (-1), .int x, .int (nI (dp + 1))]) (rest := []) (z_dec zd_X5_from 32 rfl) zk_X5_49 zv_X5_run (c_X5_run2 (d - 1) (by omega) b I L (n) nb hnb kd hkd hac (dp + 1) (by omega) (by omega) x) rfl ⟨_, _, rfl⟩ rfl rfl (Nat.le_of_ble_eq_true rfl) (by omega) (n := 62) rfl ?_
            show PW zm_X5_from d 62 [(7, .int 2), (6, .int 0), (5, .int 0), (0, .ref 38), (1, .int 0), (2, .int 3), (3, .int x), (4, .int (nI dp))] [.int (z_V1 (nI kd) (nI kd) (nI nb) x - z_V2 (nI kd) (nI kd) (nI nb) 1)] SH ((yq_QL I (2 :: (z_T1 (nI kd) (nI kd) ++ z_T2 (nI kd) (nI kd)))), L, z_R b) 0 0 _
            refine p_goto (z_dec zd_X5_from 33 rfl) (t := 66) (by decide) ?_
            exact p_iret (z_dec zd_X5_from 35 rfl) rfl ⟨(z_si (by first | done | rfl)), rfl, (z_3 (by simp only [yq_QL, List.foldl_cons, List.foldl_nil, List.foldl_append]) rfl)⟩
  exact hentry
set_option maxHeartbeats 1000000 in
set_option maxRecDepth 100000 in
theorem c_X5_from1_3 (d : Nat) (hd : 13 ≤ d) (b : Bool) (I : Nat → Nat → Int32) (L : Nat → Nat → Int64) (n : Nat) (nb : Nat) (hnb : nb < 50) (kd : Nat) (hkd : kd < 8) (hac : yq_ac n nb kd I) (dp : Nat) (hn : n ≤ 720) (hdp : dp ≤ 34) (x : Int32) : z_CT zm_X5_from d [.ref 38, .int 1, .int 3, .int x, .int (nI dp)] SH (I, L, z_R b) 0 0 (z_ret (some (.int (z_V1 (nI kd) (nI kd) (nI nb) x - z_V2 (nI kd) (nI kd) (nI nb) 1))) ((yq_QL I (2 :: (z_T1 (nI kd) (nI kd) ++ z_T2 (nI kd) (nI kd)))), L, z_R b)) := by
  refine z_enter (by decide +kernel) (Nat.le_of_ble_eq_true rfl) ?_
  have hentry : PW zm_X5_from d 0 [(0, .ref 38), (1, .int 1), (2, .int 3), (3, .int x), (4, .int (nI dp))] [] SH (I, L, z_R b) 0 0 (z_ret (some (.int (z_V1 (nI kd) (nI kd) (nI nb) x - z_V2 (nI kd) (nI kd) (nI nb) 1))) ((yq_QL I (2 :: (z_T1 (nI kd) (nI kd) ++ z_T2 (nI kd) (nI kd)))), L, z_R b)) := by
    refine p_iload_n (z_dec zd_X5_from 0 rfl) rfl 1 rfl (n := 1) rfl ?_
    refine p_istore (z_dec zd_X5_from 1 rfl) (lv2 := [(5, .int 1), (0, .ref 38), (1, .int 1), (2, .int 3), (3, .int x), (4, .int (nI dp))]) (by decide) rfl (n := 3) rfl ?_
    refine p_iconst (z_dec zd_X5_from 2 rfl) (v := 0) (by decide) (n := 4) rfl ?_
    refine p_istore (z_dec zd_X5_from 3 rfl) (lv2 := [(6, .int 0), (5, .int 1), (0, .ref 38), (1, .int 1), (2, .int 3), (3, .int x), (4, .int (nI dp))]) (by decide) rfl (n := 6) rfl ?_
    refine p_iload (z_dec zd_X5_from 4 rfl) 0 rfl (n := 8) rfl ?_
    refine p_bipush (z_dec zd_X5_from 5 rfl) (v := 8) (by decide) (n := 10) rfl ?_
    refine p_icmp_ge (z_dec zd_X5_from 6 rfl) (t := 81) (by decide) (n := 13) rfl (fun h10 => ?_) (fun h10 => ?_)
    · exact absurd h10 (by decide)
    · refine p_iload (z_dec zd_X5_from 7 rfl) 1 rfl (n := 15) rfl ?_
      refine q_callS (As := [.int 1]) (rest := []) (z_dec zd_X5_from 8 rfl) zk_X5_28 zs_X5_isKind (c_X5_isKind (d - 1) (by omega) b I L 1) rfl rfl (Nat.le_of_ble_eq_true rfl) (by omega) (n := 18) rfl ?_
      show PW zm_X5_from d 18 [(6, .int 0), (5, .int 1), (0, .ref 38), (1, .int 1), (2, .int 3), (3, .int x), (4, .int (nI dp))] [.int (f_X5_isKind 1)] SH (I, L, z_R b) 0 0 _
      refine z_lv rfl (show _ = [.int 1] from (by first | rfl | decide)) rfl ?_
      refine p_if_eq (z_dec zd_X5_from 9 rfl) (t := 81) (by decide) (n := 21) rfl (fun h18 => ?_) (fun h18 => ?_)
      · exact absurd h18 (by decide)
      · refine p_gets2 (z_dec zd_X5_from 10 rfl) zg_X5_46 (n := 24) rfl ?_
        refine p_iconst (z_dec zd_X5_from 11 rfl) (v := 4) (by decide) (n := 25) rfl ?_
        refine p_iload (z_dec zd_X5_from 12 rfl) 1 rfl (n := 27) rfl ?_
        refine p_imul (z_dec zd_X5_from 13 rfl) (n := 28) rfl ?_
        refine z_lv rfl (show _ = [.int 4, .ref 1002] from (by first | rfl | decide)) rfl ?_
        refine p_iload_n (z_dec zd_X5_from 14 rfl) rfl 4 rfl (n := 29) rfl ?_
        refine p_iadd (z_dec zd_X5_from 15 rfl) (n := 30) rfl ?_
        refine z_lv rfl (show _ = [.int 7, .ref 1002] from (by first | rfl | decide)) rfl ?_
        refine q_tld2 (z_dec zd_X5_from 16 rfl) (7) rfl (by decide) (n := 31) rfl ?_
        refine z_lv rfl (show _ = [.int 0] from (by first | rfl | decide)) rfl ?_
        refine p_istore (z_dec zd_X5_from 17 rfl) (lv2 := [(7, .int 0), (6, .int 0), (5, .int 1), (0, .ref 38), (1, .int 1), (2, .int 3), (3, .int x), (4, .int (nI dp))]) (by decide) rfl (n := 33) rfl ?_
        refine p_iload (z_dec zd_X5_from 18 rfl) 0 rfl (n := 35) rfl ?_
        refine p_if_eq (z_dec zd_X5_from 19 rfl) (t := 67) (by decide) (n := 38) rfl (fun h35 => ?_) (fun h35 => ?_)
        · refine p_gets1 (z_dec zd_X5_from 36 rfl) zg_X5_32 (n := 70) rfl ?_
          refine p_iload (z_dec zd_X5_from 37 rfl) 2 rfl (n := 72) rfl ?_
          refine q_tld1 (z_dec zd_X5_from 38 rfl) (1) rfl (by decide) (n := 73) rfl ?_
          refine z_lv rfl (show _ = [.int 0] from (by first | rfl | decide)) rfl ?_
          refine p_istore (z_dec zd_X5_from 39 rfl) (lv2 := [(5, .int 0), (7, .int 0), (6, .int 0), (0, .ref 38), (1, .int 1), (2, .int 3), (3, .int x), (4, .int (nI dp))]) (by decide) rfl (n := 75) rfl ?_
          refine p_iinc (z_dec zd_X5_from 40 rfl) 2 rfl (v := 1) (by decide) (lv2 := [(6, .int 1), (5, .int 0), (7, .int 0), (0, .ref 38), (1, .int 1), (2, .int 3), (3, .int x), (4, .int (nI dp))]) (by decide) rfl (n := 78) rfl ?_
          refine p_goto (z_dec zd_X5_from 41 rfl) (t := 6) (by decide) ?_
          refine p_iload (z_dec zd_X5_from 4 rfl) 0 rfl (n := 8) rfl ?_
          refine p_bipush (z_dec zd_X5_from 5 rfl) (v := 8) (by decide) (n := 10) rfl ?_
          refine p_icmp_ge (z_dec zd_X5_from 6 rfl) (t := 81) (by decide) (n := 13) rfl (fun h10 => ?_) (fun h10 => ?_)
          · exact absurd h10 (by decide)
          · refine p_iload (z_dec zd_X5_from 7 rfl) 1 rfl (n := 15) rfl ?_
            refine q_callS (As := [.int 0]) (rest := []) (z_dec zd_X5_from 8 rfl) zk_X5_28 zs_X5_isKind (c_X5_isKind (d - 1) (by omega) b I L 0) rfl rfl (Nat.le_of_ble_eq_true rfl) (by omega) (n := 18) rfl ?_
            show PW zm_X5_from d 18 [(6, .int 1), (5, .int 0), (7, .int 0), (0, .ref 38), (1, .int 1), (2, .int 3), (3, .int x), (4, .int (nI dp))] [.int (f_X5_isKind 0)] SH (I, L, z_R b) 0 0 _
            refine z_lv rfl (show _ = [.int 1] from (by first | rfl | decide)) rfl ?_
            refine p_if_eq (z_dec zd_X5_from 9 rfl) (t := 81) (by decide) (n := 21) rfl (fun h18 => ?_) (fun h18 => ?_)
            · exact absurd h18 (by decide)
            · refine p_gets2 (z_dec zd_X5_from 10 rfl) zg_X5_46 (n := 24) rfl ?_
              refine p_iconst (z_dec zd_X5_from 11 rfl) (v := 4) (by decide) (n := 25) rfl ?_
              refine p_iload (z_dec zd_X5_from 12 rfl) 1 rfl (n := 27) rfl ?_
              refine p_imul (z_dec zd_X5_from 13 rfl) (n := 28) rfl ?_
              refine z_lv rfl (show _ = [.int 0, .ref 1002] from (by first | rfl | decide)) rfl ?_
              refine p_iload_n (z_dec zd_X5_from 14 rfl) rfl 5 rfl (n := 29) rfl ?_
              refine p_iadd (z_dec zd_X5_from 15 rfl) (n := 30) rfl ?_
              refine z_lv rfl (show _ = [.int 3, .ref 1002] from (by first | rfl | decide)) rfl ?_
              refine q_tld2 (z_dec zd_X5_from 16 rfl) (3) rfl (by decide) (n := 31) rfl ?_
              refine z_lv rfl (show _ = [.int 2] from (by first | rfl | decide)) rfl ?_
              refine p_istore (z_dec zd_X5_from 17 rfl) (lv2 := [(7, .int 2), (6, .int 1), (5, .int 0), (0, .ref 38), (1, .int 1), (2, .int 3), (3, .int x), (4, .int (nI dp))]) (by decide) rfl (n := 33) rfl ?_
              refine p_iload (z_dec zd_X5_from 18 rfl) 0 rfl (n := 35) rfl ?_
              refine p_if_eq (z_dec zd_X5_from 19 rfl) (t := 67) (by decide) (n := 38) rfl (fun h35 => ?_) (fun h35 => ?_)
              · exact absurd h35 (by decide)
              · refine p_iload (z_dec zd_X5_from 20 rfl) 7 rfl (n := 40) rfl ?_
                refine p_bipush (z_dec zd_X5_from 21 rfl) (v := 40) (by decide) (n := 42) rfl ?_
                refine p_icmp_ge (z_dec zd_X5_from 22 rfl) (t := 65) (by decide) (n := 45) rfl (fun h42 => ?_) (fun h42 => ?_)
                · exact absurd (z_ge (a := 40) h42) (by omega)
                · refine p_aload_n (z_dec zd_X5_from 23 rfl) rfl 3 rfl (n := 46) rfl ?_
                  refine p_iload (z_dec zd_X5_from 24 rfl) 0 rfl (n := 48) rfl ?_
                  refine p_gets1 (z_dec zd_X5_from 25 rfl) zg_X5_32 (n := 51) rfl ?_
                  refine p_iload (z_dec zd_X5_from 26 rfl) 2 rfl (n := 53) rfl ?_
                  refine q_tld1 (z_dec zd_X5_from 27 rfl) (0) rfl (by decide) (n := 54) rfl ?_
                  refine z_lv rfl (show _ = [.int (-1), .int 2, .ref 38] from (by first | rfl | decide)) rfl ?_
                  refine p_iload_n (z_dec zd_X5_from 28 rfl) rfl 6 rfl (n := 55) rfl ?_
                  refine p_iload (z_dec zd_X5_from 29 rfl) 7 rfl (n := 57) rfl ?_
                  refine p_iconst (z_dec zd_X5_from 30 rfl) (v := 1) (by decide) (n := 58) rfl ?_
                  refine p_iadd (z_dec zd_X5_from 31 rfl) (n := 59) rfl ?_
                  refine z_lv rfl (show _ = [.int (nI (dp + 1)), .int x, .int (-1), .int 2, .ref 38] from (by rw [nI_1])) rfl ?_
                  refine q_callV (As := [.int 2, .int (-1), .int x, .int (nI (dp + 1))]) (rest := []) (z_dec zd_X5_from 32 rfl) zk_X5_49 zv_X5_run (c_X5_run2 (d - 1) (by omega) b I L (n) nb hnb kd hkd hac (dp + 1) (by omega) (by omega) x) rfl ⟨_, _, rfl⟩ rfl rfl (Nat.le_of_ble_eq_true rfl) (by omega) (n := 62) rfl ?_
                  show PW zm_X5_from d 62 [(7, .int 2), (6, .int 1), (5, .int 0), (0, .ref 38), (1, .int 1), (2, .int 3), (3, .int x), (4, .int (nI dp))] [.int (z_V1 (nI kd) (nI kd) (nI nb) x - z_V2 (nI kd) (nI kd) (nI nb) 1)] SH ((yq_QL I (2 :: (z_T1 (nI kd) (nI kd) ++ z_T2 (nI kd) (nI kd)))), L, z_R b) 0 0 _
                  refine p_goto (z_dec zd_X5_from 33 rfl) (t := 66) (by decide) ?_
                  exact p_iret (z_dec zd_X5_from 35 rfl) rfl ⟨(z_si (by first | done | rfl)), rfl, (z_3 (by simp only [yq_QL, List.foldl_cons, List.foldl_nil, List.foldl_append]) rfl)⟩
        · exact absurd h35 (by decide)
  exact hentry
set_option maxHeartbeats 1000000 in
set_option maxRecDepth 100000 in
theorem c_X5_from2_3 (d : Nat) (hd : 13 ≤ d) (b : Bool) (I : Nat → Nat → Int32) (L : Nat → Nat → Int64) (n : Nat) (nb : Nat) (hnb : nb < 50) (kd : Nat) (hkd : kd < 8) (hac : yq_ac n nb kd I) (dp : Nat) (hn : n ≤ 720) (hdp : dp ≤ 34) (x : Int32) : z_CT zm_X5_from d [.ref 38, .int 2, .int 3, .int x, .int (nI dp)] SH (I, L, z_R b) 0 0 (z_ret (some (.int (z_V1 (nI kd) (nI kd) (nI nb) x - z_V2 (nI kd) (nI kd) (nI nb) 1))) ((yq_QL I (2 :: (z_T1 (nI kd) (nI kd) ++ z_T2 (nI kd) (nI kd)))), L, z_R b)) := by
  refine z_enter (by decide +kernel) (Nat.le_of_ble_eq_true rfl) ?_
  have hentry : PW zm_X5_from d 0 [(0, .ref 38), (1, .int 2), (2, .int 3), (3, .int x), (4, .int (nI dp))] [] SH (I, L, z_R b) 0 0 (z_ret (some (.int (z_V1 (nI kd) (nI kd) (nI nb) x - z_V2 (nI kd) (nI kd) (nI nb) 1))) ((yq_QL I (2 :: (z_T1 (nI kd) (nI kd) ++ z_T2 (nI kd) (nI kd)))), L, z_R b)) := by
    refine p_iload_n (z_dec zd_X5_from 0 rfl) rfl 1 rfl (n := 1) rfl ?_
    refine p_istore (z_dec zd_X5_from 1 rfl) (lv2 := [(5, .int 2), (0, .ref 38), (1, .int 2), (2, .int 3), (3, .int x), (4, .int (nI dp))]) (by decide) rfl (n := 3) rfl ?_
    refine p_iconst (z_dec zd_X5_from 2 rfl) (v := 0) (by decide) (n := 4) rfl ?_
    refine p_istore (z_dec zd_X5_from 3 rfl) (lv2 := [(6, .int 0), (5, .int 2), (0, .ref 38), (1, .int 2), (2, .int 3), (3, .int x), (4, .int (nI dp))]) (by decide) rfl (n := 6) rfl ?_
    refine p_iload (z_dec zd_X5_from 4 rfl) 0 rfl (n := 8) rfl ?_
    refine p_bipush (z_dec zd_X5_from 5 rfl) (v := 8) (by decide) (n := 10) rfl ?_
    refine p_icmp_ge (z_dec zd_X5_from 6 rfl) (t := 81) (by decide) (n := 13) rfl (fun h10 => ?_) (fun h10 => ?_)
    · exact absurd h10 (by decide)
    · refine p_iload (z_dec zd_X5_from 7 rfl) 1 rfl (n := 15) rfl ?_
      refine q_callS (As := [.int 2]) (rest := []) (z_dec zd_X5_from 8 rfl) zk_X5_28 zs_X5_isKind (c_X5_isKind (d - 1) (by omega) b I L 2) rfl rfl (Nat.le_of_ble_eq_true rfl) (by omega) (n := 18) rfl ?_
      show PW zm_X5_from d 18 [(6, .int 0), (5, .int 2), (0, .ref 38), (1, .int 2), (2, .int 3), (3, .int x), (4, .int (nI dp))] [.int (f_X5_isKind 2)] SH (I, L, z_R b) 0 0 _
      refine z_lv rfl (show _ = [.int 1] from (by first | rfl | decide)) rfl ?_
      refine p_if_eq (z_dec zd_X5_from 9 rfl) (t := 81) (by decide) (n := 21) rfl (fun h18 => ?_) (fun h18 => ?_)
      · exact absurd h18 (by decide)
      · refine p_gets2 (z_dec zd_X5_from 10 rfl) zg_X5_46 (n := 24) rfl ?_
        refine p_iconst (z_dec zd_X5_from 11 rfl) (v := 4) (by decide) (n := 25) rfl ?_
        refine p_iload (z_dec zd_X5_from 12 rfl) 1 rfl (n := 27) rfl ?_
        refine p_imul (z_dec zd_X5_from 13 rfl) (n := 28) rfl ?_
        refine z_lv rfl (show _ = [.int 8, .ref 1002] from (by first | rfl | decide)) rfl ?_
        refine p_iload_n (z_dec zd_X5_from 14 rfl) rfl 4 rfl (n := 29) rfl ?_
        refine p_iadd (z_dec zd_X5_from 15 rfl) (n := 30) rfl ?_
        refine z_lv rfl (show _ = [.int 11, .ref 1002] from (by first | rfl | decide)) rfl ?_
        refine q_tld2 (z_dec zd_X5_from 16 rfl) (11) rfl (by decide) (n := 31) rfl ?_
        refine z_lv rfl (show _ = [.int 0] from (by first | rfl | decide)) rfl ?_
        refine p_istore (z_dec zd_X5_from 17 rfl) (lv2 := [(7, .int 0), (6, .int 0), (5, .int 2), (0, .ref 38), (1, .int 2), (2, .int 3), (3, .int x), (4, .int (nI dp))]) (by decide) rfl (n := 33) rfl ?_
        refine p_iload (z_dec zd_X5_from 18 rfl) 0 rfl (n := 35) rfl ?_
        refine p_if_eq (z_dec zd_X5_from 19 rfl) (t := 67) (by decide) (n := 38) rfl (fun h35 => ?_) (fun h35 => ?_)
        · refine p_gets1 (z_dec zd_X5_from 36 rfl) zg_X5_32 (n := 70) rfl ?_
          refine p_iload (z_dec zd_X5_from 37 rfl) 2 rfl (n := 72) rfl ?_
          refine q_tld1 (z_dec zd_X5_from 38 rfl) (2) rfl (by decide) (n := 73) rfl ?_
          refine z_lv rfl (show _ = [.int 0] from (by first | rfl | decide)) rfl ?_
          refine p_istore (z_dec zd_X5_from 39 rfl) (lv2 := [(5, .int 0), (7, .int 0), (6, .int 0), (0, .ref 38), (1, .int 2), (2, .int 3), (3, .int x), (4, .int (nI dp))]) (by decide) rfl (n := 75) rfl ?_
          refine p_iinc (z_dec zd_X5_from 40 rfl) 2 rfl (v := 1) (by decide) (lv2 := [(6, .int 1), (5, .int 0), (7, .int 0), (0, .ref 38), (1, .int 2), (2, .int 3), (3, .int x), (4, .int (nI dp))]) (by decide) rfl (n := 78) rfl ?_
          refine p_goto (z_dec zd_X5_from 41 rfl) (t := 6) (by decide) ?_
          refine p_iload (z_dec zd_X5_from 4 rfl) 0 rfl (n := 8) rfl ?_
          refine p_bipush (z_dec zd_X5_from 5 rfl) (v := 8) (by decide) (n := 10) rfl ?_
          refine p_icmp_ge (z_dec zd_X5_from 6 rfl) (t := 81) (by decide) (n := 13) rfl (fun h10 => ?_) (fun h10 => ?_)
          · exact absurd h10 (by decide)
          · refine p_iload (z_dec zd_X5_from 7 rfl) 1 rfl (n := 15) rfl ?_
            refine q_callS (As := [.int 0]) (rest := []) (z_dec zd_X5_from 8 rfl) zk_X5_28 zs_X5_isKind (c_X5_isKind (d - 1) (by omega) b I L 0) rfl rfl (Nat.le_of_ble_eq_true rfl) (by omega) (n := 18) rfl ?_
            show PW zm_X5_from d 18 [(6, .int 1), (5, .int 0), (7, .int 0), (0, .ref 38), (1, .int 2), (2, .int 3), (3, .int x), (4, .int (nI dp))] [.int (f_X5_isKind 0)] SH (I, L, z_R b) 0 0 _
            refine z_lv rfl (show _ = [.int 1] from (by first | rfl | decide)) rfl ?_
            refine p_if_eq (z_dec zd_X5_from 9 rfl) (t := 81) (by decide) (n := 21) rfl (fun h18 => ?_) (fun h18 => ?_)
            · exact absurd h18 (by decide)
            · refine p_gets2 (z_dec zd_X5_from 10 rfl) zg_X5_46 (n := 24) rfl ?_
              refine p_iconst (z_dec zd_X5_from 11 rfl) (v := 4) (by decide) (n := 25) rfl ?_
              refine p_iload (z_dec zd_X5_from 12 rfl) 1 rfl (n := 27) rfl ?_
              refine p_imul (z_dec zd_X5_from 13 rfl) (n := 28) rfl ?_
              refine z_lv rfl (show _ = [.int 0, .ref 1002] from (by first | rfl | decide)) rfl ?_
              refine p_iload_n (z_dec zd_X5_from 14 rfl) rfl 5 rfl (n := 29) rfl ?_
              refine p_iadd (z_dec zd_X5_from 15 rfl) (n := 30) rfl ?_
              refine z_lv rfl (show _ = [.int 3, .ref 1002] from (by first | rfl | decide)) rfl ?_
              refine q_tld2 (z_dec zd_X5_from 16 rfl) (3) rfl (by decide) (n := 31) rfl ?_
              refine z_lv rfl (show _ = [.int 2] from (by first | rfl | decide)) rfl ?_
              refine p_istore (z_dec zd_X5_from 17 rfl) (lv2 := [(7, .int 2), (6, .int 1), (5, .int 0), (0, .ref 38), (1, .int 2), (2, .int 3), (3, .int x), (4, .int (nI dp))]) (by decide) rfl (n := 33) rfl ?_
              refine p_iload (z_dec zd_X5_from 18 rfl) 0 rfl (n := 35) rfl ?_
              refine p_if_eq (z_dec zd_X5_from 19 rfl) (t := 67) (by decide) (n := 38) rfl (fun h35 => ?_) (fun h35 => ?_)
              · exact absurd h35 (by decide)
              · refine p_iload (z_dec zd_X5_from 20 rfl) 7 rfl (n := 40) rfl ?_
                refine p_bipush (z_dec zd_X5_from 21 rfl) (v := 40) (by decide) (n := 42) rfl ?_
                refine p_icmp_ge (z_dec zd_X5_from 22 rfl) (t := 65) (by decide) (n := 45) rfl (fun h42 => ?_) (fun h42 => ?_)
                · exact absurd (z_ge (a := 40) h42) (by omega)
                · refine p_aload_n (z_dec zd_X5_from 23 rfl) rfl 3 rfl (n := 46) rfl ?_
                  refine p_iload (z_dec zd_X5_from 24 rfl) 0 rfl (n := 48) rfl ?_
                  refine p_gets1 (z_dec zd_X5_from 25 rfl) zg_X5_32 (n := 51) rfl ?_
                  refine p_iload (z_dec zd_X5_from 26 rfl) 2 rfl (n := 53) rfl ?_
                  refine q_tld1 (z_dec zd_X5_from 27 rfl) (0) rfl (by decide) (n := 54) rfl ?_
                  refine z_lv rfl (show _ = [.int (-1), .int 2, .ref 38] from (by first | rfl | decide)) rfl ?_
                  refine p_iload_n (z_dec zd_X5_from 28 rfl) rfl 6 rfl (n := 55) rfl ?_
                  refine p_iload (z_dec zd_X5_from 29 rfl) 7 rfl (n := 57) rfl ?_
                  refine p_iconst (z_dec zd_X5_from 30 rfl) (v := 1) (by decide) (n := 58) rfl ?_
                  refine p_iadd (z_dec zd_X5_from 31 rfl) (n := 59) rfl ?_
                  refine z_lv rfl (show _ = [.int (nI (dp + 1)), .int x, .int (-1), .int 2, .ref 38] from (by rw [nI_1])) rfl ?_
                  refine q_callV (As := [.int 2, .int (-1), .int x, .int (nI (dp + 1))]) (rest := []) (z_dec zd_X5_from 32 rfl) zk_X5_49 zv_X5_run (c_X5_run2 (d - 1) (by omega) b I L (n) nb hnb kd hkd hac (dp + 1) (by omega) (by omega) x) rfl ⟨_, _, rfl⟩ rfl rfl (Nat.le_of_ble_eq_true rfl) (by omega) (n := 62) rfl ?_
                  show PW zm_X5_from d 62 [(7, .int 2), (6, .int 1), (5, .int 0), (0, .ref 38), (1, .int 2), (2, .int 3), (3, .int x), (4, .int (nI dp))] [.int (z_V1 (nI kd) (nI kd) (nI nb) x - z_V2 (nI kd) (nI kd) (nI nb) 1)] SH ((yq_QL I (2 :: (z_T1 (nI kd) (nI kd) ++ z_T2 (nI kd) (nI kd)))), L, z_R b) 0 0 _
                  refine p_goto (z_dec zd_X5_from 33 rfl) (t := 66) (by decide) ?_
                  exact p_iret (z_dec zd_X5_from 35 rfl) rfl ⟨(z_si (by first | done | rfl)), rfl, (z_3 (by simp only [yq_QL, List.foldl_cons, List.foldl_nil, List.foldl_append]) rfl)⟩
        · exact absurd h35 (by decide)
  exact hentry
set_option maxHeartbeats 1000000 in
set_option maxRecDepth 100000 in
theorem c_X5_from3_3 (d : Nat) (hd : 13 ≤ d) (b : Bool) (I : Nat → Nat → Int32) (L : Nat → Nat → Int64) (n : Nat) (nb : Nat) (hnb : nb < 50) (kd : Nat) (hkd : kd < 8) (hac : yq_ac n nb kd I) (dp : Nat) (hn : n ≤ 720) (hdp : dp ≤ 34) (x : Int32) : z_CT zm_X5_from d [.ref 38, .int 3, .int 3, .int x, .int (nI dp)] SH (I, L, z_R b) 0 0 (z_ret (some (.int (z_V1 (nI kd) (nI kd) (nI nb) x - z_V2 (nI kd) (nI kd) (nI nb) 1))) ((yq_QL I (2 :: (z_T1 (nI kd) (nI kd) ++ z_T2 (nI kd) (nI kd)))), L, z_R b)) := by
  refine z_enter (by decide +kernel) (Nat.le_of_ble_eq_true rfl) ?_
  have hentry : PW zm_X5_from d 0 [(0, .ref 38), (1, .int 3), (2, .int 3), (3, .int x), (4, .int (nI dp))] [] SH (I, L, z_R b) 0 0 (z_ret (some (.int (z_V1 (nI kd) (nI kd) (nI nb) x - z_V2 (nI kd) (nI kd) (nI nb) 1))) ((yq_QL I (2 :: (z_T1 (nI kd) (nI kd) ++ z_T2 (nI kd) (nI kd)))), L, z_R b)) := by
    refine p_iload_n (z_dec zd_X5_from 0 rfl) rfl 1 rfl (n := 1) rfl ?_
    refine p_istore (z_dec zd_X5_from 1 rfl) (lv2 := [(5, .int 3), (0, .ref 38), (1, .int 3), (2, .int 3), (3, .int x), (4, .int (nI dp))]) (by decide) rfl (n := 3) rfl ?_
    refine p_iconst (z_dec zd_X5_from 2 rfl) (v := 0) (by decide) (n := 4) rfl ?_
    refine p_istore (z_dec zd_X5_from 3 rfl) (lv2 := [(6, .int 0), (5, .int 3), (0, .ref 38), (1, .int 3), (2, .int 3), (3, .int x), (4, .int (nI dp))]) (by decide) rfl (n := 6) rfl ?_
    refine p_iload (z_dec zd_X5_from 4 rfl) 0 rfl (n := 8) rfl ?_
    refine p_bipush (z_dec zd_X5_from 5 rfl) (v := 8) (by decide) (n := 10) rfl ?_
    refine p_icmp_ge (z_dec zd_X5_from 6 rfl) (t := 81) (by decide) (n := 13) rfl (fun h10 => ?_) (fun h10 => ?_)
    · exact absurd h10 (by decide)
    · refine p_iload (z_dec zd_X5_from 7 rfl) 1 rfl (n := 15) rfl ?_
      refine q_callS (As := [.int 3]) (rest := []) (z_dec zd_X5_from 8 rfl) zk_X5_28 zs_X5_isKind (c_X5_isKind (d - 1) (by omega) b I L 3) rfl rfl (Nat.le_of_ble_eq_true rfl) (by omega) (n := 18) rfl ?_
      show PW zm_X5_from d 18 [(6, .int 0), (5, .int 3), (0, .ref 38), (1, .int 3), (2, .int 3), (3, .int x), (4, .int (nI dp))] [.int (f_X5_isKind 3)] SH (I, L, z_R b) 0 0 _
      refine z_lv rfl (show _ = [.int 1] from (by first | rfl | decide)) rfl ?_
      refine p_if_eq (z_dec zd_X5_from 9 rfl) (t := 81) (by decide) (n := 21) rfl (fun h18 => ?_) (fun h18 => ?_)
      · exact absurd h18 (by decide)
      · refine p_gets2 (z_dec zd_X5_from 10 rfl) zg_X5_46 (n := 24) rfl ?_
        refine p_iconst (z_dec zd_X5_from 11 rfl) (v := 4) (by decide) (n := 25) rfl ?_
        refine p_iload (z_dec zd_X5_from 12 rfl) 1 rfl (n := 27) rfl ?_
        refine p_imul (z_dec zd_X5_from 13 rfl) (n := 28) rfl ?_
        refine z_lv rfl (show _ = [.int 12, .ref 1002] from (by first | rfl | decide)) rfl ?_
        refine p_iload_n (z_dec zd_X5_from 14 rfl) rfl 4 rfl (n := 29) rfl ?_
        refine p_iadd (z_dec zd_X5_from 15 rfl) (n := 30) rfl ?_
        refine z_lv rfl (show _ = [.int 15, .ref 1002] from (by first | rfl | decide)) rfl ?_
        refine q_tld2 (z_dec zd_X5_from 16 rfl) (15) rfl (by decide) (n := 31) rfl ?_
        refine z_lv rfl (show _ = [.int 0] from (by first | rfl | decide)) rfl ?_
        refine p_istore (z_dec zd_X5_from 17 rfl) (lv2 := [(7, .int 0), (6, .int 0), (5, .int 3), (0, .ref 38), (1, .int 3), (2, .int 3), (3, .int x), (4, .int (nI dp))]) (by decide) rfl (n := 33) rfl ?_
        refine p_iload (z_dec zd_X5_from 18 rfl) 0 rfl (n := 35) rfl ?_
        refine p_if_eq (z_dec zd_X5_from 19 rfl) (t := 67) (by decide) (n := 38) rfl (fun h35 => ?_) (fun h35 => ?_)
        · refine p_gets1 (z_dec zd_X5_from 36 rfl) zg_X5_32 (n := 70) rfl ?_
          refine p_iload (z_dec zd_X5_from 37 rfl) 2 rfl (n := 72) rfl ?_
          refine q_tld1 (z_dec zd_X5_from 38 rfl) (3) rfl (by decide) (n := 73) rfl ?_
          refine z_lv rfl (show _ = [.int 2] from (by first | rfl | decide)) rfl ?_
          refine p_istore (z_dec zd_X5_from 39 rfl) (lv2 := [(5, .int 2), (7, .int 0), (6, .int 0), (0, .ref 38), (1, .int 3), (2, .int 3), (3, .int x), (4, .int (nI dp))]) (by decide) rfl (n := 75) rfl ?_
          refine p_iinc (z_dec zd_X5_from 40 rfl) 2 rfl (v := 1) (by decide) (lv2 := [(6, .int 1), (5, .int 2), (7, .int 0), (0, .ref 38), (1, .int 3), (2, .int 3), (3, .int x), (4, .int (nI dp))]) (by decide) rfl (n := 78) rfl ?_
          refine p_goto (z_dec zd_X5_from 41 rfl) (t := 6) (by decide) ?_
          refine p_iload (z_dec zd_X5_from 4 rfl) 0 rfl (n := 8) rfl ?_
          refine p_bipush (z_dec zd_X5_from 5 rfl) (v := 8) (by decide) (n := 10) rfl ?_
          refine p_icmp_ge (z_dec zd_X5_from 6 rfl) (t := 81) (by decide) (n := 13) rfl (fun h10 => ?_) (fun h10 => ?_)
          · exact absurd h10 (by decide)
          · refine p_iload (z_dec zd_X5_from 7 rfl) 1 rfl (n := 15) rfl ?_
            refine q_callS (As := [.int 2]) (rest := []) (z_dec zd_X5_from 8 rfl) zk_X5_28 zs_X5_isKind (c_X5_isKind (d - 1) (by omega) b I L 2) rfl rfl (Nat.le_of_ble_eq_true rfl) (by omega) (n := 18) rfl ?_
            show PW zm_X5_from d 18 [(6, .int 1), (5, .int 2), (7, .int 0), (0, .ref 38), (1, .int 3), (2, .int 3), (3, .int x), (4, .int (nI dp))] [.int (f_X5_isKind 2)] SH (I, L, z_R b) 0 0 _
            refine z_lv rfl (show _ = [.int 1] from (by first | rfl | decide)) rfl ?_
            refine p_if_eq (z_dec zd_X5_from 9 rfl) (t := 81) (by decide) (n := 21) rfl (fun h18 => ?_) (fun h18 => ?_)
            · exact absurd h18 (by decide)
            · refine p_gets2 (z_dec zd_X5_from 10 rfl) zg_X5_46 (n := 24) rfl ?_
              refine p_iconst (z_dec zd_X5_from 11 rfl) (v := 4) (by decide) (n := 25) rfl ?_
              refine p_iload (z_dec zd_X5_from 12 rfl) 1 rfl (n := 27) rfl ?_
              refine p_imul (z_dec zd_X5_from 13 rfl) (n := 28) rfl ?_
              refine z_lv rfl (show _ = [.int 8, .ref 1002] from (by first | rfl | decide)) rfl ?_
              refine p_iload_n (z_dec zd_X5_from 14 rfl) rfl 5 rfl (n := 29) rfl ?_
              refine p_iadd (z_dec zd_X5_from 15 rfl) (n := 30) rfl ?_
              refine z_lv rfl (show _ = [.int 11, .ref 1002] from (by first | rfl | decide)) rfl ?_
              refine q_tld2 (z_dec zd_X5_from 16 rfl) (11) rfl (by decide) (n := 31) rfl ?_
              refine z_lv rfl (show _ = [.int 0] from (by first | rfl | decide)) rfl ?_
              refine p_istore (z_dec zd_X5_from 17 rfl) (lv2 := [(7, .int 0), (6, .int 1), (5, .int 2), (0, .ref 38), (1, .int 3), (2, .int 3), (3, .int x), (4, .int (nI dp))]) (by decide) rfl (n := 33) rfl ?_
              refine p_iload (z_dec zd_X5_from 18 rfl) 0 rfl (n := 35) rfl ?_
              refine p_if_eq (z_dec zd_X5_from 19 rfl) (t := 67) (by decide) (n := 38) rfl (fun h35 => ?_) (fun h35 => ?_)
              · refine p_gets1 (z_dec zd_X5_from 36 rfl) zg_X5_32 (n := 70) rfl ?_
                refine p_iload (z_dec zd_X5_from 37 rfl) 2 rfl (n := 72) rfl ?_
                refine q_tld1 (z_dec zd_X5_from 38 rfl) (2) rfl (by decide) (n := 73) rfl ?_
                refine z_lv rfl (show _ = [.int 0] from (by first | rfl | decide)) rfl ?_
                refine p_istore (z_dec zd_X5_from 39 rfl) (lv2 := [(5, .int 0), (7, .int 0), (6, .int 1), (0, .ref 38), (1, .int 3), (2, .int 3), (3, .int x), (4, .int (nI dp))]) (by decide) rfl (n := 75) rfl ?_
                refine p_iinc (z_dec zd_X5_from 40 rfl) 2 rfl (v := 2) (by decide) (lv2 := [(6, .int 2), (5, .int 0), (7, .int 0), (0, .ref 38), (1, .int 3), (2, .int 3), (3, .int x), (4, .int (nI dp))]) (by decide) rfl (n := 78) rfl ?_
                refine p_goto (z_dec zd_X5_from 41 rfl) (t := 6) (by decide) ?_
                refine p_iload (z_dec zd_X5_from 4 rfl) 0 rfl (n := 8) rfl ?_
                refine p_bipush (z_dec zd_X5_from 5 rfl) (v := 8) (by decide) (n := 10) rfl ?_
                refine p_icmp_ge (z_dec zd_X5_from 6 rfl) (t := 81) (by decide) (n := 13) rfl (fun h10 => ?_) (fun h10 => ?_)
                · exact absurd h10 (by decide)
                · refine p_iload (z_dec zd_X5_from 7 rfl) 1 rfl (n := 15) rfl ?_
                  refine q_callS (As := [.int 0]) (rest := []) (z_dec zd_X5_from 8 rfl) zk_X5_28 zs_X5_isKind (c_X5_isKind (d - 1) (by omega) b I L 0) rfl rfl (Nat.le_of_ble_eq_true rfl) (by omega) (n := 18) rfl ?_
                  show PW zm_X5_from d 18 [(6, .int 2), (5, .int 0), (7, .int 0), (0, .ref 38), (1, .int 3), (2, .int 3), (3, .int x), (4, .int (nI dp))] [.int (f_X5_isKind 0)] SH (I, L, z_R b) 0 0 _
                  refine z_lv rfl (show _ = [.int 1] from (by first | rfl | decide)) rfl ?_
                  refine p_if_eq (z_dec zd_X5_from 9 rfl) (t := 81) (by decide) (n := 21) rfl (fun h18 => ?_) (fun h18 => ?_)
                  · exact absurd h18 (by decide)
                  · refine p_gets2 (z_dec zd_X5_from 10 rfl) zg_X5_46 (n := 24) rfl ?_
                    refine p_iconst (z_dec zd_X5_from 11 rfl) (v := 4) (by decide) (n := 25) rfl ?_
                    refine p_iload (z_dec zd_X5_from 12 rfl) 1 rfl (n := 27) rfl ?_
                    refine p_imul (z_dec zd_X5_from 13 rfl) (n := 28) rfl ?_
                    refine z_lv rfl (show _ = [.int 0, .ref 1002] from (by first | rfl | decide)) rfl ?_
                    refine p_iload_n (z_dec zd_X5_from 14 rfl) rfl 5 rfl (n := 29) rfl ?_
                    refine p_iadd (z_dec zd_X5_from 15 rfl) (n := 30) rfl ?_
                    refine z_lv rfl (show _ = [.int 3, .ref 1002] from (by first | rfl | decide)) rfl ?_
                    refine q_tld2 (z_dec zd_X5_from 16 rfl) (3) rfl (by decide) (n := 31) rfl ?_
                    refine z_lv rfl (show _ = [.int 2] from (by first | rfl | decide)) rfl ?_
                    refine p_istore (z_dec zd_X5_from 17 rfl) (lv2 := [(7, .int 2), (6, .int 2), (5, .int 0), (0, .ref 38), (1, .int 3), (2, .int 3), (3, .int x), (4, .int (nI dp))]) (by decide) rfl (n := 33) rfl ?_
                    refine p_iload (z_dec zd_X5_from 18 rfl) 0 rfl (n := 35) rfl ?_
                    refine p_if_eq (z_dec zd_X5_from 19 rfl) (t := 67) (by decide) (n := 38) rfl (fun h35 => ?_) (fun h35 => ?_)
                    · exact absurd h35 (by decide)
                    · refine p_iload (z_dec zd_X5_from 20 rfl) 7 rfl (n := 40) rfl ?_
                      refine p_bipush (z_dec zd_X5_from 21 rfl) (v := 40) (by decide) (n := 42) rfl ?_
                      refine p_icmp_ge (z_dec zd_X5_from 22 rfl) (t := 65) (by decide) (n := 45) rfl (fun h42 => ?_) (fun h42 => ?_)
                      · exact absurd (z_ge (a := 40) h42) (by omega)
                      · refine p_aload_n (z_dec zd_X5_from 23 rfl) rfl 3 rfl (n := 46) rfl ?_
                        refine p_iload (z_dec zd_X5_from 24 rfl) 0 rfl (n := 48) rfl ?_
                        refine p_gets1 (z_dec zd_X5_from 25 rfl) zg_X5_32 (n := 51) rfl ?_
                        refine p_iload (z_dec zd_X5_from 26 rfl) 2 rfl (n := 53) rfl ?_
                        refine q_tld1 (z_dec zd_X5_from 27 rfl) (0) rfl (by decide) (n := 54) rfl ?_
                        refine z_lv rfl (show _ = [.int (-1), .int 2, .ref 38] from (by first | rfl | decide)) rfl ?_
                        refine p_iload_n (z_dec zd_X5_from 28 rfl) rfl 6 rfl (n := 55) rfl ?_
                        refine p_iload (z_dec zd_X5_from 29 rfl) 7 rfl (n := 57) rfl ?_
                        refine p_iconst (z_dec zd_X5_from 30 rfl) (v := 1) (by decide) (n := 58) rfl ?_
                        refine p_iadd (z_dec zd_X5_from 31 rfl) (n := 59) rfl ?_
                        refine z_lv rfl (show _ = [.int (nI (dp + 1)), .int x, .int (-1), .int 2, .ref 38] from (by rw [nI_1])) rfl ?_
                        refine q_callV (As := [.int 2, .int (-1), .int x, .int (nI (dp + 1))]) (rest := []) (z_dec zd_X5_from 32 rfl) zk_X5_49 zv_X5_run (c_X5_run2 (d - 1) (by omega) b I L (n) nb hnb kd hkd hac (dp + 1) (by omega) (by omega) x) rfl ⟨_, _, rfl⟩ rfl rfl (Nat.le_of_ble_eq_true rfl) (by omega) (n := 62) rfl ?_
                        show PW zm_X5_from d 62 [(7, .int 2), (6, .int 2), (5, .int 0), (0, .ref 38), (1, .int 3), (2, .int 3), (3, .int x), (4, .int (nI dp))] [.int (z_V1 (nI kd) (nI kd) (nI nb) x - z_V2 (nI kd) (nI kd) (nI nb) 1)] SH ((yq_QL I (2 :: (z_T1 (nI kd) (nI kd) ++ z_T2 (nI kd) (nI kd)))), L, z_R b) 0 0 _
                        refine p_goto (z_dec zd_X5_from 33 rfl) (t := 66) (by decide) ?_
                        exact p_iret (z_dec zd_X5_from 35 rfl) rfl ⟨(z_si (by first | done | rfl)), rfl, (z_3 (by simp only [yq_QL, List.foldl_cons, List.foldl_nil, List.foldl_append]) rfl)⟩
              · exact absurd h35 (by decide)
        · exact absurd h35 (by decide)
  exact hentry
set_option maxHeartbeats 1000000 in
set_option maxRecDepth 100000 in
theorem c_X5_from4_3 (d : Nat) (hd : 13 ≤ d) (b : Bool) (I : Nat → Nat → Int32) (L : Nat → Nat → Int64) (n : Nat) (nb : Nat) (hnb : nb < 50) (kd : Nat) (hkd : kd < 8) (hac : yq_ac n nb kd I) (dp : Nat) (hn : n ≤ 720) (hdp : dp ≤ 34) (x : Int32) : z_CT zm_X5_from d [.ref 38, .int 4, .int 3, .int x, .int (nI dp)] SH (I, L, z_R b) 0 0 (z_ret (some (.int (z_V1 (nI kd) (nI kd) (nI nb) x - z_V2 (nI kd) (nI kd) (nI nb) 1))) ((yq_QL I (2 :: (z_T1 (nI kd) (nI kd) ++ z_T2 (nI kd) (nI kd)))), L, z_R b)) := by
  refine z_enter (by decide +kernel) (Nat.le_of_ble_eq_true rfl) ?_
  have hentry : PW zm_X5_from d 0 [(0, .ref 38), (1, .int 4), (2, .int 3), (3, .int x), (4, .int (nI dp))] [] SH (I, L, z_R b) 0 0 (z_ret (some (.int (z_V1 (nI kd) (nI kd) (nI nb) x - z_V2 (nI kd) (nI kd) (nI nb) 1))) ((yq_QL I (2 :: (z_T1 (nI kd) (nI kd) ++ z_T2 (nI kd) (nI kd)))), L, z_R b)) := by
    refine p_iload_n (z_dec zd_X5_from 0 rfl) rfl 1 rfl (n := 1) rfl ?_
    refine p_istore (z_dec zd_X5_from 1 rfl) (lv2 := [(5, .int 4), (0, .ref 38), (1, .int 4), (2, .int 3), (3, .int x), (4, .int (nI dp))]) (by decide) rfl (n := 3) rfl ?_
    refine p_iconst (z_dec zd_X5_from 2 rfl) (v := 0) (by decide) (n := 4) rfl ?_
    refine p_istore (z_dec zd_X5_from 3 rfl) (lv2 := [(6, .int 0), (5, .int 4), (0, .ref 38), (1, .int 4), (2, .int 3), (3, .int x), (4, .int (nI dp))]) (by decide) rfl (n := 6) rfl ?_
    refine p_iload (z_dec zd_X5_from 4 rfl) 0 rfl (n := 8) rfl ?_
    refine p_bipush (z_dec zd_X5_from 5 rfl) (v := 8) (by decide) (n := 10) rfl ?_
    refine p_icmp_ge (z_dec zd_X5_from 6 rfl) (t := 81) (by decide) (n := 13) rfl (fun h10 => ?_) (fun h10 => ?_)
    · exact absurd h10 (by decide)
    · refine p_iload (z_dec zd_X5_from 7 rfl) 1 rfl (n := 15) rfl ?_
      refine q_callS (As := [.int 4]) (rest := []) (z_dec zd_X5_from 8 rfl) zk_X5_28 zs_X5_isKind (c_X5_isKind (d - 1) (by omega) b I L 4) rfl rfl (Nat.le_of_ble_eq_true rfl) (by omega) (n := 18) rfl ?_
      show PW zm_X5_from d 18 [(6, .int 0), (5, .int 4), (0, .ref 38), (1, .int 4), (2, .int 3), (3, .int x), (4, .int (nI dp))] [.int (f_X5_isKind 4)] SH (I, L, z_R b) 0 0 _
      refine z_lv rfl (show _ = [.int 1] from (by first | rfl | decide)) rfl ?_
      refine p_if_eq (z_dec zd_X5_from 9 rfl) (t := 81) (by decide) (n := 21) rfl (fun h18 => ?_) (fun h18 => ?_)
      · exact absurd h18 (by decide)
      · refine p_gets2 (z_dec zd_X5_from 10 rfl) zg_X5_46 (n := 24) rfl ?_
        refine p_iconst (z_dec zd_X5_from 11 rfl) (v := 4) (by decide) (n := 25) rfl ?_
        refine p_iload (z_dec zd_X5_from 12 rfl) 1 rfl (n := 27) rfl ?_
        refine p_imul (z_dec zd_X5_from 13 rfl) (n := 28) rfl ?_
        refine z_lv rfl (show _ = [.int 16, .ref 1002] from (by first | rfl | decide)) rfl ?_
        refine p_iload_n (z_dec zd_X5_from 14 rfl) rfl 4 rfl (n := 29) rfl ?_
        refine p_iadd (z_dec zd_X5_from 15 rfl) (n := 30) rfl ?_
        refine z_lv rfl (show _ = [.int 19, .ref 1002] from (by first | rfl | decide)) rfl ?_
        refine q_tld2 (z_dec zd_X5_from 16 rfl) (19) rfl (by decide) (n := 31) rfl ?_
        refine z_lv rfl (show _ = [.int 0] from (by first | rfl | decide)) rfl ?_
        refine p_istore (z_dec zd_X5_from 17 rfl) (lv2 := [(7, .int 0), (6, .int 0), (5, .int 4), (0, .ref 38), (1, .int 4), (2, .int 3), (3, .int x), (4, .int (nI dp))]) (by decide) rfl (n := 33) rfl ?_
        refine p_iload (z_dec zd_X5_from 18 rfl) 0 rfl (n := 35) rfl ?_
        refine p_if_eq (z_dec zd_X5_from 19 rfl) (t := 67) (by decide) (n := 38) rfl (fun h35 => ?_) (fun h35 => ?_)
        · refine p_gets1 (z_dec zd_X5_from 36 rfl) zg_X5_32 (n := 70) rfl ?_
          refine p_iload (z_dec zd_X5_from 37 rfl) 2 rfl (n := 72) rfl ?_
          refine q_tld1 (z_dec zd_X5_from 38 rfl) (4) rfl (by decide) (n := 73) rfl ?_
          refine z_lv rfl (show _ = [.int 1] from (by first | rfl | decide)) rfl ?_
          refine p_istore (z_dec zd_X5_from 39 rfl) (lv2 := [(5, .int 1), (7, .int 0), (6, .int 0), (0, .ref 38), (1, .int 4), (2, .int 3), (3, .int x), (4, .int (nI dp))]) (by decide) rfl (n := 75) rfl ?_
          refine p_iinc (z_dec zd_X5_from 40 rfl) 2 rfl (v := 1) (by decide) (lv2 := [(6, .int 1), (5, .int 1), (7, .int 0), (0, .ref 38), (1, .int 4), (2, .int 3), (3, .int x), (4, .int (nI dp))]) (by decide) rfl (n := 78) rfl ?_
          refine p_goto (z_dec zd_X5_from 41 rfl) (t := 6) (by decide) ?_
          refine p_iload (z_dec zd_X5_from 4 rfl) 0 rfl (n := 8) rfl ?_
          refine p_bipush (z_dec zd_X5_from 5 rfl) (v := 8) (by decide) (n := 10) rfl ?_
          refine p_icmp_ge (z_dec zd_X5_from 6 rfl) (t := 81) (by decide) (n := 13) rfl (fun h10 => ?_) (fun h10 => ?_)
          · exact absurd h10 (by decide)
          · refine p_iload (z_dec zd_X5_from 7 rfl) 1 rfl (n := 15) rfl ?_
            refine q_callS (As := [.int 1]) (rest := []) (z_dec zd_X5_from 8 rfl) zk_X5_28 zs_X5_isKind (c_X5_isKind (d - 1) (by omega) b I L 1) rfl rfl (Nat.le_of_ble_eq_true rfl) (by omega) (n := 18) rfl ?_
            show PW zm_X5_from d 18 [(6, .int 1), (5, .int 1), (7, .int 0), (0, .ref 38), (1, .int 4), (2, .int 3), (3, .int x), (4, .int (nI dp))] [.int (f_X5_isKind 1)] SH (I, L, z_R b) 0 0 _
            refine z_lv rfl (show _ = [.int 1] from (by first | rfl | decide)) rfl ?_
            refine p_if_eq (z_dec zd_X5_from 9 rfl) (t := 81) (by decide) (n := 21) rfl (fun h18 => ?_) (fun h18 => ?_)
            · exact absurd h18 (by decide)
            · refine p_gets2 (z_dec zd_X5_from 10 rfl) zg_X5_46 (n := 24) rfl ?_
              refine p_iconst (z_dec zd_X5_from 11 rfl) (v := 4) (by decide) (n := 25) rfl ?_
              refine p_iload (z_dec zd_X5_from 12 rfl) 1 rfl (n := 27) rfl ?_
              refine p_imul (z_dec zd_X5_from 13 rfl) (n := 28) rfl ?_
              refine z_lv rfl (show _ = [.int 4, .ref 1002] from (by first | rfl | decide)) rfl ?_
              refine p_iload_n (z_dec zd_X5_from 14 rfl) rfl 5 rfl (n := 29) rfl ?_
              refine p_iadd (z_dec zd_X5_from 15 rfl) (n := 30) rfl ?_
              refine z_lv rfl (show _ = [.int 7, .ref 1002] from (by first | rfl | decide)) rfl ?_
              refine q_tld2 (z_dec zd_X5_from 16 rfl) (7) rfl (by decide) (n := 31) rfl ?_
              refine z_lv rfl (show _ = [.int 0] from (by first | rfl | decide)) rfl ?_
              refine p_istore (z_dec zd_X5_from 17 rfl) (lv2 := [(7, .int 0), (6, .int 1), (5, .int 1), (0, .ref 38), (1, .int 4), (2, .int 3), (3, .int x), (4, .int (nI dp))]) (by decide) rfl (n := 33) rfl ?_
              refine p_iload (z_dec zd_X5_from 18 rfl) 0 rfl (n := 35) rfl ?_
              refine p_if_eq (z_dec zd_X5_from 19 rfl) (t := 67) (by decide) (n := 38) rfl (fun h35 => ?_) (fun h35 => ?_)
              · refine p_gets1 (z_dec zd_X5_from 36 rfl) zg_X5_32 (n := 70) rfl ?_
                refine p_iload (z_dec zd_X5_from 37 rfl) 2 rfl (n := 72) rfl ?_
                refine q_tld1 (z_dec zd_X5_from 38 rfl) (1) rfl (by decide) (n := 73) rfl ?_
                refine z_lv rfl (show _ = [.int 0] from (by first | rfl | decide)) rfl ?_
                refine p_istore (z_dec zd_X5_from 39 rfl) (lv2 := [(5, .int 0), (7, .int 0), (6, .int 1), (0, .ref 38), (1, .int 4), (2, .int 3), (3, .int x), (4, .int (nI dp))]) (by decide) rfl (n := 75) rfl ?_
                refine p_iinc (z_dec zd_X5_from 40 rfl) 2 rfl (v := 2) (by decide) (lv2 := [(6, .int 2), (5, .int 0), (7, .int 0), (0, .ref 38), (1, .int 4), (2, .int 3), (3, .int x), (4, .int (nI dp))]) (by decide) rfl (n := 78) rfl ?_
                refine p_goto (z_dec zd_X5_from 41 rfl) (t := 6) (by decide) ?_
                refine p_iload (z_dec zd_X5_from 4 rfl) 0 rfl (n := 8) rfl ?_
                refine p_bipush (z_dec zd_X5_from 5 rfl) (v := 8) (by decide) (n := 10) rfl ?_
                refine p_icmp_ge (z_dec zd_X5_from 6 rfl) (t := 81) (by decide) (n := 13) rfl (fun h10 => ?_) (fun h10 => ?_)
                · exact absurd h10 (by decide)
                · refine p_iload (z_dec zd_X5_from 7 rfl) 1 rfl (n := 15) rfl ?_
                  refine q_callS (As := [.int 0]) (rest := []) (z_dec zd_X5_from 8 rfl) zk_X5_28 zs_X5_isKind (c_X5_isKind (d - 1) (by omega) b I L 0) rfl rfl (Nat.le_of_ble_eq_true rfl) (by omega) (n := 18) rfl ?_
                  show PW zm_X5_from d 18 [(6, .int 2), (5, .int 0), (7, .int 0), (0, .ref 38), (1, .int 4), (2, .int 3), (3, .int x), (4, .int (nI dp))] [.int (f_X5_isKind 0)] SH (I, L, z_R b) 0 0 _
                  refine z_lv rfl (show _ = [.int 1] from (by first | rfl | decide)) rfl ?_
                  refine p_if_eq (z_dec zd_X5_from 9 rfl) (t := 81) (by decide) (n := 21) rfl (fun h18 => ?_) (fun h18 => ?_)
                  · exact absurd h18 (by decide)
                  · refine p_gets2 (z_dec zd_X5_from 10 rfl) zg_X5_46 (n := 24) rfl ?_
                    refine p_iconst (z_dec zd_X5_from 11 rfl) (v := 4) (by decide) (n := 25) rfl ?_
                    refine p_iload (z_dec zd_X5_from 12 rfl) 1 rfl (n := 27) rfl ?_
                    refine p_imul (z_dec zd_X5_from 13 rfl) (n := 28) rfl ?_
                    refine z_lv rfl (show _ = [.int 0, .ref 1002] from (by first | rfl | decide)) rfl ?_
                    refine p_iload_n (z_dec zd_X5_from 14 rfl) rfl 5 rfl (n := 29) rfl ?_
                    refine p_iadd (z_dec zd_X5_from 15 rfl) (n := 30) rfl ?_
                    refine z_lv rfl (show _ = [.int 3, .ref 1002] from (by first | rfl | decide)) rfl ?_
                    refine q_tld2 (z_dec zd_X5_from 16 rfl) (3) rfl (by decide) (n := 31) rfl ?_
                    refine z_lv rfl (show _ = [.int 2] from (by first | rfl | decide)) rfl ?_
                    refine p_istore (z_dec zd_X5_from 17 rfl) (lv2 := [(7, .int 2), (6, .int 2), (5, .int 0), (0, .ref 38), (1, .int 4), (2, .int 3), (3, .int x), (4, .int (nI dp))]) (by decide) rfl (n := 33) rfl ?_
                    refine p_iload (z_dec zd_X5_from 18 rfl) 0 rfl (n := 35) rfl ?_
                    refine p_if_eq (z_dec zd_X5_from 19 rfl) (t := 67) (by decide) (n := 38) rfl (fun h35 => ?_) (fun h35 => ?_)
                    · exact absurd h35 (by decide)
                    · refine p_iload (z_dec zd_X5_from 20 rfl) 7 rfl (n := 40) rfl ?_
                      refine p_bipush (z_dec zd_X5_from 21 rfl) (v := 40) (by decide) (n := 42) rfl ?_
                      refine p_icmp_ge (z_dec zd_X5_from 22 rfl) (t := 65) (by decide) (n := 45) rfl (fun h42 => ?_) (fun h42 => ?_)
                      · exact absurd (z_ge (a := 40) h42) (by omega)
                      · refine p_aload_n (z_dec zd_X5_from 23 rfl) rfl 3 rfl (n := 46) rfl ?_
                        refine p_iload (z_dec zd_X5_from 24 rfl) 0 rfl (n := 48) rfl ?_
                        refine p_gets1 (z_dec zd_X5_from 25 rfl) zg_X5_32 (n := 51) rfl ?_
                        refine p_iload (z_dec zd_X5_from 26 rfl) 2 rfl (n := 53) rfl ?_
                        refine q_tld1 (z_dec zd_X5_from 27 rfl) (0) rfl (by decide) (n := 54) rfl ?_
                        refine z_lv rfl (show _ = [.int (-1), .int 2, .ref 38] from (by first | rfl | decide)) rfl ?_
                        refine p_iload_n (z_dec zd_X5_from 28 rfl) rfl 6 rfl (n := 55) rfl ?_
                        refine p_iload (z_dec zd_X5_from 29 rfl) 7 rfl (n := 57) rfl ?_
                        refine p_iconst (z_dec zd_X5_from 30 rfl) (v := 1) (by decide) (n := 58) rfl ?_
                        refine p_iadd (z_dec zd_X5_from 31 rfl) (n := 59) rfl ?_
                        refine z_lv rfl (show _ = [.int (nI (dp + 1)), .int x, .int (-1), .int 2, .ref 38] from (by rw [nI_1])) rfl ?_
                        refine q_callV (As := [.int 2, .int (-1), .int x, .int (nI (dp + 1))]) (rest := []) (z_dec zd_X5_from 32 rfl) zk_X5_49 zv_X5_run (c_X5_run2 (d - 1) (by omega) b I L (n) nb hnb kd hkd hac (dp + 1) (by omega) (by omega) x) rfl ⟨_, _, rfl⟩ rfl rfl (Nat.le_of_ble_eq_true rfl) (by omega) (n := 62) rfl ?_
                        show PW zm_X5_from d 62 [(7, .int 2), (6, .int 2), (5, .int 0), (0, .ref 38), (1, .int 4), (2, .int 3), (3, .int x), (4, .int (nI dp))] [.int (z_V1 (nI kd) (nI kd) (nI nb) x - z_V2 (nI kd) (nI kd) (nI nb) 1)] SH ((yq_QL I (2 :: (z_T1 (nI kd) (nI kd) ++ z_T2 (nI kd) (nI kd)))), L, z_R b) 0 0 _
                        refine p_goto (z_dec zd_X5_from 33 rfl) (t := 66) (by decide) ?_
                        exact p_iret (z_dec zd_X5_from 35 rfl) rfl ⟨(z_si (by first | done | rfl)), rfl, (z_3 (by simp only [yq_QL, List.foldl_cons, List.foldl_nil, List.foldl_append]) rfl)⟩
              · exact absurd h35 (by decide)
        · exact absurd h35 (by decide)
  exact hentry
set_option maxHeartbeats 1000000 in
set_option maxRecDepth 100000 in
theorem c_X5_run60 (d : Nat) (hd : 14 ≤ d) (b : Bool) (I : Nat → Nat → Int32) (L : Nat → Nat → Int64) (n : Nat) (nb : Nat) (hnb : nb < 50) (kd : Nat) (hkd : kd < 8) (hac : yq_ac n nb kd I) (dp : Nat) (hn : n ≤ 700) (hdp : dp ≤ 34) (x : Int32) : z_CT zm_X5_run d [.ref 38, .int 60, .int 3, .int x, .int (nI dp)] SH (I, L, z_R b) 0 0 (z_ret (some (.int ((z_V1 (nI kd) (nI kd) (nI nb) x - z_V2 (nI kd) (nI kd) (nI nb) 1) ^^^ 5))) ((yq_QL I (60 :: 2 :: (z_T1 (nI kd) (nI kd) ++ z_T2 (nI kd) (nI kd)))), L, z_R b)) := by
  refine z_enter (by decide +kernel) (Nat.le_of_ble_eq_true rfl) ?_
  have hentry : PW zm_X5_run d 0 [(0, .ref 38), (1, .int 60), (2, .int 3), (3, .int x), (4, .int (nI dp))] [] SH (I, L, z_R b) 0 0 (z_ret (some (.int ((z_V1 (nI kd) (nI kd) (nI nb) x - z_V2 (nI kd) (nI kd) (nI nb) 1) ^^^ 5))) ((yq_QL I (60 :: 2 :: (z_T1 (nI kd) (nI kd) ++ z_T2 (nI kd) (nI kd)))), L, z_R b)) := by
    have hj0 : PW zm_X5_run d 29 [(0, .ref 38), (1, .int 60), (2, .int 3), (3, .int x), (4, .int (nI dp))] [] SH ((yq_pC I 60), L, z_R b) 0 0 (z_ret (some (.int ((z_V1 (nI kd) (nI kd) (nI nb) x - z_V2 (nI kd) (nI kd) (nI nb) 1) ^^^ 5))) ((yq_QL I (60 :: 2 :: (z_T1 (nI kd) (nI kd) ++ z_T2 (nI kd) (nI kd)))), L, z_R b)) := by
      have hA : yq_ac (n + 1) nb kd ((yq_pC I 60)) := yq_acP hac (by omega) _
      refine p_iload_n (z_dec zd_X5_run 16 rfl) rfl 1 rfl (n := 30) rfl ?_
      refine p_lookup (z_dec zd_X5_run 17 rfl) (off := 223) (t := 253) (by decide) rfl (by decide) ?_
      refine p_aload_n (z_dec zd_X5_run 96 rfl) rfl 0 rfl (n := 254) rfl ?_
      refine p_iload_n (z_dec zd_X5_run 97 rfl) rfl 2 rfl (n := 255) rfl ?_
      refine p_iconst (z_dec zd_X5_run 98 rfl) (v := 3) (by decide) (n := 256) rfl ?_
      refine p_iload_n (z_dec zd_X5_run 99 rfl) rfl 3 rfl (n := 257) rfl ?_
      refine p_iload (z_dec zd_X5_run 100 rfl) 4 rfl (n := 259) rfl ?_
      refine q_callV (As := [.int 3, .int 3, .int x, .int (nI dp)]) (rest := []) (z_dec zd_X5_run 101 rfl) zk_X5_42 zv_X5_from (c_X5_from3_3 (d - 1) (by omega) b (yq_pC I 60) L (n + 1) nb hnb kd hkd hA dp (by omega) (by omega) x) rfl ⟨_, _, rfl⟩ rfl rfl (Nat.le_of_ble_eq_true rfl) (by omega) (n := 262) rfl ?_
      show PW zm_X5_run d 262 [(0, .ref 38), (1, .int 60), (2, .int 3), (3, .int x), (4, .int (nI dp))] [.int (z_V1 (nI kd) (nI kd) (nI nb) x - z_V2 (nI kd) (nI kd) (nI nb) 1)] SH ((yq_QL (yq_pC I 60) (2 :: (z_T1 (nI kd) (nI kd) ++ z_T2 (nI kd) (nI kd)))), L, z_R b) 0 0 _
      have hA1 : yq_ac (n + 1 + 13) nb kd ((yq_QL (yq_pC I 60) (2 :: (z_T1 (nI kd) (nI kd) ++ z_T2 (nI kd) (nI kd))))) := yq_acL hA (2 :: (z_T1 (nI kd) (nI kd) ++ z_T2 (nI kd) (nI kd))) _ (by have h0 := z_L0 (nI kd); have h1 := z_L1 (nI kd) (nI kd); have h2 := z_L2 (nI kd) (nI kd); simp only [List.length_cons, List.length_append, List.length_nil]; omega) (by omega)
      refine p_iconst (z_dec zd_X5_run 102 rfl) (v := 5) (by decide) (n := 263) rfl ?_
      refine p_ixor (z_dec zd_X5_run 103 rfl) (n := 264) rfl ?_
      exact p_iret (z_dec zd_X5_run 104 rfl) rfl ⟨(z_si (by first | done | rfl)), rfl, (z_3 (by simp only [yq_QL, List.foldl_cons, List.foldl_nil, List.foldl_append]) rfl)⟩
    refine p_aload_n (z_dec zd_X5_run 0 rfl) rfl 0 rfl (n := 1) rfl ?_
    refine q_getI (z_dec zd_X5_run 1 rfl) zf_X5_22 (by decide) rfl (v := (I 38 3)) rfl (n := 4) rfl ?_
    refine p_bipush (z_dec zd_X5_run 2 rfl) (v := 24) (by decide) (n := 6) rfl ?_
    refine p_icmp_ge (z_dec zd_X5_run 3 rfl) (t := 19) (by decide) (n := 9) rfl (fun h6 => ?_) (fun h6 => ?_)
    · refine p_aload_n (z_dec zd_X5_run 10 rfl) rfl 0 rfl (n := 20) rfl ?_
      refine p_dup (z_dec zd_X5_run 11 rfl) rfl (n := 21) rfl ?_
      refine q_getI (z_dec zd_X5_run 12 rfl) zf_X5_22 (by decide) rfl (v := (I 38 3)) rfl (n := 24) rfl ?_
      refine p_iconst (z_dec zd_X5_run 13 rfl) (v := 1) (by decide) (n := 25) rfl ?_
      refine p_iadd (z_dec zd_X5_run 14 rfl) (n := 26) rfl ?_
      refine q_putI (z_dec zd_X5_run 15 rfl) zp_X5_22 (fun q => by cases q) rfl (n := 29) rfl ?_
      exact z_lv rfl rfl (show (_ : z_M) = _ from (z_3 (by unfold yq_pC; first | rw [if_pos h6] | rw [if_neg h6]) rfl)) hj0
    · refine p_aload_n (z_dec zd_X5_run 4 rfl) rfl 0 rfl (n := 10) rfl ?_
      refine q_getR (z_dec zd_X5_run 5 rfl) zf_X5_19 (i := 40) rfl rfl (n := 13) rfl ?_
      refine p_aload_n (z_dec zd_X5_run 6 rfl) rfl 0 rfl (n := 14) rfl ?_
      refine q_getI (z_dec zd_X5_run 7 rfl) zf_X5_22 (by decide) rfl (v := (I 38 3)) rfl (n := 17) rfl ?_
      refine p_iload_n (z_dec zd_X5_run 8 rfl) rfl 1 rfl (n := 18) rfl ?_
      refine q_iast (z_dec zd_X5_run 9 rfl) rfl (by decide) ((I 38 3).toNatClampNeg) hac.1.1 (yq_ix hac.1.1 h6) (n := 19) rfl ?_
      refine p_aload_n (z_dec zd_X5_run 10 rfl) rfl 0 rfl (n := 20) rfl ?_
      refine p_dup (z_dec zd_X5_run 11 rfl) rfl (n := 21) rfl ?_
      refine q_getI (z_dec zd_X5_run 12 rfl) zf_X5_22 (by decide) rfl (v := (I 38 3)) (z_up_k _ _ (by decide)) (n := 24) rfl ?_
      refine p_iconst (z_dec zd_X5_run 13 rfl) (v := 1) (by decide) (n := 25) rfl ?_
      refine p_iadd (z_dec zd_X5_run 14 rfl) (n := 26) rfl ?_
      refine q_putI (z_dec zd_X5_run 15 rfl) zp_X5_22 (fun q => by cases q) rfl (n := 29) rfl ?_
      exact z_lv rfl rfl (show (_ : z_M) = _ from (z_3 (by unfold yq_pC; first | rw [if_pos h6] | rw [if_neg h6]) rfl)) hj0
  exact hentry
set_option maxHeartbeats 1000000 in
set_option maxRecDepth 100000 in
theorem c_X5_from5_3 (d : Nat) (hd : 15 ≤ d) (b : Bool) (I : Nat → Nat → Int32) (L : Nat → Nat → Int64) (n : Nat) (nb : Nat) (hnb : nb < 50) (kd : Nat) (hkd : kd < 8) (hac : yq_ac n nb kd I) (dp : Nat) (hn : n ≤ 680) (hdp : dp ≤ 33) (x : Int32) : z_CT zm_X5_from d [.ref 38, .int 5, .int 3, .int x, .int (nI dp)] SH (I, L, z_R b) 0 0 (z_ret (some (.int ((z_V1 (nI kd) (nI kd) (nI nb) x - z_V2 (nI kd) (nI kd) (nI nb) 1) ^^^ 5))) ((yq_QL I (60 :: 2 :: (z_T1 (nI kd) (nI kd) ++ z_T2 (nI kd) (nI kd)))), L, z_R b)) := by
  refine z_enter (by decide +kernel) (Nat.le_of_ble_eq_true rfl) ?_
  have hentry : PW zm_X5_from d 0 [(0, .ref 38), (1, .int 5), (2, .int 3), (3, .int x), (4, .int (nI dp))] [] SH (I, L, z_R b) 0 0 (z_ret (some (.int ((z_V1 (nI kd) (nI kd) (nI nb) x - z_V2 (nI kd) (nI kd) (nI nb) 1) ^^^ 5))) ((yq_QL I (60 :: 2 :: (z_T1 (nI kd) (nI kd) ++ z_T2 (nI kd) (nI kd)))), L, z_R b)) := by
    refine p_iload_n (z_dec zd_X5_from 0 rfl) rfl 1 rfl (n := 1) rfl ?_
    refine p_istore (z_dec zd_X5_from 1 rfl) (lv2 := [(5, .int 5), (0, .ref 38), (1, .int 5), (2, .int 3), (3, .int x), (4, .int (nI dp))]) (by decide) rfl (n := 3) rfl ?_
    refine p_iconst (z_dec zd_X5_from 2 rfl) (v := 0) (by decide) (n := 4) rfl ?_
    refine p_istore (z_dec zd_X5_from 3 rfl) (lv2 := [(6, .int 0), (5, .int 5), (0, .ref 38), (1, .int 5), (2, .int 3), (3, .int x), (4, .int (nI dp))]) (by decide) rfl (n := 6) rfl ?_
    refine p_iload (z_dec zd_X5_from 4 rfl) 0 rfl (n := 8) rfl ?_
    refine p_bipush (z_dec zd_X5_from 5 rfl) (v := 8) (by decide) (n := 10) rfl ?_
    refine p_icmp_ge (z_dec zd_X5_from 6 rfl) (t := 81) (by decide) (n := 13) rfl (fun h10 => ?_) (fun h10 => ?_)
    · exact absurd h10 (by decide)
    · refine p_iload (z_dec zd_X5_from 7 rfl) 1 rfl (n := 15) rfl ?_
      refine q_callS (As := [.int 5]) (rest := []) (z_dec zd_X5_from 8 rfl) zk_X5_28 zs_X5_isKind (c_X5_isKind (d - 1) (by omega) b I L 5) rfl rfl (Nat.le_of_ble_eq_true rfl) (by omega) (n := 18) rfl ?_
      show PW zm_X5_from d 18 [(6, .int 0), (5, .int 5), (0, .ref 38), (1, .int 5), (2, .int 3), (3, .int x), (4, .int (nI dp))] [.int (f_X5_isKind 5)] SH (I, L, z_R b) 0 0 _
      refine z_lv rfl (show _ = [.int 1] from (by first | rfl | decide)) rfl ?_
      refine p_if_eq (z_dec zd_X5_from 9 rfl) (t := 81) (by decide) (n := 21) rfl (fun h18 => ?_) (fun h18 => ?_)
      · exact absurd h18 (by decide)
      · refine p_gets2 (z_dec zd_X5_from 10 rfl) zg_X5_46 (n := 24) rfl ?_
        refine p_iconst (z_dec zd_X5_from 11 rfl) (v := 4) (by decide) (n := 25) rfl ?_
        refine p_iload (z_dec zd_X5_from 12 rfl) 1 rfl (n := 27) rfl ?_
        refine p_imul (z_dec zd_X5_from 13 rfl) (n := 28) rfl ?_
        refine z_lv rfl (show _ = [.int 20, .ref 1002] from (by first | rfl | decide)) rfl ?_
        refine p_iload_n (z_dec zd_X5_from 14 rfl) rfl 4 rfl (n := 29) rfl ?_
        refine p_iadd (z_dec zd_X5_from 15 rfl) (n := 30) rfl ?_
        refine z_lv rfl (show _ = [.int 23, .ref 1002] from (by first | rfl | decide)) rfl ?_
        refine q_tld2 (z_dec zd_X5_from 16 rfl) (23) rfl (by decide) (n := 31) rfl ?_
        refine z_lv rfl (show _ = [.int 60] from (by first | rfl | decide)) rfl ?_
        refine p_istore (z_dec zd_X5_from 17 rfl) (lv2 := [(7, .int 60), (6, .int 0), (5, .int 5), (0, .ref 38), (1, .int 5), (2, .int 3), (3, .int x), (4, .int (nI dp))]) (by decide) rfl (n := 33) rfl ?_
        refine p_iload (z_dec zd_X5_from 18 rfl) 0 rfl (n := 35) rfl ?_
        refine p_if_eq (z_dec zd_X5_from 19 rfl) (t := 67) (by decide) (n := 38) rfl (fun h35 => ?_) (fun h35 => ?_)
        · exact absurd h35 (by decide)
        · refine p_iload (z_dec zd_X5_from 20 rfl) 7 rfl (n := 40) rfl ?_
          refine p_bipush (z_dec zd_X5_from 21 rfl) (v := 40) (by decide) (n := 42) rfl ?_
          refine p_icmp_ge (z_dec zd_X5_from 22 rfl) (t := 65) (by decide) (n := 45) rfl (fun h42 => ?_) (fun h42 => ?_)
          · exact absurd (z_ge (a := 40) h42) (by omega)
          · refine p_aload_n (z_dec zd_X5_from 23 rfl) rfl 3 rfl (n := 46) rfl ?_
            refine p_iload (z_dec zd_X5_from 24 rfl) 0 rfl (n := 48) rfl ?_
            refine p_gets1 (z_dec zd_X5_from 25 rfl) zg_X5_32 (n := 51) rfl ?_
            refine p_iload (z_dec zd_X5_from 26 rfl) 2 rfl (n := 53) rfl ?_
            refine q_tld1 (z_dec zd_X5_from 27 rfl) (5) rfl (by decide) (n := 54) rfl ?_
            refine z_lv rfl (show _ = [.int 3, .int 60, .ref 38] from (by first | rfl | decide)) rfl ?_
            refine p_iload_n (z_dec zd_X5_from 28 rfl) rfl 6 rfl (n := 55) rfl ?_
            refine p_iload (z_dec zd_X5_from 29 rfl) 7 rfl (n := 57) rfl ?_
            refine p_iconst (z_dec zd_X5_from 30 rfl) (v := 1) (by decide) (n := 58) rfl ?_
            refine p_iadd (z_dec zd_X5_from 31 rfl) (n := 59) rfl ?_
            refine z_lv rfl (show _ = [.int (nI (dp + 1)), .int x, .int 3, .int 60, .ref 38] from (by rw [nI_1])) rfl ?_
            refine q_callV (As := [.int 60, .int 3, .int x, .int (nI (dp + 1))]) (rest := []) (z_dec zd_X5_from 32 rfl) zk_X5_49 zv_X5_run (c_X5_run60 (d - 1) (by omega) b I L (n) nb hnb kd hkd hac (dp + 1) (by omega) (by omega) x) rfl ⟨_, _, rfl⟩ rfl rfl (Nat.le_of_ble_eq_true rfl) (by omega) (n := 62) rfl ?_
            show PW zm_X5_from d 62 [(7, .int 60), (6, .int 0), (5, .int 5), (0, .ref 38), (1, .int 5), (2, .int 3), (3, .int x), (4, .int (nI dp))] [.int ((z_V1 (nI kd) (nI kd) (nI nb) x - z_V2 (nI kd) (nI kd) (nI nb) 1) ^^^ 5)] SH ((yq_QL I (60 :: 2 :: (z_T1 (nI kd) (nI kd) ++ z_T2 (nI kd) (nI kd)))), L, z_R b) 0 0 _
            refine p_goto (z_dec zd_X5_from 33 rfl) (t := 66) (by decide) ?_
            exact p_iret (z_dec zd_X5_from 35 rfl) rfl ⟨(z_si (by first | done | rfl)), rfl, (z_3 (by simp only [yq_QL, List.foldl_cons, List.foldl_nil, List.foldl_append]) rfl)⟩
  exact hentry
set_option maxHeartbeats 1000000 in
set_option maxRecDepth 100000 in
theorem c_X5_from6_3 (d : Nat) (hd : 13 ≤ d) (b : Bool) (I : Nat → Nat → Int32) (L : Nat → Nat → Int64) (n : Nat) (nb : Nat) (hnb : nb < 50) (kd : Nat) (hkd : kd < 8) (hac : yq_ac n nb kd I) (dp : Nat) (hn : n ≤ 720) (hdp : dp ≤ 34) (x : Int32) : z_CT zm_X5_from d [.ref 38, .int 6, .int 3, .int x, .int (nI dp)] SH (I, L, z_R b) 0 0 (z_ret (some (.int (z_V1 (nI kd) (nI kd) (nI nb) x - z_V2 (nI kd) (nI kd) (nI nb) 1))) ((yq_QL I (2 :: (z_T1 (nI kd) (nI kd) ++ z_T2 (nI kd) (nI kd)))), L, z_R b)) := by
  refine z_enter (by decide +kernel) (Nat.le_of_ble_eq_true rfl) ?_
  have hentry : PW zm_X5_from d 0 [(0, .ref 38), (1, .int 6), (2, .int 3), (3, .int x), (4, .int (nI dp))] [] SH (I, L, z_R b) 0 0 (z_ret (some (.int (z_V1 (nI kd) (nI kd) (nI nb) x - z_V2 (nI kd) (nI kd) (nI nb) 1))) ((yq_QL I (2 :: (z_T1 (nI kd) (nI kd) ++ z_T2 (nI kd) (nI kd)))), L, z_R b)) := by
    refine p_iload_n (z_dec zd_X5_from 0 rfl) rfl 1 rfl (n := 1) rfl ?_
    refine p_istore (z_dec zd_X5_from 1 rfl) (lv2 := [(5, .int 6), (0, .ref 38), (1, .int 6), (2, .int 3), (3, .int x), (4, .int (nI dp))]) (by decide) rfl (n := 3) rfl ?_
    refine p_iconst (z_dec zd_X5_from 2 rfl) (v := 0) (by decide) (n := 4) rfl ?_
    refine p_istore (z_dec zd_X5_from 3 rfl) (lv2 := [(6, .int 0), (5, .int 6), (0, .ref 38), (1, .int 6), (2, .int 3), (3, .int x), (4, .int (nI dp))]) (by decide) rfl (n := 6) rfl ?_
    refine p_iload (z_dec zd_X5_from 4 rfl) 0 rfl (n := 8) rfl ?_
    refine p_bipush (z_dec zd_X5_from 5 rfl) (v := 8) (by decide) (n := 10) rfl ?_
    refine p_icmp_ge (z_dec zd_X5_from 6 rfl) (t := 81) (by decide) (n := 13) rfl (fun h10 => ?_) (fun h10 => ?_)
    · exact absurd h10 (by decide)
    · refine p_iload (z_dec zd_X5_from 7 rfl) 1 rfl (n := 15) rfl ?_
      refine q_callS (As := [.int 6]) (rest := []) (z_dec zd_X5_from 8 rfl) zk_X5_28 zs_X5_isKind (c_X5_isKind (d - 1) (by omega) b I L 6) rfl rfl (Nat.le_of_ble_eq_true rfl) (by omega) (n := 18) rfl ?_
      show PW zm_X5_from d 18 [(6, .int 0), (5, .int 6), (0, .ref 38), (1, .int 6), (2, .int 3), (3, .int x), (4, .int (nI dp))] [.int (f_X5_isKind 6)] SH (I, L, z_R b) 0 0 _
      refine z_lv rfl (show _ = [.int 1] from (by first | rfl | decide)) rfl ?_
      refine p_if_eq (z_dec zd_X5_from 9 rfl) (t := 81) (by decide) (n := 21) rfl (fun h18 => ?_) (fun h18 => ?_)
      · exact absurd h18 (by decide)
      · refine p_gets2 (z_dec zd_X5_from 10 rfl) zg_X5_46 (n := 24) rfl ?_
        refine p_iconst (z_dec zd_X5_from 11 rfl) (v := 4) (by decide) (n := 25) rfl ?_
        refine p_iload (z_dec zd_X5_from 12 rfl) 1 rfl (n := 27) rfl ?_
        refine p_imul (z_dec zd_X5_from 13 rfl) (n := 28) rfl ?_
        refine z_lv rfl (show _ = [.int 24, .ref 1002] from (by first | rfl | decide)) rfl ?_
        refine p_iload_n (z_dec zd_X5_from 14 rfl) rfl 4 rfl (n := 29) rfl ?_
        refine p_iadd (z_dec zd_X5_from 15 rfl) (n := 30) rfl ?_
        refine z_lv rfl (show _ = [.int 27, .ref 1002] from (by first | rfl | decide)) rfl ?_
        refine q_tld2 (z_dec zd_X5_from 16 rfl) (27) rfl (by decide) (n := 31) rfl ?_
        refine z_lv rfl (show _ = [.int 0] from (by first | rfl | decide)) rfl ?_
        refine p_istore (z_dec zd_X5_from 17 rfl) (lv2 := [(7, .int 0), (6, .int 0), (5, .int 6), (0, .ref 38), (1, .int 6), (2, .int 3), (3, .int x), (4, .int (nI dp))]) (by decide) rfl (n := 33) rfl ?_
        refine p_iload (z_dec zd_X5_from 18 rfl) 0 rfl (n := 35) rfl ?_
        refine p_if_eq (z_dec zd_X5_from 19 rfl) (t := 67) (by decide) (n := 38) rfl (fun h35 => ?_) (fun h35 => ?_)
        · refine p_gets1 (z_dec zd_X5_from 36 rfl) zg_X5_32 (n := 70) rfl ?_
          refine p_iload (z_dec zd_X5_from 37 rfl) 2 rfl (n := 72) rfl ?_
          refine q_tld1 (z_dec zd_X5_from 38 rfl) (6) rfl (by decide) (n := 73) rfl ?_
          refine z_lv rfl (show _ = [.int 0] from (by first | rfl | decide)) rfl ?_
          refine p_istore (z_dec zd_X5_from 39 rfl) (lv2 := [(5, .int 0), (7, .int 0), (6, .int 0), (0, .ref 38), (1, .int 6), (2, .int 3), (3, .int x), (4, .int (nI dp))]) (by decide) rfl (n := 75) rfl ?_
          refine p_iinc (z_dec zd_X5_from 40 rfl) 2 rfl (v := 1) (by decide) (lv2 := [(6, .int 1), (5, .int 0), (7, .int 0), (0, .ref 38), (1, .int 6), (2, .int 3), (3, .int x), (4, .int (nI dp))]) (by decide) rfl (n := 78) rfl ?_
          refine p_goto (z_dec zd_X5_from 41 rfl) (t := 6) (by decide) ?_
          refine p_iload (z_dec zd_X5_from 4 rfl) 0 rfl (n := 8) rfl ?_
          refine p_bipush (z_dec zd_X5_from 5 rfl) (v := 8) (by decide) (n := 10) rfl ?_
          refine p_icmp_ge (z_dec zd_X5_from 6 rfl) (t := 81) (by decide) (n := 13) rfl (fun h10 => ?_) (fun h10 => ?_)
          · exact absurd h10 (by decide)
          · refine p_iload (z_dec zd_X5_from 7 rfl) 1 rfl (n := 15) rfl ?_
            refine q_callS (As := [.int 0]) (rest := []) (z_dec zd_X5_from 8 rfl) zk_X5_28 zs_X5_isKind (c_X5_isKind (d - 1) (by omega) b I L 0) rfl rfl (Nat.le_of_ble_eq_true rfl) (by omega) (n := 18) rfl ?_
            show PW zm_X5_from d 18 [(6, .int 1), (5, .int 0), (7, .int 0), (0, .ref 38), (1, .int 6), (2, .int 3), (3, .int x), (4, .int (nI dp))] [.int (f_X5_isKind 0)] SH (I, L, z_R b) 0 0 _
            refine z_lv rfl (show _ = [.int 1] from (by first | rfl | decide)) rfl ?_
            refine p_if_eq (z_dec zd_X5_from 9 rfl) (t := 81) (by decide) (n := 21) rfl (fun h18 => ?_) (fun h18 => ?_)
            · exact absurd h18 (by decide)
            · refine p_gets2 (z_dec zd_X5_from 10 rfl) zg_X5_46 (n := 24) rfl ?_
              refine p_iconst (z_dec zd_X5_from 11 rfl) (v := 4) (by decide) (n := 25) rfl ?_
              refine p_iload (z_dec zd_X5_from 12 rfl) 1 rfl (n := 27) rfl ?_
              refine p_imul (z_dec zd_X5_from 13 rfl) (n := 28) rfl ?_
              refine z_lv rfl (show _ = [.int 0, .ref 1002] from (by first | rfl | decide)) rfl ?_
              refine p_iload_n (z_dec zd_X5_from 14 rfl) rfl 5 rfl (n := 29) rfl ?_
              refine p_iadd (z_dec zd_X5_from 15 rfl) (n := 30) rfl ?_
              refine z_lv rfl (show _ = [.int 3, .ref 1002] from (by first | rfl | decide)) rfl ?_
              refine q_tld2 (z_dec zd_X5_from 16 rfl) (3) rfl (by decide) (n := 31) rfl ?_
              refine z_lv rfl (show _ = [.int 2] from (by first | rfl | decide)) rfl ?_
              refine p_istore (z_dec zd_X5_from 17 rfl) (lv2 := [(7, .int 2), (6, .int 1), (5, .int 0), (0, .ref 38), (1, .int 6), (2, .int 3), (3, .int x), (4, .int (nI dp))]) (by decide) rfl (n := 33) rfl ?_
              refine p_iload (z_dec zd_X5_from 18 rfl) 0 rfl (n := 35) rfl ?_
              refine p_if_eq (z_dec zd_X5_from 19 rfl) (t := 67) (by decide) (n := 38) rfl (fun h35 => ?_) (fun h35 => ?_)
              · exact absurd h35 (by decide)
              · refine p_iload (z_dec zd_X5_from 20 rfl) 7 rfl (n := 40) rfl ?_
                refine p_bipush (z_dec zd_X5_from 21 rfl) (v := 40) (by decide) (n := 42) rfl ?_
                refine p_icmp_ge (z_dec zd_X5_from 22 rfl) (t := 65) (by decide) (n := 45) rfl (fun h42 => ?_) (fun h42 => ?_)
                · exact absurd (z_ge (a := 40) h42) (by omega)
                · refine p_aload_n (z_dec zd_X5_from 23 rfl) rfl 3 rfl (n := 46) rfl ?_
                  refine p_iload (z_dec zd_X5_from 24 rfl) 0 rfl (n := 48) rfl ?_
                  refine p_gets1 (z_dec zd_X5_from 25 rfl) zg_X5_32 (n := 51) rfl ?_
                  refine p_iload (z_dec zd_X5_from 26 rfl) 2 rfl (n := 53) rfl ?_
                  refine q_tld1 (z_dec zd_X5_from 27 rfl) (0) rfl (by decide) (n := 54) rfl ?_
                  refine z_lv rfl (show _ = [.int (-1), .int 2, .ref 38] from (by first | rfl | decide)) rfl ?_
                  refine p_iload_n (z_dec zd_X5_from 28 rfl) rfl 6 rfl (n := 55) rfl ?_
                  refine p_iload (z_dec zd_X5_from 29 rfl) 7 rfl (n := 57) rfl ?_
                  refine p_iconst (z_dec zd_X5_from 30 rfl) (v := 1) (by decide) (n := 58) rfl ?_
                  refine p_iadd (z_dec zd_X5_from 31 rfl) (n := 59) rfl ?_
                  refine z_lv rfl (show _ = [.int (nI (dp + 1)), .int x, .int (-1), .int 2, .ref 38] from (by rw [nI_1])) rfl ?_
                  refine q_callV (As := [.int 2, .int (-1), .int x, .int (nI (dp + 1))]) (rest := []) (z_dec zd_X5_from 32 rfl) zk_X5_49 zv_X5_run (c_X5_run2 (d - 1) (by omega) b I L (n) nb hnb kd hkd hac (dp + 1) (by omega) (by omega) x) rfl ⟨_, _, rfl⟩ rfl rfl (Nat.le_of_ble_eq_true rfl) (by omega) (n := 62) rfl ?_
                  show PW zm_X5_from d 62 [(7, .int 2), (6, .int 1), (5, .int 0), (0, .ref 38), (1, .int 6), (2, .int 3), (3, .int x), (4, .int (nI dp))] [.int (z_V1 (nI kd) (nI kd) (nI nb) x - z_V2 (nI kd) (nI kd) (nI nb) 1)] SH ((yq_QL I (2 :: (z_T1 (nI kd) (nI kd) ++ z_T2 (nI kd) (nI kd)))), L, z_R b) 0 0 _
                  refine p_goto (z_dec zd_X5_from 33 rfl) (t := 66) (by decide) ?_
                  exact p_iret (z_dec zd_X5_from 35 rfl) rfl ⟨(z_si (by first | done | rfl)), rfl, (z_3 (by simp only [yq_QL, List.foldl_cons, List.foldl_nil, List.foldl_append]) rfl)⟩
        · exact absurd h35 (by decide)
  exact hentry
set_option maxHeartbeats 1000000 in
set_option maxRecDepth 100000 in
theorem c_X5_run81 (d : Nat) (hd : 14 ≤ d) (b : Bool) (I : Nat → Nat → Int32) (L : Nat → Nat → Int64) (n : Nat) (nb : Nat) (hnb : nb < 50) (kd : Nat) (hkd : kd < 8) (hac : yq_ac n nb kd I) (dp : Nat) (hn : n ≤ 700) (hdp : dp ≤ 34) (x : Int32) : z_CT zm_X5_run d [.ref 38, .int 81, .int 4, .int x, .int (nI dp)] SH (I, L, z_R b) 0 0 (z_ret (some (.int (z_V1 (nI kd) (nI kd) (nI nb) x - z_V2 (nI kd) (nI kd) (nI nb) 1 - 1))) ((yq_QL I (81 :: 2 :: (z_T1 (nI kd) (nI kd) ++ z_T2 (nI kd) (nI kd)))), L, z_R b)) := by
  refine z_enter (by decide +kernel) (Nat.le_of_ble_eq_true rfl) ?_
  have hentry : PW zm_X5_run d 0 [(0, .ref 38), (1, .int 81), (2, .int 4), (3, .int x), (4, .int (nI dp))] [] SH (I, L, z_R b) 0 0 (z_ret (some (.int (z_V1 (nI kd) (nI kd) (nI nb) x - z_V2 (nI kd) (nI kd) (nI nb) 1 - 1))) ((yq_QL I (81 :: 2 :: (z_T1 (nI kd) (nI kd) ++ z_T2 (nI kd) (nI kd)))), L, z_R b)) := by
    have hj0 : PW zm_X5_run d 29 [(0, .ref 38), (1, .int 81), (2, .int 4), (3, .int x), (4, .int (nI dp))] [] SH ((yq_pC I 81), L, z_R b) 0 0 (z_ret (some (.int (z_V1 (nI kd) (nI kd) (nI nb) x - z_V2 (nI kd) (nI kd) (nI nb) 1 - 1))) ((yq_QL I (81 :: 2 :: (z_T1 (nI kd) (nI kd) ++ z_T2 (nI kd) (nI kd)))), L, z_R b)) := by
      have hA : yq_ac (n + 1) nb kd ((yq_pC I 81)) := yq_acP hac (by omega) _
      refine p_iload_n (z_dec zd_X5_run 16 rfl) rfl 1 rfl (n := 30) rfl ?_
      refine p_lookup (z_dec zd_X5_run 17 rfl) (off := 266) (t := 296) (by decide) rfl (by decide) ?_
      refine p_aload_n (z_dec zd_X5_run 127 rfl) rfl 0 rfl (n := 297) rfl ?_
      refine p_iload_n (z_dec zd_X5_run 128 rfl) rfl 2 rfl (n := 298) rfl ?_
      refine p_iconst (z_dec zd_X5_run 129 rfl) (v := 3) (by decide) (n := 299) rfl ?_
      refine p_iload_n (z_dec zd_X5_run 130 rfl) rfl 3 rfl (n := 300) rfl ?_
      refine p_iload (z_dec zd_X5_run 131 rfl) 4 rfl (n := 302) rfl ?_
      refine q_callV (As := [.int 4, .int 3, .int x, .int (nI dp)]) (rest := []) (z_dec zd_X5_run 132 rfl) zk_X5_42 zv_X5_from (c_X5_from4_3 (d - 1) (by omega) b (yq_pC I 81) L (n + 1) nb hnb kd hkd hA dp (by omega) (by omega) x) rfl ⟨_, _, rfl⟩ rfl rfl (Nat.le_of_ble_eq_true rfl) (by omega) (n := 305) rfl ?_
      show PW zm_X5_run d 305 [(0, .ref 38), (1, .int 81), (2, .int 4), (3, .int x), (4, .int (nI dp))] [.int (z_V1 (nI kd) (nI kd) (nI nb) x - z_V2 (nI kd) (nI kd) (nI nb) 1)] SH ((yq_QL (yq_pC I 81) (2 :: (z_T1 (nI kd) (nI kd) ++ z_T2 (nI kd) (nI kd)))), L, z_R b) 0 0 _
      have hA1 : yq_ac (n + 1 + 13) nb kd ((yq_QL (yq_pC I 81) (2 :: (z_T1 (nI kd) (nI kd) ++ z_T2 (nI kd) (nI kd))))) := yq_acL hA (2 :: (z_T1 (nI kd) (nI kd) ++ z_T2 (nI kd) (nI kd))) _ (by have h0 := z_L0 (nI kd); have h1 := z_L1 (nI kd) (nI kd); have h2 := z_L2 (nI kd) (nI kd); simp only [List.length_cons, List.length_append, List.length_nil]; omega) (by omega)
      refine p_iconst (z_dec zd_X5_run 133 rfl) (v := 1) (by decide) (n := 306) rfl ?_
      refine p_isub (z_dec zd_X5_run 134 rfl) (n := 307) rfl ?_
      exact p_iret (z_dec zd_X5_run 135 rfl) rfl ⟨(z_si (by first | done | rfl)), rfl, (z_3 (by simp only [yq_QL, List.foldl_cons, List.foldl_nil, List.foldl_append]) rfl)⟩
    refine p_aload_n (z_dec zd_X5_run 0 rfl) rfl 0 rfl (n := 1) rfl ?_
    refine q_getI (z_dec zd_X5_run 1 rfl) zf_X5_22 (by decide) rfl (v := (I 38 3)) rfl (n := 4) rfl ?_
    refine p_bipush (z_dec zd_X5_run 2 rfl) (v := 24) (by decide) (n := 6) rfl ?_
    refine p_icmp_ge (z_dec zd_X5_run 3 rfl) (t := 19) (by decide) (n := 9) rfl (fun h6 => ?_) (fun h6 => ?_)
    · refine p_aload_n (z_dec zd_X5_run 10 rfl) rfl 0 rfl (n := 20) rfl ?_
      refine p_dup (z_dec zd_X5_run 11 rfl) rfl (n := 21) rfl ?_
      refine q_getI (z_dec zd_X5_run 12 rfl) zf_X5_22 (by decide) rfl (v := (I 38 3)) rfl (n := 24) rfl ?_
      refine p_iconst (z_dec zd_X5_run 13 rfl) (v := 1) (by decide) (n := 25) rfl ?_
      refine p_iadd (z_dec zd_X5_run 14 rfl) (n := 26) rfl ?_
      refine q_putI (z_dec zd_X5_run 15 rfl) zp_X5_22 (fun q => by cases q) rfl (n := 29) rfl ?_
      exact z_lv rfl rfl (show (_ : z_M) = _ from (z_3 (by unfold yq_pC; first | rw [if_pos h6] | rw [if_neg h6]) rfl)) hj0
    · refine p_aload_n (z_dec zd_X5_run 4 rfl) rfl 0 rfl (n := 10) rfl ?_
      refine q_getR (z_dec zd_X5_run 5 rfl) zf_X5_19 (i := 40) rfl rfl (n := 13) rfl ?_
      refine p_aload_n (z_dec zd_X5_run 6 rfl) rfl 0 rfl (n := 14) rfl ?_
      refine q_getI (z_dec zd_X5_run 7 rfl) zf_X5_22 (by decide) rfl (v := (I 38 3)) rfl (n := 17) rfl ?_
      refine p_iload_n (z_dec zd_X5_run 8 rfl) rfl 1 rfl (n := 18) rfl ?_
      refine q_iast (z_dec zd_X5_run 9 rfl) rfl (by decide) ((I 38 3).toNatClampNeg) hac.1.1 (yq_ix hac.1.1 h6) (n := 19) rfl ?_
      refine p_aload_n (z_dec zd_X5_run 10 rfl) rfl 0 rfl (n := 20) rfl ?_
      refine p_dup (z_dec zd_X5_run 11 rfl) rfl (n := 21) rfl ?_
      refine q_getI (z_dec zd_X5_run 12 rfl) zf_X5_22 (by decide) rfl (v := (I 38 3)) (z_up_k _ _ (by decide)) (n := 24) rfl ?_
      refine p_iconst (z_dec zd_X5_run 13 rfl) (v := 1) (by decide) (n := 25) rfl ?_
      refine p_iadd (z_dec zd_X5_run 14 rfl) (n := 26) rfl ?_
      refine q_putI (z_dec zd_X5_run 15 rfl) zp_X5_22 (fun q => by cases q) rfl (n := 29) rfl ?_
      exact z_lv rfl rfl (show (_ : z_M) = _ from (z_3 (by unfold yq_pC; first | rw [if_pos h6] | rw [if_neg h6]) rfl)) hj0
  exact hentry
set_option maxHeartbeats 1000000 in
set_option maxRecDepth 100000 in
theorem c_X5_from7_3 (d : Nat) (hd : 15 ≤ d) (b : Bool) (I : Nat → Nat → Int32) (L : Nat → Nat → Int64) (n : Nat) (nb : Nat) (hnb : nb < 50) (kd : Nat) (hkd : kd < 8) (hac : yq_ac n nb kd I) (dp : Nat) (hn : n ≤ 680) (hdp : dp ≤ 33) (x : Int32) : z_CT zm_X5_from d [.ref 38, .int 7, .int 3, .int x, .int (nI dp)] SH (I, L, z_R b) 0 0 (z_ret (some (.int (z_V1 (nI kd) (nI kd) (nI nb) x - z_V2 (nI kd) (nI kd) (nI nb) 1 - 1))) ((yq_QL I (81 :: 2 :: (z_T1 (nI kd) (nI kd) ++ z_T2 (nI kd) (nI kd)))), L, z_R b)) := by
  refine z_enter (by decide +kernel) (Nat.le_of_ble_eq_true rfl) ?_
  have hentry : PW zm_X5_from d 0 [(0, .ref 38), (1, .int 7), (2, .int 3), (3, .int x), (4, .int (nI dp))] [] SH (I, L, z_R b) 0 0 (z_ret (some (.int (z_V1 (nI kd) (nI kd) (nI nb) x - z_V2 (nI kd) (nI kd) (nI nb) 1 - 1))) ((yq_QL I (81 :: 2 :: (z_T1 (nI kd) (nI kd) ++ z_T2 (nI kd) (nI kd)))), L, z_R b)) := by
    refine p_iload_n (z_dec zd_X5_from 0 rfl) rfl 1 rfl (n := 1) rfl ?_
    refine p_istore (z_dec zd_X5_from 1 rfl) (lv2 := [(5, .int 7), (0, .ref 38), (1, .int 7), (2, .int 3), (3, .int x), (4, .int (nI dp))]) (by decide) rfl (n := 3) rfl ?_
    refine p_iconst (z_dec zd_X5_from 2 rfl) (v := 0) (by decide) (n := 4) rfl ?_
    refine p_istore (z_dec zd_X5_from 3 rfl) (lv2 := [(6, .int 0), (5, .int 7), (0, .ref 38), (1, .int 7), (2, .int 3), (3, .int x), (4, .int (nI dp))]) (by decide) rfl (n := 6) rfl ?_
    refine p_iload (z_dec zd_X5_from 4 rfl) 0 rfl (n := 8) rfl ?_
    refine p_bipush (z_dec zd_X5_from 5 rfl) (v := 8) (by decide) (n := 10) rfl ?_
    refine p_icmp_ge (z_dec zd_X5_from 6 rfl) (t := 81) (by decide) (n := 13) rfl (fun h10 => ?_) (fun h10 => ?_)
    · exact absurd h10 (by decide)
    · refine p_iload (z_dec zd_X5_from 7 rfl) 1 rfl (n := 15) rfl ?_
      refine q_callS (As := [.int 7]) (rest := []) (z_dec zd_X5_from 8 rfl) zk_X5_28 zs_X5_isKind (c_X5_isKind (d - 1) (by omega) b I L 7) rfl rfl (Nat.le_of_ble_eq_true rfl) (by omega) (n := 18) rfl ?_
      show PW zm_X5_from d 18 [(6, .int 0), (5, .int 7), (0, .ref 38), (1, .int 7), (2, .int 3), (3, .int x), (4, .int (nI dp))] [.int (f_X5_isKind 7)] SH (I, L, z_R b) 0 0 _
      refine z_lv rfl (show _ = [.int 1] from (by first | rfl | decide)) rfl ?_
      refine p_if_eq (z_dec zd_X5_from 9 rfl) (t := 81) (by decide) (n := 21) rfl (fun h18 => ?_) (fun h18 => ?_)
      · exact absurd h18 (by decide)
      · refine p_gets2 (z_dec zd_X5_from 10 rfl) zg_X5_46 (n := 24) rfl ?_
        refine p_iconst (z_dec zd_X5_from 11 rfl) (v := 4) (by decide) (n := 25) rfl ?_
        refine p_iload (z_dec zd_X5_from 12 rfl) 1 rfl (n := 27) rfl ?_
        refine p_imul (z_dec zd_X5_from 13 rfl) (n := 28) rfl ?_
        refine z_lv rfl (show _ = [.int 28, .ref 1002] from (by first | rfl | decide)) rfl ?_
        refine p_iload_n (z_dec zd_X5_from 14 rfl) rfl 4 rfl (n := 29) rfl ?_
        refine p_iadd (z_dec zd_X5_from 15 rfl) (n := 30) rfl ?_
        refine z_lv rfl (show _ = [.int 31, .ref 1002] from (by first | rfl | decide)) rfl ?_
        refine q_tld2 (z_dec zd_X5_from 16 rfl) (31) rfl (by decide) (n := 31) rfl ?_
        refine z_lv rfl (show _ = [.int 81] from (by first | rfl | decide)) rfl ?_
        refine p_istore (z_dec zd_X5_from 17 rfl) (lv2 := [(7, .int 81), (6, .int 0), (5, .int 7), (0, .ref 38), (1, .int 7), (2, .int 3), (3, .int x), (4, .int (nI dp))]) (by decide) rfl (n := 33) rfl ?_
        refine p_iload (z_dec zd_X5_from 18 rfl) 0 rfl (n := 35) rfl ?_
        refine p_if_eq (z_dec zd_X5_from 19 rfl) (t := 67) (by decide) (n := 38) rfl (fun h35 => ?_) (fun h35 => ?_)
        · exact absurd h35 (by decide)
        · refine p_iload (z_dec zd_X5_from 20 rfl) 7 rfl (n := 40) rfl ?_
          refine p_bipush (z_dec zd_X5_from 21 rfl) (v := 40) (by decide) (n := 42) rfl ?_
          refine p_icmp_ge (z_dec zd_X5_from 22 rfl) (t := 65) (by decide) (n := 45) rfl (fun h42 => ?_) (fun h42 => ?_)
          · exact absurd (z_ge (a := 40) h42) (by omega)
          · refine p_aload_n (z_dec zd_X5_from 23 rfl) rfl 3 rfl (n := 46) rfl ?_
            refine p_iload (z_dec zd_X5_from 24 rfl) 0 rfl (n := 48) rfl ?_
            refine p_gets1 (z_dec zd_X5_from 25 rfl) zg_X5_32 (n := 51) rfl ?_
            refine p_iload (z_dec zd_X5_from 26 rfl) 2 rfl (n := 53) rfl ?_
            refine q_tld1 (z_dec zd_X5_from 27 rfl) (7) rfl (by decide) (n := 54) rfl ?_
            refine z_lv rfl (show _ = [.int 4, .int 81, .ref 38] from (by first | rfl | decide)) rfl ?_
            refine p_iload_n (z_dec zd_X5_from 28 rfl) rfl 6 rfl (n := 55) rfl ?_
            refine p_iload (z_dec zd_X5_from 29 rfl) 7 rfl (n := 57) rfl ?_
            refine p_iconst (z_dec zd_X5_from 30 rfl) (v := 1) (by decide) (n := 58) rfl ?_
            refine p_iadd (z_dec zd_X5_from 31 rfl) (n := 59) rfl ?_
            refine z_lv rfl (show _ = [.int (nI (dp + 1)), .int x, .int 4, .int 81, .ref 38] from (by rw [nI_1])) rfl ?_
            refine q_callV (As := [.int 81, .int 4, .int x, .int (nI (dp + 1))]) (rest := []) (z_dec zd_X5_from 32 rfl) zk_X5_49 zv_X5_run (c_X5_run81 (d - 1) (by omega) b I L (n) nb hnb kd hkd hac (dp + 1) (by omega) (by omega) x) rfl ⟨_, _, rfl⟩ rfl rfl (Nat.le_of_ble_eq_true rfl) (by omega) (n := 62) rfl ?_
            show PW zm_X5_from d 62 [(7, .int 81), (6, .int 0), (5, .int 7), (0, .ref 38), (1, .int 7), (2, .int 3), (3, .int x), (4, .int (nI dp))] [.int (z_V1 (nI kd) (nI kd) (nI nb) x - z_V2 (nI kd) (nI kd) (nI nb) 1 - 1)] SH ((yq_QL I (81 :: 2 :: (z_T1 (nI kd) (nI kd) ++ z_T2 (nI kd) (nI kd)))), L, z_R b) 0 0 _
            refine p_goto (z_dec zd_X5_from 33 rfl) (t := 66) (by decide) ?_
            exact p_iret (z_dec zd_X5_from 35 rfl) rfl ⟨(z_si (by first | done | rfl)), rfl, (z_3 (by simp only [yq_QL, List.foldl_cons, List.foldl_nil, List.foldl_append]) rfl)⟩
  exact hentry
theorem c_X5_fromG3 (d : Nat) (hd : 15 ≤ d) (b : Bool) (I : Nat → Nat → Int32) (L : Nat → Nat → Int64) (n : Nat) (nb : Nat) (hnb : nb < 50) (kd : Nat) (hkd : kd < 8) (hac : yq_ac n nb kd I) (dp : Nat) (hn : n ≤ 680) (hdp : dp ≤ 33) (x : Int32) : ∀ f : Nat, f < 8 → z_CT zm_X5_from d [.ref 38, .int (nI f), .int 3, .int x, .int (nI dp)] SH (I, L, z_R b) 0 0 (z_ret (some (.int (z_V3 (nI f) (nI kd) (nI nb) x))) ((yq_QL I (z_T3 (nI f) (nI kd) )), L, z_R b))
  | 0, _ => z_actC (c_X5_from0_3 d (by omega) b I L n nb hnb kd hkd hac dp (by omega) (by omega) x) rfl rfl
  | 1, _ => z_actC (c_X5_from1_3 d (by omega) b I L n nb hnb kd hkd hac dp (by omega) (by omega) x) rfl rfl
  | 2, _ => z_actC (c_X5_from2_3 d (by omega) b I L n nb hnb kd hkd hac dp (by omega) (by omega) x) rfl rfl
  | 3, _ => z_actC (c_X5_from3_3 d (by omega) b I L n nb hnb kd hkd hac dp (by omega) (by omega) x) rfl rfl
  | 4, _ => z_actC (c_X5_from4_3 d (by omega) b I L n nb hnb kd hkd hac dp (by omega) (by omega) x) rfl rfl
  | 5, _ => z_actC (c_X5_from5_3 d (by omega) b I L n nb hnb kd hkd hac dp (by omega) (by omega) x) rfl rfl
  | 6, _ => z_actC (c_X5_from6_3 d (by omega) b I L n nb hnb kd hkd hac dp (by omega) (by omega) x) rfl rfl
  | 7, _ => z_actC (c_X5_from7_3 d (by omega) b I L n nb hnb kd hkd hac dp (by omega) (by omega) x) rfl rfl
  | f + 8, h => absurd h (by omega)
set_option maxHeartbeats 1000000 in
set_option maxRecDepth 100000 in
theorem c_X5_own3 (d : Nat) (hd : 16 ≤ d) (b : Bool) (I : Nat → Nat → Int32) (L : Nat → Nat → Int64) (n : Nat) (nb : Nat) (hnb : nb < 50) (kd : Nat) (hkd : kd < 8) (hac : yq_ac n nb kd I) (dp : Nat) (hn : n ≤ 660) (hdp : dp ≤ 33) (x : Int32) : z_CT zm_X5_own d [.ref 38, .int 3, .int x, .int (nI dp)] SH (I, L, z_R b) 0 0 (z_ret (some (.int (z_V3 (nI kd) (nI kd) (nI nb) x))) ((yq_QL I (z_T3 (nI kd) (nI kd))), L, z_R b)) := by
  refine z_enter (by decide +kernel) (Nat.le_of_ble_eq_true rfl) ?_
  have hentry : PW zm_X5_own d 0 [(0, .ref 38), (1, .int 3), (2, .int x), (3, .int (nI dp))] [] SH (I, L, z_R b) 0 0 (z_ret (some (.int (z_V3 (nI kd) (nI kd) (nI nb) x))) ((yq_QL I (z_T3 (nI kd) (nI kd))), L, z_R b)) := by
    refine p_aload_n (z_dec zd_X5_own 0 rfl) rfl 0 rfl (n := 1) rfl ?_
    refine p_aload_n (z_dec zd_X5_own 1 rfl) rfl 0 rfl (n := 2) rfl ?_
    refine q_getR (z_dec zd_X5_own 2 rfl) zf_X5_11 (i := 39) rfl rfl (n := 5) rfl ?_
    refine p_aload_n (z_dec zd_X5_own 3 rfl) rfl 0 rfl (n := 6) rfl ?_
    refine q_getI (z_dec zd_X5_own 4 rfl) zf_X5_25 (by decide) rfl (v := (nI nb)) hac.2.1 (n := 9) rfl ?_
    refine q_iald (z_dec zd_X5_own 5 rfl) rfl (by decide) (nb) rfl (by omega) (v := (I 39 nb)) rfl (n := 10) rfl ?_
    refine z_lv rfl (show _ = [.int (nI kd), .ref 38] from (by rw [hac.2.2])) rfl ?_
    refine p_iload_n (z_dec zd_X5_own 6 rfl) rfl 1 rfl (n := 11) rfl ?_
    refine p_iload_n (z_dec zd_X5_own 7 rfl) rfl 2 rfl (n := 12) rfl ?_
    refine p_iload_n (z_dec zd_X5_own 8 rfl) rfl 3 rfl (n := 13) rfl ?_
    refine q_callV (As := [.int (nI kd), .int 3, .int x, .int (nI dp)]) (rest := []) (z_dec zd_X5_own 9 rfl) zk_X5_42 zv_X5_from (c_X5_fromG3 (d - 1) (by omega) b I L n nb hnb kd hkd hac dp (by omega) (by omega) x kd hkd) rfl ⟨_, _, rfl⟩ rfl rfl (Nat.le_of_ble_eq_true rfl) (by omega) (n := 16) rfl ?_
    show PW zm_X5_own d 16 [(0, .ref 38), (1, .int 3), (2, .int x), (3, .int (nI dp))] [.int (z_V3 (nI kd) (nI kd) (nI nb) x)] SH ((yq_QL I (z_T3 (nI kd) (nI kd))), L, z_R b) 0 0 _
    exact p_iret (z_dec zd_X5_own 10 rfl) rfl ⟨(z_si (by first | done | rfl)), rfl, (z_3 (by simp only [yq_QL, List.foldl_cons, List.foldl_nil, List.foldl_append]) rfl)⟩
  exact hentry
