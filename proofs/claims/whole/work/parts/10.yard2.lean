def f_X7_numberOf (I : Nat → Nat → Int32) (k : Nat) (one : Int32) (what : Int32) : Int32 := if what = 4 then if what = 4 then (I k 5) else (I k 6) else if what = 5 then if what = 4 then (I k 5) else (I k 6) else if (f_X7_has I k one) = 0 then (-2000000000) else if what = 0 then (I (k + 1) one.toNatClampNeg) else if what = 1 then (I (k + 2) one.toNatClampNeg) else if what = 2 then (I (k + 3) one.toNatClampNeg) else (I (k + 4) one.toNatClampNeg)
set_option maxHeartbeats 4000000 in
set_option maxRecDepth 100000 in
theorem c_X7_numberOf (d : Nat) (hd : 1 ≤ d) (b : Bool) (I : Nat → Nat → Int32) (L : Nat → Nat → Int64) (k : Nat) (hy : z_Yd b k) (np : Nat) (hnp : I k 0 = nI np) (hn10 : np ≤ 10) (one : Int32) (what : Int32) : z_CT zm_X7_numberOf d [.ref k, .int one, .int what] SH (I, L, z_R b) 0 0 (z_ret (some (.int (f_X7_numberOf I k one what))) (I, L, z_R b)) := by
  refine z_enter (by decide +kernel) (Nat.le_of_ble_eq_true rfl) ?_
  have hentry : PW zm_X7_numberOf d 0 [(0, .ref k), (1, .int one), (2, .int what)] [] SH (I, L, z_R b) 0 0 (z_ret (some (.int (f_X7_numberOf I k one what))) (I, L, z_R b)) := by
    refine p_iload_n (z_dec zd_X7_numberOf 0 rfl) rfl 2 rfl (n := 1) rfl ?_
    refine p_iconst (z_dec zd_X7_numberOf 1 rfl) (v := 4) (by decide) (n := 2) rfl ?_
    refine p_icmp_eq (z_dec zd_X7_numberOf 2 rfl) (t := 10) (by decide) (n := 5) rfl (fun h2 => ?_) (fun h2 => ?_)
    · refine p_iload_n (z_dec zd_X7_numberOf 6 rfl) rfl 2 rfl (n := 11) rfl ?_
      refine p_iconst (z_dec zd_X7_numberOf 7 rfl) (v := 4) (by decide) (n := 12) rfl ?_
      refine p_icmp_ne (z_dec zd_X7_numberOf 8 rfl) (t := 22) (by decide) (n := 15) rfl (fun h12 => ?_) (fun h12 => ?_)
      · refine p_aload_n (z_dec zd_X7_numberOf 12 rfl) rfl 0 rfl (n := 23) rfl ?_
        refine q_getI (z_dec zd_X7_numberOf 13 rfl) zf_X7_31 (by decide) hy.1 (v := (I k 6)) rfl (n := 26) rfl ?_
        exact p_iret (z_dec zd_X7_numberOf 14 rfl) rfl ⟨(by unfold f_X7_numberOf; rw [if_pos h2, if_neg h12]), rfl, rfl⟩
      · refine p_aload_n (z_dec zd_X7_numberOf 9 rfl) rfl 0 rfl (n := 16) rfl ?_
        refine q_getI (z_dec zd_X7_numberOf 10 rfl) zf_X7_28 (by decide) hy.1 (v := (I k 5)) rfl (n := 19) rfl ?_
        refine p_goto (z_dec zd_X7_numberOf 11 rfl) (t := 26) (by decide) ?_
        exact p_iret (z_dec zd_X7_numberOf 14 rfl) rfl ⟨(by unfold f_X7_numberOf; rw [if_pos h2, if_pos h12]), rfl, rfl⟩
    · refine p_iload_n (z_dec zd_X7_numberOf 3 rfl) rfl 2 rfl (n := 6) rfl ?_
      refine p_iconst (z_dec zd_X7_numberOf 4 rfl) (v := 5) (by decide) (n := 7) rfl ?_
      refine p_icmp_ne (z_dec zd_X7_numberOf 5 rfl) (t := 27) (by decide) (n := 10) rfl (fun h7 => ?_) (fun h7 => ?_)
      · refine p_aload_n (z_dec zd_X7_numberOf 15 rfl) rfl 0 rfl (n := 28) rfl ?_
        refine p_iload_n (z_dec zd_X7_numberOf 16 rfl) rfl 1 rfl (n := 29) rfl ?_
        refine q_callV (As := [.int one]) (rest := []) (z_dec zd_X7_numberOf 17 rfl) zk_X7_37 zv_X7_has (c_X7_has (d - 1) (by omega) b I L k (hy) one) hy.1 ⟨_, _, rfl⟩ rfl rfl (Nat.le_of_ble_eq_true rfl) (by omega) (n := 32) rfl ?_
        show PW zm_X7_numberOf d 32 [(0, .ref k), (1, .int one), (2, .int what)] [.int (f_X7_has I k one)] SH (I, L, z_R b) 0 0 _
        refine p_if_ne (z_dec zd_X7_numberOf 18 rfl) (t := 38) (by decide) (n := 35) rfl (fun h32 => ?_) (fun h32 => ?_)
        · have hj := z_has hnp hn10 h32
          refine p_iload_n (z_dec zd_X7_numberOf 21 rfl) rfl 2 rfl (n := 39) rfl ?_
          by_cases hs39_0 : what = 0
          · refine p_tableIn (z_dec zd_X7_numberOf 22 rfl) (off := 25) (t := 64) (by rw [hs39_0]; decide) (by rw [hs39_0]; decide) (by rw [hs39_0]; rfl) (by decide) ?_
            refine p_aload_n (z_dec zd_X7_numberOf 23 rfl) rfl 0 rfl (n := 65) rfl ?_
            refine q_getR (z_dec zd_X7_numberOf 24 rfl) zf_X7_15 (i := (k + 1)) hy.2.2.1 hy.1 (n := 68) rfl ?_
            refine p_iload_n (z_dec zd_X7_numberOf 25 rfl) rfl 1 rfl (n := 69) rfl ?_
            refine q_iald (z_dec zd_X7_numberOf 26 rfl) hy.2.1.1 (by decide) (one.toNatClampNeg) hj.1 (Nat.lt_of_lt_of_le hj.2 hn10) (v := (I (k + 1) one.toNatClampNeg)) rfl (n := 70) rfl ?_
            exact p_iret (z_dec zd_X7_numberOf 27 rfl) rfl ⟨(by unfold f_X7_numberOf; rw [if_neg h2, if_neg h7, if_neg h32, if_pos hs39_0]), rfl, rfl⟩
          by_cases hs39_1 : what = 1
          · refine p_tableIn (z_dec zd_X7_numberOf 22 rfl) (off := 32) (t := 71) (by rw [hs39_1]; decide) (by rw [hs39_1]; decide) (by rw [hs39_1]; rfl) (by decide) ?_
            refine p_aload_n (z_dec zd_X7_numberOf 28 rfl) rfl 0 rfl (n := 72) rfl ?_
            refine q_getR (z_dec zd_X7_numberOf 29 rfl) zf_X7_19 (i := (k + 2)) hy.2.2.2.1 hy.1 (n := 75) rfl ?_
            refine p_iload_n (z_dec zd_X7_numberOf 30 rfl) rfl 1 rfl (n := 76) rfl ?_
            refine q_iald (z_dec zd_X7_numberOf 31 rfl) hy.2.1.2.1 (by decide) (one.toNatClampNeg) hj.1 (Nat.lt_of_lt_of_le hj.2 hn10) (v := (I (k + 2) one.toNatClampNeg)) rfl (n := 77) rfl ?_
            exact p_iret (z_dec zd_X7_numberOf 32 rfl) rfl ⟨(by unfold f_X7_numberOf; rw [if_neg h2, if_neg h7, if_neg h32, if_neg hs39_0, if_pos hs39_1]), rfl, rfl⟩
          by_cases hs39_2 : what = 2
          · refine p_tableIn (z_dec zd_X7_numberOf 22 rfl) (off := 39) (t := 78) (by rw [hs39_2]; decide) (by rw [hs39_2]; decide) (by rw [hs39_2]; rfl) (by decide) ?_
            refine p_aload_n (z_dec zd_X7_numberOf 33 rfl) rfl 0 rfl (n := 79) rfl ?_
            refine q_getR (z_dec zd_X7_numberOf 34 rfl) zf_X7_22 (i := (k + 3)) hy.2.2.2.2.1 hy.1 (n := 82) rfl ?_
            refine p_iload_n (z_dec zd_X7_numberOf 35 rfl) rfl 1 rfl (n := 83) rfl ?_
            refine q_iald (z_dec zd_X7_numberOf 36 rfl) hy.2.1.2.2.1 (by decide) (one.toNatClampNeg) hj.1 (Nat.lt_of_lt_of_le hj.2 hn10) (v := (I (k + 3) one.toNatClampNeg)) rfl (n := 84) rfl ?_
            exact p_iret (z_dec zd_X7_numberOf 37 rfl) rfl ⟨(by unfold f_X7_numberOf; rw [if_neg h2, if_neg h7, if_neg h32, if_neg hs39_0, if_neg hs39_1, if_pos hs39_2]), rfl, rfl⟩
          have hs39_0n : ¬ what.toInt = 0 := lv_neT hs39_0 rfl
          have hs39_1n : ¬ what.toInt = 1 := lv_neT hs39_1 rfl
          have hs39_2n : ¬ what.toInt = 2 := lv_neT hs39_2 rfl
          refine p_tableOut (z_dec zd_X7_numberOf 22 rfl) (t := 85) (by omega) (by decide) ?_
          refine p_aload_n (z_dec zd_X7_numberOf 38 rfl) rfl 0 rfl (n := 86) rfl ?_
          refine q_getR (z_dec zd_X7_numberOf 39 rfl) zf_X7_25 (i := (k + 4)) hy.2.2.2.2.2.1 hy.1 (n := 89) rfl ?_
          refine p_iload_n (z_dec zd_X7_numberOf 40 rfl) rfl 1 rfl (n := 90) rfl ?_
          refine q_iald (z_dec zd_X7_numberOf 41 rfl) hy.2.1.2.2.2.1 (by decide) (one.toNatClampNeg) hj.1 (Nat.lt_of_lt_of_le hj.2 hn10) (v := (I (k + 4) one.toNatClampNeg)) rfl (n := 91) rfl ?_
          exact p_iret (z_dec zd_X7_numberOf 42 rfl) rfl ⟨(by unfold f_X7_numberOf; rw [if_neg h2, if_neg h7, if_neg h32, if_neg hs39_0, if_neg hs39_1, if_neg hs39_2]), rfl, rfl⟩
        · refine p_ldc (z_dec zd_X7_numberOf 19 rfl) zq_X7_45 (n := 37) rfl ?_
          exact p_iret (z_dec zd_X7_numberOf 20 rfl) rfl ⟨(by unfold f_X7_numberOf; rw [if_neg h2, if_neg h7, if_pos h32]), rfl, rfl⟩
      · refine p_iload_n (z_dec zd_X7_numberOf 6 rfl) rfl 2 rfl (n := 11) rfl ?_
        refine p_iconst (z_dec zd_X7_numberOf 7 rfl) (v := 4) (by decide) (n := 12) rfl ?_
        refine p_icmp_ne (z_dec zd_X7_numberOf 8 rfl) (t := 22) (by decide) (n := 15) rfl (fun h12 => ?_) (fun h12 => ?_)
        · refine p_aload_n (z_dec zd_X7_numberOf 12 rfl) rfl 0 rfl (n := 23) rfl ?_
          refine q_getI (z_dec zd_X7_numberOf 13 rfl) zf_X7_31 (by decide) hy.1 (v := (I k 6)) rfl (n := 26) rfl ?_
          exact p_iret (z_dec zd_X7_numberOf 14 rfl) rfl ⟨(by unfold f_X7_numberOf; rw [if_neg h2, if_pos h7, if_neg h12]), rfl, rfl⟩
        · refine p_aload_n (z_dec zd_X7_numberOf 9 rfl) rfl 0 rfl (n := 16) rfl ?_
          refine q_getI (z_dec zd_X7_numberOf 10 rfl) zf_X7_28 (by decide) hy.1 (v := (I k 5)) rfl (n := 19) rfl ?_
          refine p_goto (z_dec zd_X7_numberOf 11 rfl) (t := 26) (by decide) ?_
          exact p_iret (z_dec zd_X7_numberOf 14 rfl) rfl ⟨(by unfold f_X7_numberOf; rw [if_neg h2, if_pos h7, if_pos h12]), rfl, rfl⟩
  exact hentry
def m_X7_become (I : Nat → Nat → Int32) (k : Nat) (one : Int32) (what : Int32) (v : Int32) : Nat → Nat → Int32 := if what = 4 then (z_up I k 5 v) else if what = 5 then (z_up I k 6 v) else if (f_X7_has I k one) = 0 then I else if what = 0 then (z_up I (k + 1) one.toNatClampNeg v) else if what = 1 then (z_up I (k + 2) one.toNatClampNeg v) else if what = 2 then (z_up I (k + 3) one.toNatClampNeg v) else (z_up I (k + 4) one.toNatClampNeg v)
set_option maxHeartbeats 4000000 in
set_option maxRecDepth 100000 in
theorem c_X7_become (d : Nat) (hd : 1 ≤ d) (b : Bool) (I : Nat → Nat → Int32) (L : Nat → Nat → Int64) (k : Nat) (hy : z_Yd b k) (np : Nat) (hnp : I k 0 = nI np) (hn10 : np ≤ 10) (one : Int32) (what : Int32) (v : Int32) : z_CT zm_X7_become d [.ref k, .int one, .int what, .int v] SH (I, L, z_R b) 0 0 (z_ret (none) ((m_X7_become I k one what v), L, z_R b)) := by
  refine z_enter (by decide +kernel) (Nat.le_of_ble_eq_true rfl) ?_
  have hentry : PW zm_X7_become d 0 [(0, .ref k), (1, .int one), (2, .int what), (3, .int v)] [] SH (I, L, z_R b) 0 0 (z_ret (none) ((m_X7_become I k one what v), L, z_R b)) := by
    refine p_iload_n (z_dec zd_X7_become 0 rfl) rfl 2 rfl (n := 1) rfl ?_
    refine p_iconst (z_dec zd_X7_become 1 rfl) (v := 4) (by decide) (n := 2) rfl ?_
    refine p_icmp_ne (z_dec zd_X7_become 2 rfl) (t := 13) (by decide) (n := 5) rfl (fun h2 => ?_) (fun h2 => ?_)
    · refine p_iload_n (z_dec zd_X7_become 7 rfl) rfl 2 rfl (n := 14) rfl ?_
      refine p_iconst (z_dec zd_X7_become 8 rfl) (v := 5) (by decide) (n := 15) rfl ?_
      refine p_icmp_ne (z_dec zd_X7_become 9 rfl) (t := 26) (by decide) (n := 18) rfl (fun h15 => ?_) (fun h15 => ?_)
      · refine p_aload_n (z_dec zd_X7_become 14 rfl) rfl 0 rfl (n := 27) rfl ?_
        refine p_iload_n (z_dec zd_X7_become 15 rfl) rfl 1 rfl (n := 28) rfl ?_
        refine q_callV (As := [.int one]) (rest := []) (z_dec zd_X7_become 16 rfl) zk_X7_37 zv_X7_has (c_X7_has (d - 1) (by omega) b I L k (hy) one) hy.1 ⟨_, _, rfl⟩ rfl rfl (Nat.le_of_ble_eq_true rfl) (by omega) (n := 31) rfl ?_
        show PW zm_X7_become d 31 [(0, .ref k), (1, .int one), (2, .int what), (3, .int v)] [.int (f_X7_has I k one)] SH (I, L, z_R b) 0 0 _
        refine p_if_eq (z_dec zd_X7_become 17 rfl) (t := 97) (by decide) (n := 34) rfl (fun h31 => ?_) (fun h31 => ?_)
        · exact p_vret (z_dec zd_X7_become 43 rfl) rfl ⟨rfl, rfl, (z_3 (by unfold m_X7_become; rw [if_neg h2, if_neg h15, if_pos h31]) rfl)⟩
        · have hj := z_has hnp hn10 h31
          refine p_iload_n (z_dec zd_X7_become 18 rfl) rfl 2 rfl (n := 35) rfl ?_
          by_cases hs35_0 : what = 0
          · refine p_tableIn (z_dec zd_X7_become 19 rfl) (off := 25) (t := 60) (by rw [hs35_0]; decide) (by rw [hs35_0]; decide) (by rw [hs35_0]; rfl) (by decide) ?_
            refine p_aload_n (z_dec zd_X7_become 20 rfl) rfl 0 rfl (n := 61) rfl ?_
            refine q_getR (z_dec zd_X7_become 21 rfl) zf_X7_15 (i := (k + 1)) hy.2.2.1 hy.1 (n := 64) rfl ?_
            refine p_iload_n (z_dec zd_X7_become 22 rfl) rfl 1 rfl (n := 65) rfl ?_
            refine p_iload_n (z_dec zd_X7_become 23 rfl) rfl 3 rfl (n := 66) rfl ?_
            refine q_iast (z_dec zd_X7_become 24 rfl) hy.2.1.1 (by decide) (one.toNatClampNeg) hj.1 (Nat.lt_of_lt_of_le hj.2 hn10) (n := 67) rfl ?_
            refine p_goto (z_dec zd_X7_become 25 rfl) (t := 97) (by decide) ?_
            exact p_vret (z_dec zd_X7_become 43 rfl) rfl ⟨rfl, rfl, (z_3 (by unfold m_X7_become; rw [if_neg h2, if_neg h15, if_neg h31, if_pos hs35_0]) rfl)⟩
          by_cases hs35_1 : what = 1
          · refine p_tableIn (z_dec zd_X7_become 19 rfl) (off := 35) (t := 70) (by rw [hs35_1]; decide) (by rw [hs35_1]; decide) (by rw [hs35_1]; rfl) (by decide) ?_
            refine p_aload_n (z_dec zd_X7_become 26 rfl) rfl 0 rfl (n := 71) rfl ?_
            refine q_getR (z_dec zd_X7_become 27 rfl) zf_X7_19 (i := (k + 2)) hy.2.2.2.1 hy.1 (n := 74) rfl ?_
            refine p_iload_n (z_dec zd_X7_become 28 rfl) rfl 1 rfl (n := 75) rfl ?_
            refine p_iload_n (z_dec zd_X7_become 29 rfl) rfl 3 rfl (n := 76) rfl ?_
            refine q_iast (z_dec zd_X7_become 30 rfl) hy.2.1.2.1 (by decide) (one.toNatClampNeg) hj.1 (Nat.lt_of_lt_of_le hj.2 hn10) (n := 77) rfl ?_
            refine p_goto (z_dec zd_X7_become 31 rfl) (t := 97) (by decide) ?_
            exact p_vret (z_dec zd_X7_become 43 rfl) rfl ⟨rfl, rfl, (z_3 (by unfold m_X7_become; rw [if_neg h2, if_neg h15, if_neg h31, if_neg hs35_0, if_pos hs35_1]) rfl)⟩
          by_cases hs35_2 : what = 2
          · refine p_tableIn (z_dec zd_X7_become 19 rfl) (off := 45) (t := 80) (by rw [hs35_2]; decide) (by rw [hs35_2]; decide) (by rw [hs35_2]; rfl) (by decide) ?_
            refine p_aload_n (z_dec zd_X7_become 32 rfl) rfl 0 rfl (n := 81) rfl ?_
            refine q_getR (z_dec zd_X7_become 33 rfl) zf_X7_22 (i := (k + 3)) hy.2.2.2.2.1 hy.1 (n := 84) rfl ?_
            refine p_iload_n (z_dec zd_X7_become 34 rfl) rfl 1 rfl (n := 85) rfl ?_
            refine p_iload_n (z_dec zd_X7_become 35 rfl) rfl 3 rfl (n := 86) rfl ?_
            refine q_iast (z_dec zd_X7_become 36 rfl) hy.2.1.2.2.1 (by decide) (one.toNatClampNeg) hj.1 (Nat.lt_of_lt_of_le hj.2 hn10) (n := 87) rfl ?_
            refine p_goto (z_dec zd_X7_become 37 rfl) (t := 97) (by decide) ?_
            exact p_vret (z_dec zd_X7_become 43 rfl) rfl ⟨rfl, rfl, (z_3 (by unfold m_X7_become; rw [if_neg h2, if_neg h15, if_neg h31, if_neg hs35_0, if_neg hs35_1, if_pos hs35_2]) rfl)⟩
          have hs35_0n : ¬ what.toInt = 0 := lv_neT hs35_0 rfl
          have hs35_1n : ¬ what.toInt = 1 := lv_neT hs35_1 rfl
          have hs35_2n : ¬ what.toInt = 2 := lv_neT hs35_2 rfl
          refine p_tableOut (z_dec zd_X7_become 19 rfl) (t := 90) (by omega) (by decide) ?_
          refine p_aload_n (z_dec zd_X7_become 38 rfl) rfl 0 rfl (n := 91) rfl ?_
          refine q_getR (z_dec zd_X7_become 39 rfl) zf_X7_25 (i := (k + 4)) hy.2.2.2.2.2.1 hy.1 (n := 94) rfl ?_
          refine p_iload_n (z_dec zd_X7_become 40 rfl) rfl 1 rfl (n := 95) rfl ?_
          refine p_iload_n (z_dec zd_X7_become 41 rfl) rfl 3 rfl (n := 96) rfl ?_
          refine q_iast (z_dec zd_X7_become 42 rfl) hy.2.1.2.2.2.1 (by decide) (one.toNatClampNeg) hj.1 (Nat.lt_of_lt_of_le hj.2 hn10) (n := 97) rfl ?_
          exact p_vret (z_dec zd_X7_become 43 rfl) rfl ⟨rfl, rfl, (z_3 (by unfold m_X7_become; rw [if_neg h2, if_neg h15, if_neg h31, if_neg hs35_0, if_neg hs35_1, if_neg hs35_2]) rfl)⟩
      · refine p_aload_n (z_dec zd_X7_become 10 rfl) rfl 0 rfl (n := 19) rfl ?_
        refine p_iload_n (z_dec zd_X7_become 11 rfl) rfl 3 rfl (n := 20) rfl ?_
        refine q_putI (z_dec zd_X7_become 12 rfl) zp_X7_31 (fun q => by cases q) hy.1 (n := 23) rfl ?_
        refine p_goto (z_dec zd_X7_become 13 rfl) (t := 97) (by decide) ?_
        exact p_vret (z_dec zd_X7_become 43 rfl) rfl ⟨rfl, rfl, (z_3 (by unfold m_X7_become; rw [if_neg h2, if_pos h15]) rfl)⟩
    · refine p_aload_n (z_dec zd_X7_become 3 rfl) rfl 0 rfl (n := 6) rfl ?_
      refine p_iload_n (z_dec zd_X7_become 4 rfl) rfl 3 rfl (n := 7) rfl ?_
      refine q_putI (z_dec zd_X7_become 5 rfl) zp_X7_28 (fun q => by cases q) hy.1 (n := 10) rfl ?_
      refine p_goto (z_dec zd_X7_become 6 rfl) (t := 97) (by decide) ?_
      exact p_vret (z_dec zd_X7_become 43 rfl) rfl ⟨rfl, rfl, (z_3 (by unfold m_X7_become; rw [if_pos h2]) rfl)⟩
  exact hentry
def gb_X7_judgeBits_4 (I : Nat → Nat → Int32) (k : Nat) (i4 : Nat) (s : Int32) : Int32 := if (f_X7_mayJudge I k i4) = 0 then (s ||| 0) else (s ||| ((1 : Int32) <<< ((nI i4) &&& 31)))
def g_X7_judgeBits_4 (I : Nat → Nat → Int32) (k : Nat) : Nat → Int32
  | 0 => 0
  | i4 + 1 => gb_X7_judgeBits_4 I k i4 (g_X7_judgeBits_4 I k i4)
def f_X7_judgeBits (I : Nat → Nat → Int32) (k : Nat) (np : Nat) : Int32 := (g_X7_judgeBits_4 I k np)
set_option maxHeartbeats 4000000 in
set_option maxRecDepth 100000 in
theorem c_X7_judgeBits (d : Nat) (hd : 1 ≤ d) (b : Bool) (I : Nat → Nat → Int32) (L : Nat → Nat → Int64) (k : Nat) (hy : z_Yd b k) (np : Nat) (hnp : I k 0 = nI np) (hn10 : np ≤ 10) : z_CT zm_X7_judgeBits d [.ref k] SH (I, L, z_R b) 0 0 (z_ret (some (.int (f_X7_judgeBits I k np))) (I, L, z_R b)) := by
  refine z_enter (by decide +kernel) (Nat.le_of_ble_eq_true rfl) ?_
  have hentry : PW zm_X7_judgeBits d 0 [(0, .ref k)] [] SH (I, L, z_R b) 0 0 (z_ret (some (.int (f_X7_judgeBits I k np))) (I, L, z_R b)) := by
    refine p_iconst (z_dec zd_X7_judgeBits 0 rfl) (v := 0) (by decide) (n := 1) rfl ?_
    refine p_istore_n (z_dec zd_X7_judgeBits 1 rfl) rfl (lv2 := [(1, .int 0), (0, .ref k)]) (by decide) rfl (n := 2) rfl ?_
    refine p_iconst (z_dec zd_X7_judgeBits 2 rfl) (v := 0) (by decide) (n := 3) rfl ?_
    refine p_istore_n (z_dec zd_X7_judgeBits 3 rfl) rfl (lv2 := [(2, .int 0), (1, .int 0), (0, .ref k)]) (by decide) rfl (n := 4) rfl ?_
    have hL4 : ∀ i4, i4 ≤ np → PW zm_X7_judgeBits d 4 [(2, .int (nI i4)), (1, .int (g_X7_judgeBits_4 I k i4)), (0, .ref k)] [] SH (I, L, z_R b) 0 0 (z_ret (some (.int (f_X7_judgeBits I k np))) (I, L, z_R b)) := by
      refine z_down np (fun i4 hi4 ih4 => ?_)
      refine p_iload_n (z_dec zd_X7_judgeBits 4 rfl) rfl 0 rfl (n := 5) rfl ?_
      refine p_aload_n (z_dec zd_X7_judgeBits 5 rfl) rfl 2 rfl (n := 6) rfl ?_
      refine q_getI (z_dec zd_X7_judgeBits 6 rfl) zf_X7_9 (by decide) hy.1 (v := (nI np)) hnp (n := 9) rfl ?_
      refine p_icmp_ge (z_dec zd_X7_judgeBits 7 rfl) (t := 36) (by decide) (n := 12) rfl (fun h9 => ?_) (fun h9 => ?_)
      · have hx4 : i4 = np := by have := z_ge (a := np) h9; omega
        rw [hx4]
        refine p_iload_n (z_dec zd_X7_judgeBits 22 rfl) rfl 1 rfl (n := 37) rfl ?_
        exact p_iret (z_dec zd_X7_judgeBits 23 rfl) rfl ⟨(by unfold f_X7_judgeBits; rfl), rfl, rfl⟩
      · have hx4 : i4 < np := by have := z_nge (a := np) h9; omega
        refine p_iload_n (z_dec zd_X7_judgeBits 8 rfl) rfl 1 rfl (n := 13) rfl ?_
        refine p_aload_n (z_dec zd_X7_judgeBits 9 rfl) rfl 2 rfl (n := 14) rfl ?_
        refine p_iload_n (z_dec zd_X7_judgeBits 10 rfl) rfl 0 rfl (n := 15) rfl ?_
        refine q_callV (As := [.int (nI i4)]) (rest := [.int (g_X7_judgeBits_4 I k i4)]) (z_dec zd_X7_judgeBits 11 rfl) zk_X7_46 zv_X7_mayJudge (c_X7_mayJudge (d - 1) (by omega) b I L k (hy) i4 (by omega)) hy.1 ⟨_, _, rfl⟩ rfl rfl (Nat.le_of_ble_eq_true rfl) (by omega) (n := 18) rfl ?_
        show PW zm_X7_judgeBits d 18 [(2, .int (nI i4)), (1, .int (g_X7_judgeBits_4 I k i4)), (0, .ref k)] [.int (f_X7_mayJudge I k i4), .int (g_X7_judgeBits_4 I k i4)] SH (I, L, z_R b) 0 0 _
        refine p_if_eq (z_dec zd_X7_judgeBits 12 rfl) (t := 27) (by decide) (n := 21) rfl (fun h18 => ?_) (fun h18 => ?_)
        · refine p_iconst (z_dec zd_X7_judgeBits 17 rfl) (v := 0) (by decide) (n := 28) rfl ?_
          refine p_ior (z_dec zd_X7_judgeBits 18 rfl) (n := 29) rfl ?_
          refine p_istore_n (z_dec zd_X7_judgeBits 19 rfl) rfl (lv2 := [(1, .int ((g_X7_judgeBits_4 I k i4) ||| 0)), (2, .int (nI i4)), (0, .ref k)]) (by decide) rfl (n := 30) rfl ?_
          refine p_iinc (z_dec zd_X7_judgeBits 20 rfl) 1 rfl (v := (nI (i4 + 1))) (nI_1 _) (lv2 := [(2, .int (nI (i4 + 1))), (1, .int ((g_X7_judgeBits_4 I k i4) ||| 0)), (0, .ref k)]) (by decide) rfl (n := 33) rfl ?_
          refine p_goto (z_dec zd_X7_judgeBits 21 rfl) (t := 4) (by decide) ?_
          have eb : (g_X7_judgeBits_4 I k) (i4 + 1) = ((g_X7_judgeBits_4 I k i4) ||| 0) := by show gb_X7_judgeBits_4 I k i4 ((g_X7_judgeBits_4 I k) i4) = _; unfold gb_X7_judgeBits_4; rw [if_pos h18]
          refine z_lv (lv' := [(2, .int (nI (i4 + 1))), (1, .int (g_X7_judgeBits_4 I k (i4 + 1))), (0, .ref k)]) (by rw [eb]) rfl rfl (ih4 (by omega))
        · refine p_iconst (z_dec zd_X7_judgeBits 13 rfl) (v := 1) (by decide) (n := 22) rfl ?_
          refine p_iload_n (z_dec zd_X7_judgeBits 14 rfl) rfl 0 rfl (n := 23) rfl ?_
          refine p_ishl (z_dec zd_X7_judgeBits 15 rfl) (n := 24) rfl ?_
          refine p_goto (z_dec zd_X7_judgeBits 16 rfl) (t := 28) (by decide) ?_
          refine p_ior (z_dec zd_X7_judgeBits 18 rfl) (n := 29) rfl ?_
          refine p_istore_n (z_dec zd_X7_judgeBits 19 rfl) rfl (lv2 := [(1, .int ((g_X7_judgeBits_4 I k i4) ||| ((1 : Int32) <<< ((nI i4) &&& 31)))), (2, .int (nI i4)), (0, .ref k)]) (by decide) rfl (n := 30) rfl ?_
          refine p_iinc (z_dec zd_X7_judgeBits 20 rfl) 1 rfl (v := (nI (i4 + 1))) (nI_1 _) (lv2 := [(2, .int (nI (i4 + 1))), (1, .int ((g_X7_judgeBits_4 I k i4) ||| ((1 : Int32) <<< ((nI i4) &&& 31)))), (0, .ref k)]) (by decide) rfl (n := 33) rfl ?_
          refine p_goto (z_dec zd_X7_judgeBits 21 rfl) (t := 4) (by decide) ?_
          have eb : (g_X7_judgeBits_4 I k) (i4 + 1) = ((g_X7_judgeBits_4 I k i4) ||| ((1 : Int32) <<< ((nI i4) &&& 31))) := by show gb_X7_judgeBits_4 I k i4 ((g_X7_judgeBits_4 I k) i4) = _; unfold gb_X7_judgeBits_4; rw [if_neg h18]
          refine z_lv (lv' := [(2, .int (nI (i4 + 1))), (1, .int (g_X7_judgeBits_4 I k (i4 + 1))), (0, .ref k)]) (by rw [eb]) rfl rfl (ih4 (by omega))
    refine z_lv (lv' := [(2, .int (nI 0)), (1, .int (g_X7_judgeBits_4 I k 0)), (0, .ref k)]) rfl rfl rfl (hL4 0 (Nat.zero_le _))
  exact hentry
def gb_X7_freeBits_4 (I : Nat → Nat → Int32) (k : Nat) (i4 : Nat) (s : Int32) : Int32 := if (f_X7_isFree I k i4) = 0 then (s ||| 0) else (s ||| ((1 : Int32) <<< ((nI i4) &&& 31)))
def g_X7_freeBits_4 (I : Nat → Nat → Int32) (k : Nat) : Nat → Int32
  | 0 => 0
  | i4 + 1 => gb_X7_freeBits_4 I k i4 (g_X7_freeBits_4 I k i4)
def f_X7_freeBits (I : Nat → Nat → Int32) (k : Nat) (np : Nat) : Int32 := (g_X7_freeBits_4 I k np)
set_option maxHeartbeats 4000000 in
set_option maxRecDepth 100000 in
theorem c_X7_freeBits (d : Nat) (hd : 1 ≤ d) (b : Bool) (I : Nat → Nat → Int32) (L : Nat → Nat → Int64) (k : Nat) (hy : z_Yd b k) (np : Nat) (hnp : I k 0 = nI np) (hn10 : np ≤ 10) : z_CT zm_X7_freeBits d [.ref k] SH (I, L, z_R b) 0 0 (z_ret (some (.int (f_X7_freeBits I k np))) (I, L, z_R b)) := by
  refine z_enter (by decide +kernel) (Nat.le_of_ble_eq_true rfl) ?_
  have hentry : PW zm_X7_freeBits d 0 [(0, .ref k)] [] SH (I, L, z_R b) 0 0 (z_ret (some (.int (f_X7_freeBits I k np))) (I, L, z_R b)) := by
    refine p_iconst (z_dec zd_X7_freeBits 0 rfl) (v := 0) (by decide) (n := 1) rfl ?_
    refine p_istore_n (z_dec zd_X7_freeBits 1 rfl) rfl (lv2 := [(1, .int 0), (0, .ref k)]) (by decide) rfl (n := 2) rfl ?_
    refine p_iconst (z_dec zd_X7_freeBits 2 rfl) (v := 0) (by decide) (n := 3) rfl ?_
    refine p_istore_n (z_dec zd_X7_freeBits 3 rfl) rfl (lv2 := [(2, .int 0), (1, .int 0), (0, .ref k)]) (by decide) rfl (n := 4) rfl ?_
    have hL4 : ∀ i4, i4 ≤ np → PW zm_X7_freeBits d 4 [(2, .int (nI i4)), (1, .int (g_X7_freeBits_4 I k i4)), (0, .ref k)] [] SH (I, L, z_R b) 0 0 (z_ret (some (.int (f_X7_freeBits I k np))) (I, L, z_R b)) := by
      refine z_down np (fun i4 hi4 ih4 => ?_)
      refine p_iload_n (z_dec zd_X7_freeBits 4 rfl) rfl 0 rfl (n := 5) rfl ?_
      refine p_aload_n (z_dec zd_X7_freeBits 5 rfl) rfl 2 rfl (n := 6) rfl ?_
      refine q_getI (z_dec zd_X7_freeBits 6 rfl) zf_X7_9 (by decide) hy.1 (v := (nI np)) hnp (n := 9) rfl ?_
      refine p_icmp_ge (z_dec zd_X7_freeBits 7 rfl) (t := 36) (by decide) (n := 12) rfl (fun h9 => ?_) (fun h9 => ?_)
      · have hx4 : i4 = np := by have := z_ge (a := np) h9; omega
        rw [hx4]
        refine p_iload_n (z_dec zd_X7_freeBits 22 rfl) rfl 1 rfl (n := 37) rfl ?_
        exact p_iret (z_dec zd_X7_freeBits 23 rfl) rfl ⟨(by unfold f_X7_freeBits; rfl), rfl, rfl⟩
      · have hx4 : i4 < np := by have := z_nge (a := np) h9; omega
        refine p_iload_n (z_dec zd_X7_freeBits 8 rfl) rfl 1 rfl (n := 13) rfl ?_
        refine p_aload_n (z_dec zd_X7_freeBits 9 rfl) rfl 2 rfl (n := 14) rfl ?_
        refine p_iload_n (z_dec zd_X7_freeBits 10 rfl) rfl 0 rfl (n := 15) rfl ?_
        refine q_callV (As := [.int (nI i4)]) (rest := [.int (g_X7_freeBits_4 I k i4)]) (z_dec zd_X7_freeBits 11 rfl) zk_X7_49 zv_X7_isFree (c_X7_isFree (d - 1) (by omega) b I L k (hy) i4 (by omega)) hy.1 ⟨_, _, rfl⟩ rfl rfl (Nat.le_of_ble_eq_true rfl) (by omega) (n := 18) rfl ?_
        show PW zm_X7_freeBits d 18 [(2, .int (nI i4)), (1, .int (g_X7_freeBits_4 I k i4)), (0, .ref k)] [.int (f_X7_isFree I k i4), .int (g_X7_freeBits_4 I k i4)] SH (I, L, z_R b) 0 0 _
        refine p_if_eq (z_dec zd_X7_freeBits 12 rfl) (t := 27) (by decide) (n := 21) rfl (fun h18 => ?_) (fun h18 => ?_)
        · refine p_iconst (z_dec zd_X7_freeBits 17 rfl) (v := 0) (by decide) (n := 28) rfl ?_
          refine p_ior (z_dec zd_X7_freeBits 18 rfl) (n := 29) rfl ?_
          refine p_istore_n (z_dec zd_X7_freeBits 19 rfl) rfl (lv2 := [(1, .int ((g_X7_freeBits_4 I k i4) ||| 0)), (2, .int (nI i4)), (0, .ref k)]) (by decide) rfl (n := 30) rfl ?_
          refine p_iinc (z_dec zd_X7_freeBits 20 rfl) 1 rfl (v := (nI (i4 + 1))) (nI_1 _) (lv2 := [(2, .int (nI (i4 + 1))), (1, .int ((g_X7_freeBits_4 I k i4) ||| 0)), (0, .ref k)]) (by decide) rfl (n := 33) rfl ?_
          refine p_goto (z_dec zd_X7_freeBits 21 rfl) (t := 4) (by decide) ?_
          have eb : (g_X7_freeBits_4 I k) (i4 + 1) = ((g_X7_freeBits_4 I k i4) ||| 0) := by show gb_X7_freeBits_4 I k i4 ((g_X7_freeBits_4 I k) i4) = _; unfold gb_X7_freeBits_4; rw [if_pos h18]
          refine z_lv (lv' := [(2, .int (nI (i4 + 1))), (1, .int (g_X7_freeBits_4 I k (i4 + 1))), (0, .ref k)]) (by rw [eb]) rfl rfl (ih4 (by omega))
        · refine p_iconst (z_dec zd_X7_freeBits 13 rfl) (v := 1) (by decide) (n := 22) rfl ?_
          refine p_iload_n (z_dec zd_X7_freeBits 14 rfl) rfl 0 rfl (n := 23) rfl ?_
          refine p_ishl (z_dec zd_X7_freeBits 15 rfl) (n := 24) rfl ?_
          refine p_goto (z_dec zd_X7_freeBits 16 rfl) (t := 28) (by decide) ?_
          refine p_ior (z_dec zd_X7_freeBits 18 rfl) (n := 29) rfl ?_
          refine p_istore_n (z_dec zd_X7_freeBits 19 rfl) rfl (lv2 := [(1, .int ((g_X7_freeBits_4 I k i4) ||| ((1 : Int32) <<< ((nI i4) &&& 31)))), (2, .int (nI i4)), (0, .ref k)]) (by decide) rfl (n := 30) rfl ?_
          refine p_iinc (z_dec zd_X7_freeBits 20 rfl) 1 rfl (v := (nI (i4 + 1))) (nI_1 _) (lv2 := [(2, .int (nI (i4 + 1))), (1, .int ((g_X7_freeBits_4 I k i4) ||| ((1 : Int32) <<< ((nI i4) &&& 31)))), (0, .ref k)]) (by decide) rfl (n := 33) rfl ?_
          refine p_goto (z_dec zd_X7_freeBits 21 rfl) (t := 4) (by decide) ?_
          have eb : (g_X7_freeBits_4 I k) (i4 + 1) = ((g_X7_freeBits_4 I k i4) ||| ((1 : Int32) <<< ((nI i4) &&& 31))) := by show gb_X7_freeBits_4 I k i4 ((g_X7_freeBits_4 I k) i4) = _; unfold gb_X7_freeBits_4; rw [if_neg h18]
          refine z_lv (lv' := [(2, .int (nI (i4 + 1))), (1, .int (g_X7_freeBits_4 I k (i4 + 1))), (0, .ref k)]) (by rw [eb]) rfl rfl (ih4 (by omega))
    refine z_lv (lv' := [(2, .int (nI 0)), (1, .int (g_X7_freeBits_4 I k 0)), (0, .ref k)]) rfl rfl rfl (hL4 0 (Nat.zero_le _))
  exact hentry
def gb_X7_countBeaten_4 (I : Nat → Nat → Int32) (k : Nat) (i4 : Nat) (s : Int32) : Int32 := if ((I (k + 4) i4) &&& 2) = 0 then (s + 0) else (s + 1)
def g_X7_countBeaten_4 (I : Nat → Nat → Int32) (k : Nat) : Nat → Int32
  | 0 => 0
  | i4 + 1 => gb_X7_countBeaten_4 I k i4 (g_X7_countBeaten_4 I k i4)
def f_X7_countBeaten (I : Nat → Nat → Int32) (k : Nat) (np : Nat) : Int32 := (g_X7_countBeaten_4 I k np)
set_option maxHeartbeats 4000000 in
set_option maxRecDepth 100000 in
theorem c_X7_countBeaten (d : Nat) (hd : 0 ≤ d) (b : Bool) (I : Nat → Nat → Int32) (L : Nat → Nat → Int64) (k : Nat) (hy : z_Yd b k) (np : Nat) (hnp : I k 0 = nI np) (hn10 : np ≤ 10) : z_CT zm_X7_countBeaten d [.ref k] SH (I, L, z_R b) 0 0 (z_ret (some (.int (f_X7_countBeaten I k np))) (I, L, z_R b)) := by
  refine z_enter (by decide +kernel) (Nat.le_of_ble_eq_true rfl) ?_
  have hentry : PW zm_X7_countBeaten d 0 [(0, .ref k)] [] SH (I, L, z_R b) 0 0 (z_ret (some (.int (f_X7_countBeaten I k np))) (I, L, z_R b)) := by
    refine p_iconst (z_dec zd_X7_countBeaten 0 rfl) (v := 0) (by decide) (n := 1) rfl ?_
    refine p_istore_n (z_dec zd_X7_countBeaten 1 rfl) rfl (lv2 := [(1, .int 0), (0, .ref k)]) (by decide) rfl (n := 2) rfl ?_
    refine p_iconst (z_dec zd_X7_countBeaten 2 rfl) (v := 0) (by decide) (n := 3) rfl ?_
    refine p_istore_n (z_dec zd_X7_countBeaten 3 rfl) rfl (lv2 := [(2, .int 0), (1, .int 0), (0, .ref k)]) (by decide) rfl (n := 4) rfl ?_
    have hL4 : ∀ i4, i4 ≤ np → PW zm_X7_countBeaten d 4 [(2, .int (nI i4)), (1, .int (g_X7_countBeaten_4 I k i4)), (0, .ref k)] [] SH (I, L, z_R b) 0 0 (z_ret (some (.int (f_X7_countBeaten I k np))) (I, L, z_R b)) := by
      refine z_down np (fun i4 hi4 ih4 => ?_)
      refine p_iload_n (z_dec zd_X7_countBeaten 4 rfl) rfl 0 rfl (n := 5) rfl ?_
      refine p_aload_n (z_dec zd_X7_countBeaten 5 rfl) rfl 2 rfl (n := 6) rfl ?_
      refine q_getI (z_dec zd_X7_countBeaten 6 rfl) zf_X7_9 (by decide) hy.1 (v := (nI np)) hnp (n := 9) rfl ?_
      refine p_icmp_ge (z_dec zd_X7_countBeaten 7 rfl) (t := 37) (by decide) (n := 12) rfl (fun h9 => ?_) (fun h9 => ?_)
      · have hx4 : i4 = np := by have := z_ge (a := np) h9; omega
        rw [hx4]
        refine p_iload_n (z_dec zd_X7_countBeaten 23 rfl) rfl 1 rfl (n := 38) rfl ?_
        exact p_iret (z_dec zd_X7_countBeaten 24 rfl) rfl ⟨(by unfold f_X7_countBeaten; rfl), rfl, rfl⟩
      · have hx4 : i4 < np := by have := z_nge (a := np) h9; omega
        refine p_iload_n (z_dec zd_X7_countBeaten 8 rfl) rfl 1 rfl (n := 13) rfl ?_
        refine p_aload_n (z_dec zd_X7_countBeaten 9 rfl) rfl 2 rfl (n := 14) rfl ?_
        refine q_getR (z_dec zd_X7_countBeaten 10 rfl) zf_X7_25 (i := (k + 4)) hy.2.2.2.2.2.1 hy.1 (n := 17) rfl ?_
        refine p_iload_n (z_dec zd_X7_countBeaten 11 rfl) rfl 0 rfl (n := 18) rfl ?_
        refine q_iald (z_dec zd_X7_countBeaten 12 rfl) hy.2.1.2.2.2.1 (by decide) (i4) rfl (by omega) (v := (I (k + 4) i4)) rfl (n := 19) rfl ?_
        refine p_iconst (z_dec zd_X7_countBeaten 13 rfl) (v := 2) (by decide) (n := 20) rfl ?_
        refine p_iand (z_dec zd_X7_countBeaten 14 rfl) (n := 21) rfl ?_
        refine p_if_eq (z_dec zd_X7_countBeaten 15 rfl) (t := 28) (by decide) (n := 24) rfl (fun h21 => ?_) (fun h21 => ?_)
        · refine p_iconst (z_dec zd_X7_countBeaten 18 rfl) (v := 0) (by decide) (n := 29) rfl ?_
          refine p_iadd (z_dec zd_X7_countBeaten 19 rfl) (n := 30) rfl ?_
          refine p_istore_n (z_dec zd_X7_countBeaten 20 rfl) rfl (lv2 := [(1, .int ((g_X7_countBeaten_4 I k i4) + 0)), (2, .int (nI i4)), (0, .ref k)]) (by decide) rfl (n := 31) rfl ?_
          refine p_iinc (z_dec zd_X7_countBeaten 21 rfl) 1 rfl (v := (nI (i4 + 1))) (nI_1 _) (lv2 := [(2, .int (nI (i4 + 1))), (1, .int ((g_X7_countBeaten_4 I k i4) + 0)), (0, .ref k)]) (by decide) rfl (n := 34) rfl ?_
          refine p_goto (z_dec zd_X7_countBeaten 22 rfl) (t := 4) (by decide) ?_
          have eb : (g_X7_countBeaten_4 I k) (i4 + 1) = ((g_X7_countBeaten_4 I k i4) + 0) := by show gb_X7_countBeaten_4 I k i4 ((g_X7_countBeaten_4 I k) i4) = _; unfold gb_X7_countBeaten_4; rw [if_pos h21]
          refine z_lv (lv' := [(2, .int (nI (i4 + 1))), (1, .int (g_X7_countBeaten_4 I k (i4 + 1))), (0, .ref k)]) (by rw [eb]) rfl rfl (ih4 (by omega))
        · refine p_iconst (z_dec zd_X7_countBeaten 16 rfl) (v := 1) (by decide) (n := 25) rfl ?_
          refine p_goto (z_dec zd_X7_countBeaten 17 rfl) (t := 29) (by decide) ?_
          refine p_iadd (z_dec zd_X7_countBeaten 19 rfl) (n := 30) rfl ?_
          refine p_istore_n (z_dec zd_X7_countBeaten 20 rfl) rfl (lv2 := [(1, .int ((g_X7_countBeaten_4 I k i4) + 1)), (2, .int (nI i4)), (0, .ref k)]) (by decide) rfl (n := 31) rfl ?_
          refine p_iinc (z_dec zd_X7_countBeaten 21 rfl) 1 rfl (v := (nI (i4 + 1))) (nI_1 _) (lv2 := [(2, .int (nI (i4 + 1))), (1, .int ((g_X7_countBeaten_4 I k i4) + 1)), (0, .ref k)]) (by decide) rfl (n := 34) rfl ?_
          refine p_goto (z_dec zd_X7_countBeaten 22 rfl) (t := 4) (by decide) ?_
          have eb : (g_X7_countBeaten_4 I k) (i4 + 1) = ((g_X7_countBeaten_4 I k i4) + 1) := by show gb_X7_countBeaten_4 I k i4 ((g_X7_countBeaten_4 I k) i4) = _; unfold gb_X7_countBeaten_4; rw [if_neg h21]
          refine z_lv (lv' := [(2, .int (nI (i4 + 1))), (1, .int (g_X7_countBeaten_4 I k (i4 + 1))), (0, .ref k)]) (by rw [eb]) rfl rfl (ih4 (by omega))
    refine z_lv (lv' := [(2, .int (nI 0)), (1, .int (g_X7_countBeaten_4 I k 0)), (0, .ref k)]) rfl rfl rfl (hL4 0 (Nat.zero_le _))
  exact hentry
def gb_X7_endDay_2 (I : Nat → Nat → Int32) (k : Nat) (i2 : Nat) (s : (Nat → Nat → Int32)) : (Nat → Nat → Int32) := if ((s (k + 4) i2) &&& 2) = 0 then (z_up (z_up (z_up s (k + 3) i2 (((2 * (s (k + 3) i2)) + 0) &&& 255)) (k + 2) i2 (if 0 < ((s (k + 2) i2) - 1) then ((s (k + 2) i2) - 1) else 0)) (k + 4) i2 0) else (z_up (z_up (z_up s (k + 3) i2 (((2 * (s (k + 3) i2)) + 1) &&& 255)) (k + 2) i2 (if ((s (k + 2) i2) + 3) < 99 then ((s (k + 2) i2) + 3) else 99)) (k + 4) i2 0)
def g_X7_endDay_2 (I : Nat → Nat → Int32) (k : Nat) : Nat → (Nat → Nat → Int32)
  | 0 => I
  | i2 + 1 => gb_X7_endDay_2 I k i2 (g_X7_endDay_2 I k i2)
theorem gi_X7_endDay_2_k_0 (I : Nat → Nat → Int32) (k : Nat) : ∀ i2, (g_X7_endDay_2 I k i2) k 0 = I k 0
  | 0 => rfl
  | i2 + 1 => by
    have ih := gi_X7_endDay_2_k_0 I k i2
    show (gb_X7_endDay_2 I k i2 (g_X7_endDay_2 I k i2)) k 0 = _
    unfold gb_X7_endDay_2
    (repeat' split) <;> simp [z_up, ih]
def m_X7_endDay (I : Nat → Nat → Int32) (k : Nat) (np : Nat) : Nat → Nat → Int32 := (z_up (g_X7_endDay_2 I k np) k 5 (if (((g_X7_endDay_2 I k np) k 5) + 1) < 99 then (((g_X7_endDay_2 I k np) k 5) + 1) else 99))
set_option maxHeartbeats 4000000 in
set_option maxRecDepth 100000 in
theorem c_X7_endDay (d : Nat) (hd : 1 ≤ d) (b : Bool) (I : Nat → Nat → Int32) (L : Nat → Nat → Int64) (k : Nat) (hy : z_Yd b k) (np : Nat) (hnp : I k 0 = nI np) (hn10 : np ≤ 10) : z_CT zm_X7_endDay d [.ref k] SH (I, L, z_R b) 0 0 (z_ret (none) ((m_X7_endDay I k np), L, z_R b)) := by
  refine z_enter (by decide +kernel) (Nat.le_of_ble_eq_true rfl) ?_
  have hentry : PW zm_X7_endDay d 0 [(0, .ref k)] [] SH (I, L, z_R b) 0 0 (z_ret (none) ((m_X7_endDay I k np), L, z_R b)) := by
    refine p_iconst (z_dec zd_X7_endDay 0 rfl) (v := 0) (by decide) (n := 1) rfl ?_
    refine p_istore_n (z_dec zd_X7_endDay 1 rfl) rfl (lv2 := [(1, .int 0), (0, .ref k)]) (by decide) rfl (n := 2) rfl ?_
    have hL2 : ∀ i2, i2 ≤ np → PW zm_X7_endDay d 2 [(1, .int (nI i2)), (0, .ref k)] [] SH ((g_X7_endDay_2 I k i2), L, z_R b) 0 0 (z_ret (none) ((m_X7_endDay I k np), L, z_R b)) := by
      refine z_down np (fun i2 hi2 ih2 => ?_)
      refine p_iload_n (z_dec zd_X7_endDay 2 rfl) rfl 0 rfl (n := 3) rfl ?_
      refine p_aload_n (z_dec zd_X7_endDay 3 rfl) rfl 1 rfl (n := 4) rfl ?_
      refine q_getI (z_dec zd_X7_endDay 4 rfl) zf_X7_9 (by decide) hy.1 (v := (nI np)) ((gi_X7_endDay_2_k_0 I k i2).trans hnp) (n := 7) rfl ?_
      refine p_icmp_ge (z_dec zd_X7_endDay 5 rfl) (t := 106) (by decide) (n := 10) rfl (fun h7 => ?_) (fun h7 => ?_)
      · have hx2 : i2 = np := by have := z_ge (a := np) h7; omega
        rw [hx2]
        refine p_aload_n (z_dec zd_X7_endDay 65 rfl) rfl 1 rfl (n := 107) rfl ?_
        refine p_bipush (z_dec zd_X7_endDay 66 rfl) (v := 99) (by decide) (n := 109) rfl ?_
        refine p_aload_n (z_dec zd_X7_endDay 67 rfl) rfl 1 rfl (n := 110) rfl ?_
        refine q_getI (z_dec zd_X7_endDay 68 rfl) zf_X7_28 (by decide) hy.1 (v := ((g_X7_endDay_2 I k np) k 5)) rfl (n := 113) rfl ?_
        refine p_iconst (z_dec zd_X7_endDay 69 rfl) (v := 1) (by decide) (n := 114) rfl ?_
        refine p_iadd (z_dec zd_X7_endDay 70 rfl) (n := 115) rfl ?_
        refine p_mmin (z_dec zd_X7_endDay 71 rfl) zk_X7_66 (by omega) (Nat.le_of_ble_eq_true rfl) (n := 118) rfl ?_
        refine q_putI (z_dec zd_X7_endDay 72 rfl) zp_X7_28 (fun q => by cases q) hy.1 (n := 121) rfl ?_
        exact p_vret (z_dec zd_X7_endDay 73 rfl) rfl ⟨rfl, rfl, (z_3 (by unfold m_X7_endDay; rfl) rfl)⟩
      · have hx2 : i2 < np := by have := z_nge (a := np) h7; omega
        refine p_aload_n (z_dec zd_X7_endDay 6 rfl) rfl 1 rfl (n := 11) rfl ?_
        refine q_getR (z_dec zd_X7_endDay 7 rfl) zf_X7_25 (i := (k + 4)) hy.2.2.2.2.2.1 hy.1 (n := 14) rfl ?_
        refine p_iload_n (z_dec zd_X7_endDay 8 rfl) rfl 0 rfl (n := 15) rfl ?_
        refine q_iald (z_dec zd_X7_endDay 9 rfl) hy.2.1.2.2.2.1 (by decide) (i2) rfl (by omega) (v := ((g_X7_endDay_2 I k i2) (k + 4) i2)) rfl (n := 16) rfl ?_
        refine p_iconst (z_dec zd_X7_endDay 10 rfl) (v := 2) (by decide) (n := 17) rfl ?_
        refine p_iand (z_dec zd_X7_endDay 11 rfl) (n := 18) rfl ?_
        refine p_if_eq (z_dec zd_X7_endDay 12 rfl) (t := 25) (by decide) (n := 21) rfl (fun h18 => ?_) (fun h18 => ?_)
        · refine p_iconst (z_dec zd_X7_endDay 15 rfl) (v := 0) (by decide) (n := 26) rfl ?_
          refine p_istore_n (z_dec zd_X7_endDay 16 rfl) rfl (lv2 := [(2, .int 0), (1, .int (nI i2)), (0, .ref k)]) (by decide) rfl (n := 27) rfl ?_
          refine p_aload_n (z_dec zd_X7_endDay 17 rfl) rfl 2 rfl (n := 28) rfl ?_
          refine q_getR (z_dec zd_X7_endDay 18 rfl) zf_X7_22 (i := (k + 3)) hy.2.2.2.2.1 hy.1 (n := 31) rfl ?_
          refine p_iload_n (z_dec zd_X7_endDay 19 rfl) rfl 1 rfl (n := 32) rfl ?_
          refine p_iconst (z_dec zd_X7_endDay 20 rfl) (v := 2) (by decide) (n := 33) rfl ?_
          refine p_aload_n (z_dec zd_X7_endDay 21 rfl) rfl 2 rfl (n := 34) rfl ?_
          refine q_getR (z_dec zd_X7_endDay 22 rfl) zf_X7_22 (i := (k + 3)) hy.2.2.2.2.1 hy.1 (n := 37) rfl ?_
          refine p_iload_n (z_dec zd_X7_endDay 23 rfl) rfl 1 rfl (n := 38) rfl ?_
          refine q_iald (z_dec zd_X7_endDay 24 rfl) hy.2.1.2.2.1 (by decide) (i2) rfl (by omega) (v := ((g_X7_endDay_2 I k i2) (k + 3) i2)) rfl (n := 39) rfl ?_
          refine p_imul (z_dec zd_X7_endDay 25 rfl) (n := 40) rfl ?_
          refine p_iload_n (z_dec zd_X7_endDay 26 rfl) rfl 0 rfl (n := 41) rfl ?_
          refine p_if_eq (z_dec zd_X7_endDay 27 rfl) (t := 48) (by decide) (n := 44) rfl (fun h41 => ?_) (fun h41 => ?_)
          · refine p_iconst (z_dec zd_X7_endDay 30 rfl) (v := 0) (by decide) (n := 49) rfl ?_
            refine p_iadd (z_dec zd_X7_endDay 31 rfl) (n := 50) rfl ?_
            refine p_sipush (z_dec zd_X7_endDay 32 rfl) (v := 255) (by decide) (n := 53) rfl ?_
            refine p_iand (z_dec zd_X7_endDay 33 rfl) (n := 54) rfl ?_
            refine q_iast (z_dec zd_X7_endDay 34 rfl) hy.2.1.2.2.1 (by decide) (i2) rfl (by omega) (n := 55) rfl ?_
            refine p_aload_n (z_dec zd_X7_endDay 35 rfl) rfl 2 rfl (n := 56) rfl ?_
            refine q_getR (z_dec zd_X7_endDay 36 rfl) zf_X7_19 (i := (k + 2)) hy.2.2.2.1 hy.1 (n := 59) rfl ?_
            refine p_iload_n (z_dec zd_X7_endDay 37 rfl) rfl 1 rfl (n := 60) rfl ?_
            refine p_iload_n (z_dec zd_X7_endDay 38 rfl) rfl 0 rfl (n := 61) rfl ?_
            refine p_if_eq (z_dec zd_X7_endDay 39 rfl) (t := 80) (by decide) (n := 64) rfl (fun h61 => ?_) (fun h61 => ?_)
            · refine p_iconst (z_dec zd_X7_endDay 49 rfl) (v := 0) (by decide) (n := 81) rfl ?_
              refine p_aload_n (z_dec zd_X7_endDay 50 rfl) rfl 2 rfl (n := 82) rfl ?_
              refine q_getR (z_dec zd_X7_endDay 51 rfl) zf_X7_19 (i := (k + 2)) hy.2.2.2.1 hy.1 (n := 85) rfl ?_
              refine p_iload_n (z_dec zd_X7_endDay 52 rfl) rfl 1 rfl (n := 86) rfl ?_
              refine q_iald (z_dec zd_X7_endDay 53 rfl) hy.2.1.2.1 (by decide) (i2) rfl (by omega) (v := ((g_X7_endDay_2 I k i2) (k + 2) i2)) (by simp [z_up]) (n := 87) rfl ?_
              refine p_iconst (z_dec zd_X7_endDay 54 rfl) (v := 1) (by decide) (n := 88) rfl ?_
              refine p_isub (z_dec zd_X7_endDay 55 rfl) (n := 89) rfl ?_
              refine p_mmax (z_dec zd_X7_endDay 56 rfl) zk_X7_79 (by omega) (Nat.le_of_ble_eq_true rfl) (n := 92) rfl ?_
              refine q_iast (z_dec zd_X7_endDay 57 rfl) hy.2.1.2.1 (by decide) (i2) rfl (by omega) (n := 93) rfl ?_
              refine p_aload_n (z_dec zd_X7_endDay 58 rfl) rfl 2 rfl (n := 94) rfl ?_
              refine q_getR (z_dec zd_X7_endDay 59 rfl) zf_X7_25 (i := (k + 4)) hy.2.2.2.2.2.1 hy.1 (n := 97) rfl ?_
              refine p_iload_n (z_dec zd_X7_endDay 60 rfl) rfl 1 rfl (n := 98) rfl ?_
              refine p_iconst (z_dec zd_X7_endDay 61 rfl) (v := 0) (by decide) (n := 99) rfl ?_
              refine q_iast (z_dec zd_X7_endDay 62 rfl) hy.2.1.2.2.2.1 (by decide) (i2) rfl (by omega) (n := 100) rfl ?_
              refine p_iinc (z_dec zd_X7_endDay 63 rfl) 1 rfl (v := (nI (i2 + 1))) (nI_1 _) (lv2 := [(1, .int (nI (i2 + 1))), (2, .int 0), (0, .ref k)]) (by decide) rfl (n := 103) rfl ?_
              refine p_goto (z_dec zd_X7_endDay 64 rfl) (t := 2) (by decide) ?_
              refine z_sub (lv' := [(1, .int (nI (i2 + 1))), (0, .ref k)]) [0, 2] rfl ?_
              have eb : (g_X7_endDay_2 I k) (i2 + 1) = (z_up (z_up (z_up (g_X7_endDay_2 I k i2) (k + 3) i2 (((2 * ((g_X7_endDay_2 I k i2) (k + 3) i2)) + 0) &&& 255)) (k + 2) i2 (if 0 < (((g_X7_endDay_2 I k i2) (k + 2) i2) - 1) then (((g_X7_endDay_2 I k i2) (k + 2) i2) - 1) else 0)) (k + 4) i2 0) := by show gb_X7_endDay_2 I k i2 ((g_X7_endDay_2 I k) i2) = _; unfold gb_X7_endDay_2; rw [if_pos h18]
              refine z_lv (lv' := [(1, .int (nI (i2 + 1))), (0, .ref k)]) rfl rfl (by rw [eb]) (ih2 (by omega))
            · exact absurd h61 (by decide)
          · exact absurd h41 (by decide)
        · refine p_iconst (z_dec zd_X7_endDay 13 rfl) (v := 1) (by decide) (n := 22) rfl ?_
          refine p_goto (z_dec zd_X7_endDay 14 rfl) (t := 26) (by decide) ?_
          refine p_istore_n (z_dec zd_X7_endDay 16 rfl) rfl (lv2 := [(2, .int 1), (1, .int (nI i2)), (0, .ref k)]) (by decide) rfl (n := 27) rfl ?_
          refine p_aload_n (z_dec zd_X7_endDay 17 rfl) rfl 2 rfl (n := 28) rfl ?_
          refine q_getR (z_dec zd_X7_endDay 18 rfl) zf_X7_22 (i := (k + 3)) hy.2.2.2.2.1 hy.1 (n := 31) rfl ?_
          refine p_iload_n (z_dec zd_X7_endDay 19 rfl) rfl 1 rfl (n := 32) rfl ?_
          refine p_iconst (z_dec zd_X7_endDay 20 rfl) (v := 2) (by decide) (n := 33) rfl ?_
          refine p_aload_n (z_dec zd_X7_endDay 21 rfl) rfl 2 rfl (n := 34) rfl ?_
          refine q_getR (z_dec zd_X7_endDay 22 rfl) zf_X7_22 (i := (k + 3)) hy.2.2.2.2.1 hy.1 (n := 37) rfl ?_
          refine p_iload_n (z_dec zd_X7_endDay 23 rfl) rfl 1 rfl (n := 38) rfl ?_
          refine q_iald (z_dec zd_X7_endDay 24 rfl) hy.2.1.2.2.1 (by decide) (i2) rfl (by omega) (v := ((g_X7_endDay_2 I k i2) (k + 3) i2)) rfl (n := 39) rfl ?_
          refine p_imul (z_dec zd_X7_endDay 25 rfl) (n := 40) rfl ?_
          refine p_iload_n (z_dec zd_X7_endDay 26 rfl) rfl 0 rfl (n := 41) rfl ?_
          refine p_if_eq (z_dec zd_X7_endDay 27 rfl) (t := 48) (by decide) (n := 44) rfl (fun h41 => ?_) (fun h41 => ?_)
          · exact absurd h41 (by decide)
          · refine p_iconst (z_dec zd_X7_endDay 28 rfl) (v := 1) (by decide) (n := 45) rfl ?_
            refine p_goto (z_dec zd_X7_endDay 29 rfl) (t := 49) (by decide) ?_
            refine p_iadd (z_dec zd_X7_endDay 31 rfl) (n := 50) rfl ?_
            refine p_sipush (z_dec zd_X7_endDay 32 rfl) (v := 255) (by decide) (n := 53) rfl ?_
            refine p_iand (z_dec zd_X7_endDay 33 rfl) (n := 54) rfl ?_
            refine q_iast (z_dec zd_X7_endDay 34 rfl) hy.2.1.2.2.1 (by decide) (i2) rfl (by omega) (n := 55) rfl ?_
            refine p_aload_n (z_dec zd_X7_endDay 35 rfl) rfl 2 rfl (n := 56) rfl ?_
            refine q_getR (z_dec zd_X7_endDay 36 rfl) zf_X7_19 (i := (k + 2)) hy.2.2.2.1 hy.1 (n := 59) rfl ?_
            refine p_iload_n (z_dec zd_X7_endDay 37 rfl) rfl 1 rfl (n := 60) rfl ?_
            refine p_iload_n (z_dec zd_X7_endDay 38 rfl) rfl 0 rfl (n := 61) rfl ?_
            refine p_if_eq (z_dec zd_X7_endDay 39 rfl) (t := 80) (by decide) (n := 64) rfl (fun h61 => ?_) (fun h61 => ?_)
            · exact absurd h61 (by decide)
            · refine p_bipush (z_dec zd_X7_endDay 40 rfl) (v := 99) (by decide) (n := 66) rfl ?_
              refine p_aload_n (z_dec zd_X7_endDay 41 rfl) rfl 2 rfl (n := 67) rfl ?_
              refine q_getR (z_dec zd_X7_endDay 42 rfl) zf_X7_19 (i := (k + 2)) hy.2.2.2.1 hy.1 (n := 70) rfl ?_
              refine p_iload_n (z_dec zd_X7_endDay 43 rfl) rfl 1 rfl (n := 71) rfl ?_
              refine q_iald (z_dec zd_X7_endDay 44 rfl) hy.2.1.2.1 (by decide) (i2) rfl (by omega) (v := ((g_X7_endDay_2 I k i2) (k + 2) i2)) (by simp [z_up]) (n := 72) rfl ?_
              refine p_iconst (z_dec zd_X7_endDay 45 rfl) (v := 3) (by decide) (n := 73) rfl ?_
              refine p_iadd (z_dec zd_X7_endDay 46 rfl) (n := 74) rfl ?_
              refine p_mmin (z_dec zd_X7_endDay 47 rfl) zk_X7_66 (by omega) (Nat.le_of_ble_eq_true rfl) (n := 77) rfl ?_
              refine p_goto (z_dec zd_X7_endDay 48 rfl) (t := 92) (by decide) ?_
              refine q_iast (z_dec zd_X7_endDay 57 rfl) hy.2.1.2.1 (by decide) (i2) rfl (by omega) (n := 93) rfl ?_
              refine p_aload_n (z_dec zd_X7_endDay 58 rfl) rfl 2 rfl (n := 94) rfl ?_
              refine q_getR (z_dec zd_X7_endDay 59 rfl) zf_X7_25 (i := (k + 4)) hy.2.2.2.2.2.1 hy.1 (n := 97) rfl ?_
              refine p_iload_n (z_dec zd_X7_endDay 60 rfl) rfl 1 rfl (n := 98) rfl ?_
              refine p_iconst (z_dec zd_X7_endDay 61 rfl) (v := 0) (by decide) (n := 99) rfl ?_
              refine q_iast (z_dec zd_X7_endDay 62 rfl) hy.2.1.2.2.2.1 (by decide) (i2) rfl (by omega) (n := 100) rfl ?_
              refine p_iinc (z_dec zd_X7_endDay 63 rfl) 1 rfl (v := (nI (i2 + 1))) (nI_1 _) (lv2 := [(1, .int (nI (i2 + 1))), (2, .int 1), (0, .ref k)]) (by decide) rfl (n := 103) rfl ?_
              refine p_goto (z_dec zd_X7_endDay 64 rfl) (t := 2) (by decide) ?_
              refine z_sub (lv' := [(1, .int (nI (i2 + 1))), (0, .ref k)]) [0, 2] rfl ?_
              have eb : (g_X7_endDay_2 I k) (i2 + 1) = (z_up (z_up (z_up (g_X7_endDay_2 I k i2) (k + 3) i2 (((2 * ((g_X7_endDay_2 I k i2) (k + 3) i2)) + 1) &&& 255)) (k + 2) i2 (if (((g_X7_endDay_2 I k i2) (k + 2) i2) + 3) < 99 then (((g_X7_endDay_2 I k i2) (k + 2) i2) + 3) else 99)) (k + 4) i2 0) := by show gb_X7_endDay_2 I k i2 ((g_X7_endDay_2 I k) i2) = _; unfold gb_X7_endDay_2; rw [if_neg h18]
              refine z_lv (lv' := [(1, .int (nI (i2 + 1))), (0, .ref k)]) rfl rfl (by rw [eb]) (ih2 (by omega))
    refine z_lv (lv' := [(1, .int (nI 0)), (0, .ref k)]) rfl rfl rfl (hL2 0 (Nat.zero_le _))
  exact hentry
def f_X7_canHold (I : Nat → Nat → Int32) (k : Nat) (one : Int32) (other : Int32) (umpire : Int32) : Int32 := if (f_X7_areUnlike I k one other umpire) = 0 then 0 else if (f_X7_mayJudge I k umpire.toNatClampNeg) = 0 then 0 else if (f_X7_isFree I k one.toNatClampNeg) = 0 then 0 else if (f_X7_isFree I k other.toNatClampNeg) = 0 then 0 else if (f_X7_isFree I k umpire.toNatClampNeg) = 0 then 0 else 1
set_option maxHeartbeats 4000000 in
set_option maxRecDepth 100000 in
theorem c_X7_canHold (d : Nat) (hd : 2 ≤ d) (b : Bool) (I : Nat → Nat → Int32) (L : Nat → Nat → Int64) (k : Nat) (hy : z_Yd b k) (np : Nat) (hnp : I k 0 = nI np) (hn10 : np ≤ 10) (one : Int32) (other : Int32) (umpire : Int32) : z_CT zm_X7_canHold d [.ref k, .int one, .int other, .int umpire] SH (I, L, z_R b) 0 0 (z_ret (some (.int (f_X7_canHold I k one other umpire))) (I, L, z_R b)) := by
  refine z_enter (by decide +kernel) (Nat.le_of_ble_eq_true rfl) ?_
  have hentry : PW zm_X7_canHold d 0 [(0, .ref k), (1, .int one), (2, .int other), (3, .int umpire)] [] SH (I, L, z_R b) 0 0 (z_ret (some (.int (f_X7_canHold I k one other umpire))) (I, L, z_R b)) := by
    refine p_aload_n (z_dec zd_X7_canHold 0 rfl) rfl 0 rfl (n := 1) rfl ?_
    refine p_iload_n (z_dec zd_X7_canHold 1 rfl) rfl 1 rfl (n := 2) rfl ?_
    refine p_iload_n (z_dec zd_X7_canHold 2 rfl) rfl 2 rfl (n := 3) rfl ?_
    refine p_iload_n (z_dec zd_X7_canHold 3 rfl) rfl 3 rfl (n := 4) rfl ?_
    refine q_callV (As := [.int one, .int other, .int umpire]) (rest := []) (z_dec zd_X7_canHold 4 rfl) zk_X7_52 zv_X7_areUnlike (c_X7_areUnlike (d - 1) (by omega) b I L k (hy) one other umpire) hy.1 ⟨_, _, rfl⟩ rfl rfl (Nat.le_of_ble_eq_true rfl) (by omega) (n := 7) rfl ?_
    show PW zm_X7_canHold d 7 [(0, .ref k), (1, .int one), (2, .int other), (3, .int umpire)] [.int (f_X7_areUnlike I k one other umpire)] SH (I, L, z_R b) 0 0 _
    refine p_if_eq (z_dec zd_X7_canHold 5 rfl) (t := 46) (by decide) (n := 10) rfl (fun h7 => ?_) (fun h7 => ?_)
    · refine p_iconst (z_dec zd_X7_canHold 24 rfl) (v := 0) (by decide) (n := 47) rfl ?_
      exact p_zret (z_dec zd_X7_canHold 25 rfl) rfl (Or.inl rfl) ⟨(by unfold f_X7_canHold; rw [if_pos h7]), rfl, rfl⟩
    · have hu := z_unl hnp hn10 h7
      refine p_aload_n (z_dec zd_X7_canHold 6 rfl) rfl 0 rfl (n := 11) rfl ?_
      refine p_iload_n (z_dec zd_X7_canHold 7 rfl) rfl 3 rfl (n := 12) rfl ?_
      refine q_callV (As := [.int (nI umpire.toNatClampNeg)]) (rest := []) (z_dec zd_X7_canHold 8 rfl) zk_X7_46 zv_X7_mayJudge (c_X7_mayJudge (d - 1) (by omega) b I L k (hy) umpire.toNatClampNeg (Nat.lt_of_lt_of_le hu.2.2.2 hn10)) hy.1 ⟨_, _, rfl⟩ (by simp only [← hu.2.2.1]; rfl) rfl (Nat.le_of_ble_eq_true rfl) (by omega) (n := 15) rfl ?_
      show PW zm_X7_canHold d 15 [(0, .ref k), (1, .int one), (2, .int other), (3, .int umpire)] [.int (f_X7_mayJudge I k umpire.toNatClampNeg)] SH (I, L, z_R b) 0 0 _
      refine p_if_eq (z_dec zd_X7_canHold 9 rfl) (t := 46) (by decide) (n := 18) rfl (fun h15 => ?_) (fun h15 => ?_)
      · refine p_iconst (z_dec zd_X7_canHold 24 rfl) (v := 0) (by decide) (n := 47) rfl ?_
        exact p_zret (z_dec zd_X7_canHold 25 rfl) rfl (Or.inl rfl) ⟨(by unfold f_X7_canHold; rw [if_neg h7, if_pos h15]), rfl, rfl⟩
      · refine p_aload_n (z_dec zd_X7_canHold 10 rfl) rfl 0 rfl (n := 19) rfl ?_
        refine p_iload_n (z_dec zd_X7_canHold 11 rfl) rfl 1 rfl (n := 20) rfl ?_
        refine q_callV (As := [.int (nI one.toNatClampNeg)]) (rest := []) (z_dec zd_X7_canHold 12 rfl) zk_X7_49 zv_X7_isFree (c_X7_isFree (d - 1) (by omega) b I L k (hy) one.toNatClampNeg (Nat.lt_of_lt_of_le hu.1.2 hn10)) hy.1 ⟨_, _, rfl⟩ (by simp only [← hu.1.1]; rfl) rfl (Nat.le_of_ble_eq_true rfl) (by omega) (n := 23) rfl ?_
        show PW zm_X7_canHold d 23 [(0, .ref k), (1, .int one), (2, .int other), (3, .int umpire)] [.int (f_X7_isFree I k one.toNatClampNeg)] SH (I, L, z_R b) 0 0 _
        refine p_if_eq (z_dec zd_X7_canHold 13 rfl) (t := 46) (by decide) (n := 26) rfl (fun h23 => ?_) (fun h23 => ?_)
        · refine p_iconst (z_dec zd_X7_canHold 24 rfl) (v := 0) (by decide) (n := 47) rfl ?_
          exact p_zret (z_dec zd_X7_canHold 25 rfl) rfl (Or.inl rfl) ⟨(by unfold f_X7_canHold; rw [if_neg h7, if_neg h15, if_pos h23]), rfl, rfl⟩
        · refine p_aload_n (z_dec zd_X7_canHold 14 rfl) rfl 0 rfl (n := 27) rfl ?_
          refine p_iload_n (z_dec zd_X7_canHold 15 rfl) rfl 2 rfl (n := 28) rfl ?_
          refine q_callV (As := [.int (nI other.toNatClampNeg)]) (rest := []) (z_dec zd_X7_canHold 16 rfl) zk_X7_49 zv_X7_isFree (c_X7_isFree (d - 1) (by omega) b I L k (hy) other.toNatClampNeg (Nat.lt_of_lt_of_le hu.2.1.2 hn10)) hy.1 ⟨_, _, rfl⟩ (by simp only [← hu.2.1.1]; rfl) rfl (Nat.le_of_ble_eq_true rfl) (by omega) (n := 31) rfl ?_
          show PW zm_X7_canHold d 31 [(0, .ref k), (1, .int one), (2, .int other), (3, .int umpire)] [.int (f_X7_isFree I k other.toNatClampNeg)] SH (I, L, z_R b) 0 0 _
          refine p_if_eq (z_dec zd_X7_canHold 17 rfl) (t := 46) (by decide) (n := 34) rfl (fun h31 => ?_) (fun h31 => ?_)
          · refine p_iconst (z_dec zd_X7_canHold 24 rfl) (v := 0) (by decide) (n := 47) rfl ?_
            exact p_zret (z_dec zd_X7_canHold 25 rfl) rfl (Or.inl rfl) ⟨(by unfold f_X7_canHold; rw [if_neg h7, if_neg h15, if_neg h23, if_pos h31]), rfl, rfl⟩
          · refine p_aload_n (z_dec zd_X7_canHold 18 rfl) rfl 0 rfl (n := 35) rfl ?_
            refine p_iload_n (z_dec zd_X7_canHold 19 rfl) rfl 3 rfl (n := 36) rfl ?_
            refine q_callV (As := [.int (nI umpire.toNatClampNeg)]) (rest := []) (z_dec zd_X7_canHold 20 rfl) zk_X7_49 zv_X7_isFree (c_X7_isFree (d - 1) (by omega) b I L k (hy) umpire.toNatClampNeg (Nat.lt_of_lt_of_le hu.2.2.2 hn10)) hy.1 ⟨_, _, rfl⟩ (by simp only [← hu.2.2.1]; rfl) rfl (Nat.le_of_ble_eq_true rfl) (by omega) (n := 39) rfl ?_
            show PW zm_X7_canHold d 39 [(0, .ref k), (1, .int one), (2, .int other), (3, .int umpire)] [.int (f_X7_isFree I k umpire.toNatClampNeg)] SH (I, L, z_R b) 0 0 _
            refine p_if_eq (z_dec zd_X7_canHold 21 rfl) (t := 46) (by decide) (n := 42) rfl (fun h39 => ?_) (fun h39 => ?_)
            · refine p_iconst (z_dec zd_X7_canHold 24 rfl) (v := 0) (by decide) (n := 47) rfl ?_
              exact p_zret (z_dec zd_X7_canHold 25 rfl) rfl (Or.inl rfl) ⟨(by unfold f_X7_canHold; rw [if_neg h7, if_neg h15, if_neg h23, if_neg h31, if_pos h39]), rfl, rfl⟩
            · refine p_iconst (z_dec zd_X7_canHold 22 rfl) (v := 1) (by decide) (n := 43) rfl ?_
              refine p_goto (z_dec zd_X7_canHold 23 rfl) (t := 47) (by decide) ?_
              exact p_zret (z_dec zd_X7_canHold 25 rfl) rfl (Or.inr rfl) ⟨(by unfold f_X7_canHold; rw [if_neg h7, if_neg h15, if_neg h23, if_neg h31, if_neg h39]), rfl, rfl⟩
  exact hentry
theorem fb_X7_canHold (I : Nat → Nat → Int32) (k : Nat) (one : Int32) (other : Int32) (umpire : Int32) : f_X7_canHold I k one other umpire = 0 ∨ f_X7_canHold I k one other umpire = 1 := by
  unfold f_X7_canHold
  (repeat' split) <;> first | exact Or.inl rfl | exact Or.inr rfl
def f_X7_mostAtOnce (I : Nat → Nat → Int32) (k : Nat) (np : Nat) (free : Int32) : Int32 := (if ((f_J6_bitCount_0f7a4 free) / 3) < (f_J6_bitCount_0f7a4 (free &&& (f_X7_judgeBits I k np))) then ((f_J6_bitCount_0f7a4 free) / 3) else (f_J6_bitCount_0f7a4 (free &&& (f_X7_judgeBits I k np))))
set_option maxHeartbeats 4000000 in
set_option maxRecDepth 100000 in
theorem c_X7_mostAtOnce (d : Nat) (hd : 2 ≤ d) (b : Bool) (I : Nat → Nat → Int32) (L : Nat → Nat → Int64) (k : Nat) (hy : z_Yd b k) (np : Nat) (hnp : I k 0 = nI np) (hn10 : np ≤ 10) (free : Int32) : z_CT zm_X7_mostAtOnce d [.ref k, .int free] SH (I, L, z_R b) 0 0 (z_ret (some (.int (f_X7_mostAtOnce I k np free))) (I, L, z_R b)) := by
  refine z_enter (by decide +kernel) (Nat.le_of_ble_eq_true rfl) ?_
  have hentry : PW zm_X7_mostAtOnce d 0 [(0, .ref k), (1, .int free)] [] SH (I, L, z_R b) 0 0 (z_ret (some (.int (f_X7_mostAtOnce I k np free))) (I, L, z_R b)) := by
    refine p_iload_n (z_dec zd_X7_mostAtOnce 0 rfl) rfl 1 rfl (n := 1) rfl ?_
    refine p_aload_n (z_dec zd_X7_mostAtOnce 1 rfl) rfl 0 rfl (n := 2) rfl ?_
    refine q_callV (As := []) (rest := [.int free]) (z_dec zd_X7_mostAtOnce 2 rfl) zk_X7_56 zv_X7_judgeBits (c_X7_judgeBits (d - 1) (by omega) b I L k (hy) np hnp hn10) hy.1 ⟨_, _, rfl⟩ rfl rfl (Nat.le_of_ble_eq_true rfl) (by omega) (n := 5) rfl ?_
    show PW zm_X7_mostAtOnce d 5 [(0, .ref k), (1, .int free)] [.int (f_X7_judgeBits I k np), .int free] SH (I, L, z_R b) 0 0 _
    refine p_iand (z_dec zd_X7_mostAtOnce 3 rfl) (n := 6) rfl ?_
    refine q_callS (As := [.int (free &&& (f_X7_judgeBits I k np))]) (rest := []) (z_dec zd_X7_mostAtOnce 4 rfl) zk_X7_60 zs_J6_bitCount_0f7a4 (c_J6_bitCount_0f7a4 (d - 1) (by omega) b I L (free &&& (f_X7_judgeBits I k np))) rfl rfl (Nat.le_of_ble_eq_true rfl) (by omega) (n := 9) rfl ?_
    show PW zm_X7_mostAtOnce d 9 [(0, .ref k), (1, .int free)] [.int (f_J6_bitCount_0f7a4 (free &&& (f_X7_judgeBits I k np)))] SH (I, L, z_R b) 0 0 _
    refine p_iload_n (z_dec zd_X7_mostAtOnce 5 rfl) rfl 1 rfl (n := 10) rfl ?_
    refine q_callS (As := [.int free]) (rest := [.int (f_J6_bitCount_0f7a4 (free &&& (f_X7_judgeBits I k np)))]) (z_dec zd_X7_mostAtOnce 6 rfl) zk_X7_60 zs_J6_bitCount_0f7a4 (c_J6_bitCount_0f7a4 (d - 1) (by omega) b I L free) rfl rfl (Nat.le_of_ble_eq_true rfl) (by omega) (n := 13) rfl ?_
    show PW zm_X7_mostAtOnce d 13 [(0, .ref k), (1, .int free)] [.int (f_J6_bitCount_0f7a4 free), .int (f_J6_bitCount_0f7a4 (free &&& (f_X7_judgeBits I k np)))] SH (I, L, z_R b) 0 0 _
    refine p_iconst (z_dec zd_X7_mostAtOnce 7 rfl) (v := 3) (by decide) (n := 14) rfl ?_
    refine p_idiv (z_dec zd_X7_mostAtOnce 8 rfl) (by decide) (n := 15) rfl ?_
    refine p_mmin (z_dec zd_X7_mostAtOnce 9 rfl) zk_X7_66 (by omega) (Nat.le_of_ble_eq_true rfl) (n := 18) rfl ?_
    exact p_iret (z_dec zd_X7_mostAtOnce 10 rfl) rfl ⟨(by unfold f_X7_mostAtOnce; rfl), rfl, rfl⟩
  exact hentry
