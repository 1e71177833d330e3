def f_X1_oddsOn (b : Bool) (I : Nat → Nat → Int32) (sz : Nat) (k : Nat) (one : Int32) (other : Int32) (umpire : Int32) : Int32 := if (f_X7_areUnlike I k one other umpire) = 0 then 0 else if (nI sz) = 0 then (if 0 < (if (f_X1_withoutText I k one.toNatClampNeg other.toNatClampNeg umpire.toNatClampNeg) < 12 then (f_X1_withoutText I k one.toNatClampNeg other.toNatClampNeg umpire.toNatClampNeg) else 12) then (if (f_X1_withoutText I k one.toNatClampNeg other.toNatClampNeg umpire.toNatClampNeg) < 12 then (f_X1_withoutText I k one.toNatClampNeg other.toNatClampNeg umpire.toNatClampNeg) else 12) else 0) else (if 0 < (if (f_X1_byText b I sz k one.toNatClampNeg other.toNatClampNeg umpire.toNatClampNeg) < 12 then (f_X1_byText b I sz k one.toNatClampNeg other.toNatClampNeg umpire.toNatClampNeg) else 12) then (if (f_X1_byText b I sz k one.toNatClampNeg other.toNatClampNeg umpire.toNatClampNeg) < 12 then (f_X1_byText b I sz k one.toNatClampNeg other.toNatClampNeg umpire.toNatClampNeg) else 12) else 0)
def m_X1_oddsOn (b : Bool) (I : Nat → Nat → Int32) (sz : Nat) (k : Nat) (one : Int32) (other : Int32) (umpire : Int32) : Nat → Nat → Int32 := if (f_X7_areUnlike I k one other umpire) = 0 then I else if (nI sz) = 0 then I else (m_X1_byText b I sz k one.toNatClampNeg other.toNatClampNeg umpire.toNatClampNeg)
set_option maxHeartbeats 1000000 in
set_option maxRecDepth 100000 in
theorem c_X1_oddsOn (d : Nat) (hd : 3 ≤ d) (b : Bool) (I : Nat → Nat → Int32) (L : Nat → Nat → Int64) (sz : Nat) (hsz : I 13 4 = nI sz) (hs121 : sz ≤ 121) (k : Nat) (hy : z_Yd b k) (one : Int32) (other : Int32) (umpire : Int32) (np : Nat) (hnp : I k 0 = nI np) (hn10 : np ≤ 10) : z_CT zm_X1_oddsOn d [.ref 13, .ref k, .int one, .int other, .int umpire] SH (I, L, z_R b) 0 0 (z_ret (some (.int (f_X1_oddsOn b I sz k one other umpire))) ((m_X1_oddsOn b I sz k one other umpire), L, z_R b)) := by
  refine z_enter (by decide +kernel) (Nat.le_of_ble_eq_true rfl) ?_
  have hentry : PW zm_X1_oddsOn d 0 [(0, .ref 13), (1, .ref k), (2, .int one), (3, .int other), (4, .int umpire)] [] SH (I, L, z_R b) 0 0 (z_ret (some (.int (f_X1_oddsOn b I sz k one other umpire))) ((m_X1_oddsOn b I sz k one other umpire), L, z_R b)) := by
    refine p_aload_n (z_dec zd_X1_oddsOn 0 rfl) rfl 1 rfl (n := 1) rfl ?_
    refine p_iload_n (z_dec zd_X1_oddsOn 1 rfl) rfl 2 rfl (n := 2) rfl ?_
    refine p_iload_n (z_dec zd_X1_oddsOn 2 rfl) rfl 3 rfl (n := 3) rfl ?_
    refine p_iload (z_dec zd_X1_oddsOn 3 rfl) 4 rfl (n := 5) rfl ?_
    refine q_callV (As := [.int one, .int other, .int umpire]) (rest := []) (z_dec zd_X1_oddsOn 4 rfl) zk_X1_76 zv_X7_areUnlike (c_X7_areUnlike (d - 1) (by omega) b I L k (hy) one other umpire) hy.1 ⟨_, _, rfl⟩ rfl rfl (Nat.le_of_ble_eq_true rfl) (by omega) (n := 8) rfl ?_
    show PW zm_X1_oddsOn d 8 [(0, .ref 13), (1, .ref k), (2, .int one), (3, .int other), (4, .int umpire)] [.int (f_X7_areUnlike I k one other umpire)] SH (I, L, z_R b) 0 0 _
    refine p_if_ne (z_dec zd_X1_oddsOn 5 rfl) (t := 13) (by decide) (n := 11) rfl (fun h8 => ?_) (fun h8 => ?_)
    · have hu := z_unl hnp hn10 h8
      refine p_aload_n (z_dec zd_X1_oddsOn 8 rfl) rfl 0 rfl (n := 14) rfl ?_
      refine q_getI (z_dec zd_X1_oddsOn 9 rfl) zf_X1_25 (by decide) rfl (v := (nI sz)) hsz (n := 17) rfl ?_
      refine p_if_ne (z_dec zd_X1_oddsOn 10 rfl) (t := 31) (by decide) (n := 20) rfl (fun h17 => ?_) (fun h17 => ?_)
      · refine p_aload_n (z_dec zd_X1_oddsOn 17 rfl) rfl 0 rfl (n := 32) rfl ?_
        refine p_aload_n (z_dec zd_X1_oddsOn 18 rfl) rfl 1 rfl (n := 33) rfl ?_
        refine p_iload_n (z_dec zd_X1_oddsOn 19 rfl) rfl 2 rfl (n := 34) rfl ?_
        refine p_iload_n (z_dec zd_X1_oddsOn 20 rfl) rfl 3 rfl (n := 35) rfl ?_
        refine p_iload (z_dec zd_X1_oddsOn 21 rfl) 4 rfl (n := 37) rfl ?_
        refine q_callV (As := [.ref k, .int (nI one.toNatClampNeg), .int (nI other.toNatClampNeg), .int (nI umpire.toNatClampNeg)]) (rest := []) (z_dec zd_X1_oddsOn 22 rfl) zk_X1_86 zv_X1_byText (c_X1_byText (d - 1) (by omega) b I L sz hsz hs121 k hy one.toNatClampNeg (Nat.lt_of_lt_of_le hu.1.2 hn10) other.toNatClampNeg (Nat.lt_of_lt_of_le hu.2.1.2 hn10) umpire.toNatClampNeg (Nat.lt_of_lt_of_le hu.2.2.2 hn10)) rfl ⟨_, _, rfl⟩ (by simp only [← hu.1.1, ← hu.2.1.1, ← hu.2.2.1]; rfl) rfl (Nat.le_of_ble_eq_true rfl) (by omega) (n := 40) rfl ?_
        show PW zm_X1_oddsOn d 40 [(0, .ref 13), (1, .ref k), (2, .int one), (3, .int other), (4, .int umpire)] [.int (f_X1_byText b I sz k one.toNatClampNeg other.toNatClampNeg umpire.toNatClampNeg)] SH ((m_X1_byText b I sz k one.toNatClampNeg other.toNatClampNeg umpire.toNatClampNeg), L, z_R b) 0 0 _
        refine p_istore (z_dec zd_X1_oddsOn 23 rfl) (lv2 := [(5, .int (f_X1_byText b I sz k one.toNatClampNeg other.toNatClampNeg umpire.toNatClampNeg)), (0, .ref 13), (1, .ref k), (2, .int one), (3, .int other), (4, .int umpire)]) (by decide) rfl (n := 42) rfl ?_
        refine p_iconst (z_dec zd_X1_oddsOn 24 rfl) (v := 0) (by decide) (n := 43) rfl ?_
        refine p_bipush (z_dec zd_X1_oddsOn 25 rfl) (v := 12) (by decide) (n := 45) rfl ?_
        refine p_iload (z_dec zd_X1_oddsOn 26 rfl) 0 rfl (n := 47) rfl ?_
        refine p_mmin (z_dec zd_X1_oddsOn 27 rfl) zk_X1_89 (by omega) (Nat.le_of_ble_eq_true rfl) (n := 50) rfl ?_
        refine p_mmax (z_dec zd_X1_oddsOn 28 rfl) zk_X1_95 (by omega) (Nat.le_of_ble_eq_true rfl) (n := 53) rfl ?_
        exact p_iret (z_dec zd_X1_oddsOn 29 rfl) rfl ⟨(by unfold f_X1_oddsOn; rw [if_neg h8, if_neg h17]), rfl, (z_3 (by unfold m_X1_oddsOn; rw [if_neg h8, if_neg h17]) rfl)⟩
      · refine p_aload_n (z_dec zd_X1_oddsOn 11 rfl) rfl 1 rfl (n := 21) rfl ?_
        refine p_iload_n (z_dec zd_X1_oddsOn 12 rfl) rfl 2 rfl (n := 22) rfl ?_
        refine p_iload_n (z_dec zd_X1_oddsOn 13 rfl) rfl 3 rfl (n := 23) rfl ?_
        refine p_iload (z_dec zd_X1_oddsOn 14 rfl) 4 rfl (n := 25) rfl ?_
        refine q_callS (As := [.ref k, .int (nI one.toNatClampNeg), .int (nI other.toNatClampNeg), .int (nI umpire.toNatClampNeg)]) (rest := []) (z_dec zd_X1_oddsOn 15 rfl) zk_X1_82 zs_X1_withoutText (c_X1_withoutText (d - 1) (by omega) b I L k hy one.toNatClampNeg (Nat.lt_of_lt_of_le hu.1.2 hn10) other.toNatClampNeg (Nat.lt_of_lt_of_le hu.2.1.2 hn10) umpire.toNatClampNeg (Nat.lt_of_lt_of_le hu.2.2.2 hn10)) (by simp only [← hu.1.1, ← hu.2.1.1, ← hu.2.2.1]; rfl) rfl (Nat.le_of_ble_eq_true rfl) (by omega) (n := 28) rfl ?_
        show PW zm_X1_oddsOn d 28 [(0, .ref 13), (1, .ref k), (2, .int one), (3, .int other), (4, .int umpire)] [.int (f_X1_withoutText I k one.toNatClampNeg other.toNatClampNeg umpire.toNatClampNeg)] SH (I, L, z_R b) 0 0 _
        refine p_goto (z_dec zd_X1_oddsOn 16 rfl) (t := 40) (by decide) ?_
        refine p_istore (z_dec zd_X1_oddsOn 23 rfl) (lv2 := [(5, .int (f_X1_withoutText I k one.toNatClampNeg other.toNatClampNeg umpire.toNatClampNeg)), (0, .ref 13), (1, .ref k), (2, .int one), (3, .int other), (4, .int umpire)]) (by decide) rfl (n := 42) rfl ?_
        refine p_iconst (z_dec zd_X1_oddsOn 24 rfl) (v := 0) (by decide) (n := 43) rfl ?_
        refine p_bipush (z_dec zd_X1_oddsOn 25 rfl) (v := 12) (by decide) (n := 45) rfl ?_
        refine p_iload (z_dec zd_X1_oddsOn 26 rfl) 0 rfl (n := 47) rfl ?_
        refine p_mmin (z_dec zd_X1_oddsOn 27 rfl) zk_X1_89 (by omega) (Nat.le_of_ble_eq_true rfl) (n := 50) rfl ?_
        refine p_mmax (z_dec zd_X1_oddsOn 28 rfl) zk_X1_95 (by omega) (Nat.le_of_ble_eq_true rfl) (n := 53) rfl ?_
        exact p_iret (z_dec zd_X1_oddsOn 29 rfl) rfl ⟨(by unfold f_X1_oddsOn; rw [if_neg h8, if_pos h17]), rfl, (z_3 (by unfold m_X1_oddsOn; rw [if_neg h8, if_pos h17]) rfl)⟩
    · refine p_iconst (z_dec zd_X1_oddsOn 6 rfl) (v := 0) (by decide) (n := 12) rfl ?_
      exact p_iret (z_dec zd_X1_oddsOn 7 rfl) rfl ⟨(by unfold f_X1_oddsOn; rw [if_pos h8]), rfl, (z_3 (by unfold m_X1_oddsOn; rw [if_pos h8]) rfl)⟩
  exact hentry
def f_X8_law (b : Bool) (I : Nat → Nat → Int32) : Int32 := if 0 ≤ (f_X1_adopt b I) then ((-100) - (f_X1_adopt b I)) else 1
def m_X8_law (b : Bool) (I : Nat → Nat → Int32) : Nat → Nat → Int32 := if 0 ≤ (f_X1_adopt b I) then (m_X1_adopt b I) else (m_X1_adopt b I)
set_option maxHeartbeats 1000000 in
set_option maxRecDepth 100000 in
theorem c_X8_law (d : Nat) (hd : 71 ≤ d) (b : Bool) (I : Nat → Nat → Int32) (L : Nat → Nat → Int64) (ln : Nat) (hln : I 13 1 = nI ln) (hl120 : ln ≤ 120) : z_CT zm_X8_law d [.ref 0] SH (I, L, z_R b) 0 0 (z_ret (some (.int (f_X8_law b I))) ((m_X8_law b I), L, (z_R (z_nb b I)))) := by
  refine z_enter (by decide +kernel) (Nat.le_of_ble_eq_true rfl) ?_
  have hentry : PW zm_X8_law d 0 [(0, .ref 0)] [] SH (I, L, z_R b) 0 0 (z_ret (some (.int (f_X8_law b I))) ((m_X8_law b I), L, (z_R (z_nb b I)))) := by
    refine p_aload_n (z_dec zd_X8_law 0 rfl) rfl 0 rfl (n := 1) rfl ?_
    refine q_getR (z_dec zd_X8_law 1 rfl) zf_X8_26 (i := 13) rfl rfl (n := 4) rfl ?_
    refine q_callV (As := []) (rest := []) (z_dec zd_X8_law 2 rfl) zk_X8_119 zv_X1_adopt (c_X1_adopt (d - 1) (by omega) b I L ln hln hl120) rfl ⟨_, _, rfl⟩ rfl rfl (Nat.le_of_ble_eq_true rfl) (by omega) (n := 7) rfl ?_
    show PW zm_X8_law d 7 [(0, .ref 0)] [.int (f_X1_adopt b I)] SH ((m_X1_adopt b I), L, (z_R (z_nb b I))) 0 0 _
    refine p_istore_n (z_dec zd_X8_law 3 rfl) rfl (lv2 := [(1, .int (f_X1_adopt b I)), (0, .ref 0)]) (by decide) rfl (n := 8) rfl ?_
    refine p_iload_n (z_dec zd_X8_law 4 rfl) rfl 0 rfl (n := 9) rfl ?_
    refine p_if_ge (z_dec zd_X8_law 5 rfl) (t := 16) (by decide) (n := 12) rfl (fun h9 => ?_) (fun h9 => ?_)
    · refine p_bipush (z_dec zd_X8_law 8 rfl) (v := (-100)) (by decide) (n := 18) rfl ?_
      refine p_iload_n (z_dec zd_X8_law 9 rfl) rfl 0 rfl (n := 19) rfl ?_
      refine p_isub (z_dec zd_X8_law 10 rfl) (n := 20) rfl ?_
      exact p_iret (z_dec zd_X8_law 11 rfl) rfl ⟨(by unfold f_X8_law; rw [if_pos h9]), rfl, (z_3R (by unfold m_X8_law; rw [if_pos h9]) rfl rfl)⟩
    · refine p_iconst (z_dec zd_X8_law 6 rfl) (v := 1) (by decide) (n := 13) rfl ?_
      refine p_goto (z_dec zd_X8_law 7 rfl) (t := 20) (by decide) ?_
      exact p_iret (z_dec zd_X8_law 11 rfl) rfl ⟨(by unfold f_X8_law; rw [if_neg h9]), rfl, (z_3R (by unfold m_X8_law; rw [if_neg h9]) rfl rfl)⟩
  exact hentry
def f_X8_odds (b : Bool) (I : Nat → Nat → Int32) (sz : Nat) (abu : Int32) : Int32 := if (f_X8_isThree I abu) = 0 then (-1) else (f_X1_oddsOn b I sz 1 (abu / 100) ((abu / 10) - (abu / 10) / 10 * 10) (abu - abu / 10 * 10))
def m_X8_odds (b : Bool) (I : Nat → Nat → Int32) (sz : Nat) (abu : Int32) : Nat → Nat → Int32 := if (f_X8_isThree I abu) = 0 then I else (m_X1_oddsOn b I sz 1 (abu / 100) ((abu / 10) - (abu / 10) / 10 * 10) (abu - abu / 10 * 10))
set_option maxHeartbeats 1000000 in
set_option maxRecDepth 100000 in
theorem c_X8_odds (d : Nat) (hd : 4 ≤ d) (b : Bool) (I : Nat → Nat → Int32) (L : Nat → Nat → Int64) (np : Nat) (hnp : I 1 0 = nI np) (hn10 : np ≤ 10) (sz : Nat) (hsz : I 13 4 = nI sz) (hs121 : sz ≤ 121) (abu : Int32) : z_CT zm_X8_odds d [.ref 0, .int abu] SH (I, L, z_R b) 0 0 (z_ret (some (.int (f_X8_odds b I sz abu))) ((m_X8_odds b I sz abu), L, z_R b)) := by
  refine z_enter (by decide +kernel) (Nat.le_of_ble_eq_true rfl) ?_
  have hentry : PW zm_X8_odds d 0 [(0, .ref 0), (1, .int abu)] [] SH (I, L, z_R b) 0 0 (z_ret (some (.int (f_X8_odds b I sz abu))) ((m_X8_odds b I sz abu), L, z_R b)) := by
    refine p_aload_n (z_dec zd_X8_odds 0 rfl) rfl 0 rfl (n := 1) rfl ?_
    refine p_iload_n (z_dec zd_X8_odds 1 rfl) rfl 1 rfl (n := 2) rfl ?_
    refine q_callV (As := [.int abu]) (rest := []) (z_dec zd_X8_odds 2 rfl) zk_X8_123 zv_X8_isThree (c_X8_isThree (d - 1) (by omega) b I L abu) rfl ⟨_, _, rfl⟩ rfl rfl (Nat.le_of_ble_eq_true rfl) (by omega) (n := 5) rfl ?_
    show PW zm_X8_odds d 5 [(0, .ref 0), (1, .int abu)] [.int (f_X8_isThree I abu)] SH (I, L, z_R b) 0 0 _
    refine p_if_eq (z_dec zd_X8_odds 3 rfl) (t := 37) (by decide) (n := 8) rfl (fun h5 => ?_) (fun h5 => ?_)
    · refine p_iconst (z_dec zd_X8_odds 21 rfl) (v := (-1)) (by decide) (n := 38) rfl ?_
      exact p_iret (z_dec zd_X8_odds 22 rfl) rfl ⟨(by unfold f_X8_odds; rw [if_pos h5]), rfl, (z_3 (by unfold m_X8_odds; rw [if_pos h5]) rfl)⟩
    · refine p_aload_n (z_dec zd_X8_odds 4 rfl) rfl 0 rfl (n := 9) rfl ?_
      refine q_getR (z_dec zd_X8_odds 5 rfl) zf_X8_26 (i := 13) rfl rfl (n := 12) rfl ?_
      refine p_aload_n (z_dec zd_X8_odds 6 rfl) rfl 0 rfl (n := 13) rfl ?_
      refine q_getR (z_dec zd_X8_odds 7 rfl) zf_X8_10 (i := 1) rfl rfl (n := 16) rfl ?_
      refine p_iload_n (z_dec zd_X8_odds 8 rfl) rfl 1 rfl (n := 17) rfl ?_
      refine p_bipush (z_dec zd_X8_odds 9 rfl) (v := 100) (by decide) (n := 19) rfl ?_
      refine p_idiv (z_dec zd_X8_odds 10 rfl) (by decide) (n := 20) rfl ?_
      refine p_iload_n (z_dec zd_X8_odds 11 rfl) rfl 1 rfl (n := 21) rfl ?_
      refine p_bipush (z_dec zd_X8_odds 12 rfl) (v := 10) (by decide) (n := 23) rfl ?_
      refine p_idiv (z_dec zd_X8_odds 13 rfl) (by decide) (n := 24) rfl ?_
      refine p_bipush (z_dec zd_X8_odds 14 rfl) (v := 10) (by decide) (n := 26) rfl ?_
      refine p_irem (z_dec zd_X8_odds 15 rfl) (by decide) (n := 27) rfl ?_
      refine p_iload_n (z_dec zd_X8_odds 16 rfl) rfl 1 rfl (n := 28) rfl ?_
      refine p_bipush (z_dec zd_X8_odds 17 rfl) (v := 10) (by decide) (n := 30) rfl ?_
      refine p_irem (z_dec zd_X8_odds 18 rfl) (by decide) (n := 31) rfl ?_
      refine q_callV (As := [.ref 1, .int (abu / 100), .int ((abu / 10) - (abu / 10) / 10 * 10), .int (abu - abu / 10 * 10)]) (rest := []) (z_dec zd_X8_odds 19 rfl) zk_X8_126 zv_X1_oddsOn (c_X1_oddsOn (d - 1) (by omega) b I L sz hsz hs121 1 (z_Yd1 b) (abu / 100) ((abu / 10) - (abu / 10) / 10 * 10) (abu - abu / 10 * 10) np hnp hn10) rfl ⟨_, _, rfl⟩ rfl rfl (Nat.le_of_ble_eq_true rfl) (by omega) (n := 34) rfl ?_
      show PW zm_X8_odds d 34 [(0, .ref 0), (1, .int abu)] [.int (f_X1_oddsOn b I sz 1 (abu / 100) ((abu / 10) - (abu / 10) / 10 * 10) (abu - abu / 10 * 10))] SH ((m_X1_oddsOn b I sz 1 (abu / 100) ((abu / 10) - (abu / 10) / 10 * 10) (abu - abu / 10 * 10)), L, z_R b) 0 0 _
      refine p_goto (z_dec zd_X8_odds 20 rfl) (t := 38) (by decide) ?_
      exact p_iret (z_dec zd_X8_odds 22 rfl) rfl ⟨(by unfold f_X8_odds; rw [if_neg h5]), rfl, (z_3 (by unfold m_X8_odds; rw [if_neg h5]) rfl)⟩
  exact hentry
