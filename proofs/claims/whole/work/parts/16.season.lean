def m_X3_settle (I : Nat → Nat → Int32) (winner : Nat) (loser : Nat) (umpire : Nat) : Nat → Nat → Int32 := (z_up (z_up (z_up (m_X7_settle I 19 winner loser umpire) 25 winner (((m_X7_settle I 19 winner loser umpire) 25 winner) + 1)) 18 3 (((m_X7_settle I 19 winner loser umpire) 18 3) ||| ((1 : Int32) <<< ((nI loser) &&& 31)))) 18 2 (((m_X7_settle I 19 winner loser umpire) 18 2) + 1))
set_option maxHeartbeats 4000000 in
set_option maxRecDepth 100000 in
theorem c_X3_settle (d : Nat) (hd : 1 ≤ d) (b : Bool) (I : Nat → Nat → Int32) (L : Nat → Nat → Int64) (winner : Nat) (hwinner : winner < 10) (loser : Nat) (hloser : loser < 10) (umpire : Nat) (humpire : umpire < 10) : z_CT zm_X3_settle d [.ref 18, .int (nI winner), .int (nI loser), .int (nI umpire)] SH (I, L, z_R b) 0 0 (z_ret (none) ((m_X3_settle I winner loser umpire), L, z_R b)) := by
  refine z_enter (by decide +kernel) (Nat.le_of_ble_eq_true rfl) ?_
  have hentry : PW zm_X3_settle d 0 [(0, .ref 18), (1, .int (nI winner)), (2, .int (nI loser)), (3, .int (nI umpire))] [] SH (I, L, z_R b) 0 0 (z_ret (none) ((m_X3_settle I winner loser umpire), L, z_R b)) := by
    refine p_aload_n (z_dec zd_X3_settle 0 rfl) rfl 0 rfl (n := 1) rfl ?_
    refine q_getR (z_dec zd_X3_settle 1 rfl) zf_X3_12 (i := 19) rfl rfl (n := 4) rfl ?_
    refine p_iload_n (z_dec zd_X3_settle 2 rfl) rfl 1 rfl (n := 5) rfl ?_
    refine p_iload_n (z_dec zd_X3_settle 3 rfl) rfl 2 rfl (n := 6) rfl ?_
    refine p_iload_n (z_dec zd_X3_settle 4 rfl) rfl 3 rfl (n := 7) rfl ?_
    refine q_callV (As := [.int (nI winner), .int (nI loser), .int (nI umpire)]) (rest := []) (z_dec zd_X3_settle 5 rfl) zk_X3_70 zv_X7_settle (c_X7_settle (d - 1) (by omega) b I L 19 (z_Yd19 b) winner (by omega) loser (by omega) umpire (by omega)) rfl ⟨_, _, rfl⟩ rfl rfl (Nat.le_of_ble_eq_true rfl) (by omega) (n := 10) rfl ?_
    show PW zm_X3_settle d 10 [(0, .ref 18), (1, .int (nI winner)), (2, .int (nI loser)), (3, .int (nI umpire))] [] SH ((m_X7_settle I 19 winner loser umpire), L, z_R b) 0 0 _
    refine p_aload_n (z_dec zd_X3_settle 6 rfl) rfl 0 rfl (n := 11) rfl ?_
    refine q_getR (z_dec zd_X3_settle 7 rfl) zf_X3_18 (i := 25) rfl rfl (n := 14) rfl ?_
    refine p_iload_n (z_dec zd_X3_settle 8 rfl) rfl 1 rfl (n := 15) rfl ?_
    refine p_dup2 (z_dec zd_X3_settle 9 rfl) rfl rfl (n := 16) rfl ?_
    refine q_iald (z_dec zd_X3_settle 10 rfl) rfl (by decide) (winner) rfl (by omega) (v := ((m_X7_settle I 19 winner loser umpire) 25 winner)) rfl (n := 17) rfl ?_
    refine p_iconst (z_dec zd_X3_settle 11 rfl) (v := 1) (by decide) (n := 18) rfl ?_
    refine p_iadd (z_dec zd_X3_settle 12 rfl) (n := 19) rfl ?_
    refine q_iast (z_dec zd_X3_settle 13 rfl) rfl (by decide) (winner) rfl (by omega) (n := 20) rfl ?_
    refine p_aload_n (z_dec zd_X3_settle 14 rfl) rfl 0 rfl (n := 21) rfl ?_
    refine p_dup (z_dec zd_X3_settle 15 rfl) rfl (n := 22) rfl ?_
    refine q_getI (z_dec zd_X3_settle 16 rfl) zf_X3_26 (by decide) rfl (v := ((m_X7_settle I 19 winner loser umpire) 18 3)) rfl (n := 25) rfl ?_
    refine p_iconst (z_dec zd_X3_settle 17 rfl) (v := 1) (by decide) (n := 26) rfl ?_
    refine p_iload_n (z_dec zd_X3_settle 18 rfl) rfl 2 rfl (n := 27) rfl ?_
    refine p_ishl (z_dec zd_X3_settle 19 rfl) (n := 28) rfl ?_
    refine p_ior (z_dec zd_X3_settle 20 rfl) (n := 29) rfl ?_
    refine q_putI (z_dec zd_X3_settle 21 rfl) zp_X3_26 (fun q => by cases q) rfl (n := 32) rfl ?_
    refine p_aload_n (z_dec zd_X3_settle 22 rfl) rfl 0 rfl (n := 33) rfl ?_
    refine p_dup (z_dec zd_X3_settle 23 rfl) rfl (n := 34) rfl ?_
    refine q_getI (z_dec zd_X3_settle 24 rfl) zf_X3_22 (by decide) rfl (v := ((m_X7_settle I 19 winner loser umpire) 18 2)) rfl (n := 37) rfl ?_
    refine p_iconst (z_dec zd_X3_settle 25 rfl) (v := 1) (by decide) (n := 38) rfl ?_
    refine p_iadd (z_dec zd_X3_settle 26 rfl) (n := 39) rfl ?_
    refine q_putI (z_dec zd_X3_settle 27 rfl) zp_X3_22 (fun q => by cases q) rfl (n := 42) rfl ?_
    exact p_vret (z_dec zd_X3_settle 28 rfl) rfl ⟨rfl, rfl, (z_3 (by unfold m_X3_settle; rfl) rfl)⟩
  exact hentry
theorem z_loc {I J : Nat → Nat → Int32} {k j : Nat} {v : Int32} (h : I k j = v) (e : J k j = I k j) : J k j = v := e.trans h
def gb_X3_begin_20 (I : Nat → Nat → Int32) (np : Nat) (i20 : Nat) (s : (Nat → Nat → Int32)) : (Nat → Nat → Int32) := (z_up s 25 i20 0)
def g_X3_begin_20 (I : Nat → Nat → Int32) (np : Nat) : Nat → (Nat → Nat → Int32)
  | 0 => (z_up (z_up (m_X7_copyAll_19 I np) 18 2 0) 18 3 0)
  | i20 + 1 => gb_X3_begin_20 I np i20 (g_X3_begin_20 I np i20)
def m_X3_begin (I : Nat → Nat → Int32) (np : Nat) : Nat → Nat → Int32 := (g_X3_begin_20 I np 10)
set_option maxHeartbeats 4000000 in
set_option maxRecDepth 100000 in
theorem c_X3_begin (d : Nat) (hd : 3 ≤ d) (b : Bool) (I : Nat → Nat → Int32) (L : Nat → Nat → Int64) (np : Nat) (hnp : I 1 0 = nI np) (hn10 : np ≤ 10) : z_CT zm_X3_begin d [.ref 18, .ref 1] SH (I, L, z_R b) 0 0 (z_ret (none) ((m_X3_begin I np), L, z_R b)) := by
  refine z_enter (by decide +kernel) (Nat.le_of_ble_eq_true rfl) ?_
  have hentry : PW zm_X3_begin d 0 [(0, .ref 18), (1, .ref 1)] [] SH (I, L, z_R b) 0 0 (z_ret (none) ((m_X3_begin I np), L, z_R b)) := by
    refine p_aload_n (z_dec zd_X3_begin 0 rfl) rfl 0 rfl (n := 1) rfl ?_
    refine q_getR (z_dec zd_X3_begin 1 rfl) zf_X3_12 (i := 19) rfl rfl (n := 4) rfl ?_
    refine p_aload_n (z_dec zd_X3_begin 2 rfl) rfl 1 rfl (n := 5) rfl ?_
    refine q_callV (As := [.ref 1]) (rest := []) (z_dec zd_X3_begin 3 rfl) zk_X3_29 zv_X7_copyAll (c_X7_copyAll_19 (d - 1) (by omega) b I L np hnp hn10) rfl ⟨_, _, rfl⟩ rfl rfl (Nat.le_of_ble_eq_true rfl) (by omega) (n := 8) rfl ?_
    show PW zm_X3_begin d 8 [(0, .ref 18), (1, .ref 1)] [] SH ((m_X7_copyAll_19 I np), L, z_R b) 0 0 _
    refine p_aload_n (z_dec zd_X3_begin 4 rfl) rfl 0 rfl (n := 9) rfl ?_
    refine p_iconst (z_dec zd_X3_begin 5 rfl) (v := 0) (by decide) (n := 10) rfl ?_
    refine q_putI (z_dec zd_X3_begin 6 rfl) zp_X3_22 (fun q => by cases q) rfl (n := 13) rfl ?_
    refine p_aload_n (z_dec zd_X3_begin 7 rfl) rfl 0 rfl (n := 14) rfl ?_
    refine p_iconst (z_dec zd_X3_begin 8 rfl) (v := 0) (by decide) (n := 15) rfl ?_
    refine q_putI (z_dec zd_X3_begin 9 rfl) zp_X3_26 (fun q => by cases q) rfl (n := 18) rfl ?_
    refine p_iconst (z_dec zd_X3_begin 10 rfl) (v := 0) (by decide) (n := 19) rfl ?_
    refine p_istore_n (z_dec zd_X3_begin 11 rfl) rfl (lv2 := [(2, .int 0), (0, .ref 18), (1, .ref 1)]) (by decide) rfl (n := 20) rfl ?_
    have hL20 : ∀ i20, i20 ≤ 10 → PW zm_X3_begin d 20 [(2, .int (nI i20)), (0, .ref 18), (1, .ref 1)] [] SH ((g_X3_begin_20 I np i20), L, z_R b) 0 0 (z_ret (none) ((m_X3_begin I np), L, z_R b)) := by
      refine z_down 10 (fun i20 hi20 ih20 => ?_)
      refine p_iload_n (z_dec zd_X3_begin 12 rfl) rfl 0 rfl (n := 21) rfl ?_
      refine p_bipush (z_dec zd_X3_begin 13 rfl) (v := 10) (by decide) (n := 23) rfl ?_
      refine p_icmp_ge (z_dec zd_X3_begin 14 rfl) (t := 39) (by decide) (n := 26) rfl (fun h23 => ?_) (fun h23 => ?_)
      · have hx20 : i20 = 10 := by have := z_ge (a := 10) h23; omega
        rw [hx20]
        exact p_vret (z_dec zd_X3_begin 22 rfl) rfl ⟨rfl, rfl, (z_3 (by unfold m_X3_begin; rfl) rfl)⟩
      · have hx20 : i20 < 10 := by have := z_nge (a := 10) h23; omega
        refine p_aload_n (z_dec zd_X3_begin 15 rfl) rfl 1 rfl (n := 27) rfl ?_
        refine q_getR (z_dec zd_X3_begin 16 rfl) zf_X3_18 (i := 25) rfl rfl (n := 30) rfl ?_
        refine p_iload_n (z_dec zd_X3_begin 17 rfl) rfl 0 rfl (n := 31) rfl ?_
        refine p_iconst (z_dec zd_X3_begin 18 rfl) (v := 0) (by decide) (n := 32) rfl ?_
        refine q_iast (z_dec zd_X3_begin 19 rfl) rfl (by decide) (i20) rfl (by omega) (n := 33) rfl ?_
        refine p_iinc (z_dec zd_X3_begin 20 rfl) 0 rfl (v := (nI (i20 + 1))) (nI_1 _) (lv2 := [(2, .int (nI (i20 + 1))), (0, .ref 18), (1, .ref 1)]) (by decide) rfl (n := 36) rfl ?_
        refine p_goto (z_dec zd_X3_begin 21 rfl) (t := 20) (by decide) ?_
        have eb : (g_X3_begin_20 I np) (i20 + 1) = (z_up (g_X3_begin_20 I np i20) 25 i20 0) := by show gb_X3_begin_20 I np i20 ((g_X3_begin_20 I np) i20) = _; unfold gb_X3_begin_20; rfl
        refine z_lv (lv' := [(2, .int (nI (i20 + 1))), (0, .ref 18), (1, .ref 1)]) rfl rfl (by rw [eb]) (ih20 (by omega))
    refine z_lv (lv' := [(2, .int (nI 0)), (0, .ref 18), (1, .ref 1)]) rfl rfl rfl (hL20 0 (Nat.zero_le _))
  exact hentry
def m_X3_beginAnew (I : Nat → Nat → Int32) (np : Nat) : Nat → Nat → Int32 := (z_up (m_X7_copyAll_19 I np) 19 6 (I 19 6))
set_option maxHeartbeats 4000000 in
set_option maxRecDepth 100000 in
theorem c_X3_beginAnew (d : Nat) (hd : 3 ≤ d) (b : Bool) (I : Nat → Nat → Int32) (L : Nat → Nat → Int64) (np : Nat) (hnp : I 1 0 = nI np) (hn10 : np ≤ 10) : z_CT zm_X3_beginAnew d [.ref 18, .ref 1] SH (I, L, z_R b) 0 0 (z_ret (none) ((m_X3_beginAnew I np), L, z_R b)) := by
  refine z_enter (by decide +kernel) (Nat.le_of_ble_eq_true rfl) ?_
  have hentry : PW zm_X3_beginAnew d 0 [(0, .ref 18), (1, .ref 1)] [] SH (I, L, z_R b) 0 0 (z_ret (none) ((m_X3_beginAnew I np), L, z_R b)) := by
    refine p_aload_n (z_dec zd_X3_beginAnew 0 rfl) rfl 0 rfl (n := 1) rfl ?_
    refine q_getR (z_dec zd_X3_beginAnew 1 rfl) zf_X3_12 (i := 19) rfl rfl (n := 4) rfl ?_
    refine q_getI (z_dec zd_X3_beginAnew 2 rfl) zf_X3_33 (by decide) rfl (v := (I 19 6)) rfl (n := 7) rfl ?_
    refine p_istore_n (z_dec zd_X3_beginAnew 3 rfl) rfl (lv2 := [(2, .int (I 19 6)), (0, .ref 18), (1, .ref 1)]) (by decide) rfl (n := 8) rfl ?_
    refine p_aload_n (z_dec zd_X3_beginAnew 4 rfl) rfl 1 rfl (n := 9) rfl ?_
    refine q_getR (z_dec zd_X3_beginAnew 5 rfl) zf_X3_12 (i := 19) rfl rfl (n := 12) rfl ?_
    refine p_aload_n (z_dec zd_X3_beginAnew 6 rfl) rfl 2 rfl (n := 13) rfl ?_
    refine q_callV (As := [.ref 1]) (rest := []) (z_dec zd_X3_beginAnew 7 rfl) zk_X3_29 zv_X7_copyAll (c_X7_copyAll_19 (d - 1) (by omega) b I L np hnp hn10) rfl ⟨_, _, rfl⟩ rfl rfl (Nat.le_of_ble_eq_true rfl) (by omega) (n := 16) rfl ?_
    show PW zm_X3_beginAnew d 16 [(2, .int (I 19 6)), (0, .ref 18), (1, .ref 1)] [] SH ((m_X7_copyAll_19 I np), L, z_R b) 0 0 _
    refine p_aload_n (z_dec zd_X3_beginAnew 8 rfl) rfl 1 rfl (n := 17) rfl ?_
    refine q_getR (z_dec zd_X3_beginAnew 9 rfl) zf_X3_12 (i := 19) rfl rfl (n := 20) rfl ?_
    refine p_iload_n (z_dec zd_X3_beginAnew 10 rfl) rfl 0 rfl (n := 21) rfl ?_
    refine q_putI (z_dec zd_X3_beginAnew 11 rfl) zp_X3_33 (fun q => by cases q) rfl (n := 24) rfl ?_
    exact p_vret (z_dec zd_X3_beginAnew 12 rfl) rfl ⟨rfl, rfl, (z_3 (by unfold m_X3_beginAnew; rfl) rfl)⟩
  exact hentry
def f_X6_moved (fr : Int32) (move : Int32) : Int32 := if move = 2 then fr else if move = 1 then (if (fr + 20) < 99 then (fr + 20) else 99) else (if 0 < (fr - 20) then (fr - 20) else 0)
set_option maxHeartbeats 4000000 in
set_option maxRecDepth 100000 in
theorem c_X6_moved (d : Nat) (hd : 1 ≤ d) (b : Bool) (I : Nat → Nat → Int32) (L : Nat → Nat → Int64) (fr : Int32) (move : Int32) : z_CT zm_X6_moved d [.int fr, .int move] SH (I, L, z_R b) 0 0 (z_ret (some (.int (f_X6_moved fr move))) (I, L, z_R b)) := by
  refine z_enter (by decide +kernel) (Nat.le_of_ble_eq_true rfl) ?_
  have hentry : PW zm_X6_moved d 0 [(0, .int fr), (1, .int move)] [] SH (I, L, z_R b) 0 0 (z_ret (some (.int (f_X6_moved fr move))) (I, L, z_R b)) := by
    refine p_iload_n (z_dec zd_X6_moved 0 rfl) rfl 1 rfl (n := 1) rfl ?_
    refine p_iconst (z_dec zd_X6_moved 1 rfl) (v := 2) (by decide) (n := 2) rfl ?_
    refine p_icmp_ne (z_dec zd_X6_moved 2 rfl) (t := 7) (by decide) (n := 5) rfl (fun h2 => ?_) (fun h2 => ?_)
    · refine p_iload_n (z_dec zd_X6_moved 5 rfl) rfl 1 rfl (n := 8) rfl ?_
      refine p_iconst (z_dec zd_X6_moved 6 rfl) (v := 1) (by decide) (n := 9) rfl ?_
      refine p_icmp_ne (z_dec zd_X6_moved 7 rfl) (t := 24) (by decide) (n := 12) rfl (fun h9 => ?_) (fun h9 => ?_)
      · refine p_iconst (z_dec zd_X6_moved 14 rfl) (v := 0) (by decide) (n := 25) rfl ?_
        refine p_iload_n (z_dec zd_X6_moved 15 rfl) rfl 0 rfl (n := 26) rfl ?_
        refine p_bipush (z_dec zd_X6_moved 16 rfl) (v := 20) (by decide) (n := 28) rfl ?_
        refine p_isub (z_dec zd_X6_moved 17 rfl) (n := 29) rfl ?_
        refine p_mmax (z_dec zd_X6_moved 18 rfl) zk_X6_51 (by omega) (Nat.le_of_ble_eq_true rfl) (n := 32) rfl ?_
        exact p_iret (z_dec zd_X6_moved 19 rfl) rfl ⟨(by unfold f_X6_moved; rw [if_neg h2, if_neg h9]), rfl, rfl⟩
      · refine p_bipush (z_dec zd_X6_moved 8 rfl) (v := 99) (by decide) (n := 14) rfl ?_
        refine p_iload_n (z_dec zd_X6_moved 9 rfl) rfl 0 rfl (n := 15) rfl ?_
        refine p_bipush (z_dec zd_X6_moved 10 rfl) (v := 20) (by decide) (n := 17) rfl ?_
        refine p_iadd (z_dec zd_X6_moved 11 rfl) (n := 18) rfl ?_
        refine p_mmin (z_dec zd_X6_moved 12 rfl) zk_X6_56 (by omega) (Nat.le_of_ble_eq_true rfl) (n := 21) rfl ?_
        refine p_goto (z_dec zd_X6_moved 13 rfl) (t := 32) (by decide) ?_
        exact p_iret (z_dec zd_X6_moved 19 rfl) rfl ⟨(by unfold f_X6_moved; rw [if_neg h2, if_pos h9]), rfl, rfl⟩
    · refine p_iload_n (z_dec zd_X6_moved 3 rfl) rfl 0 rfl (n := 6) rfl ?_
      exact p_iret (z_dec zd_X6_moved 4 rfl) rfl ⟨(by unfold f_X6_moved; rw [if_pos h2]), rfl, rfl⟩
  exact hentry
