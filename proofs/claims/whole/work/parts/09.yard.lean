def f_X7_has (I : Nat → Nat → Int32) (L : Nat → Nat → Int64) (k : Nat) (one : Int32) : Int32 := if one < 0 then 0 else if (I k 0) ≤ one then 0 else 1
set_option maxHeartbeats 4000000 in
set_option maxRecDepth 100000 in
theorem c_X7_has (d : Nat) (hd : 0 ≤ d) (b : Bool) (I : Nat → Nat → Int32) (L : Nat → Nat → Int64) (k : Nat) (hy : z_Yd b k) (one : Int32) : z_CT zm_X7_has d [.ref k, .int one] SH (I, L, z_R b) 0 0 (z_ret (some (.int (f_X7_has I L k one))) (I, L, z_R b)) := by
  refine z_enter (by decide +kernel) (Nat.le_of_ble_eq_true rfl) ?_
  have hentry : PW zm_X7_has d 0 [(0, .ref k), (1, .int one)] [] SH (I, L, z_R b) 0 0 (z_ret (some (.int (f_X7_has I L k one))) (I, L, z_R b)) := by
    refine p_iload_n (z_dec zd_X7_has 0 rfl) rfl 1 rfl (n := 1) rfl ?_
    refine p_if_lt (z_dec zd_X7_has 1 rfl) (t := 16) (by decide) (n := 4) rfl (fun h1 => ?_) (fun h1 => ?_)
    · refine p_iconst (z_dec zd_X7_has 8 rfl) (v := 0) (by decide) (n := 17) rfl ?_
      exact p_zret (z_dec zd_X7_has 9 rfl) rfl (Or.inl rfl) ⟨(by unfold f_X7_has; rw [if_pos h1]), rfl, rfl⟩
    · refine p_iload_n (z_dec zd_X7_has 2 rfl) rfl 1 rfl (n := 5) rfl ?_
      refine p_aload_n (z_dec zd_X7_has 3 rfl) rfl 0 rfl (n := 6) rfl ?_
      refine q_getI (z_dec zd_X7_has 4 rfl) zf_X7_9 (by decide) hy.1 (v := (I k 0)) rfl (n := 9) rfl ?_
      refine p_icmp_ge (z_dec zd_X7_has 5 rfl) (t := 16) (by decide) (n := 12) rfl (fun h9 => ?_) (fun h9 => ?_)
      · refine p_iconst (z_dec zd_X7_has 8 rfl) (v := 0) (by decide) (n := 17) rfl ?_
        exact p_zret (z_dec zd_X7_has 9 rfl) rfl (Or.inl rfl) ⟨(by unfold f_X7_has; rw [if_neg h1, if_pos h9]), rfl, rfl⟩
      · refine p_iconst (z_dec zd_X7_has 6 rfl) (v := 1) (by decide) (n := 13) rfl ?_
        refine p_goto (z_dec zd_X7_has 7 rfl) (t := 17) (by decide) ?_
        exact p_zret (z_dec zd_X7_has 9 rfl) rfl (Or.inr rfl) ⟨(by unfold f_X7_has; rw [if_neg h1, if_neg h9]), rfl, rfl⟩
  exact hentry
def f_X7_isFull (I : Nat → Nat → Int32) (L : Nat → Nat → Int64) (k : Nat) : Int32 := if (I k 0) < 10 then 0 else 1
set_option maxHeartbeats 4000000 in
set_option maxRecDepth 100000 in
theorem c_X7_isFull (d : Nat) (hd : 0 ≤ d) (b : Bool) (I : Nat → Nat → Int32) (L : Nat → Nat → Int64) (k : Nat) (hy : z_Yd b k) : z_CT zm_X7_isFull d [.ref k] SH (I, L, z_R b) 0 0 (z_ret (some (.int (f_X7_isFull I L k))) (I, L, z_R b)) := by
  refine z_enter (by decide +kernel) (Nat.le_of_ble_eq_true rfl) ?_
  have hentry : PW zm_X7_isFull d 0 [(0, .ref k)] [] SH (I, L, z_R b) 0 0 (z_ret (some (.int (f_X7_isFull I L k))) (I, L, z_R b)) := by
    refine p_aload_n (z_dec zd_X7_isFull 0 rfl) rfl 0 rfl (n := 1) rfl ?_
    refine q_getI (z_dec zd_X7_isFull 1 rfl) zf_X7_9 (by decide) hy.1 (v := (I k 0)) rfl (n := 4) rfl ?_
    refine p_bipush (z_dec zd_X7_isFull 2 rfl) (v := 10) (by decide) (n := 6) rfl ?_
    refine p_icmp_lt (z_dec zd_X7_isFull 3 rfl) (t := 13) (by decide) (n := 9) rfl (fun h6 => ?_) (fun h6 => ?_)
    · refine p_iconst (z_dec zd_X7_isFull 6 rfl) (v := 0) (by decide) (n := 14) rfl ?_
      exact p_zret (z_dec zd_X7_isFull 7 rfl) rfl (Or.inl rfl) ⟨(by unfold f_X7_isFull; rw [if_pos h6]), rfl, rfl⟩
    · refine p_iconst (z_dec zd_X7_isFull 4 rfl) (v := 1) (by decide) (n := 10) rfl ?_
      refine p_goto (z_dec zd_X7_isFull 5 rfl) (t := 14) (by decide) ?_
      exact p_zret (z_dec zd_X7_isFull 7 rfl) rfl (Or.inr rfl) ⟨(by unfold f_X7_isFull; rw [if_neg h6]), rfl, rfl⟩
  exact hentry
def f_X7_areUnlike (I : Nat → Nat → Int32) (L : Nat → Nat → Int64) (k : Nat) (one : Int32) (other : Int32) (umpire : Int32) : Int32 := if (f_X7_has I L k one) = 0 then 0 else if (f_X7_has I L k other) = 0 then 0 else if (f_X7_has I L k umpire) = 0 then 0 else if one = other then 0 else if one = umpire then 0 else if other = umpire then 0 else 1
set_option maxHeartbeats 4000000 in
set_option maxRecDepth 100000 in
theorem c_X7_areUnlike (d : Nat) (hd : 1 ≤ d) (b : Bool) (I : Nat → Nat → Int32) (L : Nat → Nat → Int64) (k : Nat) (hy : z_Yd b k) (one : Int32) (other : Int32) (umpire : Int32) : z_CT zm_X7_areUnlike d [.ref k, .int one, .int other, .int umpire] SH (I, L, z_R b) 0 0 (z_ret (some (.int (f_X7_areUnlike I L k one other umpire))) (I, L, z_R b)) := by
  refine z_enter (by decide +kernel) (Nat.le_of_ble_eq_true rfl) ?_
  have hentry : PW zm_X7_areUnlike d 0 [(0, .ref k), (1, .int one), (2, .int other), (3, .int umpire)] [] SH (I, L, z_R b) 0 0 (z_ret (some (.int (f_X7_areUnlike I L k one other umpire))) (I, L, z_R b)) := by
    refine p_aload_n (z_dec zd_X7_areUnlike 0 rfl) rfl 0 rfl (n := 1) rfl ?_
    refine p_iload_n (z_dec zd_X7_areUnlike 1 rfl) rfl 1 rfl (n := 2) rfl ?_
    refine q_callV (As := [.int one]) (rest := []) (z_dec zd_X7_areUnlike 2 rfl) zk_X7_37 zv_X7_has (c_X7_has (d - 1) (by omega) b I L k (hy) one) hy.1 ⟨_, _, rfl⟩ rfl rfl (by decide) (by omega) (n := 5) rfl ?_
    show PW zm_X7_areUnlike d 5 [(0, .ref k), (1, .int one), (2, .int other), (3, .int umpire)] [.int (f_X7_has I L k one)] SH (I, L, z_R b) 0 0 _
    refine p_if_eq (z_dec zd_X7_areUnlike 3 rfl) (t := 43) (by decide) (n := 8) rfl (fun h5 => ?_) (fun h5 => ?_)
    · refine p_iconst (z_dec zd_X7_areUnlike 23 rfl) (v := 0) (by decide) (n := 44) rfl ?_
      exact p_zret (z_dec zd_X7_areUnlike 24 rfl) rfl (Or.inl rfl) ⟨(by unfold f_X7_areUnlike; rw [if_pos h5]), rfl, rfl⟩
    · refine p_aload_n (z_dec zd_X7_areUnlike 4 rfl) rfl 0 rfl (n := 9) rfl ?_
      refine p_iload_n (z_dec zd_X7_areUnlike 5 rfl) rfl 2 rfl (n := 10) rfl ?_
      refine q_callV (As := [.int other]) (rest := []) (z_dec zd_X7_areUnlike 6 rfl) zk_X7_37 zv_X7_has (c_X7_has (d - 1) (by omega) b I L k (hy) other) hy.1 ⟨_, _, rfl⟩ rfl rfl (by decide) (by omega) (n := 13) rfl ?_
      show PW zm_X7_areUnlike d 13 [(0, .ref k), (1, .int one), (2, .int other), (3, .int umpire)] [.int (f_X7_has I L k other)] SH (I, L, z_R b) 0 0 _
      refine p_if_eq (z_dec zd_X7_areUnlike 7 rfl) (t := 43) (by decide) (n := 16) rfl (fun h13 => ?_) (fun h13 => ?_)
      · refine p_iconst (z_dec zd_X7_areUnlike 23 rfl) (v := 0) (by decide) (n := 44) rfl ?_
        exact p_zret (z_dec zd_X7_areUnlike 24 rfl) rfl (Or.inl rfl) ⟨(by unfold f_X7_areUnlike; rw [if_neg h5, if_pos h13]), rfl, rfl⟩
      · refine p_aload_n (z_dec zd_X7_areUnlike 8 rfl) rfl 0 rfl (n := 17) rfl ?_
        refine p_iload_n (z_dec zd_X7_areUnlike 9 rfl) rfl 3 rfl (n := 18) rfl ?_
        refine q_callV (As := [.int umpire]) (rest := []) (z_dec zd_X7_areUnlike 10 rfl) zk_X7_37 zv_X7_has (c_X7_has (d - 1) (by omega) b I L k (hy) umpire) hy.1 ⟨_, _, rfl⟩ rfl rfl (by decide) (by omega) (n := 21) rfl ?_
        show PW zm_X7_areUnlike d 21 [(0, .ref k), (1, .int one), (2, .int other), (3, .int umpire)] [.int (f_X7_has I L k umpire)] SH (I, L, z_R b) 0 0 _
        refine p_if_eq (z_dec zd_X7_areUnlike 11 rfl) (t := 43) (by decide) (n := 24) rfl (fun h21 => ?_) (fun h21 => ?_)
        · refine p_iconst (z_dec zd_X7_areUnlike 23 rfl) (v := 0) (by decide) (n := 44) rfl ?_
          exact p_zret (z_dec zd_X7_areUnlike 24 rfl) rfl (Or.inl rfl) ⟨(by unfold f_X7_areUnlike; rw [if_neg h5, if_neg h13, if_pos h21]), rfl, rfl⟩
        · refine p_iload_n (z_dec zd_X7_areUnlike 12 rfl) rfl 1 rfl (n := 25) rfl ?_
          refine p_iload_n (z_dec zd_X7_areUnlike 13 rfl) rfl 2 rfl (n := 26) rfl ?_
          refine p_icmp_eq (z_dec zd_X7_areUnlike 14 rfl) (t := 43) (by decide) (n := 29) rfl (fun h26 => ?_) (fun h26 => ?_)
          · refine p_iconst (z_dec zd_X7_areUnlike 23 rfl) (v := 0) (by decide) (n := 44) rfl ?_
            exact p_zret (z_dec zd_X7_areUnlike 24 rfl) rfl (Or.inl rfl) ⟨(by unfold f_X7_areUnlike; rw [if_neg h5, if_neg h13, if_neg h21, if_pos h26]), rfl, rfl⟩
          · refine p_iload_n (z_dec zd_X7_areUnlike 15 rfl) rfl 1 rfl (n := 30) rfl ?_
            refine p_iload_n (z_dec zd_X7_areUnlike 16 rfl) rfl 3 rfl (n := 31) rfl ?_
            refine p_icmp_eq (z_dec zd_X7_areUnlike 17 rfl) (t := 43) (by decide) (n := 34) rfl (fun h31 => ?_) (fun h31 => ?_)
            · refine p_iconst (z_dec zd_X7_areUnlike 23 rfl) (v := 0) (by decide) (n := 44) rfl ?_
              exact p_zret (z_dec zd_X7_areUnlike 24 rfl) rfl (Or.inl rfl) ⟨(by unfold f_X7_areUnlike; rw [if_neg h5, if_neg h13, if_neg h21, if_neg h26, if_pos h31]), rfl, rfl⟩
            · refine p_iload_n (z_dec zd_X7_areUnlike 18 rfl) rfl 2 rfl (n := 35) rfl ?_
              refine p_iload_n (z_dec zd_X7_areUnlike 19 rfl) rfl 3 rfl (n := 36) rfl ?_
              refine p_icmp_eq (z_dec zd_X7_areUnlike 20 rfl) (t := 43) (by decide) (n := 39) rfl (fun h36 => ?_) (fun h36 => ?_)
              · refine p_iconst (z_dec zd_X7_areUnlike 23 rfl) (v := 0) (by decide) (n := 44) rfl ?_
                exact p_zret (z_dec zd_X7_areUnlike 24 rfl) rfl (Or.inl rfl) ⟨(by unfold f_X7_areUnlike; rw [if_neg h5, if_neg h13, if_neg h21, if_neg h26, if_neg h31, if_pos h36]), rfl, rfl⟩
              · refine p_iconst (z_dec zd_X7_areUnlike 21 rfl) (v := 1) (by decide) (n := 40) rfl ?_
                refine p_goto (z_dec zd_X7_areUnlike 22 rfl) (t := 44) (by decide) ?_
                exact p_zret (z_dec zd_X7_areUnlike 24 rfl) rfl (Or.inr rfl) ⟨(by unfold f_X7_areUnlike; rw [if_neg h5, if_neg h13, if_neg h21, if_neg h26, if_neg h31, if_neg h36]), rfl, rfl⟩
  exact hentry
