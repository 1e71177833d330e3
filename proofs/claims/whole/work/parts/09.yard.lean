def z_us (x n : Int32) : Int32 := (x.toUInt32 >>> (n.toUInt32 &&& Int32.toUInt32 31)).toInt32
def z_b1 (x : Int32) : Int32 := x - ((x.toUInt32 >>> ((1 : Int32).toUInt32 &&& Int32.toUInt32 31)).toInt32 &&& 1431655765)
def z_b2 (x : Int32) : Int32 := (x &&& 858993459) + ((x.toUInt32 >>> ((2 : Int32).toUInt32 &&& Int32.toUInt32 31)).toInt32 &&& 858993459)
def z_b3 (x : Int32) : Int32 := (x + (x.toUInt32 >>> ((4 : Int32).toUInt32 &&& Int32.toUInt32 31)).toInt32) &&& 252645135
def z_b4 (x : Int32) : Int32 := x + (x.toUInt32 >>> ((8 : Int32).toUInt32 &&& Int32.toUInt32 31)).toInt32
def z_b5 (x : Int32) : Int32 := x + (x.toUInt32 >>> ((16 : Int32).toUInt32 &&& Int32.toUInt32 31)).toInt32
def f_J6_bitCount_0f7a4 (x : Int32) : Int32 := ((z_b5 (z_b4 (z_b3 (z_b2 (z_b1 x))))) &&& 63)
set_option maxHeartbeats 4000000 in
set_option maxRecDepth 100000 in
theorem c_J6_bitCount_0f7a4 (d : Nat) (hd : 0 ≤ d) (b : Bool) (I : Nat → Nat → Int32) (L : Nat → Nat → Int64) (x : Int32) : z_CT zm_J6_bitCount_0f7a4 d [.int x] SH (I, L, z_R b) 0 0 (z_ret (some (.int (f_J6_bitCount_0f7a4 x))) (I, L, z_R b)) := by
  refine z_enter (by decide +kernel) (Nat.le_of_ble_eq_true rfl) ?_
  have hentry : PW zm_J6_bitCount_0f7a4 d 0 [(0, .int x)] [] SH (I, L, z_R b) 0 0 (z_ret (some (.int (f_J6_bitCount_0f7a4 x))) (I, L, z_R b)) := by
    refine p_iload_n (z_dec zd_J6_bitCount_0f7a4 0 rfl) rfl 0 rfl (n := 1) rfl ?_
    refine p_iload_n (z_dec zd_J6_bitCount_0f7a4 1 rfl) rfl 0 rfl (n := 2) rfl ?_
    refine p_iconst (z_dec zd_J6_bitCount_0f7a4 2 rfl) (v := 1) (by decide) (n := 3) rfl ?_
    refine p_iushr (z_dec zd_J6_bitCount_0f7a4 3 rfl) (n := 4) rfl ?_
    refine p_ldcw (z_dec zd_J6_bitCount_0f7a4 4 rfl) zq_J6_265 (n := 7) rfl ?_
    refine p_iand (z_dec zd_J6_bitCount_0f7a4 5 rfl) (n := 8) rfl ?_
    refine p_isub (z_dec zd_J6_bitCount_0f7a4 6 rfl) (n := 9) rfl ?_
    refine z_lv rfl (show _ = [.int (z_b1 x)] from rfl) rfl ?_
    refine p_istore_n (z_dec zd_J6_bitCount_0f7a4 7 rfl) rfl (lv2 := [(0, .int (z_b1 x))]) (by decide) rfl (n := 10) rfl ?_
    refine p_iload_n (z_dec zd_J6_bitCount_0f7a4 8 rfl) rfl 0 rfl (n := 11) rfl ?_
    refine p_ldcw (z_dec zd_J6_bitCount_0f7a4 9 rfl) zq_J6_266 (n := 14) rfl ?_
    refine p_iand (z_dec zd_J6_bitCount_0f7a4 10 rfl) (n := 15) rfl ?_
    refine p_iload_n (z_dec zd_J6_bitCount_0f7a4 11 rfl) rfl 0 rfl (n := 16) rfl ?_
    refine p_iconst (z_dec zd_J6_bitCount_0f7a4 12 rfl) (v := 2) (by decide) (n := 17) rfl ?_
    refine p_iushr (z_dec zd_J6_bitCount_0f7a4 13 rfl) (n := 18) rfl ?_
    refine p_ldcw (z_dec zd_J6_bitCount_0f7a4 14 rfl) zq_J6_266 (n := 21) rfl ?_
    refine p_iand (z_dec zd_J6_bitCount_0f7a4 15 rfl) (n := 22) rfl ?_
    refine p_iadd (z_dec zd_J6_bitCount_0f7a4 16 rfl) (n := 23) rfl ?_
    refine z_lv rfl (show _ = [.int (z_b2 (z_b1 x))] from rfl) rfl ?_
    refine p_istore_n (z_dec zd_J6_bitCount_0f7a4 17 rfl) rfl (lv2 := [(0, .int (z_b2 (z_b1 x)))]) (by decide) rfl (n := 24) rfl ?_
    refine p_iload_n (z_dec zd_J6_bitCount_0f7a4 18 rfl) rfl 0 rfl (n := 25) rfl ?_
    refine p_iload_n (z_dec zd_J6_bitCount_0f7a4 19 rfl) rfl 0 rfl (n := 26) rfl ?_
    refine p_iconst (z_dec zd_J6_bitCount_0f7a4 20 rfl) (v := 4) (by decide) (n := 27) rfl ?_
    refine p_iushr (z_dec zd_J6_bitCount_0f7a4 21 rfl) (n := 28) rfl ?_
    refine p_iadd (z_dec zd_J6_bitCount_0f7a4 22 rfl) (n := 29) rfl ?_
    refine p_ldcw (z_dec zd_J6_bitCount_0f7a4 23 rfl) zq_J6_267 (n := 32) rfl ?_
    refine p_iand (z_dec zd_J6_bitCount_0f7a4 24 rfl) (n := 33) rfl ?_
    refine z_lv rfl (show _ = [.int (z_b3 (z_b2 (z_b1 x)))] from rfl) rfl ?_
    refine p_istore_n (z_dec zd_J6_bitCount_0f7a4 25 rfl) rfl (lv2 := [(0, .int (z_b3 (z_b2 (z_b1 x))))]) (by decide) rfl (n := 34) rfl ?_
    refine p_iload_n (z_dec zd_J6_bitCount_0f7a4 26 rfl) rfl 0 rfl (n := 35) rfl ?_
    refine p_iload_n (z_dec zd_J6_bitCount_0f7a4 27 rfl) rfl 0 rfl (n := 36) rfl ?_
    refine p_bipush (z_dec zd_J6_bitCount_0f7a4 28 rfl) (v := 8) (by decide) (n := 38) rfl ?_
    refine p_iushr (z_dec zd_J6_bitCount_0f7a4 29 rfl) (n := 39) rfl ?_
    refine p_iadd (z_dec zd_J6_bitCount_0f7a4 30 rfl) (n := 40) rfl ?_
    refine z_lv rfl (show _ = [.int (z_b4 (z_b3 (z_b2 (z_b1 x))))] from rfl) rfl ?_
    refine p_istore_n (z_dec zd_J6_bitCount_0f7a4 31 rfl) rfl (lv2 := [(0, .int (z_b4 (z_b3 (z_b2 (z_b1 x)))))]) (by decide) rfl (n := 41) rfl ?_
    refine p_iload_n (z_dec zd_J6_bitCount_0f7a4 32 rfl) rfl 0 rfl (n := 42) rfl ?_
    refine p_iload_n (z_dec zd_J6_bitCount_0f7a4 33 rfl) rfl 0 rfl (n := 43) rfl ?_
    refine p_bipush (z_dec zd_J6_bitCount_0f7a4 34 rfl) (v := 16) (by decide) (n := 45) rfl ?_
    refine p_iushr (z_dec zd_J6_bitCount_0f7a4 35 rfl) (n := 46) rfl ?_
    refine p_iadd (z_dec zd_J6_bitCount_0f7a4 36 rfl) (n := 47) rfl ?_
    refine z_lv rfl (show _ = [.int (z_b5 (z_b4 (z_b3 (z_b2 (z_b1 x)))))] from rfl) rfl ?_
    refine p_istore_n (z_dec zd_J6_bitCount_0f7a4 37 rfl) rfl (lv2 := [(0, .int (z_b5 (z_b4 (z_b3 (z_b2 (z_b1 x))))))]) (by decide) rfl (n := 48) rfl ?_
    refine p_iload_n (z_dec zd_J6_bitCount_0f7a4 38 rfl) rfl 0 rfl (n := 49) rfl ?_
    refine p_bipush (z_dec zd_J6_bitCount_0f7a4 39 rfl) (v := 63) (by decide) (n := 51) rfl ?_
    refine p_iand (z_dec zd_J6_bitCount_0f7a4 40 rfl) (n := 52) rfl ?_
    exact p_iret (z_dec zd_J6_bitCount_0f7a4 41 rfl) rfl ⟨(by unfold f_J6_bitCount_0f7a4; rfl), rfl, rfl⟩
  exact hentry
def f_X7_has (I : Nat → Nat → Int32) (k : Nat) (one : Int32) : Int32 := if one < 0 then 0 else if (I k 0) ≤ one then 0 else 1
set_option maxHeartbeats 4000000 in
set_option maxRecDepth 100000 in
theorem c_X7_has (d : Nat) (hd : 0 ≤ d) (b : Bool) (I : Nat → Nat → Int32) (L : Nat → Nat → Int64) (k : Nat) (hy : z_Yd b k) (one : Int32) : z_CT zm_X7_has d [.ref k, .int one] SH (I, L, z_R b) 0 0 (z_ret (some (.int (f_X7_has I k one))) (I, L, z_R b)) := by
  refine z_enter (by decide +kernel) (Nat.le_of_ble_eq_true rfl) ?_
  have hentry : PW zm_X7_has d 0 [(0, .ref k), (1, .int one)] [] SH (I, L, z_R b) 0 0 (z_ret (some (.int (f_X7_has I k one))) (I, L, z_R b)) := by
    refine p_iload_n (z_dec zd_X7_has 0 rfl) rfl 1 rfl (n := 1) rfl ?_
    refine p_if_lt (z_dec zd_X7_has 1 rfl) (t := 16) (by decide) (n := 4) rfl (fun h1 => ?_) (fun h1 => ?_)
    · refine p_iconst (z_dec zd_X7_has 8 rfl) (v := 0) (by decide) (n := 17) rfl ?_
      exact p_zret (z_dec zd_X7_has 9 rfl) rfl (Or.inl rfl) ⟨(by unfold f_X7_has; rw [if_pos h1]), rfl, rfl⟩
    · refine p_iload_n (z_dec zd_X7_has 2 rfl) rfl 1 rfl (n := 5) rfl ?_
      refine p_aload_n (z_dec zd_X7_has 3 rfl) rfl 0 rfl (n := 6) rfl ?_
      refine q_getI (z_dec zd_X7_has 4 rfl) zf_X7_9 (by decide) hy.1 (v := (I k 0)) rfl (n := 9) rfl ?_
      refine p_icmp_ge (z_dec zd_X7_has 5 rfl) (t := 16) (by decide) (n := 12) rfl (fun h9 => ?_) (fun h9 => ?_)
      · refine p_iconst (z_dec zd_X7_has 8 rfl) (v := 0) (by decide) (n := 17) rfl ?_
        exact p_zret (z_dec zd_X7_has 9 rfl) rfl (Or.inl rfl) ⟨(by unfold f_X7_has; rw [if_neg h1, if_pos h9]), rfl, rfl⟩
      · refine p_iconst (z_dec zd_X7_has 6 rfl) (v := 1) (by decide) (n := 13) rfl ?_
        refine p_goto (z_dec zd_X7_has 7 rfl) (t := 17) (by decide) ?_
        exact p_zret (z_dec zd_X7_has 9 rfl) rfl (Or.inr rfl) ⟨(by unfold f_X7_has; rw [if_neg h1, if_neg h9]), rfl, rfl⟩
  exact hentry
theorem fb_X7_has (I : Nat → Nat → Int32) (k : Nat) (one : Int32) : f_X7_has I k one = 0 ∨ f_X7_has I k one = 1 := by
  unfold f_X7_has
  (repeat' split) <;> first | exact Or.inl rfl | exact Or.inr rfl
def f_X7_isFull (I : Nat → Nat → Int32) (k : Nat) : Int32 := if (I k 0) < 10 then 0 else 1
set_option maxHeartbeats 4000000 in
set_option maxRecDepth 100000 in
theorem c_X7_isFull (d : Nat) (hd : 0 ≤ d) (b : Bool) (I : Nat → Nat → Int32) (L : Nat → Nat → Int64) (k : Nat) (hy : z_Yd b k) : z_CT zm_X7_isFull d [.ref k] SH (I, L, z_R b) 0 0 (z_ret (some (.int (f_X7_isFull I k))) (I, L, z_R b)) := by
  refine z_enter (by decide +kernel) (Nat.le_of_ble_eq_true rfl) ?_
  have hentry : PW zm_X7_isFull d 0 [(0, .ref k)] [] SH (I, L, z_R b) 0 0 (z_ret (some (.int (f_X7_isFull I k))) (I, L, z_R b)) := by
    refine p_aload_n (z_dec zd_X7_isFull 0 rfl) rfl 0 rfl (n := 1) rfl ?_
    refine q_getI (z_dec zd_X7_isFull 1 rfl) zf_X7_9 (by decide) hy.1 (v := (I k 0)) rfl (n := 4) rfl ?_
    refine p_bipush (z_dec zd_X7_isFull 2 rfl) (v := 10) (by decide) (n := 6) rfl ?_
    refine p_icmp_lt (z_dec zd_X7_isFull 3 rfl) (t := 13) (by decide) (n := 9) rfl (fun h6 => ?_) (fun h6 => ?_)
    · refine p_iconst (z_dec zd_X7_isFull 6 rfl) (v := 0) (by decide) (n := 14) rfl ?_
      exact p_zret (z_dec zd_X7_isFull 7 rfl) rfl (Or.inl rfl) ⟨(by unfold f_X7_isFull; rw [if_pos h6]), rfl, rfl⟩
    · refine p_iconst (z_dec zd_X7_isFull 4 rfl) (v := 1) (by decide) (n := 10) rfl ?_
      refine p_goto (z_dec zd_X7_isFull 5 rfl) (t := 14) (by decide) ?_
      exact p_zret (z_dec zd_X7_isFull 7 rfl) rfl (Or.inr rfl) ⟨(by unfold f_X7_isFull; rw [if_neg h6]), rfl, rfl⟩
  exact hentry
theorem fb_X7_isFull (I : Nat → Nat → Int32) (k : Nat) : f_X7_isFull I k = 0 ∨ f_X7_isFull I k = 1 := by
  unfold f_X7_isFull
  (repeat' split) <;> first | exact Or.inl rfl | exact Or.inr rfl
def f_X7_areUnlike (I : Nat → Nat → Int32) (k : Nat) (one : Int32) (other : Int32) (umpire : Int32) : Int32 := if (f_X7_has I k one) = 0 then 0 else if (f_X7_has I k other) = 0 then 0 else if (f_X7_has I k umpire) = 0 then 0 else if one = other then 0 else if one = umpire then 0 else if other = umpire then 0 else 1
set_option maxHeartbeats 4000000 in
set_option maxRecDepth 100000 in
theorem c_X7_areUnlike (d : Nat) (hd : 1 ≤ d) (b : Bool) (I : Nat → Nat → Int32) (L : Nat → Nat → Int64) (k : Nat) (hy : z_Yd b k) (one : Int32) (other : Int32) (umpire : Int32) : z_CT zm_X7_areUnlike d [.ref k, .int one, .int other, .int umpire] SH (I, L, z_R b) 0 0 (z_ret (some (.int (f_X7_areUnlike I k one other umpire))) (I, L, z_R b)) := by
  refine z_enter (by decide +kernel) (Nat.le_of_ble_eq_true rfl) ?_
  have hentry : PW zm_X7_areUnlike d 0 [(0, .ref k), (1, .int one), (2, .int other), (3, .int umpire)] [] SH (I, L, z_R b) 0 0 (z_ret (some (.int (f_X7_areUnlike I k one other umpire))) (I, L, z_R b)) := by
    refine p_aload_n (z_dec zd_X7_areUnlike 0 rfl) rfl 0 rfl (n := 1) rfl ?_
    refine p_iload_n (z_dec zd_X7_areUnlike 1 rfl) rfl 1 rfl (n := 2) rfl ?_
    refine q_callV (As := [.int one]) (rest := []) (z_dec zd_X7_areUnlike 2 rfl) zk_X7_37 zv_X7_has (c_X7_has (d - 1) (by omega) b I L k (hy) one) hy.1 ⟨_, _, rfl⟩ rfl rfl (Nat.le_of_ble_eq_true rfl) (by omega) (n := 5) rfl ?_
    show PW zm_X7_areUnlike d 5 [(0, .ref k), (1, .int one), (2, .int other), (3, .int umpire)] [.int (f_X7_has I k one)] SH (I, L, z_R b) 0 0 _
    refine p_if_eq (z_dec zd_X7_areUnlike 3 rfl) (t := 43) (by decide) (n := 8) rfl (fun h5 => ?_) (fun h5 => ?_)
    · refine p_iconst (z_dec zd_X7_areUnlike 23 rfl) (v := 0) (by decide) (n := 44) rfl ?_
      exact p_zret (z_dec zd_X7_areUnlike 24 rfl) rfl (Or.inl rfl) ⟨(by unfold f_X7_areUnlike; rw [if_pos h5]), rfl, rfl⟩
    · refine p_aload_n (z_dec zd_X7_areUnlike 4 rfl) rfl 0 rfl (n := 9) rfl ?_
      refine p_iload_n (z_dec zd_X7_areUnlike 5 rfl) rfl 2 rfl (n := 10) rfl ?_
      refine q_callV (As := [.int other]) (rest := []) (z_dec zd_X7_areUnlike 6 rfl) zk_X7_37 zv_X7_has (c_X7_has (d - 1) (by omega) b I L k (hy) other) hy.1 ⟨_, _, rfl⟩ rfl rfl (Nat.le_of_ble_eq_true rfl) (by omega) (n := 13) rfl ?_
      show PW zm_X7_areUnlike d 13 [(0, .ref k), (1, .int one), (2, .int other), (3, .int umpire)] [.int (f_X7_has I k other)] SH (I, L, z_R b) 0 0 _
      refine p_if_eq (z_dec zd_X7_areUnlike 7 rfl) (t := 43) (by decide) (n := 16) rfl (fun h13 => ?_) (fun h13 => ?_)
      · refine p_iconst (z_dec zd_X7_areUnlike 23 rfl) (v := 0) (by decide) (n := 44) rfl ?_
        exact p_zret (z_dec zd_X7_areUnlike 24 rfl) rfl (Or.inl rfl) ⟨(by unfold f_X7_areUnlike; rw [if_neg h5, if_pos h13]), rfl, rfl⟩
      · refine p_aload_n (z_dec zd_X7_areUnlike 8 rfl) rfl 0 rfl (n := 17) rfl ?_
        refine p_iload_n (z_dec zd_X7_areUnlike 9 rfl) rfl 3 rfl (n := 18) rfl ?_
        refine q_callV (As := [.int umpire]) (rest := []) (z_dec zd_X7_areUnlike 10 rfl) zk_X7_37 zv_X7_has (c_X7_has (d - 1) (by omega) b I L k (hy) umpire) hy.1 ⟨_, _, rfl⟩ rfl rfl (Nat.le_of_ble_eq_true rfl) (by omega) (n := 21) rfl ?_
        show PW zm_X7_areUnlike d 21 [(0, .ref k), (1, .int one), (2, .int other), (3, .int umpire)] [.int (f_X7_has I k umpire)] SH (I, L, z_R b) 0 0 _
        refine p_if_eq (z_dec zd_X7_areUnlike 11 rfl) (t := 43) (by decide) (n := 24) rfl (fun h21 => ?_) (fun h21 => ?_)
        · refine p_iconst (z_dec zd_X7_areUnlike 23 rfl) (v := 0) (by decide) (n := 44) rfl ?_
          exact p_zret (z_dec zd_X7_areUnlike 24 rfl) rfl (Or.inl rfl) ⟨(by unfold f_X7_areUnlike; rw [if_neg h5, if_neg h13, if_pos h21]), rfl, rfl⟩
        · refine p_iload_n (z_dec zd_X7_areUnlike 12 rfl) rfl 1 rfl (n := 25) rfl ?_
          refine p_iload_n (z_dec zd_X7_areUnlike 13 rfl) rfl 2 rfl (n := 26) rfl ?_
          refine p_icmp_eq (z_dec zd_X7_areUnlike 14 rfl) (t := 43) (by decide) (n := 29) rfl (fun h26 => ?_) (fun h26 => ?_)
          · refine p_iconst (z_dec zd_X7_areUnlike 23 rfl) (v := 0) (by decide) (n := 44) rfl ?_
            exact p_zret (z_dec zd_X7_areUnlike 24 rfl) rfl (Or.inl rfl) ⟨(by unfold f_X7_areUnlike; rw [if_neg h5, if_neg h13, if_neg h21, if_pos h26]), rfl, rfl⟩
          · refine p_iload_n (z_dec zd_X7_areUnlike 15 rfl) rfl 1 rfl (n := 30) rfl ?_
            refine p_iload_n (z_dec zd_X7_areUnlike 16 rfl) rfl 3 rfl (n := 31) rfl ?_
            refine p_icmp_eq (z_dec zd_X7_areUnlike 17 rfl) (t := 43) (by decide) (n := 34) rfl (fun h31 => ?_) (fun h31 => ?_)
            · refine p_iconst (z_dec zd_X7_areUnlike 23 rfl) (v := 0) (by decide) (n := 44) rfl ?_
              exact p_zret (z_dec zd_X7_areUnlike 24 rfl) rfl (Or.inl rfl) ⟨(by unfold f_X7_areUnlike; rw [if_neg h5, if_neg h13, if_neg h21, if_neg h26, if_pos h31]), rfl, rfl⟩
            · refine p_iload_n (z_dec zd_X7_areUnlike 18 rfl) rfl 2 rfl (n := 35) rfl ?_
              refine p_iload_n (z_dec zd_X7_areUnlike 19 rfl) rfl 3 rfl (n := 36) rfl ?_
              refine p_icmp_eq (z_dec zd_X7_areUnlike 20 rfl) (t := 43) (by decide) (n := 39) rfl (fun h36 => ?_) (fun h36 => ?_)
              · refine p_iconst (z_dec zd_X7_areUnlike 23 rfl) (v := 0) (by decide) (n := 44) rfl ?_
                exact p_zret (z_dec zd_X7_areUnlike 24 rfl) rfl (Or.inl rfl) ⟨(by unfold f_X7_areUnlike; rw [if_neg h5, if_neg h13, if_neg h21, if_neg h26, if_neg h31, if_pos h36]), rfl, rfl⟩
              · refine p_iconst (z_dec zd_X7_areUnlike 21 rfl) (v := 1) (by decide) (n := 40) rfl ?_
                refine p_goto (z_dec zd_X7_areUnlike 22 rfl) (t := 44) (by decide) ?_
                exact p_zret (z_dec zd_X7_areUnlike 24 rfl) rfl (Or.inr rfl) ⟨(by unfold f_X7_areUnlike; rw [if_neg h5, if_neg h13, if_neg h21, if_neg h26, if_neg h31, if_neg h36]), rfl, rfl⟩
  exact hentry
theorem fb_X7_areUnlike (I : Nat → Nat → Int32) (k : Nat) (one : Int32) (other : Int32) (umpire : Int32) : f_X7_areUnlike I k one other umpire = 0 ∨ f_X7_areUnlike I k one other umpire = 1 := by
  unfold f_X7_areUnlike
  (repeat' split) <;> first | exact Or.inl rfl | exact Or.inr rfl
theorem z_has {I : Nat → Nat → Int32} {k np : Nat} {one : Int32} (hnp : I k 0 = nI np) (hn10 : np ≤ 10) (h : ¬ f_X7_has I k one = 0) : one = nI one.toNatClampNeg ∧ one.toNatClampNeg < np := by
  unfold f_X7_has at h
  rw [hnp] at h
  by_cases h1 : one < 0
  · rw [if_pos h1] at h; exact absurd rfl h
  · rw [if_neg h1] at h
    by_cases h2 : nI np ≤ one
    · rw [if_pos h2] at h; exact absurd rfl h
    · obtain ⟨j, hj, rfl⟩ := nI_of h1
      rw [nI_clamp hj]
      refine ⟨rfl, ?_⟩
      rcases Nat.lt_or_ge j np with q | q
      · exact q
      · exact absurd (nI_le q hj) h2
theorem z_unl {I : Nat → Nat → Int32} {k np : Nat} {one other umpire : Int32} (hnp : I k 0 = nI np) (hn10 : np ≤ 10) (h : ¬ f_X7_areUnlike I k one other umpire = 0) : (one = nI one.toNatClampNeg ∧ one.toNatClampNeg < np) ∧ (other = nI other.toNatClampNeg ∧ other.toNatClampNeg < np) ∧ (umpire = nI umpire.toNatClampNeg ∧ umpire.toNatClampNeg < np) := by
  unfold f_X7_areUnlike at h
  by_cases h1 : f_X7_has I k one = 0
  · rw [if_pos h1] at h; exact absurd rfl h
  · rw [if_neg h1] at h
    by_cases h2 : f_X7_has I k other = 0
    · rw [if_pos h2] at h; exact absurd rfl h
    · rw [if_neg h2] at h
      by_cases h3 : f_X7_has I k umpire = 0
      · rw [if_pos h3] at h; exact absurd rfl h
      · exact ⟨z_has hnp hn10 h1, z_has hnp hn10 h2, z_has hnp hn10 h3⟩
theorem z_full {I : Nat → Nat → Int32} {k np : Nat} (hnp : I k 0 = nI np) (hn10 : np ≤ 10) (h : f_X7_isFull I k = 0) : np < 10 := by
  unfold f_X7_isFull at h
  rw [hnp] at h
  by_cases h1 : nI np < 10
  · exact (nI_ltI (a := np) (b := 10) (by omega) (by omega)).mp h1
  · rw [if_neg h1] at h; exact absurd h (by decide)
def f_X7_join (I : Nat → Nat → Int32) (k : Nat) (np : Nat) (sk : Int32) (gr : Int32) (lo : Int32) : Int32 := if (f_X7_isFull I k) = 0 then (nI np) else (-3)
def m_X7_join (I : Nat → Nat → Int32) (k : Nat) (np : Nat) (sk : Int32) (gr : Int32) (lo : Int32) : Nat → Nat → Int32 := if (f_X7_isFull I k) = 0 then (z_up (z_up (z_up (z_up (z_up I (k + 1) np sk) (k + 2) np gr) (k + 3) np lo) (k + 4) np 0) k 0 ((nI np) + 1)) else I
set_option maxHeartbeats 4000000 in
set_option maxRecDepth 100000 in
theorem c_X7_join (d : Nat) (hd : 1 ≤ d) (b : Bool) (I : Nat → Nat → Int32) (L : Nat → Nat → Int64) (k : Nat) (hy : z_Yd b k) (np : Nat) (hnp : I k 0 = nI np) (hn10 : np ≤ 10) (sk : Int32) (gr : Int32) (lo : Int32) : z_CT zm_X7_join d [.ref k, .int sk, .int gr, .int lo] SH (I, L, z_R b) 0 0 (z_ret (some (.int (f_X7_join I k np sk gr lo))) ((m_X7_join I k np sk gr lo), L, z_R b)) := by
  refine z_enter (by decide +kernel) (Nat.le_of_ble_eq_true rfl) ?_
  have hentry : PW zm_X7_join d 0 [(0, .ref k), (1, .int sk), (2, .int gr), (3, .int lo)] [] SH (I, L, z_R b) 0 0 (z_ret (some (.int (f_X7_join I k np sk gr lo))) ((m_X7_join I k np sk gr lo), L, z_R b)) := by
    refine p_aload_n (z_dec zd_X7_join 0 rfl) rfl 0 rfl (n := 1) rfl ?_
    refine q_callV (As := []) (rest := []) (z_dec zd_X7_join 1 rfl) zk_X7_41 zv_X7_isFull (c_X7_isFull (d - 1) (by omega) b I L k (hy)) hy.1 ⟨_, _, rfl⟩ rfl rfl (Nat.le_of_ble_eq_true rfl) (by omega) (n := 4) rfl ?_
    show PW zm_X7_join d 4 [(0, .ref k), (1, .int sk), (2, .int gr), (3, .int lo)] [.int (f_X7_isFull I k)] SH (I, L, z_R b) 0 0 _
    refine p_if_eq (z_dec zd_X7_join 2 rfl) (t := 10) (by decide) (n := 7) rfl (fun h4 => ?_) (fun h4 => ?_)
    · have hnf := z_full hnp hn10 h4
      refine p_aload_n (z_dec zd_X7_join 5 rfl) rfl 0 rfl (n := 11) rfl ?_
      refine q_getR (z_dec zd_X7_join 6 rfl) zf_X7_15 (i := (k + 1)) hy.2.2.1 hy.1 (n := 14) rfl ?_
      refine p_aload_n (z_dec zd_X7_join 7 rfl) rfl 0 rfl (n := 15) rfl ?_
      refine q_getI (z_dec zd_X7_join 8 rfl) zf_X7_9 (by decide) hy.1 (v := (nI np)) hnp (n := 18) rfl ?_
      refine p_iload_n (z_dec zd_X7_join 9 rfl) rfl 1 rfl (n := 19) rfl ?_
      refine q_iast (z_dec zd_X7_join 10 rfl) hy.2.1.1 (by decide) (np) rfl (by omega) (n := 20) rfl ?_
      refine p_aload_n (z_dec zd_X7_join 11 rfl) rfl 0 rfl (n := 21) rfl ?_
      refine q_getR (z_dec zd_X7_join 12 rfl) zf_X7_19 (i := (k + 2)) hy.2.2.2.1 hy.1 (n := 24) rfl ?_
      refine p_aload_n (z_dec zd_X7_join 13 rfl) rfl 0 rfl (n := 25) rfl ?_
      refine q_getI (z_dec zd_X7_join 14 rfl) zf_X7_9 (by decide) hy.1 (v := (nI np)) (by simp [z_up, hnp]) (n := 28) rfl ?_
      refine p_iload_n (z_dec zd_X7_join 15 rfl) rfl 2 rfl (n := 29) rfl ?_
      refine q_iast (z_dec zd_X7_join 16 rfl) hy.2.1.2.1 (by decide) (np) rfl (by omega) (n := 30) rfl ?_
      refine p_aload_n (z_dec zd_X7_join 17 rfl) rfl 0 rfl (n := 31) rfl ?_
      refine q_getR (z_dec zd_X7_join 18 rfl) zf_X7_22 (i := (k + 3)) hy.2.2.2.2.1 hy.1 (n := 34) rfl ?_
      refine p_aload_n (z_dec zd_X7_join 19 rfl) rfl 0 rfl (n := 35) rfl ?_
      refine q_getI (z_dec zd_X7_join 20 rfl) zf_X7_9 (by decide) hy.1 (v := (nI np)) (by simp [z_up, hnp]) (n := 38) rfl ?_
      refine p_iload_n (z_dec zd_X7_join 21 rfl) rfl 3 rfl (n := 39) rfl ?_
      refine q_iast (z_dec zd_X7_join 22 rfl) hy.2.1.2.2.1 (by decide) (np) rfl (by omega) (n := 40) rfl ?_
      refine p_aload_n (z_dec zd_X7_join 23 rfl) rfl 0 rfl (n := 41) rfl ?_
      refine q_getR (z_dec zd_X7_join 24 rfl) zf_X7_25 (i := (k + 4)) hy.2.2.2.2.2.1 hy.1 (n := 44) rfl ?_
      refine p_aload_n (z_dec zd_X7_join 25 rfl) rfl 0 rfl (n := 45) rfl ?_
      refine q_getI (z_dec zd_X7_join 26 rfl) zf_X7_9 (by decide) hy.1 (v := (nI np)) (by simp [z_up, hnp]) (n := 48) rfl ?_
      refine p_iconst (z_dec zd_X7_join 27 rfl) (v := 0) (by decide) (n := 49) rfl ?_
      refine q_iast (z_dec zd_X7_join 28 rfl) hy.2.1.2.2.2.1 (by decide) (np) rfl (by omega) (n := 50) rfl ?_
      refine p_aload_n (z_dec zd_X7_join 29 rfl) rfl 0 rfl (n := 51) rfl ?_
      refine p_dup (z_dec zd_X7_join 30 rfl) rfl (n := 52) rfl ?_
      refine q_getI (z_dec zd_X7_join 31 rfl) zf_X7_9 (by decide) hy.1 (v := (nI np)) (by simp [z_up, hnp]) (n := 55) rfl ?_
      refine p_dup_x1 (z_dec zd_X7_join 32 rfl) rfl rfl (n := 56) rfl ?_
      refine p_iconst (z_dec zd_X7_join 33 rfl) (v := 1) (by decide) (n := 57) rfl ?_
      refine p_iadd (z_dec zd_X7_join 34 rfl) (n := 58) rfl ?_
      refine q_putI (z_dec zd_X7_join 35 rfl) zp_X7_9 (fun q => by cases q) hy.1 (n := 61) rfl ?_
      exact p_iret (z_dec zd_X7_join 36 rfl) rfl ⟨(by unfold f_X7_join; rw [if_pos h4]), rfl, (z_3 (by unfold m_X7_join; rw [if_pos h4]) rfl)⟩
    · refine p_bipush (z_dec zd_X7_join 3 rfl) (v := (-3)) (by decide) (n := 9) rfl ?_
      exact p_iret (z_dec zd_X7_join 4 rfl) rfl ⟨(by unfold f_X7_join; rw [if_neg h4]), rfl, (z_3 (by unfold m_X7_join; rw [if_neg h4]) rfl)⟩
  exact hentry
def f_X7_mayJudge (I : Nat → Nat → Int32) (k : Nat) (one : Nat) : Int32 := if ((I (k + 3) one) &&& 1) = 0 then 0 else 1
set_option maxHeartbeats 4000000 in
set_option maxRecDepth 100000 in
theorem c_X7_mayJudge (d : Nat) (hd : 0 ≤ d) (b : Bool) (I : Nat → Nat → Int32) (L : Nat → Nat → Int64) (k : Nat) (hy : z_Yd b k) (one : Nat) (hone : one < 10) : z_CT zm_X7_mayJudge d [.ref k, .int (nI one)] SH (I, L, z_R b) 0 0 (z_ret (some (.int (f_X7_mayJudge I k one))) (I, L, z_R b)) := by
  refine z_enter (by decide +kernel) (Nat.le_of_ble_eq_true rfl) ?_
  have hentry : PW zm_X7_mayJudge d 0 [(0, .ref k), (1, .int (nI one))] [] SH (I, L, z_R b) 0 0 (z_ret (some (.int (f_X7_mayJudge I k one))) (I, L, z_R b)) := by
    refine p_aload_n (z_dec zd_X7_mayJudge 0 rfl) rfl 0 rfl (n := 1) rfl ?_
    refine q_getR (z_dec zd_X7_mayJudge 1 rfl) zf_X7_22 (i := (k + 3)) hy.2.2.2.2.1 hy.1 (n := 4) rfl ?_
    refine p_iload_n (z_dec zd_X7_mayJudge 2 rfl) rfl 1 rfl (n := 5) rfl ?_
    refine q_iald (z_dec zd_X7_mayJudge 3 rfl) hy.2.1.2.2.1 (by decide) (one) rfl (by omega) (v := (I (k + 3) one)) rfl (n := 6) rfl ?_
    refine p_iconst (z_dec zd_X7_mayJudge 4 rfl) (v := 1) (by decide) (n := 7) rfl ?_
    refine p_iand (z_dec zd_X7_mayJudge 5 rfl) (n := 8) rfl ?_
    refine p_if_eq (z_dec zd_X7_mayJudge 6 rfl) (t := 15) (by decide) (n := 11) rfl (fun h8 => ?_) (fun h8 => ?_)
    · refine p_iconst (z_dec zd_X7_mayJudge 9 rfl) (v := 0) (by decide) (n := 16) rfl ?_
      exact p_zret (z_dec zd_X7_mayJudge 10 rfl) rfl (Or.inl rfl) ⟨(by unfold f_X7_mayJudge; rw [if_pos h8]), rfl, rfl⟩
    · refine p_iconst (z_dec zd_X7_mayJudge 7 rfl) (v := 1) (by decide) (n := 12) rfl ?_
      refine p_goto (z_dec zd_X7_mayJudge 8 rfl) (t := 16) (by decide) ?_
      exact p_zret (z_dec zd_X7_mayJudge 10 rfl) rfl (Or.inr rfl) ⟨(by unfold f_X7_mayJudge; rw [if_neg h8]), rfl, rfl⟩
  exact hentry
theorem fb_X7_mayJudge (I : Nat → Nat → Int32) (k : Nat) (one : Nat) : f_X7_mayJudge I k one = 0 ∨ f_X7_mayJudge I k one = 1 := by
  unfold f_X7_mayJudge
  (repeat' split) <;> first | exact Or.inl rfl | exact Or.inr rfl
def f_X7_isFree (I : Nat → Nat → Int32) (k : Nat) (one : Nat) : Int32 := if ((I (k + 4) one) &&& 1) = 0 then 1 else 0
set_option maxHeartbeats 4000000 in
set_option maxRecDepth 100000 in
theorem c_X7_isFree (d : Nat) (hd : 0 ≤ d) (b : Bool) (I : Nat → Nat → Int32) (L : Nat → Nat → Int64) (k : Nat) (hy : z_Yd b k) (one : Nat) (hone : one < 10) : z_CT zm_X7_isFree d [.ref k, .int (nI one)] SH (I, L, z_R b) 0 0 (z_ret (some (.int (f_X7_isFree I k one))) (I, L, z_R b)) := by
  refine z_enter (by decide +kernel) (Nat.le_of_ble_eq_true rfl) ?_
  have hentry : PW zm_X7_isFree d 0 [(0, .ref k), (1, .int (nI one))] [] SH (I, L, z_R b) 0 0 (z_ret (some (.int (f_X7_isFree I k one))) (I, L, z_R b)) := by
    refine p_aload_n (z_dec zd_X7_isFree 0 rfl) rfl 0 rfl (n := 1) rfl ?_
    refine q_getR (z_dec zd_X7_isFree 1 rfl) zf_X7_25 (i := (k + 4)) hy.2.2.2.2.2.1 hy.1 (n := 4) rfl ?_
    refine p_iload_n (z_dec zd_X7_isFree 2 rfl) rfl 1 rfl (n := 5) rfl ?_
    refine q_iald (z_dec zd_X7_isFree 3 rfl) hy.2.1.2.2.2.1 (by decide) (one) rfl (by omega) (v := (I (k + 4) one)) rfl (n := 6) rfl ?_
    refine p_iconst (z_dec zd_X7_isFree 4 rfl) (v := 1) (by decide) (n := 7) rfl ?_
    refine p_iand (z_dec zd_X7_isFree 5 rfl) (n := 8) rfl ?_
    refine p_if_ne (z_dec zd_X7_isFree 6 rfl) (t := 15) (by decide) (n := 11) rfl (fun h8 => ?_) (fun h8 => ?_)
    · refine p_iconst (z_dec zd_X7_isFree 9 rfl) (v := 0) (by decide) (n := 16) rfl ?_
      exact p_zret (z_dec zd_X7_isFree 10 rfl) rfl (Or.inl rfl) ⟨(by unfold f_X7_isFree; rw [if_neg h8]), rfl, rfl⟩
    · refine p_iconst (z_dec zd_X7_isFree 7 rfl) (v := 1) (by decide) (n := 12) rfl ?_
      refine p_goto (z_dec zd_X7_isFree 8 rfl) (t := 16) (by decide) ?_
      exact p_zret (z_dec zd_X7_isFree 10 rfl) rfl (Or.inr rfl) ⟨(by unfold f_X7_isFree; rw [if_pos h8]), rfl, rfl⟩
  exact hentry
theorem fb_X7_isFree (I : Nat → Nat → Int32) (k : Nat) (one : Nat) : f_X7_isFree I k one = 0 ∨ f_X7_isFree I k one = 1 := by
  unfold f_X7_isFree
  (repeat' split) <;> first | exact Or.inl rfl | exact Or.inr rfl
def f_X7_draw (I : Nat → Nat → Int32) (k : Nat) : Int32 := (((((I k 6) * 1103515245) + 12345).toUInt32 >>> ((8 : Int32).toUInt32 &&& Int32.toUInt32 31)).toInt32 - ((((I k 6) * 1103515245) + 12345).toUInt32 >>> ((8 : Int32).toUInt32 &&& Int32.toUInt32 31)).toInt32 / 12 * 12)
def m_X7_draw (I : Nat → Nat → Int32) (k : Nat) : Nat → Nat → Int32 := (z_up I k 6 (((I k 6) * 1103515245) + 12345))
set_option maxHeartbeats 4000000 in
set_option maxRecDepth 100000 in
theorem c_X7_draw (d : Nat) (hd : 0 ≤ d) (b : Bool) (I : Nat → Nat → Int32) (L : Nat → Nat → Int64) (k : Nat) (hy : z_Yd b k) : z_CT zm_X7_draw d [.ref k] SH (I, L, z_R b) 0 0 (z_ret (some (.int (f_X7_draw I k))) ((m_X7_draw I k), L, z_R b)) := by
  refine z_enter (by decide +kernel) (Nat.le_of_ble_eq_true rfl) ?_
  have hentry : PW zm_X7_draw d 0 [(0, .ref k)] [] SH (I, L, z_R b) 0 0 (z_ret (some (.int (f_X7_draw I k))) ((m_X7_draw I k), L, z_R b)) := by
    refine p_aload_n (z_dec zd_X7_draw 0 rfl) rfl 0 rfl (n := 1) rfl ?_
    refine p_aload_n (z_dec zd_X7_draw 1 rfl) rfl 0 rfl (n := 2) rfl ?_
    refine q_getI (z_dec zd_X7_draw 2 rfl) zf_X7_31 (by decide) hy.1 (v := (I k 6)) rfl (n := 5) rfl ?_
    refine p_ldc (z_dec zd_X7_draw 3 rfl) zq_X7_78 (n := 7) rfl ?_
    refine p_imul (z_dec zd_X7_draw 4 rfl) (n := 8) rfl ?_
    refine p_sipush (z_dec zd_X7_draw 5 rfl) (v := 12345) (by decide) (n := 11) rfl ?_
    refine p_iadd (z_dec zd_X7_draw 6 rfl) (n := 12) rfl ?_
    refine q_putI (z_dec zd_X7_draw 7 rfl) zp_X7_31 (fun q => by cases q) hy.1 (n := 15) rfl ?_
    refine p_aload_n (z_dec zd_X7_draw 8 rfl) rfl 0 rfl (n := 16) rfl ?_
    refine q_getI (z_dec zd_X7_draw 9 rfl) zf_X7_31 (by decide) hy.1 (v := (((I k 6) * 1103515245) + 12345)) (by simp [z_up]) (n := 19) rfl ?_
    refine p_bipush (z_dec zd_X7_draw 10 rfl) (v := 8) (by decide) (n := 21) rfl ?_
    refine p_iushr (z_dec zd_X7_draw 11 rfl) (n := 22) rfl ?_
    refine p_bipush (z_dec zd_X7_draw 12 rfl) (v := 12) (by decide) (n := 24) rfl ?_
    refine p_irem (z_dec zd_X7_draw 13 rfl) (by decide) (n := 25) rfl ?_
    exact p_iret (z_dec zd_X7_draw 14 rfl) rfl ⟨(by unfold f_X7_draw; rfl), rfl, (z_3 (by unfold m_X7_draw; rfl) rfl)⟩
  exact hentry
def m_X7_settle (I : Nat → Nat → Int32) (k : Nat) (winner : Nat) (loser : Nat) (umpire : Nat) : Nat → Nat → Int32 := (z_up (z_up (z_up I (k + 4) winner ((I (k + 4) winner) ||| 1)) (k + 4) loser (((z_up I (k + 4) winner ((I (k + 4) winner) ||| 1)) (k + 4) loser) ||| 3)) (k + 4) umpire (((z_up (z_up I (k + 4) winner ((I (k + 4) winner) ||| 1)) (k + 4) loser (((z_up I (k + 4) winner ((I (k + 4) winner) ||| 1)) (k + 4) loser) ||| 3)) (k + 4) umpire) ||| 1))
set_option maxHeartbeats 4000000 in
set_option maxRecDepth 100000 in
theorem c_X7_settle (d : Nat) (hd : 0 ≤ d) (b : Bool) (I : Nat → Nat → Int32) (L : Nat → Nat → Int64) (k : Nat) (hy : z_Yd b k) (winner : Nat) (hwinner : winner < 10) (loser : Nat) (hloser : loser < 10) (umpire : Nat) (humpire : umpire < 10) : z_CT zm_X7_settle d [.ref k, .int (nI winner), .int (nI loser), .int (nI umpire)] SH (I, L, z_R b) 0 0 (z_ret (none) ((m_X7_settle I k winner loser umpire), L, z_R b)) := by
  refine z_enter (by decide +kernel) (Nat.le_of_ble_eq_true rfl) ?_
  have hentry : PW zm_X7_settle d 0 [(0, .ref k), (1, .int (nI winner)), (2, .int (nI loser)), (3, .int (nI umpire))] [] SH (I, L, z_R b) 0 0 (z_ret (none) ((m_X7_settle I k winner loser umpire), L, z_R b)) := by
    refine p_aload_n (z_dec zd_X7_settle 0 rfl) rfl 0 rfl (n := 1) rfl ?_
    refine q_getR (z_dec zd_X7_settle 1 rfl) zf_X7_25 (i := (k + 4)) hy.2.2.2.2.2.1 hy.1 (n := 4) rfl ?_
    refine p_iload_n (z_dec zd_X7_settle 2 rfl) rfl 1 rfl (n := 5) rfl ?_
    refine p_dup2 (z_dec zd_X7_settle 3 rfl) rfl rfl (n := 6) rfl ?_
    refine q_iald (z_dec zd_X7_settle 4 rfl) hy.2.1.2.2.2.1 (by decide) (winner) rfl (by omega) (v := (I (k + 4) winner)) rfl (n := 7) rfl ?_
    refine p_iconst (z_dec zd_X7_settle 5 rfl) (v := 1) (by decide) (n := 8) rfl ?_
    refine p_ior (z_dec zd_X7_settle 6 rfl) (n := 9) rfl ?_
    refine q_iast (z_dec zd_X7_settle 7 rfl) hy.2.1.2.2.2.1 (by decide) (winner) rfl (by omega) (n := 10) rfl ?_
    refine p_aload_n (z_dec zd_X7_settle 8 rfl) rfl 0 rfl (n := 11) rfl ?_
    refine q_getR (z_dec zd_X7_settle 9 rfl) zf_X7_25 (i := (k + 4)) hy.2.2.2.2.2.1 hy.1 (n := 14) rfl ?_
    refine p_iload_n (z_dec zd_X7_settle 10 rfl) rfl 2 rfl (n := 15) rfl ?_
    refine p_dup2 (z_dec zd_X7_settle 11 rfl) rfl rfl (n := 16) rfl ?_
    refine q_iald (z_dec zd_X7_settle 12 rfl) hy.2.1.2.2.2.1 (by decide) (loser) rfl (by omega) (v := ((z_up I (k + 4) winner ((I (k + 4) winner) ||| 1)) (k + 4) loser)) rfl (n := 17) rfl ?_
    refine p_iconst (z_dec zd_X7_settle 13 rfl) (v := 3) (by decide) (n := 18) rfl ?_
    refine p_ior (z_dec zd_X7_settle 14 rfl) (n := 19) rfl ?_
    refine q_iast (z_dec zd_X7_settle 15 rfl) hy.2.1.2.2.2.1 (by decide) (loser) rfl (by omega) (n := 20) rfl ?_
    refine p_aload_n (z_dec zd_X7_settle 16 rfl) rfl 0 rfl (n := 21) rfl ?_
    refine q_getR (z_dec zd_X7_settle 17 rfl) zf_X7_25 (i := (k + 4)) hy.2.2.2.2.2.1 hy.1 (n := 24) rfl ?_
    refine p_iload_n (z_dec zd_X7_settle 18 rfl) rfl 3 rfl (n := 25) rfl ?_
    refine p_dup2 (z_dec zd_X7_settle 19 rfl) rfl rfl (n := 26) rfl ?_
    refine q_iald (z_dec zd_X7_settle 20 rfl) hy.2.1.2.2.2.1 (by decide) (umpire) rfl (by omega) (v := ((z_up (z_up I (k + 4) winner ((I (k + 4) winner) ||| 1)) (k + 4) loser (((z_up I (k + 4) winner ((I (k + 4) winner) ||| 1)) (k + 4) loser) ||| 3)) (k + 4) umpire)) rfl (n := 27) rfl ?_
    refine p_iconst (z_dec zd_X7_settle 21 rfl) (v := 1) (by decide) (n := 28) rfl ?_
    refine p_ior (z_dec zd_X7_settle 22 rfl) (n := 29) rfl ?_
    refine q_iast (z_dec zd_X7_settle 23 rfl) hy.2.1.2.2.2.1 (by decide) (umpire) rfl (by omega) (n := 30) rfl ?_
    exact p_vret (z_dec zd_X7_settle 24 rfl) rfl ⟨rfl, rfl, (z_3 (by unfold m_X7_settle; rfl) rfl)⟩
  exact hentry
