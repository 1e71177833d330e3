def f_X9_within (v : Int64) (lo : Int64) (hi : Int64) : Int32 := if (lg_cmp v lo) < 0 then 0 else if 0 < (lg_cmp v hi) then 0 else 1
set_option maxHeartbeats 4000000 in
set_option maxRecDepth 100000 in
theorem c_X9_within (d : Nat) (hd : 0 ≤ d) (b : Bool) (I : Nat → Nat → Int32) (L : Nat → Nat → Int64) (v : Int64) (lo : Int64) (hi : Int64) : z_CT zm_X9_within d [.long v, .long lo, .long hi] SH (I, L, z_R b) 0 0 (z_ret (some (.int (f_X9_within v lo hi))) (I, L, z_R b)) := by
  refine z_enter (by decide +kernel) (Nat.le_of_ble_eq_true rfl) ?_
  have hentry : PW zm_X9_within d 0 [(0, .long v), (2, .long lo), (4, .long hi)] [] SH (I, L, z_R b) 0 0 (z_ret (some (.int (f_X9_within v lo hi))) (I, L, z_R b)) := by
    refine p_lload_n (z_dec zd_X9_within 0 rfl) rfl 0 rfl (n := 1) rfl ?_
    refine p_lload_n (z_dec zd_X9_within 1 rfl) rfl 1 rfl (n := 2) rfl ?_
    refine p_lcmp (z_dec zd_X9_within 2 rfl) (n := 3) rfl ?_
    refine p_if_lt (z_dec zd_X9_within 3 rfl) (t := 17) (by decide) (n := 6) rfl (fun h3 => ?_) (fun h3 => ?_)
    · refine p_iconst (z_dec zd_X9_within 10 rfl) (v := 0) (by decide) (n := 18) rfl ?_
      exact p_zret (z_dec zd_X9_within 11 rfl) rfl (Or.inl rfl) ⟨(by unfold f_X9_within; rw [if_pos h3]), rfl, rfl⟩
    · refine p_lload_n (z_dec zd_X9_within 4 rfl) rfl 0 rfl (n := 7) rfl ?_
      refine p_lload (z_dec zd_X9_within 5 rfl) 2 rfl (n := 9) rfl ?_
      refine p_lcmp (z_dec zd_X9_within 6 rfl) (n := 10) rfl ?_
      refine p_if_gt (z_dec zd_X9_within 7 rfl) (t := 17) (by decide) (n := 13) rfl (fun h10 => ?_) (fun h10 => ?_)
      · refine p_iconst (z_dec zd_X9_within 10 rfl) (v := 0) (by decide) (n := 18) rfl ?_
        exact p_zret (z_dec zd_X9_within 11 rfl) rfl (Or.inl rfl) ⟨(by unfold f_X9_within; rw [if_neg h3, if_pos h10]), rfl, rfl⟩
      · refine p_iconst (z_dec zd_X9_within 8 rfl) (v := 1) (by decide) (n := 14) rfl ?_
        refine p_goto (z_dec zd_X9_within 9 rfl) (t := 18) (by decide) ?_
        exact p_zret (z_dec zd_X9_within 11 rfl) rfl (Or.inr rfl) ⟨(by unfold f_X9_within; rw [if_neg h3, if_neg h10]), rfl, rfl⟩
  exact hentry
theorem fb_X9_within (v : Int64) (lo : Int64) (hi : Int64) : f_X9_within v lo hi = 0 ∨ f_X9_within v lo hi = 1 := by
  unfold f_X9_within
  (repeat' split) <;> first | exact Or.inl rfl | exact Or.inr rfl
def f_X9_isIn (set : Int32) (k : Int32) : Int32 := if ((set >>> (k &&& 31)) &&& 1) = 1 then 1 else 0
set_option maxHeartbeats 4000000 in
set_option maxRecDepth 100000 in
theorem c_X9_isIn (d : Nat) (hd : 0 ≤ d) (b : Bool) (I : Nat → Nat → Int32) (L : Nat → Nat → Int64) (set : Int32) (k : Int32) : z_CT zm_X9_isIn d [.int set, .int k] SH (I, L, z_R b) 0 0 (z_ret (some (.int (f_X9_isIn set k))) (I, L, z_R b)) := by
  refine z_enter (by decide +kernel) (Nat.le_of_ble_eq_true rfl) ?_
  have hentry : PW zm_X9_isIn d 0 [(0, .int set), (1, .int k)] [] SH (I, L, z_R b) 0 0 (z_ret (some (.int (f_X9_isIn set k))) (I, L, z_R b)) := by
    refine p_iload_n (z_dec zd_X9_isIn 0 rfl) rfl 0 rfl (n := 1) rfl ?_
    refine p_iload_n (z_dec zd_X9_isIn 1 rfl) rfl 1 rfl (n := 2) rfl ?_
    refine p_ishr (z_dec zd_X9_isIn 2 rfl) (n := 3) rfl ?_
    refine p_iconst (z_dec zd_X9_isIn 3 rfl) (v := 1) (by decide) (n := 4) rfl ?_
    refine p_iand (z_dec zd_X9_isIn 4 rfl) (n := 5) rfl ?_
    refine p_iconst (z_dec zd_X9_isIn 5 rfl) (v := 1) (by decide) (n := 6) rfl ?_
    refine p_icmp_ne (z_dec zd_X9_isIn 6 rfl) (t := 13) (by decide) (n := 9) rfl (fun h6 => ?_) (fun h6 => ?_)
    · refine p_iconst (z_dec zd_X9_isIn 9 rfl) (v := 0) (by decide) (n := 14) rfl ?_
      exact p_zret (z_dec zd_X9_isIn 10 rfl) rfl (Or.inl rfl) ⟨(by unfold f_X9_isIn; rw [if_neg h6]), rfl, rfl⟩
    · refine p_iconst (z_dec zd_X9_isIn 7 rfl) (v := 1) (by decide) (n := 10) rfl ?_
      refine p_goto (z_dec zd_X9_isIn 8 rfl) (t := 14) (by decide) ?_
      exact p_zret (z_dec zd_X9_isIn 10 rfl) rfl (Or.inr rfl) ⟨(by unfold f_X9_isIn; rw [if_pos h6]), rfl, rfl⟩
  exact hentry
theorem fb_X9_isIn (set : Int32) (k : Int32) : f_X9_isIn set k = 0 ∨ f_X9_isIn set k = 1 := by
  unfold f_X9_isIn
  (repeat' split) <;> first | exact Or.inl rfl | exact Or.inr rfl
def gb_X9_bitsOf_4 (set : Int32) (i4 : Nat) (s : Int32) : Int32 := (s + ((set >>> ((nI i4) &&& 31)) &&& 1))
def g_X9_bitsOf_4 (set : Int32) : Nat → Int32
  | 0 => 0
  | i4 + 1 => gb_X9_bitsOf_4 set i4 (g_X9_bitsOf_4 set i4)
def f_X9_bitsOf (set : Int32) : Int32 := (g_X9_bitsOf_4 set 10)
set_option maxHeartbeats 4000000 in
set_option maxRecDepth 100000 in
theorem c_X9_bitsOf (d : Nat) (hd : 0 ≤ d) (b : Bool) (I : Nat → Nat → Int32) (L : Nat → Nat → Int64) (set : Int32) : z_CT zm_X9_bitsOf d [.int set] SH (I, L, z_R b) 0 0 (z_ret (some (.int (f_X9_bitsOf set))) (I, L, z_R b)) := by
  refine z_enter (by decide +kernel) (Nat.le_of_ble_eq_true rfl) ?_
  have hentry : PW zm_X9_bitsOf d 0 [(0, .int set)] [] SH (I, L, z_R b) 0 0 (z_ret (some (.int (f_X9_bitsOf set))) (I, L, z_R b)) := by
    refine p_iconst (z_dec zd_X9_bitsOf 0 rfl) (v := 0) (by decide) (n := 1) rfl ?_
    refine p_istore_n (z_dec zd_X9_bitsOf 1 rfl) rfl (lv2 := [(1, .int 0), (0, .int set)]) (by decide) rfl (n := 2) rfl ?_
    refine p_iconst (z_dec zd_X9_bitsOf 2 rfl) (v := 0) (by decide) (n := 3) rfl ?_
    refine p_istore_n (z_dec zd_X9_bitsOf 3 rfl) rfl (lv2 := [(2, .int 0), (1, .int 0), (0, .int set)]) (by decide) rfl (n := 4) rfl ?_
    have hL4 : ∀ i4, i4 ≤ 10 → PW zm_X9_bitsOf d 4 [(2, .int (nI i4)), (1, .int (g_X9_bitsOf_4 set i4)), (0, .int set)] [] SH (I, L, z_R b) 0 0 (z_ret (some (.int (f_X9_bitsOf set))) (I, L, z_R b)) := by
      refine z_down 10 (fun i4 hi4 ih4 => ?_)
      refine p_iload_n (z_dec zd_X9_bitsOf 4 rfl) rfl 0 rfl (n := 5) rfl ?_
      refine p_bipush (z_dec zd_X9_bitsOf 5 rfl) (v := 10) (by decide) (n := 7) rfl ?_
      refine p_icmp_ge (z_dec zd_X9_bitsOf 6 rfl) (t := 24) (by decide) (n := 10) rfl (fun h7 => ?_) (fun h7 => ?_)
      · have hx4 : i4 = 10 := by have := z_ge (a := 10) h7; omega
        rw [hx4]
        refine p_iload_n (z_dec zd_X9_bitsOf 17 rfl) rfl 1 rfl (n := 25) rfl ?_
        exact p_iret (z_dec zd_X9_bitsOf 18 rfl) rfl ⟨(by unfold f_X9_bitsOf; rfl), rfl, rfl⟩
      · have hx4 : i4 < 10 := by have := z_nge (a := 10) h7; omega
        refine p_iload_n (z_dec zd_X9_bitsOf 7 rfl) rfl 1 rfl (n := 11) rfl ?_
        refine p_iload_n (z_dec zd_X9_bitsOf 8 rfl) rfl 2 rfl (n := 12) rfl ?_
        refine p_iload_n (z_dec zd_X9_bitsOf 9 rfl) rfl 0 rfl (n := 13) rfl ?_
        refine p_ishr (z_dec zd_X9_bitsOf 10 rfl) (n := 14) rfl ?_
        refine p_iconst (z_dec zd_X9_bitsOf 11 rfl) (v := 1) (by decide) (n := 15) rfl ?_
        refine p_iand (z_dec zd_X9_bitsOf 12 rfl) (n := 16) rfl ?_
        refine p_iadd (z_dec zd_X9_bitsOf 13 rfl) (n := 17) rfl ?_
        refine p_istore_n (z_dec zd_X9_bitsOf 14 rfl) rfl (lv2 := [(1, .int ((g_X9_bitsOf_4 set i4) + ((set >>> ((nI i4) &&& 31)) &&& 1))), (2, .int (nI i4)), (0, .int set)]) (by decide) rfl (n := 18) rfl ?_
        refine p_iinc (z_dec zd_X9_bitsOf 15 rfl) 1 rfl (v := (nI (i4 + 1))) (nI_1 _) (lv2 := [(2, .int (nI (i4 + 1))), (1, .int ((g_X9_bitsOf_4 set i4) + ((set >>> ((nI i4) &&& 31)) &&& 1))), (0, .int set)]) (by decide) rfl (n := 21) rfl ?_
        refine p_goto (z_dec zd_X9_bitsOf 16 rfl) (t := 4) (by decide) ?_
        have eb : (g_X9_bitsOf_4 set) (i4 + 1) = ((g_X9_bitsOf_4 set i4) + ((set >>> ((nI i4) &&& 31)) &&& 1)) := by show gb_X9_bitsOf_4 set i4 ((g_X9_bitsOf_4 set) i4) = _; unfold gb_X9_bitsOf_4; rfl
        refine z_lv (lv' := [(2, .int (nI (i4 + 1))), (1, .int (g_X9_bitsOf_4 set (i4 + 1))), (0, .int set)]) (by rw [eb]) rfl rfl (ih4 (by omega))
    refine z_lv (lv' := [(2, .int (nI 0)), (1, .int (g_X9_bitsOf_4 set 0)), (0, .int set)]) rfl rfl rfl (hL4 0 (Nat.zero_le _))
  exact hentry
def f_X9_isOne (np : Nat) (p : Int64) : Int32 := (f_X9_within p 0 (((nI np) - 1).toInt64))
set_option maxHeartbeats 4000000 in
set_option maxRecDepth 100000 in
theorem c_X9_isOne (d : Nat) (hd : 1 ≤ d) (b : Bool) (I : Nat → Nat → Int32) (L : Nat → Nat → Int64) (np : Nat) (hnp : I 54 6 = nI np) (hn10 : np ≤ 10) (p : Int64) : z_CT zm_X9_isOne d [.ref 54, .long p] SH (I, L, z_R b) 0 0 (z_ret (some (.int (f_X9_isOne np p))) (I, L, z_R b)) := by
  refine z_enter (by decide +kernel) (Nat.le_of_ble_eq_true rfl) ?_
  have hentry : PW zm_X9_isOne d 0 [(0, .ref 54), (1, .long p)] [] SH (I, L, z_R b) 0 0 (z_ret (some (.int (f_X9_isOne np p))) (I, L, z_R b)) := by
    refine p_lload_n (z_dec zd_X9_isOne 0 rfl) rfl 1 rfl (n := 1) rfl ?_
    refine p_lconst (z_dec zd_X9_isOne 1 rfl) (v := 0) (by decide) (n := 2) rfl ?_
    refine p_aload_n (z_dec zd_X9_isOne 2 rfl) rfl 0 rfl (n := 3) rfl ?_
    refine q_getI (z_dec zd_X9_isOne 3 rfl) zf_X9_93 (by decide) rfl (v := (nI np)) hnp (n := 6) rfl ?_
    refine p_iconst (z_dec zd_X9_isOne 4 rfl) (v := 1) (by decide) (n := 7) rfl ?_
    refine p_isub (z_dec zd_X9_isOne 5 rfl) (n := 8) rfl ?_
    refine p_i2l (z_dec zd_X9_isOne 6 rfl) (n := 9) rfl ?_
    refine q_callS (As := [.long p, .long 0, .long (((nI np) - 1).toInt64)]) (rest := []) (z_dec zd_X9_isOne 7 rfl) zk_X9_96 zs_X9_within (c_X9_within (d - 1) (by omega) b I L p 0 (((nI np) - 1).toInt64)) rfl rfl (Nat.le_of_ble_eq_true rfl) (by omega) (n := 12) rfl ?_
    show PW zm_X9_isOne d 12 [(0, .ref 54), (1, .long p)] [.int (f_X9_within p 0 (((nI np) - 1).toInt64))] SH (I, L, z_R b) 0 0 _
    exact p_zret (z_dec zd_X9_isOne 8 rfl) rfl (by apply fb_X9_within) ⟨(by unfold f_X9_isOne; rfl), rfl, rfl⟩
  exact hentry
theorem fb_X9_isOne (np : Nat) (p : Int64) : f_X9_isOne np p = 0 ∨ f_X9_isOne np p = 1 := by
  unfold f_X9_isOne
  (repeat' split) <;> first | exact Or.inl rfl | exact Or.inr rfl | apply fb_X9_within
def f_X9_mayCome (sk : Int64) (gr : Int64) (lo : Int64) : Int32 := if (f_X9_within sk 0 9) = 0 then 0 else if (f_X9_within gr 0 99) = 0 then 0 else if (f_X9_within lo 0 255) = 0 then 0 else 1
set_option maxHeartbeats 4000000 in
set_option maxRecDepth 100000 in
theorem c_X9_mayCome (d : Nat) (hd : 1 ≤ d) (b : Bool) (I : Nat → Nat → Int32) (L : Nat → Nat → Int64) (sk : Int64) (gr : Int64) (lo : Int64) : z_CT zm_X9_mayCome d [.long sk, .long gr, .long lo] SH (I, L, z_R b) 0 0 (z_ret (some (.int (f_X9_mayCome sk gr lo))) (I, L, z_R b)) := by
  refine z_enter (by decide +kernel) (Nat.le_of_ble_eq_true rfl) ?_
  have hentry : PW zm_X9_mayCome d 0 [(0, .long sk), (2, .long gr), (4, .long lo)] [] SH (I, L, z_R b) 0 0 (z_ret (some (.int (f_X9_mayCome sk gr lo))) (I, L, z_R b)) := by
    refine p_lload_n (z_dec zd_X9_mayCome 0 rfl) rfl 0 rfl (n := 1) rfl ?_
    refine p_lconst (z_dec zd_X9_mayCome 1 rfl) (v := 0) (by decide) (n := 2) rfl ?_
    refine p_ldc2 (z_dec zd_X9_mayCome 2 rfl) zq_X9_100 (n := 5) rfl ?_
    refine q_callS (As := [.long sk, .long 0, .long 9]) (rest := []) (z_dec zd_X9_mayCome 3 rfl) zk_X9_96 zs_X9_within (c_X9_within (d - 1) (by omega) b I L sk 0 9) rfl rfl (Nat.le_of_ble_eq_true rfl) (by omega) (n := 8) rfl ?_
    show PW zm_X9_mayCome d 8 [(0, .long sk), (2, .long gr), (4, .long lo)] [.int (f_X9_within sk 0 9)] SH (I, L, z_R b) 0 0 _
    refine p_if_eq (z_dec zd_X9_mayCome 4 rfl) (t := 38) (by decide) (n := 11) rfl (fun h8 => ?_) (fun h8 => ?_)
    · refine p_iconst (z_dec zd_X9_mayCome 17 rfl) (v := 0) (by decide) (n := 39) rfl ?_
      exact p_zret (z_dec zd_X9_mayCome 18 rfl) rfl (Or.inl rfl) ⟨(by unfold f_X9_mayCome; rw [if_pos h8]), rfl, rfl⟩
    · refine p_lload_n (z_dec zd_X9_mayCome 5 rfl) rfl 1 rfl (n := 12) rfl ?_
      refine p_lconst (z_dec zd_X9_mayCome 6 rfl) (v := 0) (by decide) (n := 13) rfl ?_
      refine p_ldc2 (z_dec zd_X9_mayCome 7 rfl) zq_X9_102 (n := 16) rfl ?_
      refine q_callS (As := [.long gr, .long 0, .long 99]) (rest := []) (z_dec zd_X9_mayCome 8 rfl) zk_X9_96 zs_X9_within (c_X9_within (d - 1) (by omega) b I L gr 0 99) rfl rfl (Nat.le_of_ble_eq_true rfl) (by omega) (n := 19) rfl ?_
      show PW zm_X9_mayCome d 19 [(0, .long sk), (2, .long gr), (4, .long lo)] [.int (f_X9_within gr 0 99)] SH (I, L, z_R b) 0 0 _
      refine p_if_eq (z_dec zd_X9_mayCome 9 rfl) (t := 38) (by decide) (n := 22) rfl (fun h19 => ?_) (fun h19 => ?_)
      · refine p_iconst (z_dec zd_X9_mayCome 17 rfl) (v := 0) (by decide) (n := 39) rfl ?_
        exact p_zret (z_dec zd_X9_mayCome 18 rfl) rfl (Or.inl rfl) ⟨(by unfold f_X9_mayCome; rw [if_neg h8, if_pos h19]), rfl, rfl⟩
      · refine p_lload (z_dec zd_X9_mayCome 10 rfl) 2 rfl (n := 24) rfl ?_
        refine p_lconst (z_dec zd_X9_mayCome 11 rfl) (v := 0) (by decide) (n := 25) rfl ?_
        refine p_ldc2 (z_dec zd_X9_mayCome 12 rfl) zq_X9_104 (n := 28) rfl ?_
        refine q_callS (As := [.long lo, .long 0, .long 255]) (rest := []) (z_dec zd_X9_mayCome 13 rfl) zk_X9_96 zs_X9_within (c_X9_within (d - 1) (by omega) b I L lo 0 255) rfl rfl (Nat.le_of_ble_eq_true rfl) (by omega) (n := 31) rfl ?_
        show PW zm_X9_mayCome d 31 [(0, .long sk), (2, .long gr), (4, .long lo)] [.int (f_X9_within lo 0 255)] SH (I, L, z_R b) 0 0 _
        refine p_if_eq (z_dec zd_X9_mayCome 14 rfl) (t := 38) (by decide) (n := 34) rfl (fun h31 => ?_) (fun h31 => ?_)
        · refine p_iconst (z_dec zd_X9_mayCome 17 rfl) (v := 0) (by decide) (n := 39) rfl ?_
          exact p_zret (z_dec zd_X9_mayCome 18 rfl) rfl (Or.inl rfl) ⟨(by unfold f_X9_mayCome; rw [if_neg h8, if_neg h19, if_pos h31]), rfl, rfl⟩
        · refine p_iconst (z_dec zd_X9_mayCome 15 rfl) (v := 1) (by decide) (n := 35) rfl ?_
          refine p_goto (z_dec zd_X9_mayCome 16 rfl) (t := 39) (by decide) ?_
          exact p_zret (z_dec zd_X9_mayCome 18 rfl) rfl (Or.inr rfl) ⟨(by unfold f_X9_mayCome; rw [if_neg h8, if_neg h19, if_neg h31]), rfl, rfl⟩
  exact hentry
theorem fb_X9_mayCome (sk : Int64) (gr : Int64) (lo : Int64) : f_X9_mayCome sk gr lo = 0 ∨ f_X9_mayCome sk gr lo = 1 := by
  unfold f_X9_mayCome
  (repeat' split) <;> first | exact Or.inl rfl | exact Or.inr rfl
def f_X9_isShelf (sh : Int32) : Int32 := (f_X9_within (sh.toInt64) 0 5)
set_option maxHeartbeats 4000000 in
set_option maxRecDepth 100000 in
theorem c_X9_isShelf (d : Nat) (hd : 1 ≤ d) (b : Bool) (I : Nat → Nat → Int32) (L : Nat → Nat → Int64) (sh : Int32) : z_CT zm_X9_isShelf d [.int sh] SH (I, L, z_R b) 0 0 (z_ret (some (.int (f_X9_isShelf sh))) (I, L, z_R b)) := by
  refine z_enter (by decide +kernel) (Nat.le_of_ble_eq_true rfl) ?_
  have hentry : PW zm_X9_isShelf d 0 [(0, .int sh)] [] SH (I, L, z_R b) 0 0 (z_ret (some (.int (f_X9_isShelf sh))) (I, L, z_R b)) := by
    refine p_iload_n (z_dec zd_X9_isShelf 0 rfl) rfl 0 rfl (n := 1) rfl ?_
    refine p_i2l (z_dec zd_X9_isShelf 1 rfl) (n := 2) rfl ?_
    refine p_lconst (z_dec zd_X9_isShelf 2 rfl) (v := 0) (by decide) (n := 3) rfl ?_
    refine p_ldc2 (z_dec zd_X9_isShelf 3 rfl) zq_X9_127 (n := 6) rfl ?_
    refine q_callS (As := [.long (sh.toInt64), .long 0, .long 5]) (rest := []) (z_dec zd_X9_isShelf 4 rfl) zk_X9_96 zs_X9_within (c_X9_within (d - 1) (by omega) b I L (sh.toInt64) 0 5) rfl rfl (Nat.le_of_ble_eq_true rfl) (by omega) (n := 9) rfl ?_
    show PW zm_X9_isShelf d 9 [(0, .int sh)] [.int (f_X9_within (sh.toInt64) 0 5)] SH (I, L, z_R b) 0 0 _
    exact p_zret (z_dec zd_X9_isShelf 5 rfl) rfl (by apply fb_X9_within) ⟨(by unfold f_X9_isShelf; rfl), rfl, rfl⟩
  exact hentry
theorem fb_X9_isShelf (sh : Int32) : f_X9_isShelf sh = 0 ∨ f_X9_isShelf sh = 1 := by
  unfold f_X9_isShelf
  (repeat' split) <;> first | exact Or.inl rfl | exact Or.inr rfl | apply fb_X9_within
def f_X9_nameOf (c : Int32) : Int32 := if c = 97 then 0 else if c = 98 then 1 else if c = 99 then (-1) else if c = 100 then 5 else if c = 101 then (-1) else if c = 102 then (-1) else if c = 103 then 2 else if c = 104 then (-1) else if c = 105 then (-1) else if c = 106 then (-1) else if c = 107 then (-1) else if c = 108 then 3 else if c = 109 then 4 else (-1)
set_option maxHeartbeats 4000000 in
set_option maxRecDepth 100000 in
theorem c_X9_nameOf (d : Nat) (hd : 0 ≤ d) (b : Bool) (I : Nat → Nat → Int32) (L : Nat → Nat → Int64) (c : Int32) : z_CT zm_X9_nameOf d [.int c] SH (I, L, z_R b) 0 0 (z_ret (some (.int (f_X9_nameOf c))) (I, L, z_R b)) := by
  refine z_enter (by decide +kernel) (Nat.le_of_ble_eq_true rfl) ?_
  have hentry : PW zm_X9_nameOf d 0 [(0, .int c)] [] SH (I, L, z_R b) 0 0 (z_ret (some (.int (f_X9_nameOf c))) (I, L, z_R b)) := by
    refine p_iload_n (z_dec zd_X9_nameOf 0 rfl) rfl 0 rfl (n := 1) rfl ?_
    by_cases hs1_97 : c = 97
    · refine p_tableIn (z_dec zd_X9_nameOf 1 rfl) (off := 67) (t := 68) (by rw [hs1_97]; decide) (by rw [hs1_97]; decide) (by rw [hs1_97]; rfl) (by decide) ?_
      refine p_iconst (z_dec zd_X9_nameOf 2 rfl) (v := 0) (by decide) (n := 69) rfl ?_
      exact p_iret (z_dec zd_X9_nameOf 3 rfl) rfl ⟨(by unfold f_X9_nameOf; rw [if_pos hs1_97]), rfl, rfl⟩
    by_cases hs1_98 : c = 98
    · refine p_tableIn (z_dec zd_X9_nameOf 1 rfl) (off := 69) (t := 70) (by rw [hs1_98]; decide) (by rw [hs1_98]; decide) (by rw [hs1_98]; rfl) (by decide) ?_
      refine p_iconst (z_dec zd_X9_nameOf 4 rfl) (v := 1) (by decide) (n := 71) rfl ?_
      exact p_iret (z_dec zd_X9_nameOf 5 rfl) rfl ⟨(by unfold f_X9_nameOf; rw [if_neg hs1_97, if_pos hs1_98]), rfl, rfl⟩
    by_cases hs1_99 : c = 99
    · refine p_tableIn (z_dec zd_X9_nameOf 1 rfl) (off := 79) (t := 80) (by rw [hs1_99]; decide) (by rw [hs1_99]; decide) (by rw [hs1_99]; rfl) (by decide) ?_
      refine p_iconst (z_dec zd_X9_nameOf 14 rfl) (v := (-1)) (by decide) (n := 81) rfl ?_
      exact p_iret (z_dec zd_X9_nameOf 15 rfl) rfl ⟨(by unfold f_X9_nameOf; rw [if_neg hs1_97, if_neg hs1_98, if_pos hs1_99]), rfl, rfl⟩
    by_cases hs1_100 : c = 100
    · refine p_tableIn (z_dec zd_X9_nameOf 1 rfl) (off := 77) (t := 78) (by rw [hs1_100]; decide) (by rw [hs1_100]; decide) (by rw [hs1_100]; rfl) (by decide) ?_
      refine p_iconst (z_dec zd_X9_nameOf 12 rfl) (v := 5) (by decide) (n := 79) rfl ?_
      exact p_iret (z_dec zd_X9_nameOf 13 rfl) rfl ⟨(by unfold f_X9_nameOf; rw [if_neg hs1_97, if_neg hs1_98, if_neg hs1_99, if_pos hs1_100]), rfl, rfl⟩
    by_cases hs1_101 : c = 101
    · refine p_tableIn (z_dec zd_X9_nameOf 1 rfl) (off := 79) (t := 80) (by rw [hs1_101]; decide) (by rw [hs1_101]; decide) (by rw [hs1_101]; rfl) (by decide) ?_
      refine p_iconst (z_dec zd_X9_nameOf 14 rfl) (v := (-1)) (by decide) (n := 81) rfl ?_
      exact p_iret (z_dec zd_X9_nameOf 15 rfl) rfl ⟨(by unfold f_X9_nameOf; rw [if_neg hs1_97, if_neg hs1_98, if_neg hs1_99, if_neg hs1_100, if_pos hs1_101]), rfl, rfl⟩
    by_cases hs1_102 : c = 102
    · refine p_tableIn (z_dec zd_X9_nameOf 1 rfl) (off := 79) (t := 80) (by rw [hs1_102]; decide) (by rw [hs1_102]; decide) (by rw [hs1_102]; rfl) (by decide) ?_
      refine p_iconst (z_dec zd_X9_nameOf 14 rfl) (v := (-1)) (by decide) (n := 81) rfl ?_
      exact p_iret (z_dec zd_X9_nameOf 15 rfl) rfl ⟨(by unfold f_X9_nameOf; rw [if_neg hs1_97, if_neg hs1_98, if_neg hs1_99, if_neg hs1_100, if_neg hs1_101, if_pos hs1_102]), rfl, rfl⟩
    by_cases hs1_103 : c = 103
    · refine p_tableIn (z_dec zd_X9_nameOf 1 rfl) (off := 71) (t := 72) (by rw [hs1_103]; decide) (by rw [hs1_103]; decide) (by rw [hs1_103]; rfl) (by decide) ?_
      refine p_iconst (z_dec zd_X9_nameOf 6 rfl) (v := 2) (by decide) (n := 73) rfl ?_
      exact p_iret (z_dec zd_X9_nameOf 7 rfl) rfl ⟨(by unfold f_X9_nameOf; rw [if_neg hs1_97, if_neg hs1_98, if_neg hs1_99, if_neg hs1_100, if_neg hs1_101, if_neg hs1_102, if_pos hs1_103]), rfl, rfl⟩
    by_cases hs1_104 : c = 104
    · refine p_tableIn (z_dec zd_X9_nameOf 1 rfl) (off := 79) (t := 80) (by rw [hs1_104]; decide) (by rw [hs1_104]; decide) (by rw [hs1_104]; rfl) (by decide) ?_
      refine p_iconst (z_dec zd_X9_nameOf 14 rfl) (v := (-1)) (by decide) (n := 81) rfl ?_
      exact p_iret (z_dec zd_X9_nameOf 15 rfl) rfl ⟨(by unfold f_X9_nameOf; rw [if_neg hs1_97, if_neg hs1_98, if_neg hs1_99, if_neg hs1_100, if_neg hs1_101, if_neg hs1_102, if_neg hs1_103, if_pos hs1_104]), rfl, rfl⟩
    by_cases hs1_105 : c = 105
    · refine p_tableIn (z_dec zd_X9_nameOf 1 rfl) (off := 79) (t := 80) (by rw [hs1_105]; decide) (by rw [hs1_105]; decide) (by rw [hs1_105]; rfl) (by decide) ?_
      refine p_iconst (z_dec zd_X9_nameOf 14 rfl) (v := (-1)) (by decide) (n := 81) rfl ?_
      exact p_iret (z_dec zd_X9_nameOf 15 rfl) rfl ⟨(by unfold f_X9_nameOf; rw [if_neg hs1_97, if_neg hs1_98, if_neg hs1_99, if_neg hs1_100, if_neg hs1_101, if_neg hs1_102, if_neg hs1_103, if_neg hs1_104, if_pos hs1_105]), rfl, rfl⟩
    by_cases hs1_106 : c = 106
    · refine p_tableIn (z_dec zd_X9_nameOf 1 rfl) (off := 79) (t := 80) (by rw [hs1_106]; decide) (by rw [hs1_106]; decide) (by rw [hs1_106]; rfl) (by decide) ?_
      refine p_iconst (z_dec zd_X9_nameOf 14 rfl) (v := (-1)) (by decide) (n := 81) rfl ?_
      exact p_iret (z_dec zd_X9_nameOf 15 rfl) rfl ⟨(by unfold f_X9_nameOf; rw [if_neg hs1_97, if_neg hs1_98, if_neg hs1_99, if_neg hs1_100, if_neg hs1_101, if_neg hs1_102, if_neg hs1_103, if_neg hs1_104, if_neg hs1_105, if_pos hs1_106]), rfl, rfl⟩
    by_cases hs1_107 : c = 107
    · refine p_tableIn (z_dec zd_X9_nameOf 1 rfl) (off := 79) (t := 80) (by rw [hs1_107]; decide) (by rw [hs1_107]; decide) (by rw [hs1_107]; rfl) (by decide) ?_
      refine p_iconst (z_dec zd_X9_nameOf 14 rfl) (v := (-1)) (by decide) (n := 81) rfl ?_
      exact p_iret (z_dec zd_X9_nameOf 15 rfl) rfl ⟨(by unfold f_X9_nameOf; rw [if_neg hs1_97, if_neg hs1_98, if_neg hs1_99, if_neg hs1_100, if_neg hs1_101, if_neg hs1_102, if_neg hs1_103, if_neg hs1_104, if_neg hs1_105, if_neg hs1_106, if_pos hs1_107]), rfl, rfl⟩
    by_cases hs1_108 : c = 108
    · refine p_tableIn (z_dec zd_X9_nameOf 1 rfl) (off := 73) (t := 74) (by rw [hs1_108]; decide) (by rw [hs1_108]; decide) (by rw [hs1_108]; rfl) (by decide) ?_
      refine p_iconst (z_dec zd_X9_nameOf 8 rfl) (v := 3) (by decide) (n := 75) rfl ?_
      exact p_iret (z_dec zd_X9_nameOf 9 rfl) rfl ⟨(by unfold f_X9_nameOf; rw [if_neg hs1_97, if_neg hs1_98, if_neg hs1_99, if_neg hs1_100, if_neg hs1_101, if_neg hs1_102, if_neg hs1_103, if_neg hs1_104, if_neg hs1_105, if_neg hs1_106, if_neg hs1_107, if_pos hs1_108]), rfl, rfl⟩
    by_cases hs1_109 : c = 109
    · refine p_tableIn (z_dec zd_X9_nameOf 1 rfl) (off := 75) (t := 76) (by rw [hs1_109]; decide) (by rw [hs1_109]; decide) (by rw [hs1_109]; rfl) (by decide) ?_
      refine p_iconst (z_dec zd_X9_nameOf 10 rfl) (v := 4) (by decide) (n := 77) rfl ?_
      exact p_iret (z_dec zd_X9_nameOf 11 rfl) rfl ⟨(by unfold f_X9_nameOf; rw [if_neg hs1_97, if_neg hs1_98, if_neg hs1_99, if_neg hs1_100, if_neg hs1_101, if_neg hs1_102, if_neg hs1_103, if_neg hs1_104, if_neg hs1_105, if_neg hs1_106, if_neg hs1_107, if_neg hs1_108, if_pos hs1_109]), rfl, rfl⟩
    have hs1_97n : ¬ c.toInt = 97 := lv_neT hs1_97 rfl
    have hs1_98n : ¬ c.toInt = 98 := lv_neT hs1_98 rfl
    have hs1_99n : ¬ c.toInt = 99 := lv_neT hs1_99 rfl
    have hs1_100n : ¬ c.toInt = 100 := lv_neT hs1_100 rfl
    have hs1_101n : ¬ c.toInt = 101 := lv_neT hs1_101 rfl
    have hs1_102n : ¬ c.toInt = 102 := lv_neT hs1_102 rfl
    have hs1_103n : ¬ c.toInt = 103 := lv_neT hs1_103 rfl
    have hs1_104n : ¬ c.toInt = 104 := lv_neT hs1_104 rfl
    have hs1_105n : ¬ c.toInt = 105 := lv_neT hs1_105 rfl
    have hs1_106n : ¬ c.toInt = 106 := lv_neT hs1_106 rfl
    have hs1_107n : ¬ c.toInt = 107 := lv_neT hs1_107 rfl
    have hs1_108n : ¬ c.toInt = 108 := lv_neT hs1_108 rfl
    have hs1_109n : ¬ c.toInt = 109 := lv_neT hs1_109 rfl
    refine p_tableOut (z_dec zd_X9_nameOf 1 rfl) (t := 80) (by omega) (by decide) ?_
    refine p_iconst (z_dec zd_X9_nameOf 14 rfl) (v := (-1)) (by decide) (n := 81) rfl ?_
    exact p_iret (z_dec zd_X9_nameOf 15 rfl) rfl ⟨(by unfold f_X9_nameOf; rw [if_neg hs1_97, if_neg hs1_98, if_neg hs1_99, if_neg hs1_100, if_neg hs1_101, if_neg hs1_102, if_neg hs1_103, if_neg hs1_104, if_neg hs1_105, if_neg hs1_106, if_neg hs1_107, if_neg hs1_108, if_neg hs1_109]), rfl, rfl⟩
  exact hentry
def f_X9_mayBecome (what : Int32) (v : Int32) : Int32 := if what = 0 then (f_X9_within (v.toInt64) 0 9) else if what = 1 then (f_X9_within (v.toInt64) 0 99) else if what = 2 then (f_X9_within (v.toInt64) 0 255) else if what = 3 then (f_X9_within (v.toInt64) 0 3) else if what = 4 then (f_X9_within (v.toInt64) 0 99) else if what = 5 then 1 else (f_X9_within (v.toInt64) 0 99)
set_option maxHeartbeats 4000000 in
set_option maxRecDepth 100000 in
theorem c_X9_mayBecome (d : Nat) (hd : 1 ≤ d) (b : Bool) (I : Nat → Nat → Int32) (L : Nat → Nat → Int64) (what : Int32) (v : Int32) : z_CT zm_X9_mayBecome d [.int what, .int v] SH (I, L, z_R b) 0 0 (z_ret (some (.int (f_X9_mayBecome what v))) (I, L, z_R b)) := by
  refine z_enter (by decide +kernel) (Nat.le_of_ble_eq_true rfl) ?_
  have hentry : PW zm_X9_mayBecome d 0 [(0, .int what), (1, .int v)] [] SH (I, L, z_R b) 0 0 (z_ret (some (.int (f_X9_mayBecome what v))) (I, L, z_R b)) := by
    refine p_iload_n (z_dec zd_X9_mayBecome 0 rfl) rfl 0 rfl (n := 1) rfl ?_
    by_cases hs1_0 : what = 0
    · refine p_tableIn (z_dec zd_X9_mayBecome 1 rfl) (off := 39) (t := 40) (by rw [hs1_0]; decide) (by rw [hs1_0]; decide) (by rw [hs1_0]; rfl) (by decide) ?_
      refine p_iload_n (z_dec zd_X9_mayBecome 2 rfl) rfl 1 rfl (n := 41) rfl ?_
      refine p_i2l (z_dec zd_X9_mayBecome 3 rfl) (n := 42) rfl ?_
      refine p_lconst (z_dec zd_X9_mayBecome 4 rfl) (v := 0) (by decide) (n := 43) rfl ?_
      refine p_ldc2 (z_dec zd_X9_mayBecome 5 rfl) zq_X9_100 (n := 46) rfl ?_
      refine q_callS (As := [.long (v.toInt64), .long 0, .long 9]) (rest := []) (z_dec zd_X9_mayBecome 6 rfl) zk_X9_96 zs_X9_within (c_X9_within (d - 1) (by omega) b I L (v.toInt64) 0 9) rfl rfl (Nat.le_of_ble_eq_true rfl) (by omega) (n := 49) rfl ?_
      show PW zm_X9_mayBecome d 49 [(0, .int what), (1, .int v)] [.int (f_X9_within (v.toInt64) 0 9)] SH (I, L, z_R b) 0 0 _
      exact p_zret (z_dec zd_X9_mayBecome 7 rfl) rfl (by apply fb_X9_within) ⟨(by unfold f_X9_mayBecome; rw [if_pos hs1_0]), rfl, rfl⟩
    by_cases hs1_1 : what = 1
    · refine p_tableIn (z_dec zd_X9_mayBecome 1 rfl) (off := 71) (t := 72) (by rw [hs1_1]; decide) (by rw [hs1_1]; decide) (by rw [hs1_1]; rfl) (by decide) ?_
      refine p_iload_n (z_dec zd_X9_mayBecome 22 rfl) rfl 1 rfl (n := 73) rfl ?_
      refine p_i2l (z_dec zd_X9_mayBecome 23 rfl) (n := 74) rfl ?_
      refine p_lconst (z_dec zd_X9_mayBecome 24 rfl) (v := 0) (by decide) (n := 75) rfl ?_
      refine p_ldc2 (z_dec zd_X9_mayBecome 25 rfl) zq_X9_102 (n := 78) rfl ?_
      refine q_callS (As := [.long (v.toInt64), .long 0, .long 99]) (rest := []) (z_dec zd_X9_mayBecome 26 rfl) zk_X9_96 zs_X9_within (c_X9_within (d - 1) (by omega) b I L (v.toInt64) 0 99) rfl rfl (Nat.le_of_ble_eq_true rfl) (by omega) (n := 81) rfl ?_
      show PW zm_X9_mayBecome d 81 [(0, .int what), (1, .int v)] [.int (f_X9_within (v.toInt64) 0 99)] SH (I, L, z_R b) 0 0 _
      exact p_zret (z_dec zd_X9_mayBecome 27 rfl) rfl (by apply fb_X9_within) ⟨(by unfold f_X9_mayBecome; rw [if_neg hs1_0, if_pos hs1_1]), rfl, rfl⟩
    by_cases hs1_2 : what = 2
    · refine p_tableIn (z_dec zd_X9_mayBecome 1 rfl) (off := 49) (t := 50) (by rw [hs1_2]; decide) (by rw [hs1_2]; decide) (by rw [hs1_2]; rfl) (by decide) ?_
      refine p_iload_n (z_dec zd_X9_mayBecome 8 rfl) rfl 1 rfl (n := 51) rfl ?_
      refine p_i2l (z_dec zd_X9_mayBecome 9 rfl) (n := 52) rfl ?_
      refine p_lconst (z_dec zd_X9_mayBecome 10 rfl) (v := 0) (by decide) (n := 53) rfl ?_
      refine p_ldc2 (z_dec zd_X9_mayBecome 11 rfl) zq_X9_104 (n := 56) rfl ?_
      refine q_callS (As := [.long (v.toInt64), .long 0, .long 255]) (rest := []) (z_dec zd_X9_mayBecome 12 rfl) zk_X9_96 zs_X9_within (c_X9_within (d - 1) (by omega) b I L (v.toInt64) 0 255) rfl rfl (Nat.le_of_ble_eq_true rfl) (by omega) (n := 59) rfl ?_
      show PW zm_X9_mayBecome d 59 [(0, .int what), (1, .int v)] [.int (f_X9_within (v.toInt64) 0 255)] SH (I, L, z_R b) 0 0 _
      exact p_zret (z_dec zd_X9_mayBecome 13 rfl) rfl (by apply fb_X9_within) ⟨(by unfold f_X9_mayBecome; rw [if_neg hs1_0, if_neg hs1_1, if_pos hs1_2]), rfl, rfl⟩
    by_cases hs1_3 : what = 3
    · refine p_tableIn (z_dec zd_X9_mayBecome 1 rfl) (off := 59) (t := 60) (by rw [hs1_3]; decide) (by rw [hs1_3]; decide) (by rw [hs1_3]; rfl) (by decide) ?_
      refine p_iload_n (z_dec zd_X9_mayBecome 14 rfl) rfl 1 rfl (n := 61) rfl ?_
      refine p_i2l (z_dec zd_X9_mayBecome 15 rfl) (n := 62) rfl ?_
      refine p_lconst (z_dec zd_X9_mayBecome 16 rfl) (v := 0) (by decide) (n := 63) rfl ?_
      refine p_ldc2 (z_dec zd_X9_mayBecome 17 rfl) zq_X9_119 (n := 66) rfl ?_
      refine q_callS (As := [.long (v.toInt64), .long 0, .long 3]) (rest := []) (z_dec zd_X9_mayBecome 18 rfl) zk_X9_96 zs_X9_within (c_X9_within (d - 1) (by omega) b I L (v.toInt64) 0 3) rfl rfl (Nat.le_of_ble_eq_true rfl) (by omega) (n := 69) rfl ?_
      show PW zm_X9_mayBecome d 69 [(0, .int what), (1, .int v)] [.int (f_X9_within (v.toInt64) 0 3)] SH (I, L, z_R b) 0 0 _
      exact p_zret (z_dec zd_X9_mayBecome 19 rfl) rfl (by apply fb_X9_within) ⟨(by unfold f_X9_mayBecome; rw [if_neg hs1_0, if_neg hs1_1, if_neg hs1_2, if_pos hs1_3]), rfl, rfl⟩
    by_cases hs1_4 : what = 4
    · refine p_tableIn (z_dec zd_X9_mayBecome 1 rfl) (off := 71) (t := 72) (by rw [hs1_4]; decide) (by rw [hs1_4]; decide) (by rw [hs1_4]; rfl) (by decide) ?_
      refine p_iload_n (z_dec zd_X9_mayBecome 22 rfl) rfl 1 rfl (n := 73) rfl ?_
      refine p_i2l (z_dec zd_X9_mayBecome 23 rfl) (n := 74) rfl ?_
      refine p_lconst (z_dec zd_X9_mayBecome 24 rfl) (v := 0) (by decide) (n := 75) rfl ?_
      refine p_ldc2 (z_dec zd_X9_mayBecome 25 rfl) zq_X9_102 (n := 78) rfl ?_
      refine q_callS (As := [.long (v.toInt64), .long 0, .long 99]) (rest := []) (z_dec zd_X9_mayBecome 26 rfl) zk_X9_96 zs_X9_within (c_X9_within (d - 1) (by omega) b I L (v.toInt64) 0 99) rfl rfl (Nat.le_of_ble_eq_true rfl) (by omega) (n := 81) rfl ?_
      show PW zm_X9_mayBecome d 81 [(0, .int what), (1, .int v)] [.int (f_X9_within (v.toInt64) 0 99)] SH (I, L, z_R b) 0 0 _
      exact p_zret (z_dec zd_X9_mayBecome 27 rfl) rfl (by apply fb_X9_within) ⟨(by unfold f_X9_mayBecome; rw [if_neg hs1_0, if_neg hs1_1, if_neg hs1_2, if_neg hs1_3, if_pos hs1_4]), rfl, rfl⟩
    by_cases hs1_5 : what = 5
    · refine p_tableIn (z_dec zd_X9_mayBecome 1 rfl) (off := 69) (t := 70) (by rw [hs1_5]; decide) (by rw [hs1_5]; decide) (by rw [hs1_5]; rfl) (by decide) ?_
      refine p_iconst (z_dec zd_X9_mayBecome 20 rfl) (v := 1) (by decide) (n := 71) rfl ?_
      exact p_zret (z_dec zd_X9_mayBecome 21 rfl) rfl (Or.inr rfl) ⟨(by unfold f_X9_mayBecome; rw [if_neg hs1_0, if_neg hs1_1, if_neg hs1_2, if_neg hs1_3, if_neg hs1_4, if_pos hs1_5]), rfl, rfl⟩
    have hs1_0n : ¬ what.toInt = 0 := lv_neT hs1_0 rfl
    have hs1_1n : ¬ what.toInt = 1 := lv_neT hs1_1 rfl
    have hs1_2n : ¬ what.toInt = 2 := lv_neT hs1_2 rfl
    have hs1_3n : ¬ what.toInt = 3 := lv_neT hs1_3 rfl
    have hs1_4n : ¬ what.toInt = 4 := lv_neT hs1_4 rfl
    have hs1_5n : ¬ what.toInt = 5 := lv_neT hs1_5 rfl
    refine p_tableOut (z_dec zd_X9_mayBecome 1 rfl) (t := 72) (by omega) (by decide) ?_
    refine p_iload_n (z_dec zd_X9_mayBecome 22 rfl) rfl 1 rfl (n := 73) rfl ?_
    refine p_i2l (z_dec zd_X9_mayBecome 23 rfl) (n := 74) rfl ?_
    refine p_lconst (z_dec zd_X9_mayBecome 24 rfl) (v := 0) (by decide) (n := 75) rfl ?_
    refine p_ldc2 (z_dec zd_X9_mayBecome 25 rfl) zq_X9_102 (n := 78) rfl ?_
    refine q_callS (As := [.long (v.toInt64), .long 0, .long 99]) (rest := []) (z_dec zd_X9_mayBecome 26 rfl) zk_X9_96 zs_X9_within (c_X9_within (d - 1) (by omega) b I L (v.toInt64) 0 99) rfl rfl (Nat.le_of_ble_eq_true rfl) (by omega) (n := 81) rfl ?_
    show PW zm_X9_mayBecome d 81 [(0, .int what), (1, .int v)] [.int (f_X9_within (v.toInt64) 0 99)] SH (I, L, z_R b) 0 0 _
    exact p_zret (z_dec zd_X9_mayBecome 27 rfl) rfl (by apply fb_X9_within) ⟨(by unfold f_X9_mayBecome; rw [if_neg hs1_0, if_neg hs1_1, if_neg hs1_2, if_neg hs1_3, if_neg hs1_4, if_neg hs1_5]), rfl, rfl⟩
  exact hentry
theorem fb_X9_mayBecome (what : Int32) (v : Int32) : f_X9_mayBecome what v = 0 ∨ f_X9_mayBecome what v = 1 := by
  unfold f_X9_mayBecome
  (repeat' split) <;> first | exact Or.inl rfl | exact Or.inr rfl | apply fb_X9_within
def f_X9_soured (g : Int32) (how : Int32) : Int32 := if how = 0 then if 20 ≤ g then (g - 20) else 0 else if how = 1 then if g ≤ 79 then (g + 20) else 99 else g
set_option maxHeartbeats 4000000 in
set_option maxRecDepth 100000 in
theorem c_X9_soured (d : Nat) (hd : 0 ≤ d) (b : Bool) (I : Nat → Nat → Int32) (L : Nat → Nat → Int64) (g : Int32) (how : Int32) : z_CT zm_X9_soured d [.int g, .int how] SH (I, L, z_R b) 0 0 (z_ret (some (.int (f_X9_soured g how))) (I, L, z_R b)) := by
  refine z_enter (by decide +kernel) (Nat.le_of_ble_eq_true rfl) ?_
  have hentry : PW zm_X9_soured d 0 [(0, .int g), (1, .int how)] [] SH (I, L, z_R b) 0 0 (z_ret (some (.int (f_X9_soured g how))) (I, L, z_R b)) := by
    refine p_iload_n (z_dec zd_X9_soured 0 rfl) rfl 1 rfl (n := 1) rfl ?_
    refine p_if_ne (z_dec zd_X9_soured 1 rfl) (t := 21) (by decide) (n := 4) rfl (fun h1 => ?_) (fun h1 => ?_)
    · refine p_iload_n (z_dec zd_X9_soured 11 rfl) rfl 1 rfl (n := 22) rfl ?_
      refine p_iconst (z_dec zd_X9_soured 12 rfl) (v := 1) (by decide) (n := 23) rfl ?_
      refine p_icmp_ne (z_dec zd_X9_soured 13 rfl) (t := 44) (by decide) (n := 26) rfl (fun h23 => ?_) (fun h23 => ?_)
      · refine p_iload_n (z_dec zd_X9_soured 23 rfl) rfl 0 rfl (n := 45) rfl ?_
        exact p_iret (z_dec zd_X9_soured 24 rfl) rfl ⟨(by unfold f_X9_soured; rw [if_neg h1, if_neg h23]), rfl, rfl⟩
      · refine p_iload_n (z_dec zd_X9_soured 14 rfl) rfl 0 rfl (n := 27) rfl ?_
        refine p_bipush (z_dec zd_X9_soured 15 rfl) (v := 79) (by decide) (n := 29) rfl ?_
        refine p_icmp_le (z_dec zd_X9_soured 16 rfl) (t := 37) (by decide) (n := 32) rfl (fun h29 => ?_) (fun h29 => ?_)
        · refine p_iload_n (z_dec zd_X9_soured 19 rfl) rfl 0 rfl (n := 38) rfl ?_
          refine p_bipush (z_dec zd_X9_soured 20 rfl) (v := 20) (by decide) (n := 40) rfl ?_
          refine p_iadd (z_dec zd_X9_soured 21 rfl) (n := 41) rfl ?_
          refine p_goto (z_dec zd_X9_soured 22 rfl) (t := 45) (by decide) ?_
          exact p_iret (z_dec zd_X9_soured 24 rfl) rfl ⟨(by unfold f_X9_soured; rw [if_neg h1, if_pos h23, if_pos h29]), rfl, rfl⟩
        · refine p_bipush (z_dec zd_X9_soured 17 rfl) (v := 99) (by decide) (n := 34) rfl ?_
          refine p_goto (z_dec zd_X9_soured 18 rfl) (t := 45) (by decide) ?_
          exact p_iret (z_dec zd_X9_soured 24 rfl) rfl ⟨(by unfold f_X9_soured; rw [if_neg h1, if_pos h23, if_neg h29]), rfl, rfl⟩
    · refine p_iload_n (z_dec zd_X9_soured 2 rfl) rfl 0 rfl (n := 5) rfl ?_
      refine p_bipush (z_dec zd_X9_soured 3 rfl) (v := 20) (by decide) (n := 7) rfl ?_
      refine p_icmp_ge (z_dec zd_X9_soured 4 rfl) (t := 14) (by decide) (n := 10) rfl (fun h7 => ?_) (fun h7 => ?_)
      · refine p_iload_n (z_dec zd_X9_soured 7 rfl) rfl 0 rfl (n := 15) rfl ?_
        refine p_bipush (z_dec zd_X9_soured 8 rfl) (v := 20) (by decide) (n := 17) rfl ?_
        refine p_isub (z_dec zd_X9_soured 9 rfl) (n := 18) rfl ?_
        refine p_goto (z_dec zd_X9_soured 10 rfl) (t := 45) (by decide) ?_
        exact p_iret (z_dec zd_X9_soured 24 rfl) rfl ⟨(by unfold f_X9_soured; rw [if_pos h1, if_pos h7]), rfl, rfl⟩
      · refine p_iconst (z_dec zd_X9_soured 5 rfl) (v := 0) (by decide) (n := 11) rfl ?_
        refine p_goto (z_dec zd_X9_soured 6 rfl) (t := 45) (by decide) ?_
        exact p_iret (z_dec zd_X9_soured 24 rfl) rfl ⟨(by unfold f_X9_soured; rw [if_pos h1, if_neg h7]), rfl, rfl⟩
  exact hentry
def f_X9_above (k : Int32) : Int32 := if k = 3 then 2 else if k = 4 then 1 else if k = 5 then 3 else if k = 7 then 4 else 0
set_option maxHeartbeats 4000000 in
set_option maxRecDepth 100000 in
theorem c_X9_above (d : Nat) (hd : 0 ≤ d) (b : Bool) (I : Nat → Nat → Int32) (L : Nat → Nat → Int64) (k : Int32) : z_CT zm_X9_above d [.int k] SH (I, L, z_R b) 0 0 (z_ret (some (.int (f_X9_above k))) (I, L, z_R b)) := by
  refine z_enter (by decide +kernel) (Nat.le_of_ble_eq_true rfl) ?_
  have hentry : PW zm_X9_above d 0 [(0, .int k)] [] SH (I, L, z_R b) 0 0 (z_ret (some (.int (f_X9_above k))) (I, L, z_R b)) := by
    refine p_iload_n (z_dec zd_X9_above 0 rfl) rfl 0 rfl (n := 1) rfl ?_
    refine p_iconst (z_dec zd_X9_above 1 rfl) (v := 3) (by decide) (n := 2) rfl ?_
    refine p_icmp_ne (z_dec zd_X9_above 2 rfl) (t := 9) (by decide) (n := 5) rfl (fun h2 => ?_) (fun h2 => ?_)
    · refine p_iload_n (z_dec zd_X9_above 5 rfl) rfl 0 rfl (n := 10) rfl ?_
      refine p_iconst (z_dec zd_X9_above 6 rfl) (v := 4) (by decide) (n := 11) rfl ?_
      refine p_icmp_ne (z_dec zd_X9_above 7 rfl) (t := 18) (by decide) (n := 14) rfl (fun h11 => ?_) (fun h11 => ?_)
      · refine p_iload_n (z_dec zd_X9_above 10 rfl) rfl 0 rfl (n := 19) rfl ?_
        refine p_iconst (z_dec zd_X9_above 11 rfl) (v := 5) (by decide) (n := 20) rfl ?_
        refine p_icmp_ne (z_dec zd_X9_above 12 rfl) (t := 27) (by decide) (n := 23) rfl (fun h20 => ?_) (fun h20 => ?_)
        · refine p_iload_n (z_dec zd_X9_above 15 rfl) rfl 0 rfl (n := 28) rfl ?_
          refine p_bipush (z_dec zd_X9_above 16 rfl) (v := 7) (by decide) (n := 30) rfl ?_
          refine p_icmp_ne (z_dec zd_X9_above 17 rfl) (t := 37) (by decide) (n := 33) rfl (fun h30 => ?_) (fun h30 => ?_)
          · refine p_iconst (z_dec zd_X9_above 20 rfl) (v := 0) (by decide) (n := 38) rfl ?_
            exact p_iret (z_dec zd_X9_above 21 rfl) rfl ⟨(by unfold f_X9_above; rw [if_neg h2, if_neg h11, if_neg h20, if_neg h30]), rfl, rfl⟩
          · refine p_iconst (z_dec zd_X9_above 18 rfl) (v := 4) (by decide) (n := 34) rfl ?_
            refine p_goto (z_dec zd_X9_above 19 rfl) (t := 38) (by decide) ?_
            exact p_iret (z_dec zd_X9_above 21 rfl) rfl ⟨(by unfold f_X9_above; rw [if_neg h2, if_neg h11, if_neg h20, if_pos h30]), rfl, rfl⟩
        · refine p_iconst (z_dec zd_X9_above 13 rfl) (v := 3) (by decide) (n := 24) rfl ?_
          refine p_goto (z_dec zd_X9_above 14 rfl) (t := 38) (by decide) ?_
          exact p_iret (z_dec zd_X9_above 21 rfl) rfl ⟨(by unfold f_X9_above; rw [if_neg h2, if_neg h11, if_pos h20]), rfl, rfl⟩
      · refine p_iconst (z_dec zd_X9_above 8 rfl) (v := 1) (by decide) (n := 15) rfl ?_
        refine p_goto (z_dec zd_X9_above 9 rfl) (t := 38) (by decide) ?_
        exact p_iret (z_dec zd_X9_above 21 rfl) rfl ⟨(by unfold f_X9_above; rw [if_neg h2, if_pos h11]), rfl, rfl⟩
    · refine p_iconst (z_dec zd_X9_above 3 rfl) (v := 2) (by decide) (n := 6) rfl ?_
      refine p_goto (z_dec zd_X9_above 4 rfl) (t := 38) (by decide) ?_
      exact p_iret (z_dec zd_X9_above 21 rfl) rfl ⟨(by unfold f_X9_above; rw [if_pos h2]), rfl, rfl⟩
  exact hentry
def f_X9_asSort (s : Int32) (v : Int64) : Int64 := if s = 0 then (((v.toInt32).toInt8.toInt32).toInt64) else if s = 1 then (((v.toInt32).toInt16.toInt32).toInt64) else if s = 2 then ((v.toInt32).toInt64) else if s = 4 then if (lg_cmp v 0) = 0 then 0 else 1 else v
set_option maxHeartbeats 4000000 in
set_option maxRecDepth 100000 in
theorem c_X9_asSort (d : Nat) (hd : 0 ≤ d) (b : Bool) (I : Nat → Nat → Int32) (L : Nat → Nat → Int64) (s : Int32) (v : Int64) : z_CT zm_X9_asSort d [.int s, .long v] SH (I, L, z_R b) 0 0 (z_ret (some (.long (f_X9_asSort s v))) (I, L, z_R b)) := by
  refine z_enter (by decide +kernel) (Nat.le_of_ble_eq_true rfl) ?_
  have hentry : PW zm_X9_asSort d 0 [(0, .int s), (1, .long v)] [] SH (I, L, z_R b) 0 0 (z_ret (some (.long (f_X9_asSort s v))) (I, L, z_R b)) := by
    refine p_iload_n (z_dec zd_X9_asSort 0 rfl) rfl 0 rfl (n := 1) rfl ?_
    refine p_if_ne (z_dec zd_X9_asSort 1 rfl) (t := 11) (by decide) (n := 4) rfl (fun h1 => ?_) (fun h1 => ?_)
    · refine p_iload_n (z_dec zd_X9_asSort 7 rfl) rfl 0 rfl (n := 12) rfl ?_
      refine p_iconst (z_dec zd_X9_asSort 8 rfl) (v := 1) (by decide) (n := 13) rfl ?_
      refine p_icmp_ne (z_dec zd_X9_asSort 9 rfl) (t := 23) (by decide) (n := 16) rfl (fun h13 => ?_) (fun h13 => ?_)
      · refine p_iload_n (z_dec zd_X9_asSort 15 rfl) rfl 0 rfl (n := 24) rfl ?_
        refine p_iconst (z_dec zd_X9_asSort 16 rfl) (v := 2) (by decide) (n := 25) rfl ?_
        refine p_icmp_ne (z_dec zd_X9_asSort 17 rfl) (t := 34) (by decide) (n := 28) rfl (fun h25 => ?_) (fun h25 => ?_)
        · refine p_iload_n (z_dec zd_X9_asSort 22 rfl) rfl 0 rfl (n := 35) rfl ?_
          refine p_iconst (z_dec zd_X9_asSort 23 rfl) (v := 4) (by decide) (n := 36) rfl ?_
          refine p_icmp_ne (z_dec zd_X9_asSort 24 rfl) (t := 53) (by decide) (n := 39) rfl (fun h36 => ?_) (fun h36 => ?_)
          · refine p_lload_n (z_dec zd_X9_asSort 33 rfl) rfl 1 rfl (n := 54) rfl ?_
            exact p_lret (z_dec zd_X9_asSort 34 rfl) rfl ⟨(by unfold f_X9_asSort; rw [if_neg h1, if_neg h13, if_neg h25, if_neg h36]), rfl, rfl⟩
          · refine p_lload_n (z_dec zd_X9_asSort 25 rfl) rfl 1 rfl (n := 40) rfl ?_
            refine p_lconst (z_dec zd_X9_asSort 26 rfl) (v := 0) (by decide) (n := 41) rfl ?_
            refine p_lcmp (z_dec zd_X9_asSort 27 rfl) (n := 42) rfl ?_
            refine p_if_eq (z_dec zd_X9_asSort 28 rfl) (t := 49) (by decide) (n := 45) rfl (fun h42 => ?_) (fun h42 => ?_)
            · refine p_lconst (z_dec zd_X9_asSort 31 rfl) (v := 0) (by decide) (n := 50) rfl ?_
              refine p_goto (z_dec zd_X9_asSort 32 rfl) (t := 54) (by decide) ?_
              exact p_lret (z_dec zd_X9_asSort 34 rfl) rfl ⟨(by unfold f_X9_asSort; rw [if_neg h1, if_neg h13, if_neg h25, if_pos h36, if_pos h42]), rfl, rfl⟩
            · refine p_lconst (z_dec zd_X9_asSort 29 rfl) (v := 1) (by decide) (n := 46) rfl ?_
              refine p_goto (z_dec zd_X9_asSort 30 rfl) (t := 54) (by decide) ?_
              exact p_lret (z_dec zd_X9_asSort 34 rfl) rfl ⟨(by unfold f_X9_asSort; rw [if_neg h1, if_neg h13, if_neg h25, if_pos h36, if_neg h42]), rfl, rfl⟩
        · refine p_lload_n (z_dec zd_X9_asSort 18 rfl) rfl 1 rfl (n := 29) rfl ?_
          refine p_l2i (z_dec zd_X9_asSort 19 rfl) (n := 30) rfl ?_
          refine p_i2l (z_dec zd_X9_asSort 20 rfl) (n := 31) rfl ?_
          refine p_goto (z_dec zd_X9_asSort 21 rfl) (t := 54) (by decide) ?_
          exact p_lret (z_dec zd_X9_asSort 34 rfl) rfl ⟨(by unfold f_X9_asSort; rw [if_neg h1, if_neg h13, if_pos h25]), rfl, rfl⟩
      · refine p_lload_n (z_dec zd_X9_asSort 10 rfl) rfl 1 rfl (n := 17) rfl ?_
        refine p_l2i (z_dec zd_X9_asSort 11 rfl) (n := 18) rfl ?_
        refine p_i2s (z_dec zd_X9_asSort 12 rfl) (n := 19) rfl ?_
        refine p_i2l (z_dec zd_X9_asSort 13 rfl) (n := 20) rfl ?_
        refine p_goto (z_dec zd_X9_asSort 14 rfl) (t := 54) (by decide) ?_
        exact p_lret (z_dec zd_X9_asSort 34 rfl) rfl ⟨(by unfold f_X9_asSort; rw [if_neg h1, if_pos h13]), rfl, rfl⟩
    · refine p_lload_n (z_dec zd_X9_asSort 2 rfl) rfl 1 rfl (n := 5) rfl ?_
      refine p_l2i (z_dec zd_X9_asSort 3 rfl) (n := 6) rfl ?_
      refine p_i2b (z_dec zd_X9_asSort 4 rfl) (n := 7) rfl ?_
      refine p_i2l (z_dec zd_X9_asSort 5 rfl) (n := 8) rfl ?_
      refine p_goto (z_dec zd_X9_asSort 6 rfl) (t := 54) (by decide) ?_
      exact p_lret (z_dec zd_X9_asSort 34 rfl) rfl ⟨(by unfold f_X9_asSort; rw [if_pos h1]), rfl, rfl⟩
  exact hentry
def f_X9_areThree (np : Nat) (a : Int64) (e : Int64) (u : Int64) : Int32 := if (f_X9_isOne np a) = 0 then 0 else if (f_X9_isOne np e) = 0 then 0 else if (f_X9_isOne np u) = 0 then 0 else if (lg_cmp a e) = 0 then 0 else if (lg_cmp a u) = 0 then 0 else if (lg_cmp e u) = 0 then 0 else 1
set_option maxHeartbeats 4000000 in
set_option maxRecDepth 100000 in
theorem c_X9_areThree (d : Nat) (hd : 2 ≤ d) (b : Bool) (I : Nat → Nat → Int32) (L : Nat → Nat → Int64) (np : Nat) (hnp : I 54 6 = nI np) (hn10 : np ≤ 10) (a : Int64) (e : Int64) (u : Int64) : z_CT zm_X9_areThree d [.ref 54, .long a, .long e, .long u] SH (I, L, z_R b) 0 0 (z_ret (some (.int (f_X9_areThree np a e u))) (I, L, z_R b)) := by
  refine z_enter (by decide +kernel) (Nat.le_of_ble_eq_true rfl) ?_
  have hentry : PW zm_X9_areThree d 0 [(0, .ref 54), (1, .long a), (3, .long e), (5, .long u)] [] SH (I, L, z_R b) 0 0 (z_ret (some (.int (f_X9_areThree np a e u))) (I, L, z_R b)) := by
    refine p_aload_n (z_dec zd_X9_areThree 0 rfl) rfl 0 rfl (n := 1) rfl ?_
    refine p_lload_n (z_dec zd_X9_areThree 1 rfl) rfl 1 rfl (n := 2) rfl ?_
    refine q_callV (As := [.long a]) (rest := []) (z_dec zd_X9_areThree 2 rfl) zk_X9_121 zv_X9_isOne (c_X9_isOne (d - 1) (by omega) b I L np hnp hn10 a) rfl ⟨_, _, rfl⟩ rfl rfl (Nat.le_of_ble_eq_true rfl) (by omega) (n := 5) rfl ?_
    show PW zm_X9_areThree d 5 [(0, .ref 54), (1, .long a), (3, .long e), (5, .long u)] [.int (f_X9_isOne np a)] SH (I, L, z_R b) 0 0 _
    refine p_if_eq (z_dec zd_X9_areThree 3 rfl) (t := 49) (by decide) (n := 8) rfl (fun h5 => ?_) (fun h5 => ?_)
    · refine p_iconst (z_dec zd_X9_areThree 26 rfl) (v := 0) (by decide) (n := 50) rfl ?_
      exact p_zret (z_dec zd_X9_areThree 27 rfl) rfl (Or.inl rfl) ⟨(by unfold f_X9_areThree; rw [if_pos h5]), rfl, rfl⟩
    · refine p_aload_n (z_dec zd_X9_areThree 4 rfl) rfl 0 rfl (n := 9) rfl ?_
      refine p_lload_n (z_dec zd_X9_areThree 5 rfl) rfl 2 rfl (n := 10) rfl ?_
      refine q_callV (As := [.long e]) (rest := []) (z_dec zd_X9_areThree 6 rfl) zk_X9_121 zv_X9_isOne (c_X9_isOne (d - 1) (by omega) b I L np hnp hn10 e) rfl ⟨_, _, rfl⟩ rfl rfl (Nat.le_of_ble_eq_true rfl) (by omega) (n := 13) rfl ?_
      show PW zm_X9_areThree d 13 [(0, .ref 54), (1, .long a), (3, .long e), (5, .long u)] [.int (f_X9_isOne np e)] SH (I, L, z_R b) 0 0 _
      refine p_if_eq (z_dec zd_X9_areThree 7 rfl) (t := 49) (by decide) (n := 16) rfl (fun h13 => ?_) (fun h13 => ?_)
      · refine p_iconst (z_dec zd_X9_areThree 26 rfl) (v := 0) (by decide) (n := 50) rfl ?_
        exact p_zret (z_dec zd_X9_areThree 27 rfl) rfl (Or.inl rfl) ⟨(by unfold f_X9_areThree; rw [if_neg h5, if_pos h13]), rfl, rfl⟩
      · refine p_aload_n (z_dec zd_X9_areThree 8 rfl) rfl 0 rfl (n := 17) rfl ?_
        refine p_lload (z_dec zd_X9_areThree 9 rfl) 3 rfl (n := 19) rfl ?_
        refine q_callV (As := [.long u]) (rest := []) (z_dec zd_X9_areThree 10 rfl) zk_X9_121 zv_X9_isOne (c_X9_isOne (d - 1) (by omega) b I L np hnp hn10 u) rfl ⟨_, _, rfl⟩ rfl rfl (Nat.le_of_ble_eq_true rfl) (by omega) (n := 22) rfl ?_
        show PW zm_X9_areThree d 22 [(0, .ref 54), (1, .long a), (3, .long e), (5, .long u)] [.int (f_X9_isOne np u)] SH (I, L, z_R b) 0 0 _
        refine p_if_eq (z_dec zd_X9_areThree 11 rfl) (t := 49) (by decide) (n := 25) rfl (fun h22 => ?_) (fun h22 => ?_)
        · refine p_iconst (z_dec zd_X9_areThree 26 rfl) (v := 0) (by decide) (n := 50) rfl ?_
          exact p_zret (z_dec zd_X9_areThree 27 rfl) rfl (Or.inl rfl) ⟨(by unfold f_X9_areThree; rw [if_neg h5, if_neg h13, if_pos h22]), rfl, rfl⟩
        · refine p_lload_n (z_dec zd_X9_areThree 12 rfl) rfl 1 rfl (n := 26) rfl ?_
          refine p_lload_n (z_dec zd_X9_areThree 13 rfl) rfl 2 rfl (n := 27) rfl ?_
          refine p_lcmp (z_dec zd_X9_areThree 14 rfl) (n := 28) rfl ?_
          refine p_if_eq (z_dec zd_X9_areThree 15 rfl) (t := 49) (by decide) (n := 31) rfl (fun h28 => ?_) (fun h28 => ?_)
          · refine p_iconst (z_dec zd_X9_areThree 26 rfl) (v := 0) (by decide) (n := 50) rfl ?_
            exact p_zret (z_dec zd_X9_areThree 27 rfl) rfl (Or.inl rfl) ⟨(by unfold f_X9_areThree; rw [if_neg h5, if_neg h13, if_neg h22, if_pos h28]), rfl, rfl⟩
          · refine p_lload_n (z_dec zd_X9_areThree 16 rfl) rfl 1 rfl (n := 32) rfl ?_
            refine p_lload (z_dec zd_X9_areThree 17 rfl) 3 rfl (n := 34) rfl ?_
            refine p_lcmp (z_dec zd_X9_areThree 18 rfl) (n := 35) rfl ?_
            refine p_if_eq (z_dec zd_X9_areThree 19 rfl) (t := 49) (by decide) (n := 38) rfl (fun h35 => ?_) (fun h35 => ?_)
            · refine p_iconst (z_dec zd_X9_areThree 26 rfl) (v := 0) (by decide) (n := 50) rfl ?_
              exact p_zret (z_dec zd_X9_areThree 27 rfl) rfl (Or.inl rfl) ⟨(by unfold f_X9_areThree; rw [if_neg h5, if_neg h13, if_neg h22, if_neg h28, if_pos h35]), rfl, rfl⟩
            · refine p_lload_n (z_dec zd_X9_areThree 20 rfl) rfl 2 rfl (n := 39) rfl ?_
              refine p_lload (z_dec zd_X9_areThree 21 rfl) 3 rfl (n := 41) rfl ?_
              refine p_lcmp (z_dec zd_X9_areThree 22 rfl) (n := 42) rfl ?_
              refine p_if_eq (z_dec zd_X9_areThree 23 rfl) (t := 49) (by decide) (n := 45) rfl (fun h42 => ?_) (fun h42 => ?_)
              · refine p_iconst (z_dec zd_X9_areThree 26 rfl) (v := 0) (by decide) (n := 50) rfl ?_
                exact p_zret (z_dec zd_X9_areThree 27 rfl) rfl (Or.inl rfl) ⟨(by unfold f_X9_areThree; rw [if_neg h5, if_neg h13, if_neg h22, if_neg h28, if_neg h35, if_pos h42]), rfl, rfl⟩
              · refine p_iconst (z_dec zd_X9_areThree 24 rfl) (v := 1) (by decide) (n := 46) rfl ?_
                refine p_goto (z_dec zd_X9_areThree 25 rfl) (t := 50) (by decide) ?_
                exact p_zret (z_dec zd_X9_areThree 27 rfl) rfl (Or.inr rfl) ⟨(by unfold f_X9_areThree; rw [if_neg h5, if_neg h13, if_neg h22, if_neg h28, if_neg h35, if_neg h42]), rfl, rfl⟩
  exact hentry
theorem fb_X9_areThree (np : Nat) (a : Int64) (e : Int64) (u : Int64) : f_X9_areThree np a e u = 0 ∨ f_X9_areThree np a e u = 1 := by
  unfold f_X9_areThree
  (repeat' split) <;> first | exact Or.inl rfl | exact Or.inr rfl
def f_X9_isAbu (np : Nat) (abu : Int32) : Int32 := if abu < 0 then 0 else if (f_X9_areThree np ((abu / 100).toInt64) (((abu / 10) - (abu / 10) / 10 * 10).toInt64) ((abu - abu / 10 * 10).toInt64)) = 0 then 0 else 1
set_option maxHeartbeats 4000000 in
set_option maxRecDepth 100000 in
theorem c_X9_isAbu (d : Nat) (hd : 3 ≤ d) (b : Bool) (I : Nat → Nat → Int32) (L : Nat → Nat → Int64) (np : Nat) (hnp : I 54 6 = nI np) (hn10 : np ≤ 10) (abu : Int32) : z_CT zm_X9_isAbu d [.ref 54, .int abu] SH (I, L, z_R b) 0 0 (z_ret (some (.int (f_X9_isAbu np abu))) (I, L, z_R b)) := by
  refine z_enter (by decide +kernel) (Nat.le_of_ble_eq_true rfl) ?_
  have hentry : PW zm_X9_isAbu d 0 [(0, .ref 54), (1, .int abu)] [] SH (I, L, z_R b) 0 0 (z_ret (some (.int (f_X9_isAbu np abu))) (I, L, z_R b)) := by
    refine p_iload_n (z_dec zd_X9_isAbu 0 rfl) rfl 1 rfl (n := 1) rfl ?_
    refine p_if_lt (z_dec zd_X9_isAbu 1 rfl) (t := 33) (by decide) (n := 4) rfl (fun h1 => ?_) (fun h1 => ?_)
    · refine p_iconst (z_dec zd_X9_isAbu 21 rfl) (v := 0) (by decide) (n := 34) rfl ?_
      exact p_zret (z_dec zd_X9_isAbu 22 rfl) rfl (Or.inl rfl) ⟨(by unfold f_X9_isAbu; rw [if_pos h1]), rfl, rfl⟩
    · refine p_aload_n (z_dec zd_X9_isAbu 2 rfl) rfl 0 rfl (n := 5) rfl ?_
      refine p_iload_n (z_dec zd_X9_isAbu 3 rfl) rfl 1 rfl (n := 6) rfl ?_
      refine p_bipush (z_dec zd_X9_isAbu 4 rfl) (v := 100) (by decide) (n := 8) rfl ?_
      refine p_idiv (z_dec zd_X9_isAbu 5 rfl) (by decide) (n := 9) rfl ?_
      refine p_i2l (z_dec zd_X9_isAbu 6 rfl) (n := 10) rfl ?_
      refine p_iload_n (z_dec zd_X9_isAbu 7 rfl) rfl 1 rfl (n := 11) rfl ?_
      refine p_bipush (z_dec zd_X9_isAbu 8 rfl) (v := 10) (by decide) (n := 13) rfl ?_
      refine p_idiv (z_dec zd_X9_isAbu 9 rfl) (by decide) (n := 14) rfl ?_
      refine p_bipush (z_dec zd_X9_isAbu 10 rfl) (v := 10) (by decide) (n := 16) rfl ?_
      refine p_irem (z_dec zd_X9_isAbu 11 rfl) (by decide) (n := 17) rfl ?_
      refine p_i2l (z_dec zd_X9_isAbu 12 rfl) (n := 18) rfl ?_
      refine p_iload_n (z_dec zd_X9_isAbu 13 rfl) rfl 1 rfl (n := 19) rfl ?_
      refine p_bipush (z_dec zd_X9_isAbu 14 rfl) (v := 10) (by decide) (n := 21) rfl ?_
      refine p_irem (z_dec zd_X9_isAbu 15 rfl) (by decide) (n := 22) rfl ?_
      refine p_i2l (z_dec zd_X9_isAbu 16 rfl) (n := 23) rfl ?_
      refine q_callV (As := [.long ((abu / 100).toInt64), .long (((abu / 10) - (abu / 10) / 10 * 10).toInt64), .long ((abu - abu / 10 * 10).toInt64)]) (rest := []) (z_dec zd_X9_isAbu 17 rfl) zk_X9_200 zv_X9_areThree (c_X9_areThree (d - 1) (by omega) b I L np hnp hn10 ((abu / 100).toInt64) (((abu / 10) - (abu / 10) / 10 * 10).toInt64) ((abu - abu / 10 * 10).toInt64)) rfl ⟨_, _, rfl⟩ rfl rfl (Nat.le_of_ble_eq_true rfl) (by omega) (n := 26) rfl ?_
      show PW zm_X9_isAbu d 26 [(0, .ref 54), (1, .int abu)] [.int (f_X9_areThree np ((abu / 100).toInt64) (((abu / 10) - (abu / 10) / 10 * 10).toInt64) ((abu - abu / 10 * 10).toInt64))] SH (I, L, z_R b) 0 0 _
      refine p_if_eq (z_dec zd_X9_isAbu 18 rfl) (t := 33) (by decide) (n := 29) rfl (fun h26 => ?_) (fun h26 => ?_)
      · refine p_iconst (z_dec zd_X9_isAbu 21 rfl) (v := 0) (by decide) (n := 34) rfl ?_
        exact p_zret (z_dec zd_X9_isAbu 22 rfl) rfl (Or.inl rfl) ⟨(by unfold f_X9_isAbu; rw [if_neg h1, if_pos h26]), rfl, rfl⟩
      · refine p_iconst (z_dec zd_X9_isAbu 19 rfl) (v := 1) (by decide) (n := 30) rfl ?_
        refine p_goto (z_dec zd_X9_isAbu 20 rfl) (t := 34) (by decide) ?_
        exact p_zret (z_dec zd_X9_isAbu 22 rfl) rfl (Or.inr rfl) ⟨(by unfold f_X9_isAbu; rw [if_neg h1, if_neg h26]), rfl, rfl⟩
  exact hentry
theorem fb_X9_isAbu (np : Nat) (abu : Int32) : f_X9_isAbu np abu = 0 ∨ f_X9_isAbu np abu = 1 := by
  unfold f_X9_isAbu
  (repeat' split) <;> first | exact Or.inl rfl | exact Or.inr rfl
def f_X9_wrong (I : Nat → Nat → Int32) : Int32 := if 0 ≤ (I 54 14) then 0 else 0
def m_X9_wrong (I : Nat → Nat → Int32) : Nat → Nat → Int32 := if 0 ≤ (I 54 14) then (z_up I 54 14 (I 54 14)) else (z_up I 54 14 (I 54 12))
set_option maxHeartbeats 4000000 in
set_option maxRecDepth 100000 in
theorem c_X9_wrong (d : Nat) (hd : 0 ≤ d) (b : Bool) (I : Nat → Nat → Int32) (L : Nat → Nat → Int64) : z_CT zm_X9_wrong d [.ref 54] SH (I, L, z_R b) 0 0 (z_ret (some (.int (f_X9_wrong I))) ((m_X9_wrong I), L, z_R b)) := by
  refine z_enter (by decide +kernel) (Nat.le_of_ble_eq_true rfl) ?_
  have hentry : PW zm_X9_wrong d 0 [(0, .ref 54)] [] SH (I, L, z_R b) 0 0 (z_ret (some (.int (f_X9_wrong I))) ((m_X9_wrong I), L, z_R b)) := by
    refine p_aload_n (z_dec zd_X9_wrong 0 rfl) rfl 0 rfl (n := 1) rfl ?_
    refine p_aload_n (z_dec zd_X9_wrong 1 rfl) rfl 0 rfl (n := 2) rfl ?_
    refine q_getI (z_dec zd_X9_wrong 2 rfl) zf_X9_153 (by decide) rfl (v := (I 54 14)) rfl (n := 5) rfl ?_
    refine p_if_ge (z_dec zd_X9_wrong 3 rfl) (t := 15) (by decide) (n := 8) rfl (fun h5 => ?_) (fun h5 => ?_)
    · refine p_aload_n (z_dec zd_X9_wrong 7 rfl) rfl 0 rfl (n := 16) rfl ?_
      refine q_getI (z_dec zd_X9_wrong 8 rfl) zf_X9_153 (by decide) rfl (v := (I 54 14)) rfl (n := 19) rfl ?_
      refine q_putI (z_dec zd_X9_wrong 9 rfl) zp_X9_153 (fun q => by cases q) rfl (n := 22) rfl ?_
      refine p_iconst (z_dec zd_X9_wrong 10 rfl) (v := 0) (by decide) (n := 23) rfl ?_
      exact p_iret (z_dec zd_X9_wrong 11 rfl) rfl ⟨(by unfold f_X9_wrong; rw [if_pos h5]), rfl, (z_3 (by unfold m_X9_wrong; rw [if_pos h5]) rfl)⟩
    · refine p_aload_n (z_dec zd_X9_wrong 4 rfl) rfl 0 rfl (n := 9) rfl ?_
      refine q_getI (z_dec zd_X9_wrong 5 rfl) zf_X9_144 (by decide) rfl (v := (I 54 12)) rfl (n := 12) rfl ?_
      refine p_goto (z_dec zd_X9_wrong 6 rfl) (t := 19) (by decide) ?_
      refine q_putI (z_dec zd_X9_wrong 9 rfl) zp_X9_153 (fun q => by cases q) rfl (n := 22) rfl ?_
      refine p_iconst (z_dec zd_X9_wrong 10 rfl) (v := 0) (by decide) (n := 23) rfl ?_
      exact p_iret (z_dec zd_X9_wrong 11 rfl) rfl ⟨(by unfold f_X9_wrong; rw [if_neg h5]), rfl, (z_3 (by unfold m_X9_wrong; rw [if_neg h5]) rfl)⟩
  exact hentry
def f_X9_placeOf (np : Nat) (n : Int32) (what : Int32) : Int32 := if (f_X9_within (what.toInt64) 0 3) = 0 then if n = 0 then if (f_X9_within (what.toInt64) 4 5) = 0 then (-1) else ((40 + what) - 4) else (-1) else if (f_X9_isOne np (n.toInt64)) = 0 then (-1) else ((10 * what) + n)
set_option maxHeartbeats 4000000 in
set_option maxRecDepth 100000 in
theorem c_X9_placeOf (d : Nat) (hd : 2 ≤ d) (b : Bool) (I : Nat → Nat → Int32) (L : Nat → Nat → Int64) (np : Nat) (hnp : I 54 6 = nI np) (hn10 : np ≤ 10) (n : Int32) (what : Int32) : z_CT zm_X9_placeOf d [.ref 54, .int n, .int what] SH (I, L, z_R b) 0 0 (z_ret (some (.int (f_X9_placeOf np n what))) (I, L, z_R b)) := by
  refine z_enter (by decide +kernel) (Nat.le_of_ble_eq_true rfl) ?_
  have hentry : PW zm_X9_placeOf d 0 [(0, .ref 54), (1, .int n), (2, .int what)] [] SH (I, L, z_R b) 0 0 (z_ret (some (.int (f_X9_placeOf np n what))) (I, L, z_R b)) := by
    refine p_iload_n (z_dec zd_X9_placeOf 0 rfl) rfl 2 rfl (n := 1) rfl ?_
    refine p_i2l (z_dec zd_X9_placeOf 1 rfl) (n := 2) rfl ?_
    refine p_lconst (z_dec zd_X9_placeOf 2 rfl) (v := 0) (by decide) (n := 3) rfl ?_
    refine p_ldc2 (z_dec zd_X9_placeOf 3 rfl) zq_X9_119 (n := 6) rfl ?_
    refine q_callS (As := [.long (what.toInt64), .long 0, .long 3]) (rest := []) (z_dec zd_X9_placeOf 4 rfl) zk_X9_96 zs_X9_within (c_X9_within (d - 1) (by omega) b I L (what.toInt64) 0 3) rfl rfl (Nat.le_of_ble_eq_true rfl) (by omega) (n := 9) rfl ?_
    show PW zm_X9_placeOf d 9 [(0, .ref 54), (1, .int n), (2, .int what)] [.int (f_X9_within (what.toInt64) 0 3)] SH (I, L, z_R b) 0 0 _
    refine p_if_eq (z_dec zd_X9_placeOf 5 rfl) (t := 32) (by decide) (n := 12) rfl (fun h9 => ?_) (fun h9 => ?_)
    · refine p_iload_n (z_dec zd_X9_placeOf 19 rfl) rfl 1 rfl (n := 33) rfl ?_
      refine p_if_ne (z_dec zd_X9_placeOf 20 rfl) (t := 59) (by decide) (n := 36) rfl (fun h33 => ?_) (fun h33 => ?_)
      · refine p_iconst (z_dec zd_X9_placeOf 33 rfl) (v := (-1)) (by decide) (n := 60) rfl ?_
        exact p_iret (z_dec zd_X9_placeOf 34 rfl) rfl ⟨(by unfold f_X9_placeOf; rw [if_pos h9, if_neg h33]), rfl, rfl⟩
      · refine p_iload_n (z_dec zd_X9_placeOf 21 rfl) rfl 2 rfl (n := 37) rfl ?_
        refine p_i2l (z_dec zd_X9_placeOf 22 rfl) (n := 38) rfl ?_
        refine p_ldc2 (z_dec zd_X9_placeOf 23 rfl) zq_X9_125 (n := 41) rfl ?_
        refine p_ldc2 (z_dec zd_X9_placeOf 24 rfl) zq_X9_127 (n := 44) rfl ?_
        refine q_callS (As := [.long (what.toInt64), .long 4, .long 5]) (rest := []) (z_dec zd_X9_placeOf 25 rfl) zk_X9_96 zs_X9_within (c_X9_within (d - 1) (by omega) b I L (what.toInt64) 4 5) rfl rfl (Nat.le_of_ble_eq_true rfl) (by omega) (n := 47) rfl ?_
        show PW zm_X9_placeOf d 47 [(0, .ref 54), (1, .int n), (2, .int what)] [.int (f_X9_within (what.toInt64) 4 5)] SH (I, L, z_R b) 0 0 _
        refine p_if_eq (z_dec zd_X9_placeOf 26 rfl) (t := 59) (by decide) (n := 50) rfl (fun h47 => ?_) (fun h47 => ?_)
        · refine p_iconst (z_dec zd_X9_placeOf 33 rfl) (v := (-1)) (by decide) (n := 60) rfl ?_
          exact p_iret (z_dec zd_X9_placeOf 34 rfl) rfl ⟨(by unfold f_X9_placeOf; rw [if_pos h9, if_pos h33, if_pos h47]), rfl, rfl⟩
        · refine p_bipush (z_dec zd_X9_placeOf 27 rfl) (v := 40) (by decide) (n := 52) rfl ?_
          refine p_iload_n (z_dec zd_X9_placeOf 28 rfl) rfl 2 rfl (n := 53) rfl ?_
          refine p_iadd (z_dec zd_X9_placeOf 29 rfl) (n := 54) rfl ?_
          refine p_iconst (z_dec zd_X9_placeOf 30 rfl) (v := 4) (by decide) (n := 55) rfl ?_
          refine p_isub (z_dec zd_X9_placeOf 31 rfl) (n := 56) rfl ?_
          refine p_goto (z_dec zd_X9_placeOf 32 rfl) (t := 60) (by decide) ?_
          exact p_iret (z_dec zd_X9_placeOf 34 rfl) rfl ⟨(by unfold f_X9_placeOf; rw [if_pos h9, if_pos h33, if_neg h47]), rfl, rfl⟩
    · refine p_aload_n (z_dec zd_X9_placeOf 6 rfl) rfl 0 rfl (n := 13) rfl ?_
      refine p_iload_n (z_dec zd_X9_placeOf 7 rfl) rfl 1 rfl (n := 14) rfl ?_
      refine p_i2l (z_dec zd_X9_placeOf 8 rfl) (n := 15) rfl ?_
      refine q_callV (As := [.long (n.toInt64)]) (rest := []) (z_dec zd_X9_placeOf 9 rfl) zk_X9_121 zv_X9_isOne (c_X9_isOne (d - 1) (by omega) b I L np hnp hn10 (n.toInt64)) rfl ⟨_, _, rfl⟩ rfl rfl (Nat.le_of_ble_eq_true rfl) (by omega) (n := 18) rfl ?_
      show PW zm_X9_placeOf d 18 [(0, .ref 54), (1, .int n), (2, .int what)] [.int (f_X9_isOne np (n.toInt64))] SH (I, L, z_R b) 0 0 _
      refine p_if_eq (z_dec zd_X9_placeOf 10 rfl) (t := 30) (by decide) (n := 21) rfl (fun h18 => ?_) (fun h18 => ?_)
      · refine p_iconst (z_dec zd_X9_placeOf 17 rfl) (v := (-1)) (by decide) (n := 31) rfl ?_
        exact p_iret (z_dec zd_X9_placeOf 18 rfl) rfl ⟨(by unfold f_X9_placeOf; rw [if_neg h9, if_pos h18]), rfl, rfl⟩
      · refine p_bipush (z_dec zd_X9_placeOf 11 rfl) (v := 10) (by decide) (n := 23) rfl ?_
        refine p_iload_n (z_dec zd_X9_placeOf 12 rfl) rfl 2 rfl (n := 24) rfl ?_
        refine p_imul (z_dec zd_X9_placeOf 13 rfl) (n := 25) rfl ?_
        refine p_iload_n (z_dec zd_X9_placeOf 14 rfl) rfl 1 rfl (n := 26) rfl ?_
        refine p_iadd (z_dec zd_X9_placeOf 15 rfl) (n := 27) rfl ?_
        refine p_goto (z_dec zd_X9_placeOf 16 rfl) (t := 31) (by decide) ?_
        exact p_iret (z_dec zd_X9_placeOf 18 rfl) rfl ⟨(by unfold f_X9_placeOf; rw [if_neg h9, if_neg h18]), rfl, rfl⟩
  exact hentry
def f_X9_canBeHeld (I : Nat → Nat → Int32) (a : Nat) (e : Nat) (u : Nat) : Int32 := if ((I 64 a) - (I 64 a) / 2 * 2) = 0 then if ((I 64 e) - (I 64 e) / 2 * 2) = 0 then if ((I 64 u) - (I 64 u) / 2 * 2) = 0 then if ((I 63 u) - (I 63 u) / 2 * 2) = 1 then 1 else 0 else 0 else 0 else 0
set_option maxHeartbeats 4000000 in
set_option maxRecDepth 100000 in
theorem c_X9_canBeHeld (d : Nat) (hd : 0 ≤ d) (b : Bool) (I : Nat → Nat → Int32) (L : Nat → Nat → Int64) (a : Nat) (ha : a < 10) (e : Nat) (he : e < 10) (u : Nat) (hu : u < 10) : z_CT zm_X9_canBeHeld d [.ref 54, .int (nI a), .int (nI e), .int (nI u)] SH (I, L, z_R b) 0 0 (z_ret (some (.int (f_X9_canBeHeld I a e u))) (I, L, z_R b)) := by
  refine z_enter (by decide +kernel) (Nat.le_of_ble_eq_true rfl) ?_
  have hentry : PW zm_X9_canBeHeld d 0 [(0, .ref 54), (1, .int (nI a)), (2, .int (nI e)), (3, .int (nI u))] [] SH (I, L, z_R b) 0 0 (z_ret (some (.int (f_X9_canBeHeld I a e u))) (I, L, z_R b)) := by
    refine p_aload_n (z_dec zd_X9_canBeHeld 0 rfl) rfl 0 rfl (n := 1) rfl ?_
    refine q_getR (z_dec zd_X9_canBeHeld 1 rfl) zf_X9_37 (i := 64) rfl rfl (n := 4) rfl ?_
    refine p_iload_n (z_dec zd_X9_canBeHeld 2 rfl) rfl 1 rfl (n := 5) rfl ?_
    refine q_iald (z_dec zd_X9_canBeHeld 3 rfl) rfl (by decide) (a) rfl (by omega) (v := (I 64 a)) rfl (n := 6) rfl ?_
    refine p_iconst (z_dec zd_X9_canBeHeld 4 rfl) (v := 2) (by decide) (n := 7) rfl ?_
    refine p_irem (z_dec zd_X9_canBeHeld 5 rfl) (by decide) (n := 8) rfl ?_
    refine p_if_ne (z_dec zd_X9_canBeHeld 6 rfl) (t := 49) (by decide) (n := 11) rfl (fun h8 => ?_) (fun h8 => ?_)
    · refine p_iconst (z_dec zd_X9_canBeHeld 31 rfl) (v := 0) (by decide) (n := 50) rfl ?_
      exact p_zret (z_dec zd_X9_canBeHeld 32 rfl) rfl (Or.inl rfl) ⟨(by unfold f_X9_canBeHeld; rw [if_neg h8]), rfl, rfl⟩
    · refine p_aload_n (z_dec zd_X9_canBeHeld 7 rfl) rfl 0 rfl (n := 12) rfl ?_
      refine q_getR (z_dec zd_X9_canBeHeld 8 rfl) zf_X9_37 (i := 64) rfl rfl (n := 15) rfl ?_
      refine p_iload_n (z_dec zd_X9_canBeHeld 9 rfl) rfl 2 rfl (n := 16) rfl ?_
      refine q_iald (z_dec zd_X9_canBeHeld 10 rfl) rfl (by decide) (e) rfl (by omega) (v := (I 64 e)) rfl (n := 17) rfl ?_
      refine p_iconst (z_dec zd_X9_canBeHeld 11 rfl) (v := 2) (by decide) (n := 18) rfl ?_
      refine p_irem (z_dec zd_X9_canBeHeld 12 rfl) (by decide) (n := 19) rfl ?_
      refine p_if_ne (z_dec zd_X9_canBeHeld 13 rfl) (t := 49) (by decide) (n := 22) rfl (fun h19 => ?_) (fun h19 => ?_)
      · refine p_iconst (z_dec zd_X9_canBeHeld 31 rfl) (v := 0) (by decide) (n := 50) rfl ?_
        exact p_zret (z_dec zd_X9_canBeHeld 32 rfl) rfl (Or.inl rfl) ⟨(by unfold f_X9_canBeHeld; rw [if_pos h8, if_neg h19]), rfl, rfl⟩
      · refine p_aload_n (z_dec zd_X9_canBeHeld 14 rfl) rfl 0 rfl (n := 23) rfl ?_
        refine q_getR (z_dec zd_X9_canBeHeld 15 rfl) zf_X9_37 (i := 64) rfl rfl (n := 26) rfl ?_
        refine p_iload_n (z_dec zd_X9_canBeHeld 16 rfl) rfl 3 rfl (n := 27) rfl ?_
        refine q_iald (z_dec zd_X9_canBeHeld 17 rfl) rfl (by decide) (u) rfl (by omega) (v := (I 64 u)) rfl (n := 28) rfl ?_
        refine p_iconst (z_dec zd_X9_canBeHeld 18 rfl) (v := 2) (by decide) (n := 29) rfl ?_
        refine p_irem (z_dec zd_X9_canBeHeld 19 rfl) (by decide) (n := 30) rfl ?_
        refine p_if_ne (z_dec zd_X9_canBeHeld 20 rfl) (t := 49) (by decide) (n := 33) rfl (fun h30 => ?_) (fun h30 => ?_)
        · refine p_iconst (z_dec zd_X9_canBeHeld 31 rfl) (v := 0) (by decide) (n := 50) rfl ?_
          exact p_zret (z_dec zd_X9_canBeHeld 32 rfl) rfl (Or.inl rfl) ⟨(by unfold f_X9_canBeHeld; rw [if_pos h8, if_pos h19, if_neg h30]), rfl, rfl⟩
        · refine p_aload_n (z_dec zd_X9_canBeHeld 21 rfl) rfl 0 rfl (n := 34) rfl ?_
          refine q_getR (z_dec zd_X9_canBeHeld 22 rfl) zf_X9_34 (i := 63) rfl rfl (n := 37) rfl ?_
          refine p_iload_n (z_dec zd_X9_canBeHeld 23 rfl) rfl 3 rfl (n := 38) rfl ?_
          refine q_iald (z_dec zd_X9_canBeHeld 24 rfl) rfl (by decide) (u) rfl (by omega) (v := (I 63 u)) rfl (n := 39) rfl ?_
          refine p_iconst (z_dec zd_X9_canBeHeld 25 rfl) (v := 2) (by decide) (n := 40) rfl ?_
          refine p_irem (z_dec zd_X9_canBeHeld 26 rfl) (by decide) (n := 41) rfl ?_
          refine p_iconst (z_dec zd_X9_canBeHeld 27 rfl) (v := 1) (by decide) (n := 42) rfl ?_
          refine p_icmp_ne (z_dec zd_X9_canBeHeld 28 rfl) (t := 49) (by decide) (n := 45) rfl (fun h42 => ?_) (fun h42 => ?_)
          · refine p_iconst (z_dec zd_X9_canBeHeld 31 rfl) (v := 0) (by decide) (n := 50) rfl ?_
            exact p_zret (z_dec zd_X9_canBeHeld 32 rfl) rfl (Or.inl rfl) ⟨(by unfold f_X9_canBeHeld; rw [if_pos h8, if_pos h19, if_pos h30, if_neg h42]), rfl, rfl⟩
          · refine p_iconst (z_dec zd_X9_canBeHeld 29 rfl) (v := 1) (by decide) (n := 46) rfl ?_
            refine p_goto (z_dec zd_X9_canBeHeld 30 rfl) (t := 50) (by decide) ?_
            exact p_zret (z_dec zd_X9_canBeHeld 32 rfl) rfl (Or.inr rfl) ⟨(by unfold f_X9_canBeHeld; rw [if_pos h8, if_pos h19, if_pos h30, if_pos h42]), rfl, rfl⟩
  exact hentry
theorem fb_X9_canBeHeld (I : Nat → Nat → Int32) (a : Nat) (e : Nat) (u : Nat) : f_X9_canBeHeld I a e u = 0 ∨ f_X9_canBeHeld I a e u = 1 := by
  unfold f_X9_canBeHeld
  (repeat' split) <;> first | exact Or.inl rfl | exact Or.inr rfl
def m_X9_isHeld (I : Nat → Nat → Int32) (a : Nat) (e : Nat) (u : Nat) (w : Int32) : Nat → Nat → Int32 := if w = 0 then if w = 0 then (z_up (z_up (z_up I 64 a ((I 64 a) ||| 3)) 64 e (((z_up I 64 a ((I 64 a) ||| 3)) 64 e) ||| 1)) 64 u (((z_up (z_up I 64 a ((I 64 a) ||| 3)) 64 e (((z_up I 64 a ((I 64 a) ||| 3)) 64 e) ||| 1)) 64 u) ||| 1)) else (z_up (z_up (z_up I 64 a ((I 64 a) ||| 3)) 64 e (((z_up I 64 a ((I 64 a) ||| 3)) 64 e) ||| 3)) 64 u (((z_up (z_up I 64 a ((I 64 a) ||| 3)) 64 e (((z_up I 64 a ((I 64 a) ||| 3)) 64 e) ||| 3)) 64 u) ||| 1)) else if w = 0 then (z_up (z_up (z_up I 64 a ((I 64 a) ||| 1)) 64 e (((z_up I 64 a ((I 64 a) ||| 1)) 64 e) ||| 1)) 64 u (((z_up (z_up I 64 a ((I 64 a) ||| 1)) 64 e (((z_up I 64 a ((I 64 a) ||| 1)) 64 e) ||| 1)) 64 u) ||| 1)) else (z_up (z_up (z_up I 64 a ((I 64 a) ||| 1)) 64 e (((z_up I 64 a ((I 64 a) ||| 1)) 64 e) ||| 3)) 64 u (((z_up (z_up I 64 a ((I 64 a) ||| 1)) 64 e (((z_up I 64 a ((I 64 a) ||| 1)) 64 e) ||| 3)) 64 u) ||| 1))
set_option maxHeartbeats 4000000 in
set_option maxRecDepth 100000 in
theorem c_X9_isHeld (d : Nat) (hd : 0 ≤ d) (b : Bool) (I : Nat → Nat → Int32) (L : Nat → Nat → Int64) (a : Nat) (ha : a < 10) (e : Nat) (he : e < 10) (u : Nat) (hu : u < 10) (w : Int32) : z_CT zm_X9_isHeld d [.ref 54, .int (nI a), .int (nI e), .int (nI u), .int w] SH (I, L, z_R b) 0 0 (z_ret (none) ((m_X9_isHeld I a e u w), L, z_R b)) := by
  refine z_enter (by decide +kernel) (Nat.le_of_ble_eq_true rfl) ?_
  have hentry : PW zm_X9_isHeld d 0 [(0, .ref 54), (1, .int (nI a)), (2, .int (nI e)), (3, .int (nI u)), (4, .int w)] [] SH (I, L, z_R b) 0 0 (z_ret (none) ((m_X9_isHeld I a e u w), L, z_R b)) := by
    refine p_aload_n (z_dec zd_X9_isHeld 0 rfl) rfl 0 rfl (n := 1) rfl ?_
    refine q_getR (z_dec zd_X9_isHeld 1 rfl) zf_X9_37 (i := 64) rfl rfl (n := 4) rfl ?_
    refine p_iload_n (z_dec zd_X9_isHeld 2 rfl) rfl 1 rfl (n := 5) rfl ?_
    refine p_dup2 (z_dec zd_X9_isHeld 3 rfl) rfl rfl (n := 6) rfl ?_
    refine q_iald (z_dec zd_X9_isHeld 4 rfl) rfl (by decide) (a) rfl (by omega) (v := (I 64 a)) rfl (n := 7) rfl ?_
    refine p_iload (z_dec zd_X9_isHeld 5 rfl) 4 rfl (n := 9) rfl ?_
    refine p_if_eq (z_dec zd_X9_isHeld 6 rfl) (t := 16) (by decide) (n := 12) rfl (fun h9 => ?_) (fun h9 => ?_)
    · refine p_iconst (z_dec zd_X9_isHeld 9 rfl) (v := 3) (by decide) (n := 17) rfl ?_
      refine p_ior (z_dec zd_X9_isHeld 10 rfl) (n := 18) rfl ?_
      refine q_iast (z_dec zd_X9_isHeld 11 rfl) rfl (by decide) (a) rfl (by omega) (n := 19) rfl ?_
      refine p_aload_n (z_dec zd_X9_isHeld 12 rfl) rfl 0 rfl (n := 20) rfl ?_
      refine q_getR (z_dec zd_X9_isHeld 13 rfl) zf_X9_37 (i := 64) rfl rfl (n := 23) rfl ?_
      refine p_iload_n (z_dec zd_X9_isHeld 14 rfl) rfl 2 rfl (n := 24) rfl ?_
      refine p_dup2 (z_dec zd_X9_isHeld 15 rfl) rfl rfl (n := 25) rfl ?_
      refine q_iald (z_dec zd_X9_isHeld 16 rfl) rfl (by decide) (e) rfl (by omega) (v := ((z_up I 64 a ((I 64 a) ||| 3)) 64 e)) rfl (n := 26) rfl ?_
      refine p_iload (z_dec zd_X9_isHeld 17 rfl) 4 rfl (n := 28) rfl ?_
      refine p_if_eq (z_dec zd_X9_isHeld 18 rfl) (t := 35) (by decide) (n := 31) rfl (fun h28 => ?_) (fun h28 => ?_)
      · refine p_iconst (z_dec zd_X9_isHeld 21 rfl) (v := 1) (by decide) (n := 36) rfl ?_
        refine p_ior (z_dec zd_X9_isHeld 22 rfl) (n := 37) rfl ?_
        refine q_iast (z_dec zd_X9_isHeld 23 rfl) rfl (by decide) (e) rfl (by omega) (n := 38) rfl ?_
        refine p_aload_n (z_dec zd_X9_isHeld 24 rfl) rfl 0 rfl (n := 39) rfl ?_
        refine q_getR (z_dec zd_X9_isHeld 25 rfl) zf_X9_37 (i := 64) rfl rfl (n := 42) rfl ?_
        refine p_iload_n (z_dec zd_X9_isHeld 26 rfl) rfl 3 rfl (n := 43) rfl ?_
        refine p_dup2 (z_dec zd_X9_isHeld 27 rfl) rfl rfl (n := 44) rfl ?_
        refine q_iald (z_dec zd_X9_isHeld 28 rfl) rfl (by decide) (u) rfl (by omega) (v := ((z_up (z_up I 64 a ((I 64 a) ||| 3)) 64 e (((z_up I 64 a ((I 64 a) ||| 3)) 64 e) ||| 1)) 64 u)) rfl (n := 45) rfl ?_
        refine p_iconst (z_dec zd_X9_isHeld 29 rfl) (v := 1) (by decide) (n := 46) rfl ?_
        refine p_ior (z_dec zd_X9_isHeld 30 rfl) (n := 47) rfl ?_
        refine q_iast (z_dec zd_X9_isHeld 31 rfl) rfl (by decide) (u) rfl (by omega) (n := 48) rfl ?_
        exact p_vret (z_dec zd_X9_isHeld 32 rfl) rfl ⟨rfl, rfl, (z_3 (by unfold m_X9_isHeld; rw [if_pos h9, if_pos h28]) rfl)⟩
      · refine p_iconst (z_dec zd_X9_isHeld 19 rfl) (v := 3) (by decide) (n := 32) rfl ?_
        refine p_goto (z_dec zd_X9_isHeld 20 rfl) (t := 36) (by decide) ?_
        refine p_ior (z_dec zd_X9_isHeld 22 rfl) (n := 37) rfl ?_
        refine q_iast (z_dec zd_X9_isHeld 23 rfl) rfl (by decide) (e) rfl (by omega) (n := 38) rfl ?_
        refine p_aload_n (z_dec zd_X9_isHeld 24 rfl) rfl 0 rfl (n := 39) rfl ?_
        refine q_getR (z_dec zd_X9_isHeld 25 rfl) zf_X9_37 (i := 64) rfl rfl (n := 42) rfl ?_
        refine p_iload_n (z_dec zd_X9_isHeld 26 rfl) rfl 3 rfl (n := 43) rfl ?_
        refine p_dup2 (z_dec zd_X9_isHeld 27 rfl) rfl rfl (n := 44) rfl ?_
        refine q_iald (z_dec zd_X9_isHeld 28 rfl) rfl (by decide) (u) rfl (by omega) (v := ((z_up (z_up I 64 a ((I 64 a) ||| 3)) 64 e (((z_up I 64 a ((I 64 a) ||| 3)) 64 e) ||| 3)) 64 u)) rfl (n := 45) rfl ?_
        refine p_iconst (z_dec zd_X9_isHeld 29 rfl) (v := 1) (by decide) (n := 46) rfl ?_
        refine p_ior (z_dec zd_X9_isHeld 30 rfl) (n := 47) rfl ?_
        refine q_iast (z_dec zd_X9_isHeld 31 rfl) rfl (by decide) (u) rfl (by omega) (n := 48) rfl ?_
        exact p_vret (z_dec zd_X9_isHeld 32 rfl) rfl ⟨rfl, rfl, (z_3 (by unfold m_X9_isHeld; rw [if_pos h9, if_neg h28]) rfl)⟩
    · refine p_iconst (z_dec zd_X9_isHeld 7 rfl) (v := 1) (by decide) (n := 13) rfl ?_
      refine p_goto (z_dec zd_X9_isHeld 8 rfl) (t := 17) (by decide) ?_
      refine p_ior (z_dec zd_X9_isHeld 10 rfl) (n := 18) rfl ?_
      refine q_iast (z_dec zd_X9_isHeld 11 rfl) rfl (by decide) (a) rfl (by omega) (n := 19) rfl ?_
      refine p_aload_n (z_dec zd_X9_isHeld 12 rfl) rfl 0 rfl (n := 20) rfl ?_
      refine q_getR (z_dec zd_X9_isHeld 13 rfl) zf_X9_37 (i := 64) rfl rfl (n := 23) rfl ?_
      refine p_iload_n (z_dec zd_X9_isHeld 14 rfl) rfl 2 rfl (n := 24) rfl ?_
      refine p_dup2 (z_dec zd_X9_isHeld 15 rfl) rfl rfl (n := 25) rfl ?_
      refine q_iald (z_dec zd_X9_isHeld 16 rfl) rfl (by decide) (e) rfl (by omega) (v := ((z_up I 64 a ((I 64 a) ||| 1)) 64 e)) rfl (n := 26) rfl ?_
      refine p_iload (z_dec zd_X9_isHeld 17 rfl) 4 rfl (n := 28) rfl ?_
      refine p_if_eq (z_dec zd_X9_isHeld 18 rfl) (t := 35) (by decide) (n := 31) rfl (fun h28 => ?_) (fun h28 => ?_)
      · refine p_iconst (z_dec zd_X9_isHeld 21 rfl) (v := 1) (by decide) (n := 36) rfl ?_
        refine p_ior (z_dec zd_X9_isHeld 22 rfl) (n := 37) rfl ?_
        refine q_iast (z_dec zd_X9_isHeld 23 rfl) rfl (by decide) (e) rfl (by omega) (n := 38) rfl ?_
        refine p_aload_n (z_dec zd_X9_isHeld 24 rfl) rfl 0 rfl (n := 39) rfl ?_
        refine q_getR (z_dec zd_X9_isHeld 25 rfl) zf_X9_37 (i := 64) rfl rfl (n := 42) rfl ?_
        refine p_iload_n (z_dec zd_X9_isHeld 26 rfl) rfl 3 rfl (n := 43) rfl ?_
        refine p_dup2 (z_dec zd_X9_isHeld 27 rfl) rfl rfl (n := 44) rfl ?_
        refine q_iald (z_dec zd_X9_isHeld 28 rfl) rfl (by decide) (u) rfl (by omega) (v := ((z_up (z_up I 64 a ((I 64 a) ||| 1)) 64 e (((z_up I 64 a ((I 64 a) ||| 1)) 64 e) ||| 1)) 64 u)) rfl (n := 45) rfl ?_
        refine p_iconst (z_dec zd_X9_isHeld 29 rfl) (v := 1) (by decide) (n := 46) rfl ?_
        refine p_ior (z_dec zd_X9_isHeld 30 rfl) (n := 47) rfl ?_
        refine q_iast (z_dec zd_X9_isHeld 31 rfl) rfl (by decide) (u) rfl (by omega) (n := 48) rfl ?_
        exact p_vret (z_dec zd_X9_isHeld 32 rfl) rfl ⟨rfl, rfl, (z_3 (by unfold m_X9_isHeld; rw [if_neg h9, if_pos h28]) rfl)⟩
      · refine p_iconst (z_dec zd_X9_isHeld 19 rfl) (v := 3) (by decide) (n := 32) rfl ?_
        refine p_goto (z_dec zd_X9_isHeld 20 rfl) (t := 36) (by decide) ?_
        refine p_ior (z_dec zd_X9_isHeld 22 rfl) (n := 37) rfl ?_
        refine q_iast (z_dec zd_X9_isHeld 23 rfl) rfl (by decide) (e) rfl (by omega) (n := 38) rfl ?_
        refine p_aload_n (z_dec zd_X9_isHeld 24 rfl) rfl 0 rfl (n := 39) rfl ?_
        refine q_getR (z_dec zd_X9_isHeld 25 rfl) zf_X9_37 (i := 64) rfl rfl (n := 42) rfl ?_
        refine p_iload_n (z_dec zd_X9_isHeld 26 rfl) rfl 3 rfl (n := 43) rfl ?_
        refine p_dup2 (z_dec zd_X9_isHeld 27 rfl) rfl rfl (n := 44) rfl ?_
        refine q_iald (z_dec zd_X9_isHeld 28 rfl) rfl (by decide) (u) rfl (by omega) (v := ((z_up (z_up I 64 a ((I 64 a) ||| 1)) 64 e (((z_up I 64 a ((I 64 a) ||| 1)) 64 e) ||| 3)) 64 u)) rfl (n := 45) rfl ?_
        refine p_iconst (z_dec zd_X9_isHeld 29 rfl) (v := 1) (by decide) (n := 46) rfl ?_
        refine p_ior (z_dec zd_X9_isHeld 30 rfl) (n := 47) rfl ?_
        refine q_iast (z_dec zd_X9_isHeld 31 rfl) rfl (by decide) (u) rfl (by omega) (n := 48) rfl ?_
        exact p_vret (z_dec zd_X9_isHeld 32 rfl) rfl ⟨rfl, rfl, (z_3 (by unfold m_X9_isHeld; rw [if_neg h9, if_neg h28]) rfl)⟩
  exact hentry
def gb_X9_judgesNow_4 (I : Nat → Nat → Int32) (i4 : Nat) (s : Int32) : Int32 := (s ||| (((I 63 i4) - (I 63 i4) / 2 * 2) <<< ((nI i4) &&& 31)))
def g_X9_judgesNow_4 (I : Nat → Nat → Int32) : Nat → Int32
  | 0 => 0
  | i4 + 1 => gb_X9_judgesNow_4 I i4 (g_X9_judgesNow_4 I i4)
def f_X9_judgesNow (I : Nat → Nat → Int32) (np : Nat) : Int32 := (g_X9_judgesNow_4 I np)
set_option maxHeartbeats 4000000 in
set_option maxRecDepth 100000 in
theorem c_X9_judgesNow (d : Nat) (hd : 0 ≤ d) (b : Bool) (I : Nat → Nat → Int32) (L : Nat → Nat → Int64) (np : Nat) (hnp : I 54 6 = nI np) (hn10 : np ≤ 10) : z_CT zm_X9_judgesNow d [.ref 54] SH (I, L, z_R b) 0 0 (z_ret (some (.int (f_X9_judgesNow I np))) (I, L, z_R b)) := by
  refine z_enter (by decide +kernel) (Nat.le_of_ble_eq_true rfl) ?_
  have hentry : PW zm_X9_judgesNow d 0 [(0, .ref 54)] [] SH (I, L, z_R b) 0 0 (z_ret (some (.int (f_X9_judgesNow I np))) (I, L, z_R b)) := by
    refine p_iconst (z_dec zd_X9_judgesNow 0 rfl) (v := 0) (by decide) (n := 1) rfl ?_
    refine p_istore_n (z_dec zd_X9_judgesNow 1 rfl) rfl (lv2 := [(1, .int 0), (0, .ref 54)]) (by decide) rfl (n := 2) rfl ?_
    refine p_iconst (z_dec zd_X9_judgesNow 2 rfl) (v := 0) (by decide) (n := 3) rfl ?_
    refine p_istore_n (z_dec zd_X9_judgesNow 3 rfl) rfl (lv2 := [(2, .int 0), (1, .int 0), (0, .ref 54)]) (by decide) rfl (n := 4) rfl ?_
    have hL4 : ∀ i4, i4 ≤ np → PW zm_X9_judgesNow d 4 [(2, .int (nI i4)), (1, .int (g_X9_judgesNow_4 I i4)), (0, .ref 54)] [] SH (I, L, z_R b) 0 0 (z_ret (some (.int (f_X9_judgesNow I np))) (I, L, z_R b)) := by
      refine z_down np (fun i4 hi4 ih4 => ?_)
      refine p_iload_n (z_dec zd_X9_judgesNow 4 rfl) rfl 0 rfl (n := 5) rfl ?_
      refine p_aload_n (z_dec zd_X9_judgesNow 5 rfl) rfl 2 rfl (n := 6) rfl ?_
      refine q_getI (z_dec zd_X9_judgesNow 6 rfl) zf_X9_93 (by decide) rfl (v := (nI np)) hnp (n := 9) rfl ?_
      refine p_icmp_ge (z_dec zd_X9_judgesNow 7 rfl) (t := 31) (by decide) (n := 12) rfl (fun h9 => ?_) (fun h9 => ?_)
      · have hx4 : i4 = np := by have := z_ge (a := np) h9; omega
        rw [hx4]
        refine p_iload_n (z_dec zd_X9_judgesNow 21 rfl) rfl 1 rfl (n := 32) rfl ?_
        exact p_iret (z_dec zd_X9_judgesNow 22 rfl) rfl ⟨(by unfold f_X9_judgesNow; rfl), rfl, rfl⟩
      · have hx4 : i4 < np := by have := z_nge (a := np) h9; omega
        refine p_iload_n (z_dec zd_X9_judgesNow 8 rfl) rfl 1 rfl (n := 13) rfl ?_
        refine p_aload_n (z_dec zd_X9_judgesNow 9 rfl) rfl 2 rfl (n := 14) rfl ?_
        refine q_getR (z_dec zd_X9_judgesNow 10 rfl) zf_X9_34 (i := 63) rfl rfl (n := 17) rfl ?_
        refine p_iload_n (z_dec zd_X9_judgesNow 11 rfl) rfl 0 rfl (n := 18) rfl ?_
        refine q_iald (z_dec zd_X9_judgesNow 12 rfl) rfl (by decide) (i4) rfl (by omega) (v := (I 63 i4)) rfl (n := 19) rfl ?_
        refine p_iconst (z_dec zd_X9_judgesNow 13 rfl) (v := 2) (by decide) (n := 20) rfl ?_
        refine p_irem (z_dec zd_X9_judgesNow 14 rfl) (by decide) (n := 21) rfl ?_
        refine p_iload_n (z_dec zd_X9_judgesNow 15 rfl) rfl 0 rfl (n := 22) rfl ?_
        refine p_ishl (z_dec zd_X9_judgesNow 16 rfl) (n := 23) rfl ?_
        refine p_ior (z_dec zd_X9_judgesNow 17 rfl) (n := 24) rfl ?_
        refine p_istore_n (z_dec zd_X9_judgesNow 18 rfl) rfl (lv2 := [(1, .int ((g_X9_judgesNow_4 I i4) ||| (((I 63 i4) - (I 63 i4) / 2 * 2) <<< ((nI i4) &&& 31)))), (2, .int (nI i4)), (0, .ref 54)]) (by decide) rfl (n := 25) rfl ?_
        refine p_iinc (z_dec zd_X9_judgesNow 19 rfl) 1 rfl (v := (nI (i4 + 1))) (nI_1 _) (lv2 := [(2, .int (nI (i4 + 1))), (1, .int ((g_X9_judgesNow_4 I i4) ||| (((I 63 i4) - (I 63 i4) / 2 * 2) <<< ((nI i4) &&& 31)))), (0, .ref 54)]) (by decide) rfl (n := 28) rfl ?_
        refine p_goto (z_dec zd_X9_judgesNow 20 rfl) (t := 4) (by decide) ?_
        have eb : (g_X9_judgesNow_4 I) (i4 + 1) = ((g_X9_judgesNow_4 I i4) ||| (((I 63 i4) - (I 63 i4) / 2 * 2) <<< ((nI i4) &&& 31))) := by show gb_X9_judgesNow_4 I i4 ((g_X9_judgesNow_4 I) i4) = _; unfold gb_X9_judgesNow_4; rfl
        refine z_lv (lv' := [(2, .int (nI (i4 + 1))), (1, .int (g_X9_judgesNow_4 I (i4 + 1))), (0, .ref 54)]) (by rw [eb]) rfl rfl (ih4 (by omega))
    refine z_lv (lv' := [(2, .int (nI 0)), (1, .int (g_X9_judgesNow_4 I 0)), (0, .ref 54)]) rfl rfl rfl (hL4 0 (Nat.zero_le _))
  exact hentry
def gb_X9_begins_2 (I : Nat → Nat → Int32) (i2 : Nat) (s : (Nat → Nat → Int32)) : (Nat → Nat → Int32) := (z_up (z_up (z_up s 62 i2 (s 55 (10 + i2))) 63 i2 (s 55 (20 + i2))) 64 i2 (s 55 (30 + i2)))
def g_X9_begins_2 (I : Nat → Nat → Int32) : Nat → (Nat → Nat → Int32)
  | 0 => I
  | i2 + 1 => gb_X9_begins_2 I i2 (g_X9_begins_2 I i2)
theorem gi_X9_begins_2_54_6 (I : Nat → Nat → Int32) : ∀ i2, (g_X9_begins_2 I i2) 54 6 = I 54 6
  | 0 => rfl
  | i2 + 1 => by
    have ih := gi_X9_begins_2_54_6 I i2
    show (gb_X9_begins_2 I i2 (g_X9_begins_2 I i2)) 54 6 = _
    unfold gb_X9_begins_2
    (repeat' split) <;> simp [z_up, ih]
def m_X9_begins (I : Nat → Nat → Int32) (np : Nat) : Nat → Nat → Int32 := (z_up (g_X9_begins_2 I np) 54 20 ((g_X9_begins_2 I np) 55 40))
set_option maxHeartbeats 4000000 in
set_option maxRecDepth 100000 in
theorem c_X9_begins (d : Nat) (hd : 0 ≤ d) (b : Bool) (I : Nat → Nat → Int32) (L : Nat → Nat → Int64) (np : Nat) (hnp : I 54 6 = nI np) (hn10 : np ≤ 10) : z_CT zm_X9_begins d [.ref 54] SH (I, L, z_R b) 0 0 (z_ret (none) ((m_X9_begins I np), L, z_R b)) := by
  refine z_enter (by decide +kernel) (Nat.le_of_ble_eq_true rfl) ?_
  have hentry : PW zm_X9_begins d 0 [(0, .ref 54)] [] SH (I, L, z_R b) 0 0 (z_ret (none) ((m_X9_begins I np), L, z_R b)) := by
    refine p_iconst (z_dec zd_X9_begins 0 rfl) (v := 0) (by decide) (n := 1) rfl ?_
    refine p_istore_n (z_dec zd_X9_begins 1 rfl) rfl (lv2 := [(1, .int 0), (0, .ref 54)]) (by decide) rfl (n := 2) rfl ?_
    have hL2 : ∀ i2, i2 ≤ np → PW zm_X9_begins d 2 [(1, .int (nI i2)), (0, .ref 54)] [] SH ((g_X9_begins_2 I i2), L, z_R b) 0 0 (z_ret (none) ((m_X9_begins I np), L, z_R b)) := by
      refine z_down np (fun i2 hi2 ih2 => ?_)
      refine p_iload_n (z_dec zd_X9_begins 2 rfl) rfl 0 rfl (n := 3) rfl ?_
      refine p_aload_n (z_dec zd_X9_begins 3 rfl) rfl 1 rfl (n := 4) rfl ?_
      refine q_getI (z_dec zd_X9_begins 4 rfl) zf_X9_93 (by decide) rfl (v := (nI np)) ((gi_X9_begins_2_54_6 I i2).trans hnp) (n := 7) rfl ?_
      refine p_icmp_ge (z_dec zd_X9_begins 5 rfl) (t := 61) (by decide) (n := 10) rfl (fun h7 => ?_) (fun h7 => ?_)
      · have hx2 : i2 = np := by have := z_ge (a := np) h7; omega
        rw [hx2]
        refine p_aload_n (z_dec zd_X9_begins 38 rfl) rfl 1 rfl (n := 62) rfl ?_
        refine p_aload_n (z_dec zd_X9_begins 39 rfl) rfl 1 rfl (n := 63) rfl ?_
        refine q_getR (z_dec zd_X9_begins 40 rfl) zf_X9_9 (i := 55) rfl rfl (n := 66) rfl ?_
        refine p_bipush (z_dec zd_X9_begins 41 rfl) (v := 40) (by decide) (n := 68) rfl ?_
        refine q_iald (z_dec zd_X9_begins 42 rfl) rfl (by decide) (40) rfl (by decide) (v := ((g_X9_begins_2 I np) 55 40)) rfl (n := 69) rfl ?_
        refine q_putI (z_dec zd_X9_begins 43 rfl) zp_X9_194 (fun q => by cases q) rfl (n := 72) rfl ?_
        exact p_vret (z_dec zd_X9_begins 44 rfl) rfl ⟨rfl, rfl, (z_3 (by unfold m_X9_begins; rfl) rfl)⟩
      · have hx2 : i2 < np := by have := z_nge (a := np) h7; omega
        refine p_aload_n (z_dec zd_X9_begins 6 rfl) rfl 1 rfl (n := 11) rfl ?_
        refine q_getR (z_dec zd_X9_begins 7 rfl) zf_X9_31 (i := 62) rfl rfl (n := 14) rfl ?_
        refine p_iload_n (z_dec zd_X9_begins 8 rfl) rfl 0 rfl (n := 15) rfl ?_
        refine p_aload_n (z_dec zd_X9_begins 9 rfl) rfl 1 rfl (n := 16) rfl ?_
        refine q_getR (z_dec zd_X9_begins 10 rfl) zf_X9_9 (i := 55) rfl rfl (n := 19) rfl ?_
        refine p_bipush (z_dec zd_X9_begins 11 rfl) (v := 10) (by decide) (n := 21) rfl ?_
        refine p_iload_n (z_dec zd_X9_begins 12 rfl) rfl 0 rfl (n := 22) rfl ?_
        refine p_iadd (z_dec zd_X9_begins 13 rfl) (n := 23) rfl ?_
        refine q_iald (z_dec zd_X9_begins 14 rfl) rfl (by decide) (10 + i2) (z_addE rfl rfl) (by omega) (v := ((g_X9_begins_2 I i2) 55 (10 + i2))) rfl (n := 24) rfl ?_
        refine q_iast (z_dec zd_X9_begins 15 rfl) rfl (by decide) (i2) rfl (by omega) (n := 25) rfl ?_
        refine p_aload_n (z_dec zd_X9_begins 16 rfl) rfl 1 rfl (n := 26) rfl ?_
        refine q_getR (z_dec zd_X9_begins 17 rfl) zf_X9_34 (i := 63) rfl rfl (n := 29) rfl ?_
        refine p_iload_n (z_dec zd_X9_begins 18 rfl) rfl 0 rfl (n := 30) rfl ?_
        refine p_aload_n (z_dec zd_X9_begins 19 rfl) rfl 1 rfl (n := 31) rfl ?_
        refine q_getR (z_dec zd_X9_begins 20 rfl) zf_X9_9 (i := 55) rfl rfl (n := 34) rfl ?_
        refine p_bipush (z_dec zd_X9_begins 21 rfl) (v := 20) (by decide) (n := 36) rfl ?_
        refine p_iload_n (z_dec zd_X9_begins 22 rfl) rfl 0 rfl (n := 37) rfl ?_
        refine p_iadd (z_dec zd_X9_begins 23 rfl) (n := 38) rfl ?_
        refine q_iald (z_dec zd_X9_begins 24 rfl) rfl (by decide) (20 + i2) (z_addE rfl rfl) (by omega) (v := ((g_X9_begins_2 I i2) 55 (20 + i2))) rfl (n := 39) rfl ?_
        refine q_iast (z_dec zd_X9_begins 25 rfl) rfl (by decide) (i2) rfl (by omega) (n := 40) rfl ?_
        refine p_aload_n (z_dec zd_X9_begins 26 rfl) rfl 1 rfl (n := 41) rfl ?_
        refine q_getR (z_dec zd_X9_begins 27 rfl) zf_X9_37 (i := 64) rfl rfl (n := 44) rfl ?_
        refine p_iload_n (z_dec zd_X9_begins 28 rfl) rfl 0 rfl (n := 45) rfl ?_
        refine p_aload_n (z_dec zd_X9_begins 29 rfl) rfl 1 rfl (n := 46) rfl ?_
        refine q_getR (z_dec zd_X9_begins 30 rfl) zf_X9_9 (i := 55) rfl rfl (n := 49) rfl ?_
        refine p_bipush (z_dec zd_X9_begins 31 rfl) (v := 30) (by decide) (n := 51) rfl ?_
        refine p_iload_n (z_dec zd_X9_begins 32 rfl) rfl 0 rfl (n := 52) rfl ?_
        refine p_iadd (z_dec zd_X9_begins 33 rfl) (n := 53) rfl ?_
        refine q_iald (z_dec zd_X9_begins 34 rfl) rfl (by decide) (30 + i2) (z_addE rfl rfl) (by omega) (v := ((g_X9_begins_2 I i2) 55 (30 + i2))) rfl (n := 54) rfl ?_
        refine q_iast (z_dec zd_X9_begins 35 rfl) rfl (by decide) (i2) rfl (by omega) (n := 55) rfl ?_
        refine p_iinc (z_dec zd_X9_begins 36 rfl) 0 rfl (v := (nI (i2 + 1))) (nI_1 _) (lv2 := [(1, .int (nI (i2 + 1))), (0, .ref 54)]) (by decide) rfl (n := 58) rfl ?_
        refine p_goto (z_dec zd_X9_begins 37 rfl) (t := 2) (by decide) ?_
        have eb : (g_X9_begins_2 I) (i2 + 1) = (z_up (z_up (z_up (g_X9_begins_2 I i2) 62 i2 ((g_X9_begins_2 I i2) 55 (10 + i2))) 63 i2 ((g_X9_begins_2 I i2) 55 (20 + i2))) 64 i2 ((g_X9_begins_2 I i2) 55 (30 + i2))) := by show gb_X9_begins_2 I i2 ((g_X9_begins_2 I) i2) = _; unfold gb_X9_begins_2; rfl
        refine z_lv (lv' := [(1, .int (nI (i2 + 1))), (0, .ref 54)]) rfl rfl (by rw [eb]) (ih2 (by omega))
    refine z_lv (lv' := [(1, .int (nI 0)), (0, .ref 54)]) rfl rfl rfl (hL2 0 (Nat.zero_le _))
  exact hentry
def gb_X9_keepsAll_2 (I : Nat → Nat → Int32) (i2 : Nat) (s : (Nat → Nat → Int32)) : (Nat → Nat → Int32) := (z_up (z_up (z_up s 55 (10 + i2) (s 62 i2)) 55 (20 + i2) (s 63 i2)) 55 (30 + i2) (s 64 i2))
def g_X9_keepsAll_2 (I : Nat → Nat → Int32) : Nat → (Nat → Nat → Int32)
  | 0 => I
  | i2 + 1 => gb_X9_keepsAll_2 I i2 (g_X9_keepsAll_2 I i2)
theorem gi_X9_keepsAll_2_54_6 (I : Nat → Nat → Int32) : ∀ i2, (g_X9_keepsAll_2 I i2) 54 6 = I 54 6
  | 0 => rfl
  | i2 + 1 => by
    have ih := gi_X9_keepsAll_2_54_6 I i2
    show (gb_X9_keepsAll_2 I i2 (g_X9_keepsAll_2 I i2)) 54 6 = _
    unfold gb_X9_keepsAll_2
    (repeat' split) <;> simp [z_up, ih]
theorem gi_X9_keepsAll_2_54_20 (I : Nat → Nat → Int32) : ∀ i2, (g_X9_keepsAll_2 I i2) 54 20 = I 54 20
  | 0 => rfl
  | i2 + 1 => by
    have ih := gi_X9_keepsAll_2_54_20 I i2
    show (gb_X9_keepsAll_2 I i2 (g_X9_keepsAll_2 I i2)) 54 20 = _
    unfold gb_X9_keepsAll_2
    (repeat' split) <;> simp [z_up, ih]
def m_X9_keepsAll (I : Nat → Nat → Int32) (np : Nat) : Nat → Nat → Int32 := (z_up (g_X9_keepsAll_2 I np) 55 40 (I 54 20))
set_option maxHeartbeats 4000000 in
set_option maxRecDepth 100000 in
theorem c_X9_keepsAll (d : Nat) (hd : 0 ≤ d) (b : Bool) (I : Nat → Nat → Int32) (L : Nat → Nat → Int64) (np : Nat) (hnp : I 54 6 = nI np) (hn10 : np ≤ 10) : z_CT zm_X9_keepsAll d [.ref 54] SH (I, L, z_R b) 0 0 (z_ret (none) ((m_X9_keepsAll I np), L, z_R b)) := by
  refine z_enter (by decide +kernel) (Nat.le_of_ble_eq_true rfl) ?_
  have hentry : PW zm_X9_keepsAll d 0 [(0, .ref 54)] [] SH (I, L, z_R b) 0 0 (z_ret (none) ((m_X9_keepsAll I np), L, z_R b)) := by
    refine p_iconst (z_dec zd_X9_keepsAll 0 rfl) (v := 0) (by decide) (n := 1) rfl ?_
    refine p_istore_n (z_dec zd_X9_keepsAll 1 rfl) rfl (lv2 := [(1, .int 0), (0, .ref 54)]) (by decide) rfl (n := 2) rfl ?_
    have hL2 : ∀ i2, i2 ≤ np → PW zm_X9_keepsAll d 2 [(1, .int (nI i2)), (0, .ref 54)] [] SH ((g_X9_keepsAll_2 I i2), L, z_R b) 0 0 (z_ret (none) ((m_X9_keepsAll I np), L, z_R b)) := by
      refine z_down np (fun i2 hi2 ih2 => ?_)
      refine p_iload_n (z_dec zd_X9_keepsAll 2 rfl) rfl 0 rfl (n := 3) rfl ?_
      refine p_aload_n (z_dec zd_X9_keepsAll 3 rfl) rfl 1 rfl (n := 4) rfl ?_
      refine q_getI (z_dec zd_X9_keepsAll 4 rfl) zf_X9_93 (by decide) rfl (v := (nI np)) ((gi_X9_keepsAll_2_54_6 I i2).trans hnp) (n := 7) rfl ?_
      refine p_icmp_ge (z_dec zd_X9_keepsAll 5 rfl) (t := 61) (by decide) (n := 10) rfl (fun h7 => ?_) (fun h7 => ?_)
      · have hx2 : i2 = np := by have := z_ge (a := np) h7; omega
        rw [hx2]
        refine p_aload_n (z_dec zd_X9_keepsAll 38 rfl) rfl 1 rfl (n := 62) rfl ?_
        refine q_getR (z_dec zd_X9_keepsAll 39 rfl) zf_X9_9 (i := 55) rfl rfl (n := 65) rfl ?_
        refine p_bipush (z_dec zd_X9_keepsAll 40 rfl) (v := 40) (by decide) (n := 67) rfl ?_
        refine p_aload_n (z_dec zd_X9_keepsAll 41 rfl) rfl 1 rfl (n := 68) rfl ?_
        refine q_getI (z_dec zd_X9_keepsAll 42 rfl) zf_X9_194 (by decide) rfl (v := (I 54 20)) (gi_X9_keepsAll_2_54_20 I np) (n := 71) rfl ?_
        refine q_iast (z_dec zd_X9_keepsAll 43 rfl) rfl (by decide) (40) rfl (by decide) (n := 72) rfl ?_
        exact p_vret (z_dec zd_X9_keepsAll 44 rfl) rfl ⟨rfl, rfl, (z_3 (by unfold m_X9_keepsAll; rfl) rfl)⟩
      · have hx2 : i2 < np := by have := z_nge (a := np) h7; omega
        refine p_aload_n (z_dec zd_X9_keepsAll 6 rfl) rfl 1 rfl (n := 11) rfl ?_
        refine q_getR (z_dec zd_X9_keepsAll 7 rfl) zf_X9_9 (i := 55) rfl rfl (n := 14) rfl ?_
        refine p_bipush (z_dec zd_X9_keepsAll 8 rfl) (v := 10) (by decide) (n := 16) rfl ?_
        refine p_iload_n (z_dec zd_X9_keepsAll 9 rfl) rfl 0 rfl (n := 17) rfl ?_
        refine p_iadd (z_dec zd_X9_keepsAll 10 rfl) (n := 18) rfl ?_
        refine p_aload_n (z_dec zd_X9_keepsAll 11 rfl) rfl 1 rfl (n := 19) rfl ?_
        refine q_getR (z_dec zd_X9_keepsAll 12 rfl) zf_X9_31 (i := 62) rfl rfl (n := 22) rfl ?_
        refine p_iload_n (z_dec zd_X9_keepsAll 13 rfl) rfl 0 rfl (n := 23) rfl ?_
        refine q_iald (z_dec zd_X9_keepsAll 14 rfl) rfl (by decide) (i2) rfl (by omega) (v := ((g_X9_keepsAll_2 I i2) 62 i2)) rfl (n := 24) rfl ?_
        refine q_iast (z_dec zd_X9_keepsAll 15 rfl) rfl (by decide) (10 + i2) (z_addE rfl rfl) (by omega) (n := 25) rfl ?_
        refine p_aload_n (z_dec zd_X9_keepsAll 16 rfl) rfl 1 rfl (n := 26) rfl ?_
        refine q_getR (z_dec zd_X9_keepsAll 17 rfl) zf_X9_9 (i := 55) rfl rfl (n := 29) rfl ?_
        refine p_bipush (z_dec zd_X9_keepsAll 18 rfl) (v := 20) (by decide) (n := 31) rfl ?_
        refine p_iload_n (z_dec zd_X9_keepsAll 19 rfl) rfl 0 rfl (n := 32) rfl ?_
        refine p_iadd (z_dec zd_X9_keepsAll 20 rfl) (n := 33) rfl ?_
        refine p_aload_n (z_dec zd_X9_keepsAll 21 rfl) rfl 1 rfl (n := 34) rfl ?_
        refine q_getR (z_dec zd_X9_keepsAll 22 rfl) zf_X9_34 (i := 63) rfl rfl (n := 37) rfl ?_
        refine p_iload_n (z_dec zd_X9_keepsAll 23 rfl) rfl 0 rfl (n := 38) rfl ?_
        refine q_iald (z_dec zd_X9_keepsAll 24 rfl) rfl (by decide) (i2) rfl (by omega) (v := ((g_X9_keepsAll_2 I i2) 63 i2)) rfl (n := 39) rfl ?_
        refine q_iast (z_dec zd_X9_keepsAll 25 rfl) rfl (by decide) (20 + i2) (z_addE rfl rfl) (by omega) (n := 40) rfl ?_
        refine p_aload_n (z_dec zd_X9_keepsAll 26 rfl) rfl 1 rfl (n := 41) rfl ?_
        refine q_getR (z_dec zd_X9_keepsAll 27 rfl) zf_X9_9 (i := 55) rfl rfl (n := 44) rfl ?_
        refine p_bipush (z_dec zd_X9_keepsAll 28 rfl) (v := 30) (by decide) (n := 46) rfl ?_
        refine p_iload_n (z_dec zd_X9_keepsAll 29 rfl) rfl 0 rfl (n := 47) rfl ?_
        refine p_iadd (z_dec zd_X9_keepsAll 30 rfl) (n := 48) rfl ?_
        refine p_aload_n (z_dec zd_X9_keepsAll 31 rfl) rfl 1 rfl (n := 49) rfl ?_
        refine q_getR (z_dec zd_X9_keepsAll 32 rfl) zf_X9_37 (i := 64) rfl rfl (n := 52) rfl ?_
        refine p_iload_n (z_dec zd_X9_keepsAll 33 rfl) rfl 0 rfl (n := 53) rfl ?_
        refine q_iald (z_dec zd_X9_keepsAll 34 rfl) rfl (by decide) (i2) rfl (by omega) (v := ((g_X9_keepsAll_2 I i2) 64 i2)) rfl (n := 54) rfl ?_
        refine q_iast (z_dec zd_X9_keepsAll 35 rfl) rfl (by decide) (30 + i2) (z_addE rfl rfl) (by omega) (n := 55) rfl ?_
        refine p_iinc (z_dec zd_X9_keepsAll 36 rfl) 0 rfl (v := (nI (i2 + 1))) (nI_1 _) (lv2 := [(1, .int (nI (i2 + 1))), (0, .ref 54)]) (by decide) rfl (n := 58) rfl ?_
        refine p_goto (z_dec zd_X9_keepsAll 37 rfl) (t := 2) (by decide) ?_
        have eb : (g_X9_keepsAll_2 I) (i2 + 1) = (z_up (z_up (z_up (g_X9_keepsAll_2 I i2) 55 (10 + i2) ((g_X9_keepsAll_2 I i2) 62 i2)) 55 (20 + i2) ((g_X9_keepsAll_2 I i2) 63 i2)) 55 (30 + i2) ((g_X9_keepsAll_2 I i2) 64 i2)) := by show gb_X9_keepsAll_2 I i2 ((g_X9_keepsAll_2 I) i2) = _; unfold gb_X9_keepsAll_2; rfl
        refine z_lv (lv' := [(1, .int (nI (i2 + 1))), (0, .ref 54)]) rfl rfl (by rw [eb]) (ih2 (by omega))
    refine z_lv (lv' := [(1, .int (nI 0)), (0, .ref 54)]) rfl rfl rfl (hL2 0 (Nat.zero_le _))
  exact hentry
