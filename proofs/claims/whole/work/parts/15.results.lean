def gb_X2_beatenBy_4 (I : Nat → Nat → Int32) (group : Int32) (i4 : Nat) (s : Int32) : Int32 := if (group &&& ((1 : Int32) <<< ((nI i4) &&& 31))) = 0 then (s ||| 0) else (s ||| (I 27 i4))
def g_X2_beatenBy_4 (I : Nat → Nat → Int32) (group : Int32) : Nat → Int32
  | 0 => 0
  | i4 + 1 => gb_X2_beatenBy_4 I group i4 (g_X2_beatenBy_4 I group i4)
def f_X2_beatenBy (I : Nat → Nat → Int32) (np : Nat) (group : Int32) : Int32 := (g_X2_beatenBy_4 I group np)
set_option maxHeartbeats 4000000 in
set_option maxRecDepth 100000 in
theorem c_X2_beatenBy (d : Nat) (hd : 0 ≤ d) (b : Bool) (I : Nat → Nat → Int32) (L : Nat → Nat → Int64) (np : Nat) (hnp : I 26 0 = nI np) (hn10 : np ≤ 10) (group : Int32) : z_CT zm_X2_beatenBy d [.ref 26, .int group] SH (I, L, z_R b) 0 0 (z_ret (some (.int (f_X2_beatenBy I np group))) (I, L, z_R b)) := by
  refine z_enter (by decide +kernel) (Nat.le_of_ble_eq_true rfl) ?_
  have hentry : PW zm_X2_beatenBy d 0 [(0, .ref 26), (1, .int group)] [] SH (I, L, z_R b) 0 0 (z_ret (some (.int (f_X2_beatenBy I np group))) (I, L, z_R b)) := by
    refine p_iconst (z_dec zd_X2_beatenBy 0 rfl) (v := 0) (by decide) (n := 1) rfl ?_
    refine p_istore_n (z_dec zd_X2_beatenBy 1 rfl) rfl (lv2 := [(2, .int 0), (0, .ref 26), (1, .int group)]) (by decide) rfl (n := 2) rfl ?_
    refine p_iconst (z_dec zd_X2_beatenBy 2 rfl) (v := 0) (by decide) (n := 3) rfl ?_
    refine p_istore_n (z_dec zd_X2_beatenBy 3 rfl) rfl (lv2 := [(3, .int 0), (2, .int 0), (0, .ref 26), (1, .int group)]) (by decide) rfl (n := 4) rfl ?_
    have hL4 : ∀ i4, i4 ≤ np → PW zm_X2_beatenBy d 4 [(3, .int (nI i4)), (2, .int (g_X2_beatenBy_4 I group i4)), (0, .ref 26), (1, .int group)] [] SH (I, L, z_R b) 0 0 (z_ret (some (.int (f_X2_beatenBy I np group))) (I, L, z_R b)) := by
      refine z_down np (fun i4 hi4 ih4 => ?_)
      refine p_iload_n (z_dec zd_X2_beatenBy 4 rfl) rfl 0 rfl (n := 5) rfl ?_
      refine p_aload_n (z_dec zd_X2_beatenBy 5 rfl) rfl 2 rfl (n := 6) rfl ?_
      refine q_getI (z_dec zd_X2_beatenBy 6 rfl) zf_X2_9 (by decide) rfl (v := (nI np)) hnp (n := 9) rfl ?_
      refine p_icmp_ge (z_dec zd_X2_beatenBy 7 rfl) (t := 39) (by decide) (n := 12) rfl (fun h9 => ?_) (fun h9 => ?_)
      · have hx4 : i4 = np := by have := z_ge (a := np) h9; omega
        rw [hx4]
        refine p_iload_n (z_dec zd_X2_beatenBy 25 rfl) rfl 1 rfl (n := 40) rfl ?_
        exact p_iret (z_dec zd_X2_beatenBy 26 rfl) rfl ⟨(by unfold f_X2_beatenBy; rfl), rfl, rfl⟩
      · have hx4 : i4 < np := by have := z_nge (a := np) h9; omega
        refine p_iload_n (z_dec zd_X2_beatenBy 8 rfl) rfl 1 rfl (n := 13) rfl ?_
        refine p_iload_n (z_dec zd_X2_beatenBy 9 rfl) rfl 3 rfl (n := 14) rfl ?_
        refine p_iconst (z_dec zd_X2_beatenBy 10 rfl) (v := 1) (by decide) (n := 15) rfl ?_
        refine p_iload_n (z_dec zd_X2_beatenBy 11 rfl) rfl 0 rfl (n := 16) rfl ?_
        refine p_ishl (z_dec zd_X2_beatenBy 12 rfl) (n := 17) rfl ?_
        refine p_iand (z_dec zd_X2_beatenBy 13 rfl) (n := 18) rfl ?_
        refine p_if_eq (z_dec zd_X2_beatenBy 14 rfl) (t := 30) (by decide) (n := 21) rfl (fun h18 => ?_) (fun h18 => ?_)
        · refine p_iconst (z_dec zd_X2_beatenBy 20 rfl) (v := 0) (by decide) (n := 31) rfl ?_
          refine p_ior (z_dec zd_X2_beatenBy 21 rfl) (n := 32) rfl ?_
          refine p_istore_n (z_dec zd_X2_beatenBy 22 rfl) rfl (lv2 := [(2, .int ((g_X2_beatenBy_4 I group i4) ||| 0)), (3, .int (nI i4)), (0, .ref 26), (1, .int group)]) (by decide) rfl (n := 33) rfl ?_
          refine p_iinc (z_dec zd_X2_beatenBy 23 rfl) 1 rfl (v := (nI (i4 + 1))) (nI_1 _) (lv2 := [(3, .int (nI (i4 + 1))), (2, .int ((g_X2_beatenBy_4 I group i4) ||| 0)), (0, .ref 26), (1, .int group)]) (by decide) rfl (n := 36) rfl ?_
          refine p_goto (z_dec zd_X2_beatenBy 24 rfl) (t := 4) (by decide) ?_
          have eb : (g_X2_beatenBy_4 I group) (i4 + 1) = ((g_X2_beatenBy_4 I group i4) ||| 0) := by show gb_X2_beatenBy_4 I group i4 ((g_X2_beatenBy_4 I group) i4) = _; unfold gb_X2_beatenBy_4; rw [if_pos h18]
          refine z_lv (lv' := [(3, .int (nI (i4 + 1))), (2, .int (g_X2_beatenBy_4 I group (i4 + 1))), (0, .ref 26), (1, .int group)]) (by rw [eb]) rfl rfl (ih4 (by omega))
        · refine p_aload_n (z_dec zd_X2_beatenBy 15 rfl) rfl 2 rfl (n := 22) rfl ?_
          refine q_getR (z_dec zd_X2_beatenBy 16 rfl) zf_X2_15 (i := 27) rfl rfl (n := 25) rfl ?_
          refine p_iload_n (z_dec zd_X2_beatenBy 17 rfl) rfl 0 rfl (n := 26) rfl ?_
          refine q_iald (z_dec zd_X2_beatenBy 18 rfl) rfl (by decide) (i4) rfl (by omega) (v := (I 27 i4)) rfl (n := 27) rfl ?_
          refine p_goto (z_dec zd_X2_beatenBy 19 rfl) (t := 31) (by decide) ?_
          refine p_ior (z_dec zd_X2_beatenBy 21 rfl) (n := 32) rfl ?_
          refine p_istore_n (z_dec zd_X2_beatenBy 22 rfl) rfl (lv2 := [(2, .int ((g_X2_beatenBy_4 I group i4) ||| (I 27 i4))), (3, .int (nI i4)), (0, .ref 26), (1, .int group)]) (by decide) rfl (n := 33) rfl ?_
          refine p_iinc (z_dec zd_X2_beatenBy 23 rfl) 1 rfl (v := (nI (i4 + 1))) (nI_1 _) (lv2 := [(3, .int (nI (i4 + 1))), (2, .int ((g_X2_beatenBy_4 I group i4) ||| (I 27 i4))), (0, .ref 26), (1, .int group)]) (by decide) rfl (n := 36) rfl ?_
          refine p_goto (z_dec zd_X2_beatenBy 24 rfl) (t := 4) (by decide) ?_
          have eb : (g_X2_beatenBy_4 I group) (i4 + 1) = ((g_X2_beatenBy_4 I group i4) ||| (I 27 i4)) := by show gb_X2_beatenBy_4 I group i4 ((g_X2_beatenBy_4 I group) i4) = _; unfold gb_X2_beatenBy_4; rw [if_neg h18]
          refine z_lv (lv' := [(3, .int (nI (i4 + 1))), (2, .int (g_X2_beatenBy_4 I group (i4 + 1))), (0, .ref 26), (1, .int group)]) (by rw [eb]) rfl rfl (ih4 (by omega))
    refine z_lv (lv' := [(3, .int (nI 0)), (2, .int (g_X2_beatenBy_4 I group 0)), (0, .ref 26), (1, .int group)]) rfl rfl rfl (hL4 0 (Nat.zero_le _))
  exact hentry
def gx_X2_ringThrough_9 (I : Nat → Nat → Int32) (np : Nat) (one : Nat) : Nat → Nat → (Int32) → Int32
  | 0, t9, v2 => 0
  | r9 + 1, t9, v2 => if (v2 &&& ((1 : Int32) <<< ((nI one) &&& 31))) = 0 then gx_X2_ringThrough_9 I np one r9 (t9 + 1) (f_X2_beatenBy I np v2) else (nI (t9 + 1))
def f_X2_ringThrough (I : Nat → Nat → Int32) (np : Nat) (one : Nat) : Int32 := (gx_X2_ringThrough_9 I np one np 0 (I 27 one))
set_option maxHeartbeats 4000000 in
set_option maxRecDepth 100000 in
theorem c_X2_ringThrough (d : Nat) (hd : 1 ≤ d) (b : Bool) (I : Nat → Nat → Int32) (L : Nat → Nat → Int64) (np : Nat) (hnp : I 26 0 = nI np) (hn10 : np ≤ 10) (one : Nat) (hone : one < 10) : z_CT zm_X2_ringThrough d [.ref 26, .int (nI one)] SH (I, L, z_R b) 0 0 (z_ret (some (.int (f_X2_ringThrough I np one))) (I, L, z_R b)) := by
  refine z_enter (by decide +kernel) (Nat.le_of_ble_eq_true rfl) ?_
  have hentry : PW zm_X2_ringThrough d 0 [(0, .ref 26), (1, .int (nI one))] [] SH (I, L, z_R b) 0 0 (z_ret (some (.int (f_X2_ringThrough I np one))) (I, L, z_R b)) := by
    refine p_aload_n (z_dec zd_X2_ringThrough 0 rfl) rfl 0 rfl (n := 1) rfl ?_
    refine q_getR (z_dec zd_X2_ringThrough 1 rfl) zf_X2_15 (i := 27) rfl rfl (n := 4) rfl ?_
    refine p_iload_n (z_dec zd_X2_ringThrough 2 rfl) rfl 1 rfl (n := 5) rfl ?_
    refine q_iald (z_dec zd_X2_ringThrough 3 rfl) rfl (by decide) (one) rfl (by omega) (v := (I 27 one)) rfl (n := 6) rfl ?_
    refine p_istore_n (z_dec zd_X2_ringThrough 4 rfl) rfl (lv2 := [(2, .int (I 27 one)), (0, .ref 26), (1, .int (nI one))]) (by decide) rfl (n := 7) rfl ?_
    refine p_iconst (z_dec zd_X2_ringThrough 5 rfl) (v := 1) (by decide) (n := 8) rfl ?_
    refine p_istore_n (z_dec zd_X2_ringThrough 6 rfl) rfl (lv2 := [(3, .int 1), (2, .int (I 27 one)), (0, .ref 26), (1, .int (nI one))]) (by decide) rfl (n := 9) rfl ?_
    have hL9 : ∀ (r9 t9 : Nat) (v2 : Int32), t9 + r9 = np → PW zm_X2_ringThrough d 9 [(3, .int (nI (t9 + 1))), (2, .int v2), (0, .ref 26), (1, .int (nI one))] [] SH (I, L, z_R b) 0 0 (z_ret (some (.int (gx_X2_ringThrough_9 I np one r9 t9 v2))) (I, L, z_R b)) := by
      intro r9
      induction r9 with
      | zero =>
        intro t9 v2 ht9
        refine p_iload_n (z_dec zd_X2_ringThrough 7 rfl) rfl 0 rfl (n := 10) rfl ?_
        refine p_aload_n (z_dec zd_X2_ringThrough 8 rfl) rfl 2 rfl (n := 11) rfl ?_
        refine q_getI (z_dec zd_X2_ringThrough 9 rfl) zf_X2_9 (by decide) rfl (v := (nI np)) hnp (n := 14) rfl ?_
        refine p_icmp_gt (z_dec zd_X2_ringThrough 10 rfl) (t := 39) (by decide) (n := 17) rfl (fun h14 => ?_) (fun h14 => ?_)
        · refine p_iconst (z_dec zd_X2_ringThrough 25 rfl) (v := 0) (by decide) (n := 40) rfl ?_
          exact p_iret (z_dec zd_X2_ringThrough 26 rfl) rfl ⟨rfl, rfl, rfl⟩
        · exact absurd (z_nlt (a := np) h14) (by omega)
      | succ r9 ih9 =>
        intro t9 v2 ht9
        refine p_iload_n (z_dec zd_X2_ringThrough 7 rfl) rfl 0 rfl (n := 10) rfl ?_
        refine p_aload_n (z_dec zd_X2_ringThrough 8 rfl) rfl 2 rfl (n := 11) rfl ?_
        refine q_getI (z_dec zd_X2_ringThrough 9 rfl) zf_X2_9 (by decide) rfl (v := (nI np)) hnp (n := 14) rfl ?_
        refine p_icmp_gt (z_dec zd_X2_ringThrough 10 rfl) (t := 39) (by decide) (n := 17) rfl (fun h14 => ?_) (fun h14 => ?_)
        · exact absurd (z_lt (a := np) h14) (by omega)
        · have hx9 : t9 < np := by omega
          refine p_iload_n (z_dec zd_X2_ringThrough 11 rfl) rfl 1 rfl (n := 18) rfl ?_
          refine p_iconst (z_dec zd_X2_ringThrough 12 rfl) (v := 1) (by decide) (n := 19) rfl ?_
          refine p_iload_n (z_dec zd_X2_ringThrough 13 rfl) rfl 3 rfl (n := 20) rfl ?_
          refine p_ishl (z_dec zd_X2_ringThrough 14 rfl) (n := 21) rfl ?_
          refine p_iand (z_dec zd_X2_ringThrough 15 rfl) (n := 22) rfl ?_
          refine p_if_eq (z_dec zd_X2_ringThrough 16 rfl) (t := 27) (by decide) (n := 25) rfl (fun h22 => ?_) (fun h22 => ?_)
          · refine p_aload_n (z_dec zd_X2_ringThrough 19 rfl) rfl 2 rfl (n := 28) rfl ?_
            refine p_iload_n (z_dec zd_X2_ringThrough 20 rfl) rfl 1 rfl (n := 29) rfl ?_
            refine q_callV (As := [.int v2]) (rest := []) (z_dec zd_X2_ringThrough 21 rfl) zk_X2_67 zv_X2_beatenBy (c_X2_beatenBy (d - 1) (by omega) b I L np hnp hn10 v2) rfl ⟨_, _, rfl⟩ rfl rfl (Nat.le_of_ble_eq_true rfl) (by omega) (n := 32) rfl ?_
            show PW zm_X2_ringThrough d 32 [(3, .int (nI (t9 + 1))), (2, .int v2), (0, .ref 26), (1, .int (nI one))] [.int (f_X2_beatenBy I np v2)] SH (I, L, z_R b) 0 0 _
            refine p_istore_n (z_dec zd_X2_ringThrough 22 rfl) rfl (lv2 := [(2, .int (f_X2_beatenBy I np v2)), (3, .int (nI (t9 + 1))), (0, .ref 26), (1, .int (nI one))]) (by decide) rfl (n := 33) rfl ?_
            refine p_iinc (z_dec zd_X2_ringThrough 23 rfl) 1 rfl (v := (nI ((t9 + 1) + 1))) (nI_1 _) (lv2 := [(3, .int (nI ((t9 + 1) + 1))), (2, .int (f_X2_beatenBy I np v2)), (0, .ref 26), (1, .int (nI one))]) (by decide) rfl (n := 36) rfl ?_
            refine p_goto (z_dec zd_X2_ringThrough 24 rfl) (t := 9) (by decide) ?_
            rw [show gx_X2_ringThrough_9 I np one (r9 + 1) t9 v2 = gx_X2_ringThrough_9 I np one r9 (t9 + 1) (f_X2_beatenBy I np v2) from by (conv => lhs; unfold gx_X2_ringThrough_9); rw [if_pos h22]]
            exact ih9 (t9 + 1) (f_X2_beatenBy I np v2) (by omega)
          · refine p_iload_n (z_dec zd_X2_ringThrough 17 rfl) rfl 0 rfl (n := 26) rfl ?_
            exact p_iret (z_dec zd_X2_ringThrough 18 rfl) rfl ⟨(by (conv => rhs; unfold gx_X2_ringThrough_9); rw [if_neg h22]), rfl, rfl⟩
    exact (by have q := (hL9 np 0 (I 27 one) (by omega)); (rw [show f_X2_ringThrough I np one = _ from by unfold f_X2_ringThrough; rfl]); exact q)
  exact hentry
def gb_X2_smallestRing_4 (I : Nat → Nat → Int32) (np : Nat) (i4 : Nat) (s : Int32) : Int32 := if (f_X2_ringThrough I np i4) = 0 then s else if s = 0 then (f_X2_ringThrough I np i4) else if s ≤ (f_X2_ringThrough I np i4) then s else (f_X2_ringThrough I np i4)
def g_X2_smallestRing_4 (I : Nat → Nat → Int32) (np : Nat) : Nat → Int32
  | 0 => 0
  | i4 + 1 => gb_X2_smallestRing_4 I np i4 (g_X2_smallestRing_4 I np i4)
def f_X2_smallestRing (I : Nat → Nat → Int32) (np : Nat) : Int32 := (g_X2_smallestRing_4 I np np)
set_option maxHeartbeats 4000000 in
set_option maxRecDepth 100000 in
theorem c_X2_smallestRing (d : Nat) (hd : 2 ≤ d) (b : Bool) (I : Nat → Nat → Int32) (L : Nat → Nat → Int64) (np : Nat) (hnp : I 26 0 = nI np) (hn10 : np ≤ 10) : z_CT zm_X2_smallestRing d [.ref 26] SH (I, L, z_R b) 0 0 (z_ret (some (.int (f_X2_smallestRing I np))) (I, L, z_R b)) := by
  refine z_enter (by decide +kernel) (Nat.le_of_ble_eq_true rfl) ?_
  have hentry : PW zm_X2_smallestRing d 0 [(0, .ref 26)] [] SH (I, L, z_R b) 0 0 (z_ret (some (.int (f_X2_smallestRing I np))) (I, L, z_R b)) := by
    refine p_iconst (z_dec zd_X2_smallestRing 0 rfl) (v := 0) (by decide) (n := 1) rfl ?_
    refine p_istore_n (z_dec zd_X2_smallestRing 1 rfl) rfl (lv2 := [(1, .int 0), (0, .ref 26)]) (by decide) rfl (n := 2) rfl ?_
    refine p_iconst (z_dec zd_X2_smallestRing 2 rfl) (v := 0) (by decide) (n := 3) rfl ?_
    refine p_istore_n (z_dec zd_X2_smallestRing 3 rfl) rfl (lv2 := [(2, .int 0), (1, .int 0), (0, .ref 26)]) (by decide) rfl (n := 4) rfl ?_
    have hL4 : ∀ i4, i4 ≤ np → PW zm_X2_smallestRing d 4 [(2, .int (nI i4)), (1, .int (g_X2_smallestRing_4 I np i4)), (0, .ref 26)] [] SH (I, L, z_R b) 0 0 (z_ret (some (.int (f_X2_smallestRing I np))) (I, L, z_R b)) := by
      refine z_down np (fun i4 hi4 ih4 => ?_)
      refine p_iload_n (z_dec zd_X2_smallestRing 4 rfl) rfl 0 rfl (n := 5) rfl ?_
      refine p_aload_n (z_dec zd_X2_smallestRing 5 rfl) rfl 2 rfl (n := 6) rfl ?_
      refine q_getI (z_dec zd_X2_smallestRing 6 rfl) zf_X2_9 (by decide) rfl (v := (nI np)) hnp (n := 9) rfl ?_
      refine p_icmp_ge (z_dec zd_X2_smallestRing 7 rfl) (t := 39) (by decide) (n := 12) rfl (fun h9 => ?_) (fun h9 => ?_)
      · have hx4 : i4 = np := by have := z_ge (a := np) h9; omega
        rw [hx4]
        refine p_iload_n (z_dec zd_X2_smallestRing 23 rfl) rfl 1 rfl (n := 40) rfl ?_
        exact p_iret (z_dec zd_X2_smallestRing 24 rfl) rfl ⟨(by unfold f_X2_smallestRing; rfl), rfl, rfl⟩
      · have hx4 : i4 < np := by have := z_nge (a := np) h9; omega
        refine p_aload_n (z_dec zd_X2_smallestRing 8 rfl) rfl 2 rfl (n := 13) rfl ?_
        refine p_iload_n (z_dec zd_X2_smallestRing 9 rfl) rfl 0 rfl (n := 14) rfl ?_
        refine q_callV (As := [.int (nI i4)]) (rest := []) (z_dec zd_X2_smallestRing 10 rfl) zk_X2_64 zv_X2_ringThrough (c_X2_ringThrough (d - 1) (by omega) b I L np hnp hn10 i4 (by omega)) rfl ⟨_, _, rfl⟩ rfl rfl (Nat.le_of_ble_eq_true rfl) (by omega) (n := 17) rfl ?_
        show PW zm_X2_smallestRing d 17 [(2, .int (nI i4)), (1, .int (g_X2_smallestRing_4 I np i4)), (0, .ref 26)] [.int (f_X2_ringThrough I np i4)] SH (I, L, z_R b) 0 0 _
        refine p_istore_n (z_dec zd_X2_smallestRing 11 rfl) rfl (lv2 := [(3, .int (f_X2_ringThrough I np i4)), (2, .int (nI i4)), (1, .int (g_X2_smallestRing_4 I np i4)), (0, .ref 26)]) (by decide) rfl (n := 18) rfl ?_
        refine p_iload_n (z_dec zd_X2_smallestRing 12 rfl) rfl 0 rfl (n := 19) rfl ?_
        refine p_if_eq (z_dec zd_X2_smallestRing 13 rfl) (t := 33) (by decide) (n := 22) rfl (fun h19 => ?_) (fun h19 => ?_)
        · refine p_iinc (z_dec zd_X2_smallestRing 21 rfl) 1 rfl (v := (nI (i4 + 1))) (nI_1 _) (lv2 := [(2, .int (nI (i4 + 1))), (3, .int (f_X2_ringThrough I np i4)), (1, .int (g_X2_smallestRing_4 I np i4)), (0, .ref 26)]) (by decide) rfl (n := 36) rfl ?_
          refine p_goto (z_dec zd_X2_smallestRing 22 rfl) (t := 4) (by decide) ?_
          refine z_sub (lv' := [(2, .int (nI (i4 + 1))), (1, .int (g_X2_smallestRing_4 I np i4)), (0, .ref 26)]) [0, 2, 3] rfl ?_
          have eb : (g_X2_smallestRing_4 I np) (i4 + 1) = (g_X2_smallestRing_4 I np i4) := by show gb_X2_smallestRing_4 I np i4 ((g_X2_smallestRing_4 I np) i4) = _; unfold gb_X2_smallestRing_4; rw [if_pos h19]
          refine z_lv (lv' := [(2, .int (nI (i4 + 1))), (1, .int (g_X2_smallestRing_4 I np (i4 + 1))), (0, .ref 26)]) (by rw [eb]) rfl rfl (ih4 (by omega))
        · refine p_iload_n (z_dec zd_X2_smallestRing 14 rfl) rfl 2 rfl (n := 23) rfl ?_
          refine p_if_eq (z_dec zd_X2_smallestRing 15 rfl) (t := 31) (by decide) (n := 26) rfl (fun h23 => ?_) (fun h23 => ?_)
          · refine p_iload_n (z_dec zd_X2_smallestRing 19 rfl) rfl 0 rfl (n := 32) rfl ?_
            refine p_istore_n (z_dec zd_X2_smallestRing 20 rfl) rfl (lv2 := [(1, .int (f_X2_ringThrough I np i4)), (3, .int (f_X2_ringThrough I np i4)), (2, .int (nI i4)), (0, .ref 26)]) (by decide) rfl (n := 33) rfl ?_
            refine p_iinc (z_dec zd_X2_smallestRing 21 rfl) 2 rfl (v := (nI (i4 + 1))) (nI_1 _) (lv2 := [(2, .int (nI (i4 + 1))), (1, .int (f_X2_ringThrough I np i4)), (3, .int (f_X2_ringThrough I np i4)), (0, .ref 26)]) (by decide) rfl (n := 36) rfl ?_
            refine p_goto (z_dec zd_X2_smallestRing 22 rfl) (t := 4) (by decide) ?_
            refine z_sub (lv' := [(2, .int (nI (i4 + 1))), (1, .int (f_X2_ringThrough I np i4)), (0, .ref 26)]) [0, 1, 3] rfl ?_
            have eb : (g_X2_smallestRing_4 I np) (i4 + 1) = (f_X2_ringThrough I np i4) := by show gb_X2_smallestRing_4 I np i4 ((g_X2_smallestRing_4 I np) i4) = _; unfold gb_X2_smallestRing_4; rw [if_neg h19, if_pos h23]
            refine z_lv (lv' := [(2, .int (nI (i4 + 1))), (1, .int (g_X2_smallestRing_4 I np (i4 + 1))), (0, .ref 26)]) (by rw [eb]) rfl rfl (ih4 (by omega))
          · refine p_iload_n (z_dec zd_X2_smallestRing 16 rfl) rfl 0 rfl (n := 27) rfl ?_
            refine p_iload_n (z_dec zd_X2_smallestRing 17 rfl) rfl 2 rfl (n := 28) rfl ?_
            refine p_icmp_ge (z_dec zd_X2_smallestRing 18 rfl) (t := 33) (by decide) (n := 31) rfl (fun h28 => ?_) (fun h28 => ?_)
            · refine p_iinc (z_dec zd_X2_smallestRing 21 rfl) 1 rfl (v := (nI (i4 + 1))) (nI_1 _) (lv2 := [(2, .int (nI (i4 + 1))), (3, .int (f_X2_ringThrough I np i4)), (1, .int (g_X2_smallestRing_4 I np i4)), (0, .ref 26)]) (by decide) rfl (n := 36) rfl ?_
              refine p_goto (z_dec zd_X2_smallestRing 22 rfl) (t := 4) (by decide) ?_
              refine z_sub (lv' := [(2, .int (nI (i4 + 1))), (1, .int (g_X2_smallestRing_4 I np i4)), (0, .ref 26)]) [0, 2, 3] rfl ?_
              have eb : (g_X2_smallestRing_4 I np) (i4 + 1) = (g_X2_smallestRing_4 I np i4) := by show gb_X2_smallestRing_4 I np i4 ((g_X2_smallestRing_4 I np) i4) = _; unfold gb_X2_smallestRing_4; rw [if_neg h19, if_neg h23, if_pos h28]
              refine z_lv (lv' := [(2, .int (nI (i4 + 1))), (1, .int (g_X2_smallestRing_4 I np (i4 + 1))), (0, .ref 26)]) (by rw [eb]) rfl rfl (ih4 (by omega))
            · refine p_iload_n (z_dec zd_X2_smallestRing 19 rfl) rfl 0 rfl (n := 32) rfl ?_
              refine p_istore_n (z_dec zd_X2_smallestRing 20 rfl) rfl (lv2 := [(1, .int (f_X2_ringThrough I np i4)), (3, .int (f_X2_ringThrough I np i4)), (2, .int (nI i4)), (0, .ref 26)]) (by decide) rfl (n := 33) rfl ?_
              refine p_iinc (z_dec zd_X2_smallestRing 21 rfl) 2 rfl (v := (nI (i4 + 1))) (nI_1 _) (lv2 := [(2, .int (nI (i4 + 1))), (1, .int (f_X2_ringThrough I np i4)), (3, .int (f_X2_ringThrough I np i4)), (0, .ref 26)]) (by decide) rfl (n := 36) rfl ?_
              refine p_goto (z_dec zd_X2_smallestRing 22 rfl) (t := 4) (by decide) ?_
              refine z_sub (lv' := [(2, .int (nI (i4 + 1))), (1, .int (f_X2_ringThrough I np i4)), (0, .ref 26)]) [0, 1, 3] rfl ?_
              have eb : (g_X2_smallestRing_4 I np) (i4 + 1) = (f_X2_ringThrough I np i4) := by show gb_X2_smallestRing_4 I np i4 ((g_X2_smallestRing_4 I np) i4) = _; unfold gb_X2_smallestRing_4; rw [if_neg h19, if_neg h23, if_neg h28]
              refine z_lv (lv' := [(2, .int (nI (i4 + 1))), (1, .int (g_X2_smallestRing_4 I np (i4 + 1))), (0, .ref 26)]) (by rw [eb]) rfl rfl (ih4 (by omega))
    refine z_lv (lv' := [(2, .int (nI 0)), (1, .int (g_X2_smallestRing_4 I np 0)), (0, .ref 26)]) rfl rfl rfl (hL4 0 (Nat.zero_le _))
  exact hentry
def f_X2_upsetLedBy (I : Nat → Nat → Int32) (L : Nat → Nat → Int64) (one : Nat) (group : Nat) : Int32 := ((((((L 29 group).toUInt64 >>> ((6 * (nI one)).toInt64.toUInt64 &&& Int64.toUInt64 63)).toInt64).toInt32) &&& 63) + (I 30 (((nI group) &&& (((1 : Int32) <<< ((nI one) &&& 31)) ^^^ (-1))).toNatClampNeg)))
set_option maxHeartbeats 4000000 in
set_option maxRecDepth 100000 in
theorem c_X2_upsetLedBy (d : Nat) (hd : 0 ≤ d) (b : Bool) (I : Nat → Nat → Int32) (L : Nat → Nat → Int64) (np : Nat) (hnp : I 26 0 = nI np) (hn10 : np ≤ 10) (one : Nat) (hone : one < 10) (group : Nat) (hgroup : group < 1024) : z_CT zm_X2_upsetLedBy d [.ref 26, .int (nI one), .int (nI group)] SH (I, L, z_R b) 0 0 (z_ret (some (.int (f_X2_upsetLedBy I L one group))) (I, L, z_R b)) := by
  refine z_enter (by decide +kernel) (Nat.le_of_ble_eq_true rfl) ?_
  have hentry : PW zm_X2_upsetLedBy d 0 [(0, .ref 26), (1, .int (nI one)), (2, .int (nI group))] [] SH (I, L, z_R b) 0 0 (z_ret (some (.int (f_X2_upsetLedBy I L one group))) (I, L, z_R b)) := by
    refine p_aload_n (z_dec zd_X2_upsetLedBy 0 rfl) rfl 0 rfl (n := 1) rfl ?_
    refine q_getR (z_dec zd_X2_upsetLedBy 1 rfl) zf_X2_23 (i := 29) rfl rfl (n := 4) rfl ?_
    refine p_iload_n (z_dec zd_X2_upsetLedBy 2 rfl) rfl 2 rfl (n := 5) rfl ?_
    refine q_lald (z_dec zd_X2_upsetLedBy 3 rfl) rfl (by decide) (group) rfl (by omega) (v := (L 29 group)) rfl (n := 6) rfl ?_
    refine p_bipush (z_dec zd_X2_upsetLedBy 4 rfl) (v := 6) (by decide) (n := 8) rfl ?_
    refine p_iload_n (z_dec zd_X2_upsetLedBy 5 rfl) rfl 1 rfl (n := 9) rfl ?_
    refine p_imul (z_dec zd_X2_upsetLedBy 6 rfl) (n := 10) rfl ?_
    refine p_lushr (z_dec zd_X2_upsetLedBy 7 rfl) (n := 11) rfl ?_
    refine p_l2i (z_dec zd_X2_upsetLedBy 8 rfl) (n := 12) rfl ?_
    refine p_bipush (z_dec zd_X2_upsetLedBy 9 rfl) (v := 63) (by decide) (n := 14) rfl ?_
    refine p_iand (z_dec zd_X2_upsetLedBy 10 rfl) (n := 15) rfl ?_
    refine p_istore_n (z_dec zd_X2_upsetLedBy 11 rfl) rfl (lv2 := [(3, .int (((((L 29 group).toUInt64 >>> ((6 * (nI one)).toInt64.toUInt64 &&& Int64.toUInt64 63)).toInt64).toInt32) &&& 63)), (0, .ref 26), (1, .int (nI one)), (2, .int (nI group))]) (by decide) rfl (n := 16) rfl ?_
    refine p_iload_n (z_dec zd_X2_upsetLedBy 12 rfl) rfl 0 rfl (n := 17) rfl ?_
    refine p_aload_n (z_dec zd_X2_upsetLedBy 13 rfl) rfl 1 rfl (n := 18) rfl ?_
    refine q_getR (z_dec zd_X2_upsetLedBy 14 rfl) zf_X2_26 (i := 30) rfl rfl (n := 21) rfl ?_
    refine p_iload_n (z_dec zd_X2_upsetLedBy 15 rfl) rfl 3 rfl (n := 22) rfl ?_
    refine p_iconst (z_dec zd_X2_upsetLedBy 16 rfl) (v := 1) (by decide) (n := 23) rfl ?_
    refine p_iload_n (z_dec zd_X2_upsetLedBy 17 rfl) rfl 2 rfl (n := 24) rfl ?_
    refine p_ishl (z_dec zd_X2_upsetLedBy 18 rfl) (n := 25) rfl ?_
    refine p_iconst (z_dec zd_X2_upsetLedBy 19 rfl) (v := (-1)) (by decide) (n := 26) rfl ?_
    refine p_ixor (z_dec zd_X2_upsetLedBy 20 rfl) (n := 27) rfl ?_
    refine p_iand (z_dec zd_X2_upsetLedBy 21 rfl) (n := 28) rfl ?_
    refine q_iald (z_dec zd_X2_upsetLedBy 22 rfl) rfl (by decide) (((nI group) &&& (((1 : Int32) <<< ((nI one) &&& 31)) ^^^ (-1))).toNatClampNeg) (z_andN (by omega) _).1 (Nat.lt_of_le_of_lt (z_andN (by omega) _).2 hgroup) (v := (I 30 (((nI group) &&& (((1 : Int32) <<< ((nI one) &&& 31)) ^^^ (-1))).toNatClampNeg))) rfl (n := 29) rfl ?_
    refine p_iadd (z_dec zd_X2_upsetLedBy 23 rfl) (n := 30) rfl ?_
    exact p_iret (z_dec zd_X2_upsetLedBy 24 rfl) rfl ⟨(by unfold f_X2_upsetLedBy; rfl), rfl, rfl⟩
  exact hentry
def gb_X2_fewestOf_5 (I : Nat → Nat → Int32) (L : Nat → Nat → Int64) (group : Nat) (i5 : Nat) (s : Int32) : Int32 := if ((nI group) &&& ((1 : Int32) <<< ((nI i5) &&& 31))) = 0 then s else (if (f_X2_upsetLedBy I L i5 group) < s then (f_X2_upsetLedBy I L i5 group) else s)
def g_X2_fewestOf_5 (I : Nat → Nat → Int32) (L : Nat → Nat → Int64) (group : Nat) : Nat → Int32
  | 0 => 2147483647
  | i5 + 1 => gb_X2_fewestOf_5 I L group i5 (g_X2_fewestOf_5 I L group i5)
def f_X2_fewestOf (I : Nat → Nat → Int32) (L : Nat → Nat → Int64) (np : Nat) (group : Nat) : Int32 := (g_X2_fewestOf_5 I L group np)
set_option maxHeartbeats 4000000 in
set_option maxRecDepth 100000 in
theorem c_X2_fewestOf (d : Nat) (hd : 1 ≤ d) (b : Bool) (I : Nat → Nat → Int32) (L : Nat → Nat → Int64) (np : Nat) (hnp : I 26 0 = nI np) (hn10 : np ≤ 10) (group : Nat) (hgroup : group < 1024) : z_CT zm_X2_fewestOf d [.ref 26, .int (nI group)] SH (I, L, z_R b) 0 0 (z_ret (some (.int (f_X2_fewestOf I L np group))) (I, L, z_R b)) := by
  refine z_enter (by decide +kernel) (Nat.le_of_ble_eq_true rfl) ?_
  have hentry : PW zm_X2_fewestOf d 0 [(0, .ref 26), (1, .int (nI group))] [] SH (I, L, z_R b) 0 0 (z_ret (some (.int (f_X2_fewestOf I L np group))) (I, L, z_R b)) := by
    refine p_ldc (z_dec zd_X2_fewestOf 0 rfl) zq_X2_51 (n := 2) rfl ?_
    refine p_istore_n (z_dec zd_X2_fewestOf 1 rfl) rfl (lv2 := [(2, .int 2147483647), (0, .ref 26), (1, .int (nI group))]) (by decide) rfl (n := 3) rfl ?_
    refine p_iconst (z_dec zd_X2_fewestOf 2 rfl) (v := 0) (by decide) (n := 4) rfl ?_
    refine p_istore_n (z_dec zd_X2_fewestOf 3 rfl) rfl (lv2 := [(3, .int 0), (2, .int 2147483647), (0, .ref 26), (1, .int (nI group))]) (by decide) rfl (n := 5) rfl ?_
    have hL5 : ∀ i5, i5 ≤ np → PW zm_X2_fewestOf d 5 [(3, .int (nI i5)), (2, .int (g_X2_fewestOf_5 I L group i5)), (0, .ref 26), (1, .int (nI group))] [] SH (I, L, z_R b) 0 0 (z_ret (some (.int (f_X2_fewestOf I L np group))) (I, L, z_R b)) := by
      refine z_down np (fun i5 hi5 ih5 => ?_)
      refine p_iload_n (z_dec zd_X2_fewestOf 4 rfl) rfl 0 rfl (n := 6) rfl ?_
      refine p_aload_n (z_dec zd_X2_fewestOf 5 rfl) rfl 2 rfl (n := 7) rfl ?_
      refine q_getI (z_dec zd_X2_fewestOf 6 rfl) zf_X2_9 (by decide) rfl (v := (nI np)) hnp (n := 10) rfl ?_
      refine p_icmp_ge (z_dec zd_X2_fewestOf 7 rfl) (t := 38) (by decide) (n := 13) rfl (fun h10 => ?_) (fun h10 => ?_)
      · have hx5 : i5 = np := by have := z_ge (a := np) h10; omega
        rw [hx5]
        refine p_iload_n (z_dec zd_X2_fewestOf 23 rfl) rfl 1 rfl (n := 39) rfl ?_
        exact p_iret (z_dec zd_X2_fewestOf 24 rfl) rfl ⟨(by unfold f_X2_fewestOf; rfl), rfl, rfl⟩
      · have hx5 : i5 < np := by have := z_nge (a := np) h10; omega
        refine p_iload_n (z_dec zd_X2_fewestOf 8 rfl) rfl 3 rfl (n := 14) rfl ?_
        refine p_iconst (z_dec zd_X2_fewestOf 9 rfl) (v := 1) (by decide) (n := 15) rfl ?_
        refine p_iload_n (z_dec zd_X2_fewestOf 10 rfl) rfl 0 rfl (n := 16) rfl ?_
        refine p_ishl (z_dec zd_X2_fewestOf 11 rfl) (n := 17) rfl ?_
        refine p_iand (z_dec zd_X2_fewestOf 12 rfl) (n := 18) rfl ?_
        refine p_if_eq (z_dec zd_X2_fewestOf 13 rfl) (t := 32) (by decide) (n := 21) rfl (fun h18 => ?_) (fun h18 => ?_)
        · refine p_iinc (z_dec zd_X2_fewestOf 21 rfl) 0 rfl (v := (nI (i5 + 1))) (nI_1 _) (lv2 := [(3, .int (nI (i5 + 1))), (2, .int (g_X2_fewestOf_5 I L group i5)), (0, .ref 26), (1, .int (nI group))]) (by decide) rfl (n := 35) rfl ?_
          refine p_goto (z_dec zd_X2_fewestOf 22 rfl) (t := 5) (by decide) ?_
          have eb : (g_X2_fewestOf_5 I L group) (i5 + 1) = (g_X2_fewestOf_5 I L group i5) := by show gb_X2_fewestOf_5 I L group i5 ((g_X2_fewestOf_5 I L group) i5) = _; unfold gb_X2_fewestOf_5; rw [if_pos h18]
          refine z_lv (lv' := [(3, .int (nI (i5 + 1))), (2, .int (g_X2_fewestOf_5 I L group (i5 + 1))), (0, .ref 26), (1, .int (nI group))]) (by rw [eb]) rfl rfl (ih5 (by omega))
        · refine p_iload_n (z_dec zd_X2_fewestOf 14 rfl) rfl 1 rfl (n := 22) rfl ?_
          refine p_aload_n (z_dec zd_X2_fewestOf 15 rfl) rfl 2 rfl (n := 23) rfl ?_
          refine p_iload_n (z_dec zd_X2_fewestOf 16 rfl) rfl 0 rfl (n := 24) rfl ?_
          refine p_iload_n (z_dec zd_X2_fewestOf 17 rfl) rfl 3 rfl (n := 25) rfl ?_
          refine q_callV (As := [.int (nI i5), .int (nI group)]) (rest := [.int (g_X2_fewestOf_5 I L group i5)]) (z_dec zd_X2_fewestOf 18 rfl) zk_X2_52 zv_X2_upsetLedBy (c_X2_upsetLedBy (d - 1) (by omega) b I L np hnp hn10 i5 (by omega) group (by omega)) rfl ⟨_, _, rfl⟩ rfl rfl (Nat.le_of_ble_eq_true rfl) (by omega) (n := 28) rfl ?_
          show PW zm_X2_fewestOf d 28 [(3, .int (nI i5)), (2, .int (g_X2_fewestOf_5 I L group i5)), (0, .ref 26), (1, .int (nI group))] [.int (f_X2_upsetLedBy I L i5 group), .int (g_X2_fewestOf_5 I L group i5)] SH (I, L, z_R b) 0 0 _
          refine p_mmin (z_dec zd_X2_fewestOf 19 rfl) zk_X2_56 (by omega) (Nat.le_of_ble_eq_true rfl) (n := 31) rfl ?_
          refine p_istore_n (z_dec zd_X2_fewestOf 20 rfl) rfl (lv2 := [(2, .int (if (f_X2_upsetLedBy I L i5 group) < (g_X2_fewestOf_5 I L group i5) then (f_X2_upsetLedBy I L i5 group) else (g_X2_fewestOf_5 I L group i5))), (3, .int (nI i5)), (0, .ref 26), (1, .int (nI group))]) (by decide) rfl (n := 32) rfl ?_
          refine p_iinc (z_dec zd_X2_fewestOf 21 rfl) 1 rfl (v := (nI (i5 + 1))) (nI_1 _) (lv2 := [(3, .int (nI (i5 + 1))), (2, .int (if (f_X2_upsetLedBy I L i5 group) < (g_X2_fewestOf_5 I L group i5) then (f_X2_upsetLedBy I L i5 group) else (g_X2_fewestOf_5 I L group i5))), (0, .ref 26), (1, .int (nI group))]) (by decide) rfl (n := 35) rfl ?_
          refine p_goto (z_dec zd_X2_fewestOf 22 rfl) (t := 5) (by decide) ?_
          have eb : (g_X2_fewestOf_5 I L group) (i5 + 1) = (if (f_X2_upsetLedBy I L i5 group) < (g_X2_fewestOf_5 I L group i5) then (f_X2_upsetLedBy I L i5 group) else (g_X2_fewestOf_5 I L group i5)) := by show gb_X2_fewestOf_5 I L group i5 ((g_X2_fewestOf_5 I L group) i5) = _; unfold gb_X2_fewestOf_5; rw [if_neg h18]
          refine z_lv (lv' := [(3, .int (nI (i5 + 1))), (2, .int (g_X2_fewestOf_5 I L group (i5 + 1))), (0, .ref 26), (1, .int (nI group))]) (by rw [eb]) rfl rfl (ih5 (by omega))
    refine z_lv (lv' := [(3, .int (nI 0)), (2, .int (g_X2_fewestOf_5 I L group 0)), (0, .ref 26), (1, .int (nI group))]) rfl rfl rfl (hL5 0 (Nat.zero_le _))
  exact hentry
def gx_X2_leaderOf_4 (I : Nat → Nat → Int32) (L : Nat → Nat → Int64) (group : Nat) : Nat → Nat → Int32
  | 0, t4 => 0
  | r4 + 1, t4 => if ((nI group) &&& ((1 : Int32) <<< ((nI t4) &&& 31))) = 0 then gx_X2_leaderOf_4 I L group r4 (t4 + 1)  else if (f_X2_upsetLedBy I L t4 group) = (I 30 group) then (nI t4) else gx_X2_leaderOf_4 I L group r4 (t4 + 1) 
def f_X2_leaderOf (I : Nat → Nat → Int32) (L : Nat → Nat → Int64) (np : Nat) (group : Nat) : Int32 := (gx_X2_leaderOf_4 I L group np 0 )
set_option maxHeartbeats 4000000 in
set_option maxRecDepth 100000 in
theorem c_X2_leaderOf (d : Nat) (hd : 1 ≤ d) (b : Bool) (I : Nat → Nat → Int32) (L : Nat → Nat → Int64) (np : Nat) (hnp : I 26 0 = nI np) (hn10 : np ≤ 10) (group : Nat) (hgroup : group < 1024) : z_CT zm_X2_leaderOf d [.ref 26, .int (nI group)] SH (I, L, z_R b) 0 0 (z_ret (some (.int (f_X2_leaderOf I L np group))) (I, L, z_R b)) := by
  refine z_enter (by decide +kernel) (Nat.le_of_ble_eq_true rfl) ?_
  have hentry : PW zm_X2_leaderOf d 0 [(0, .ref 26), (1, .int (nI group))] [] SH (I, L, z_R b) 0 0 (z_ret (some (.int (f_X2_leaderOf I L np group))) (I, L, z_R b)) := by
    refine p_iconst (z_dec zd_X2_leaderOf 0 rfl) (v := 0) (by decide) (n := 1) rfl ?_
    refine p_istore_n (z_dec zd_X2_leaderOf 1 rfl) rfl (lv2 := [(2, .int 0), (0, .ref 26), (1, .int (nI group))]) (by decide) rfl (n := 2) rfl ?_
    refine p_iconst (z_dec zd_X2_leaderOf 2 rfl) (v := 0) (by decide) (n := 3) rfl ?_
    refine p_istore_n (z_dec zd_X2_leaderOf 3 rfl) rfl (lv2 := [(3, .int 0), (2, .int 0), (0, .ref 26), (1, .int (nI group))]) (by decide) rfl (n := 4) rfl ?_
    have hL4 : ∀ (r4 t4 : Nat) , t4 + r4 = np → PW zm_X2_leaderOf d 4 [(3, .int (nI t4)), (2, .int 0), (0, .ref 26), (1, .int (nI group))] [] SH (I, L, z_R b) 0 0 (z_ret (some (.int (gx_X2_leaderOf_4 I L group r4 t4 ))) (I, L, z_R b)) := by
      intro r4
      induction r4 with
      | zero =>
        intro t4  ht4
        refine p_iload_n (z_dec zd_X2_leaderOf 4 rfl) rfl 0 rfl (n := 5) rfl ?_
        refine p_aload_n (z_dec zd_X2_leaderOf 5 rfl) rfl 2 rfl (n := 6) rfl ?_
        refine q_getI (z_dec zd_X2_leaderOf 6 rfl) zf_X2_9 (by decide) rfl (v := (nI np)) hnp (n := 9) rfl ?_
        refine p_icmp_ge (z_dec zd_X2_leaderOf 7 rfl) (t := 46) (by decide) (n := 12) rfl (fun h9 => ?_) (fun h9 => ?_)
        · refine p_iload_n (z_dec zd_X2_leaderOf 28 rfl) rfl 1 rfl (n := 47) rfl ?_
          exact p_iret (z_dec zd_X2_leaderOf 29 rfl) rfl ⟨rfl, rfl, rfl⟩
        · exact absurd (z_nge (a := np) h9) (by omega)
      | succ r4 ih4 =>
        intro t4  ht4
        refine p_iload_n (z_dec zd_X2_leaderOf 4 rfl) rfl 0 rfl (n := 5) rfl ?_
        refine p_aload_n (z_dec zd_X2_leaderOf 5 rfl) rfl 2 rfl (n := 6) rfl ?_
        refine q_getI (z_dec zd_X2_leaderOf 6 rfl) zf_X2_9 (by decide) rfl (v := (nI np)) hnp (n := 9) rfl ?_
        refine p_icmp_ge (z_dec zd_X2_leaderOf 7 rfl) (t := 46) (by decide) (n := 12) rfl (fun h9 => ?_) (fun h9 => ?_)
        · exact absurd (z_ge (a := np) h9) (by omega)
        · have hx4 : t4 < np := by omega
          refine p_iload_n (z_dec zd_X2_leaderOf 8 rfl) rfl 3 rfl (n := 13) rfl ?_
          refine p_iconst (z_dec zd_X2_leaderOf 9 rfl) (v := 1) (by decide) (n := 14) rfl ?_
          refine p_iload_n (z_dec zd_X2_leaderOf 10 rfl) rfl 0 rfl (n := 15) rfl ?_
          refine p_ishl (z_dec zd_X2_leaderOf 11 rfl) (n := 16) rfl ?_
          refine p_iand (z_dec zd_X2_leaderOf 12 rfl) (n := 17) rfl ?_
          refine p_if_eq (z_dec zd_X2_leaderOf 13 rfl) (t := 40) (by decide) (n := 20) rfl (fun h17 => ?_) (fun h17 => ?_)
          · refine p_iinc (z_dec zd_X2_leaderOf 26 rfl) 0 rfl (v := (nI (t4 + 1))) (nI_1 _) (lv2 := [(3, .int (nI (t4 + 1))), (2, .int 0), (0, .ref 26), (1, .int (nI group))]) (by decide) rfl (n := 43) rfl ?_
            refine p_goto (z_dec zd_X2_leaderOf 27 rfl) (t := 4) (by decide) ?_
            rw [show gx_X2_leaderOf_4 I L group (r4 + 1) t4  = gx_X2_leaderOf_4 I L group r4 (t4 + 1)  from by (conv => lhs; unfold gx_X2_leaderOf_4); rw [if_pos h17]]
            exact ih4 (t4 + 1)  (by omega)
          · refine p_aload_n (z_dec zd_X2_leaderOf 14 rfl) rfl 2 rfl (n := 21) rfl ?_
            refine p_iload_n (z_dec zd_X2_leaderOf 15 rfl) rfl 0 rfl (n := 22) rfl ?_
            refine p_iload_n (z_dec zd_X2_leaderOf 16 rfl) rfl 3 rfl (n := 23) rfl ?_
            refine q_callV (As := [.int (nI t4), .int (nI group)]) (rest := []) (z_dec zd_X2_leaderOf 17 rfl) zk_X2_52 zv_X2_upsetLedBy (c_X2_upsetLedBy (d - 1) (by omega) b I L np hnp hn10 t4 (by omega) group (by omega)) rfl ⟨_, _, rfl⟩ rfl rfl (Nat.le_of_ble_eq_true rfl) (by omega) (n := 26) rfl ?_
            show PW zm_X2_leaderOf d 26 [(3, .int (nI t4)), (2, .int 0), (0, .ref 26), (1, .int (nI group))] [.int (f_X2_upsetLedBy I L t4 group)] SH (I, L, z_R b) 0 0 _
            refine p_aload_n (z_dec zd_X2_leaderOf 18 rfl) rfl 2 rfl (n := 27) rfl ?_
            refine q_getR (z_dec zd_X2_leaderOf 19 rfl) zf_X2_26 (i := 30) rfl rfl (n := 30) rfl ?_
            refine p_iload_n (z_dec zd_X2_leaderOf 20 rfl) rfl 3 rfl (n := 31) rfl ?_
            refine q_iald (z_dec zd_X2_leaderOf 21 rfl) rfl (by decide) (group) rfl (by omega) (v := (I 30 group)) rfl (n := 32) rfl ?_
            refine p_icmp_ne (z_dec zd_X2_leaderOf 22 rfl) (t := 40) (by decide) (n := 35) rfl (fun h32 => ?_) (fun h32 => ?_)
            · refine p_iinc (z_dec zd_X2_leaderOf 26 rfl) 0 rfl (v := (nI (t4 + 1))) (nI_1 _) (lv2 := [(3, .int (nI (t4 + 1))), (2, .int 0), (0, .ref 26), (1, .int (nI group))]) (by decide) rfl (n := 43) rfl ?_
              refine p_goto (z_dec zd_X2_leaderOf 27 rfl) (t := 4) (by decide) ?_
              rw [show gx_X2_leaderOf_4 I L group (r4 + 1) t4  = gx_X2_leaderOf_4 I L group r4 (t4 + 1)  from by (conv => lhs; unfold gx_X2_leaderOf_4); rw [if_neg h17, if_neg h32]]
              exact ih4 (t4 + 1)  (by omega)
            · refine p_iload_n (z_dec zd_X2_leaderOf 23 rfl) rfl 0 rfl (n := 36) rfl ?_
              refine p_istore_n (z_dec zd_X2_leaderOf 24 rfl) rfl (lv2 := [(2, .int (nI t4)), (3, .int (nI t4)), (0, .ref 26), (1, .int (nI group))]) (by decide) rfl (n := 37) rfl ?_
              refine p_goto (z_dec zd_X2_leaderOf 25 rfl) (t := 46) (by decide) ?_
              refine p_iload_n (z_dec zd_X2_leaderOf 28 rfl) rfl 0 rfl (n := 47) rfl ?_
              exact p_iret (z_dec zd_X2_leaderOf 29 rfl) rfl ⟨(by (conv => rhs; unfold gx_X2_leaderOf_4); rw [if_neg h17, if_pos h32]), rfl, rfl⟩
    exact (by have q := (hL4 np 0  (by omega)); (rw [show f_X2_leaderOf I L np group = _ from by unfold f_X2_leaderOf; rfl]); exact q)
  exact hentry
