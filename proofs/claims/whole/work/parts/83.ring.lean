theorem yq_Wg10 {np : Nat} {I : Nat → Nat → Int32} (h : yq_W np I) : ∀ (r t : Nat) (L : Nat → Nat → Int64), yq_W np (gw_X2_read_10 r t I L).1
  | 0, t, L => h
  | r + 1, t, L => by
    unfold gw_X2_read_10
    exact yq_Wg10 (yq_Wu h (by decide) _ _) r (t + 1) _
theorem yq_Wg38 {np k : Nat} : ∀ (r t : Nat) (I : Nat → Nat → Int32) (L : Nat → Nat → Int64), yq_W np I → yq_W np (gx_X2_read_38 k r t I L).1
  | 0, t, I, L, h => h
  | r + 1, t, I, L, h => by
    unfold gx_X2_read_38
    (repeat' split) <;> first | exact h | exact yq_Wg38 r (t + 1) _ _ h | exact yq_Wg38 r (t + 1) _ _ (yq_Wu h (by decide) _ _)
theorem yq_Wrd (I : Nat → Nat → Int32) (L : Nat → Nat → Int64) (np k : Nat) : yq_W np (m_X2_read I L np k) := yq_Wg38 20 0 _ _ (yq_Wg10 (z_up_s _ _ _ _) 10 0 L)
theorem yq_Wg16 {np : Nat} : ∀ (r t : Nat) (I : Nat → Nat → Int32) (L : Nat → Nat → Int64), yq_W np I → yq_W np (gw_X2_weigh_16 np r t I L).1
  | 0, t, I, L, h => h
  | r + 1, t, I, L, h => by
    unfold gw_X2_weigh_16
    exact yq_Wg16 r (t + 1) _ _ (gi_gw_X2_weigh_26 _ _ _ _ h)
theorem yq_Wwg {np : Nat} {I : Nat → Nat → Int32} (L : Nat → Nat → Int64) (h : yq_W np I) : yq_W np (m_X2_weigh I L np) := yq_Wg16 np 0 _ _ (yq_Wu h (by decide) _ _)
def f_X8_ring (I : Nat → Nat → Int32) (L : Nat → Nat → Int64) (np : Nat) (sh : Int32) : Int32 := if (f_X8_bytesRefusal I sh) = 0 then if (f_X2_smallestRing (m_X2_read I L np (42 + 2 * sh.toNatClampNeg)) np) = 0 then (-2) else (f_X2_smallestRing (m_X2_read I L np (42 + 2 * sh.toNatClampNeg)) np) else (f_X8_bytesRefusal I sh)
def m_X8_ring (I : Nat → Nat → Int32) (L : Nat → Nat → Int64) (np : Nat) (sh : Int32) : Nat → Nat → Int32 := if (f_X8_bytesRefusal I sh) = 0 then if (f_X2_smallestRing (m_X2_read I L np (42 + 2 * sh.toNatClampNeg)) np) = 0 then (m_X2_read I L np (42 + 2 * sh.toNatClampNeg)) else (m_X2_read I L np (42 + 2 * sh.toNatClampNeg)) else I
def n_X8_ring (I : Nat → Nat → Int32) (L : Nat → Nat → Int64) (np : Nat) (sh : Int32) : Nat → Nat → Int64 := if (f_X8_bytesRefusal I sh) = 0 then if (f_X2_smallestRing (m_X2_read I L np (42 + 2 * sh.toNatClampNeg)) np) = 0 then (n_X2_read I L np (42 + 2 * sh.toNatClampNeg)) else (n_X2_read I L np (42 + 2 * sh.toNatClampNeg)) else L
set_option maxHeartbeats 1000000 in
set_option maxRecDepth 100000 in
theorem c_X8_ring (d : Nat) (hd : 3 ≤ d) (b : Bool) (I : Nat → Nat → Int32) (L : Nat → Nat → Int64) (np : Nat) (hnp : I 1 0 = nI np) (hn10 : np ≤ 10) (hsl : ∀ j, j < 6 → I (42 + 2 * j) 2 = nI (I (42 + 2 * j) 2).toNatClampNeg ∧ (I (42 + 2 * j) 2).toNatClampNeg ≤ 60) (sh : Int32) : z_CT zm_X8_ring d [.ref 0, .int sh] SH (I, L, z_R b) 0 0 (z_ret (some (.int (f_X8_ring I L np sh))) ((m_X8_ring I L np sh), (n_X8_ring I L np sh), z_R b)) := by
  refine z_enter (by decide +kernel) (Nat.le_of_ble_eq_true rfl) ?_
  have hentry : PW zm_X8_ring d 0 [(0, .ref 0), (1, .int sh)] [] SH (I, L, z_R b) 0 0 (z_ret (some (.int (f_X8_ring I L np sh))) ((m_X8_ring I L np sh), (n_X8_ring I L np sh), z_R b)) := by
    refine p_aload_n (z_dec zd_X8_ring 0 rfl) rfl 0 rfl (n := 1) rfl ?_
    refine p_iload_n (z_dec zd_X8_ring 1 rfl) rfl 1 rfl (n := 2) rfl ?_
    refine q_callV (As := [.int sh]) (rest := []) (z_dec zd_X8_ring 2 rfl) zk_X8_142 zv_X8_bytesRefusal (c_X8_bytesRefusal (d - 1) (by omega) b I L sh) rfl ⟨_, _, rfl⟩ rfl rfl (Nat.le_of_ble_eq_true rfl) (by omega) (n := 5) rfl ?_
    show PW zm_X8_ring d 5 [(0, .ref 0), (1, .int sh)] [.int (f_X8_bytesRefusal I sh)] SH (I, L, z_R b) 0 0 _
    refine p_istore_n (z_dec zd_X8_ring 3 rfl) rfl (lv2 := [(2, .int (f_X8_bytesRefusal I sh)), (0, .ref 0), (1, .int sh)]) (by decide) rfl (n := 6) rfl ?_
    refine p_iload_n (z_dec zd_X8_ring 4 rfl) rfl 0 rfl (n := 7) rfl ?_
    refine p_if_eq (z_dec zd_X8_ring 5 rfl) (t := 12) (by decide) (n := 10) rfl (fun h7 => ?_) (fun h7 => ?_)
    · have hj_sh := z_shc (z_byr h7)
      refine p_aload_n (z_dec zd_X8_ring 8 rfl) rfl 1 rfl (n := 13) rfl ?_
      refine q_getR (z_dec zd_X8_ring 9 rfl) zf_X8_40 (i := 26) rfl rfl (n := 16) rfl ?_
      refine p_aload_n (z_dec zd_X8_ring 10 rfl) rfl 1 rfl (n := 17) rfl ?_
      refine q_getR (z_dec zd_X8_ring 11 rfl) zf_X8_67 (i := 41) rfl rfl (n := 20) rfl ?_
      refine p_iload_n (z_dec zd_X8_ring 12 rfl) rfl 2 rfl (n := 21) rfl ?_
      refine q_aald (z_dec zd_X8_ring 13 rfl) rfl (by decide) (sh.toNatClampNeg) hj_sh.1 hj_sh.2 (a := (42 + 2 * sh.toNatClampNeg)) (if_pos hj_sh.2) (n := 22) rfl ?_
      refine p_aload_n (z_dec zd_X8_ring 14 rfl) rfl 1 rfl (n := 23) rfl ?_
      refine q_getR (z_dec zd_X8_ring 15 rfl) zf_X8_10 (i := 1) rfl rfl (n := 26) rfl ?_
      refine q_callV (As := [.ref (42 + 2 * sh.toNatClampNeg), .ref 1]) (rest := []) (z_dec zd_X8_ring 16 rfl) zk_X8_185 zv_X2_read (c_X2_read (d - 1) (by omega) b I L np hn10 (42 + 2 * sh.toNatClampNeg) (z_SfOf b _ hj_sh.2) (by omega) (I (42 + 2 * sh.toNatClampNeg) 2).toNatClampNeg (hsl _ hj_sh.2).2 ⟨hnp, (hsl _ hj_sh.2).1⟩) rfl ⟨_, _, rfl⟩ rfl rfl (Nat.le_of_ble_eq_true rfl) (by omega) (n := 29) rfl ?_
      show PW zm_X8_ring d 29 [(2, .int (f_X8_bytesRefusal I sh)), (0, .ref 0), (1, .int sh)] [] SH ((m_X2_read I L np (42 + 2 * sh.toNatClampNeg)), (n_X2_read I L np (42 + 2 * sh.toNatClampNeg)), z_R b) 0 0 _
      have hP29 : yq_W np ((m_X2_read I L np (42 + 2 * sh.toNatClampNeg))) := yq_Wrd _ _ _ _
      refine p_aload_n (z_dec zd_X8_ring 17 rfl) rfl 1 rfl (n := 30) rfl ?_
      refine q_getR (z_dec zd_X8_ring 18 rfl) zf_X8_40 (i := 26) rfl rfl (n := 33) rfl ?_
      refine q_callV (As := []) (rest := []) (z_dec zd_X8_ring 19 rfl) zk_X8_198 zv_X2_smallestRing (c_X2_smallestRing (d - 1) (by omega) b (m_X2_read I L np (42 + 2 * sh.toNatClampNeg)) (n_X2_read I L np (42 + 2 * sh.toNatClampNeg)) np hP29 hn10) rfl ⟨_, _, rfl⟩ rfl rfl (Nat.le_of_ble_eq_true rfl) (by omega) (n := 36) rfl ?_
      show PW zm_X8_ring d 36 [(2, .int (f_X8_bytesRefusal I sh)), (0, .ref 0), (1, .int sh)] [.int (f_X2_smallestRing (m_X2_read I L np (42 + 2 * sh.toNatClampNeg)) np)] SH ((m_X2_read I L np (42 + 2 * sh.toNatClampNeg)), (n_X2_read I L np (42 + 2 * sh.toNatClampNeg)), z_R b) 0 0 _
      refine p_istore_n (z_dec zd_X8_ring 20 rfl) rfl (lv2 := [(3, .int (f_X2_smallestRing (m_X2_read I L np (42 + 2 * sh.toNatClampNeg)) np)), (2, .int (f_X8_bytesRefusal I sh)), (0, .ref 0), (1, .int sh)]) (by decide) rfl (n := 37) rfl ?_
      refine p_iload_n (z_dec zd_X8_ring 21 rfl) rfl 0 rfl (n := 38) rfl ?_
      refine p_if_ne (z_dec zd_X8_ring 22 rfl) (t := 46) (by decide) (n := 41) rfl (fun h38 => ?_) (fun h38 => ?_)
      · refine p_iload_n (z_dec zd_X8_ring 25 rfl) rfl 0 rfl (n := 47) rfl ?_
        exact p_iret (z_dec zd_X8_ring 26 rfl) rfl ⟨(by unfold f_X8_ring; rw [if_pos h7, if_neg h38]), rfl, (z_3 (by unfold m_X8_ring; rw [if_pos h7, if_neg h38]) (by unfold n_X8_ring; rw [if_pos h7, if_neg h38]))⟩
      · refine p_bipush (z_dec zd_X8_ring 23 rfl) (v := (-2)) (by decide) (n := 43) rfl ?_
        refine p_goto (z_dec zd_X8_ring 24 rfl) (t := 47) (by decide) ?_
        exact p_iret (z_dec zd_X8_ring 26 rfl) rfl ⟨(by unfold f_X8_ring; rw [if_pos h7, if_pos h38]), rfl, (z_3 (by unfold m_X8_ring; rw [if_pos h7, if_pos h38]) (by unfold n_X8_ring; rw [if_pos h7, if_pos h38]))⟩
    · refine p_iload_n (z_dec zd_X8_ring 6 rfl) rfl 0 rfl (n := 11) rfl ?_
      exact p_iret (z_dec zd_X8_ring 7 rfl) rfl ⟨(by unfold f_X8_ring; rw [if_neg h7]), rfl, (z_3 (by unfold m_X8_ring; rw [if_neg h7]) (by unfold n_X8_ring; rw [if_neg h7]))⟩
  exact hentry
def f_X8_order (I : Nat → Nat → Int32) (L : Nat → Nat → Int64) (np : Nat) (sh : Int32) (k : Int32) : Int32 := if (f_X8_isShelf sh) = 0 then (-1) else if (-1) ≤ k then if (f_X8_bytesRefusal I sh) = 0 then if k < (nI np) then if k = (-1) then (f_X2_fewestUpset (m_X2_weigh (m_X2_read I L np (42 + 2 * sh.toNatClampNeg)) (n_X2_read I L np (42 + 2 * sh.toNatClampNeg)) np) np) else (f_X2_inOrder (m_X2_weigh (m_X2_read I L np (42 + 2 * sh.toNatClampNeg)) (n_X2_read I L np (42 + 2 * sh.toNatClampNeg)) np) (n_X2_weigh (m_X2_read I L np (42 + 2 * sh.toNatClampNeg)) (n_X2_read I L np (42 + 2 * sh.toNatClampNeg)) np) np k) else (-2) else (f_X8_bytesRefusal I sh) else (-1)
def m_X8_order (I : Nat → Nat → Int32) (L : Nat → Nat → Int64) (np : Nat) (sh : Int32) (k : Int32) : Nat → Nat → Int32 := if (f_X8_isShelf sh) = 0 then I else if (-1) ≤ k then if (f_X8_bytesRefusal I sh) = 0 then if k < (nI np) then if k = (-1) then (m_X2_weigh (m_X2_read I L np (42 + 2 * sh.toNatClampNeg)) (n_X2_read I L np (42 + 2 * sh.toNatClampNeg)) np) else (m_X2_weigh (m_X2_read I L np (42 + 2 * sh.toNatClampNeg)) (n_X2_read I L np (42 + 2 * sh.toNatClampNeg)) np) else I else I else I
def n_X8_order (I : Nat → Nat → Int32) (L : Nat → Nat → Int64) (np : Nat) (sh : Int32) (k : Int32) : Nat → Nat → Int64 := if (f_X8_isShelf sh) = 0 then L else if (-1) ≤ k then if (f_X8_bytesRefusal I sh) = 0 then if k < (nI np) then if k = (-1) then (n_X2_weigh (m_X2_read I L np (42 + 2 * sh.toNatClampNeg)) (n_X2_read I L np (42 + 2 * sh.toNatClampNeg)) np) else (n_X2_weigh (m_X2_read I L np (42 + 2 * sh.toNatClampNeg)) (n_X2_read I L np (42 + 2 * sh.toNatClampNeg)) np) else L else L else L
set_option maxHeartbeats 1000000 in
set_option maxRecDepth 100000 in
theorem c_X8_order (d : Nat) (hd : 3 ≤ d) (b : Bool) (I : Nat → Nat → Int32) (L : Nat → Nat → Int64) (np : Nat) (hnp : I 1 0 = nI np) (hn10 : np ≤ 10) (hsl : ∀ j, j < 6 → I (42 + 2 * j) 2 = nI (I (42 + 2 * j) 2).toNatClampNeg ∧ (I (42 + 2 * j) 2).toNatClampNeg ≤ 60) (sh : Int32) (k : Int32) : z_CT zm_X8_order d [.ref 0, .int sh, .int k] SH (I, L, z_R b) 0 0 (z_ret (some (.int (f_X8_order I L np sh k))) ((m_X8_order I L np sh k), (n_X8_order I L np sh k), z_R b)) := by
  refine z_enter (by decide +kernel) (Nat.le_of_ble_eq_true rfl) ?_
  have hentry : PW zm_X8_order d 0 [(0, .ref 0), (1, .int sh), (2, .int k)] [] SH (I, L, z_R b) 0 0 (z_ret (some (.int (f_X8_order I L np sh k))) ((m_X8_order I L np sh k), (n_X8_order I L np sh k), z_R b)) := by
    refine p_iload_n (z_dec zd_X8_order 0 rfl) rfl 1 rfl (n := 1) rfl ?_
    refine q_callS (As := [.int sh]) (rest := []) (z_dec zd_X8_order 1 rfl) zk_X8_80 zs_X8_isShelf (c_X8_isShelf (d - 1) (by omega) b I L sh) rfl rfl (Nat.le_of_ble_eq_true rfl) (by omega) (n := 4) rfl ?_
    show PW zm_X8_order d 4 [(0, .ref 0), (1, .int sh), (2, .int k)] [.int (f_X8_isShelf sh)] SH (I, L, z_R b) 0 0 _
    refine p_if_eq (z_dec zd_X8_order 2 rfl) (t := 12) (by decide) (n := 7) rfl (fun h4 => ?_) (fun h4 => ?_)
    · refine p_iconst (z_dec zd_X8_order 6 rfl) (v := (-1)) (by decide) (n := 13) rfl ?_
      exact p_iret (z_dec zd_X8_order 7 rfl) rfl ⟨(by unfold f_X8_order; rw [if_pos h4]), rfl, (z_3 (by unfold m_X8_order; rw [if_pos h4]) (by unfold n_X8_order; rw [if_pos h4]))⟩
    · have hj_sh := z_shc h4
      refine p_iload_n (z_dec zd_X8_order 3 rfl) rfl 2 rfl (n := 8) rfl ?_
      refine p_iconst (z_dec zd_X8_order 4 rfl) (v := (-1)) (by decide) (n := 9) rfl ?_
      refine p_icmp_ge (z_dec zd_X8_order 5 rfl) (t := 14) (by decide) (n := 12) rfl (fun h9 => ?_) (fun h9 => ?_)
      · refine p_aload_n (z_dec zd_X8_order 8 rfl) rfl 0 rfl (n := 15) rfl ?_
        refine p_iload_n (z_dec zd_X8_order 9 rfl) rfl 1 rfl (n := 16) rfl ?_
        refine q_callV (As := [.int sh]) (rest := []) (z_dec zd_X8_order 10 rfl) zk_X8_142 zv_X8_bytesRefusal (c_X8_bytesRefusal (d - 1) (by omega) b I L sh) rfl ⟨_, _, rfl⟩ rfl rfl (Nat.le_of_ble_eq_true rfl) (by omega) (n := 19) rfl ?_
        show PW zm_X8_order d 19 [(0, .ref 0), (1, .int sh), (2, .int k)] [.int (f_X8_bytesRefusal I sh)] SH (I, L, z_R b) 0 0 _
        refine p_istore_n (z_dec zd_X8_order 11 rfl) rfl (lv2 := [(3, .int (f_X8_bytesRefusal I sh)), (0, .ref 0), (1, .int sh), (2, .int k)]) (by decide) rfl (n := 20) rfl ?_
        refine p_iload_n (z_dec zd_X8_order 12 rfl) rfl 0 rfl (n := 21) rfl ?_
        refine p_if_eq (z_dec zd_X8_order 13 rfl) (t := 26) (by decide) (n := 24) rfl (fun h21 => ?_) (fun h21 => ?_)
        · refine p_iload_n (z_dec zd_X8_order 16 rfl) rfl 3 rfl (n := 27) rfl ?_
          refine p_aload_n (z_dec zd_X8_order 17 rfl) rfl 1 rfl (n := 28) rfl ?_
          refine q_getR (z_dec zd_X8_order 18 rfl) zf_X8_10 (i := 1) rfl rfl (n := 31) rfl ?_
          refine q_getI (z_dec zd_X8_order 19 rfl) zf_X8_136 (by decide) rfl (v := (nI np)) hnp (n := 34) rfl ?_
          refine p_icmp_lt (z_dec zd_X8_order 20 rfl) (t := 40) (by decide) (n := 37) rfl (fun h34 => ?_) (fun h34 => ?_)
          · refine p_aload_n (z_dec zd_X8_order 23 rfl) rfl 1 rfl (n := 41) rfl ?_
            refine q_getR (z_dec zd_X8_order 24 rfl) zf_X8_40 (i := 26) rfl rfl (n := 44) rfl ?_
            refine p_aload_n (z_dec zd_X8_order 25 rfl) rfl 1 rfl (n := 45) rfl ?_
            refine q_getR (z_dec zd_X8_order 26 rfl) zf_X8_67 (i := 41) rfl rfl (n := 48) rfl ?_
            refine p_iload_n (z_dec zd_X8_order 27 rfl) rfl 2 rfl (n := 49) rfl ?_
            refine q_aald (z_dec zd_X8_order 28 rfl) rfl (by decide) (sh.toNatClampNeg) hj_sh.1 hj_sh.2 (a := (42 + 2 * sh.toNatClampNeg)) (if_pos hj_sh.2) (n := 50) rfl ?_
            refine p_aload_n (z_dec zd_X8_order 29 rfl) rfl 1 rfl (n := 51) rfl ?_
            refine q_getR (z_dec zd_X8_order 30 rfl) zf_X8_10 (i := 1) rfl rfl (n := 54) rfl ?_
            refine q_callV (As := [.ref (42 + 2 * sh.toNatClampNeg), .ref 1]) (rest := []) (z_dec zd_X8_order 31 rfl) zk_X8_185 zv_X2_read (c_X2_read (d - 1) (by omega) b I L np hn10 (42 + 2 * sh.toNatClampNeg) (z_SfOf b _ hj_sh.2) (by omega) (I (42 + 2 * sh.toNatClampNeg) 2).toNatClampNeg (hsl _ hj_sh.2).2 ⟨hnp, (hsl _ hj_sh.2).1⟩) rfl ⟨_, _, rfl⟩ rfl rfl (Nat.le_of_ble_eq_true rfl) (by omega) (n := 57) rfl ?_
            show PW zm_X8_order d 57 [(3, .int (f_X8_bytesRefusal I sh)), (0, .ref 0), (1, .int sh), (2, .int k)] [] SH ((m_X2_read I L np (42 + 2 * sh.toNatClampNeg)), (n_X2_read I L np (42 + 2 * sh.toNatClampNeg)), z_R b) 0 0 _
            have hP57 : yq_W np ((m_X2_read I L np (42 + 2 * sh.toNatClampNeg))) := yq_Wrd _ _ _ _
            refine p_aload_n (z_dec zd_X8_order 32 rfl) rfl 1 rfl (n := 58) rfl ?_
            refine q_getR (z_dec zd_X8_order 33 rfl) zf_X8_40 (i := 26) rfl rfl (n := 61) rfl ?_
            refine q_callV (As := []) (rest := []) (z_dec zd_X8_order 34 rfl) zk_X8_189 zv_X2_weigh (c_X2_weigh (d - 1) (by omega) b (m_X2_read I L np (42 + 2 * sh.toNatClampNeg)) (n_X2_read I L np (42 + 2 * sh.toNatClampNeg)) np hn10 hP57) rfl ⟨_, _, rfl⟩ rfl rfl (Nat.le_of_ble_eq_true rfl) (by omega) (n := 64) rfl ?_
            show PW zm_X8_order d 64 [(3, .int (f_X8_bytesRefusal I sh)), (0, .ref 0), (1, .int sh), (2, .int k)] [] SH ((m_X2_weigh (m_X2_read I L np (42 + 2 * sh.toNatClampNeg)) (n_X2_read I L np (42 + 2 * sh.toNatClampNeg)) np), (n_X2_weigh (m_X2_read I L np (42 + 2 * sh.toNatClampNeg)) (n_X2_read I L np (42 + 2 * sh.toNatClampNeg)) np), z_R b) 0 0 _
            have hP64 : yq_W np ((m_X2_weigh (m_X2_read I L np (42 + 2 * sh.toNatClampNeg)) (n_X2_read I L np (42 + 2 * sh.toNatClampNeg)) np)) := yq_Wwg _ hP57
            refine p_iload_n (z_dec zd_X8_order 35 rfl) rfl 3 rfl (n := 65) rfl ?_
            refine p_iconst (z_dec zd_X8_order 36 rfl) (v := (-1)) (by decide) (n := 66) rfl ?_
            refine p_icmp_ne (z_dec zd_X8_order 37 rfl) (t := 79) (by decide) (n := 69) rfl (fun h66 => ?_) (fun h66 => ?_)
            · refine p_aload_n (z_dec zd_X8_order 42 rfl) rfl 1 rfl (n := 80) rfl ?_
              refine q_getR (z_dec zd_X8_order 43 rfl) zf_X8_40 (i := 26) rfl rfl (n := 83) rfl ?_
              refine p_iload_n (z_dec zd_X8_order 44 rfl) rfl 3 rfl (n := 84) rfl ?_
              refine q_callV (As := [.int k]) (rest := []) (z_dec zd_X8_order 45 rfl) zk_X8_195 zv_X2_inOrder (c_X2_inOrder (d - 1) (by omega) b (m_X2_weigh (m_X2_read I L np (42 + 2 * sh.toNatClampNeg)) (n_X2_read I L np (42 + 2 * sh.toNatClampNeg)) np) (n_X2_weigh (m_X2_read I L np (42 + 2 * sh.toNatClampNeg)) (n_X2_read I L np (42 + 2 * sh.toNatClampNeg)) np) np hn10 hP64 k) rfl ⟨_, _, rfl⟩ rfl rfl (Nat.le_of_ble_eq_true rfl) (by omega) (n := 87) rfl ?_
              show PW zm_X8_order d 87 [(3, .int (f_X8_bytesRefusal I sh)), (0, .ref 0), (1, .int sh), (2, .int k)] [.int (f_X2_inOrder (m_X2_weigh (m_X2_read I L np (42 + 2 * sh.toNatClampNeg)) (n_X2_read I L np (42 + 2 * sh.toNatClampNeg)) np) (n_X2_weigh (m_X2_read I L np (42 + 2 * sh.toNatClampNeg)) (n_X2_read I L np (42 + 2 * sh.toNatClampNeg)) np) np k)] SH ((m_X2_weigh (m_X2_read I L np (42 + 2 * sh.toNatClampNeg)) (n_X2_read I L np (42 + 2 * sh.toNatClampNeg)) np), (n_X2_weigh (m_X2_read I L np (42 + 2 * sh.toNatClampNeg)) (n_X2_read I L np (42 + 2 * sh.toNatClampNeg)) np), z_R b) 0 0 _
              exact p_iret (z_dec zd_X8_order 46 rfl) rfl ⟨(by unfold f_X8_order; rw [if_neg h4, if_pos h9, if_pos h21, if_pos h34, if_neg h66]), rfl, (z_3 (by unfold m_X8_order; rw [if_neg h4, if_pos h9, if_pos h21, if_pos h34, if_neg h66]) (by unfold n_X8_order; rw [if_neg h4, if_pos h9, if_pos h21, if_pos h34, if_neg h66]))⟩
            · refine p_aload_n (z_dec zd_X8_order 38 rfl) rfl 1 rfl (n := 70) rfl ?_
              refine q_getR (z_dec zd_X8_order 39 rfl) zf_X8_40 (i := 26) rfl rfl (n := 73) rfl ?_
              refine q_callV (As := []) (rest := []) (z_dec zd_X8_order 40 rfl) zk_X8_192 zv_X2_fewestUpset (c_X2_fewestUpset (d - 1) (by omega) b (m_X2_weigh (m_X2_read I L np (42 + 2 * sh.toNatClampNeg)) (n_X2_read I L np (42 + 2 * sh.toNatClampNeg)) np) (n_X2_weigh (m_X2_read I L np (42 + 2 * sh.toNatClampNeg)) (n_X2_read I L np (42 + 2 * sh.toNatClampNeg)) np) np hn10 hP64) rfl ⟨_, _, rfl⟩ rfl rfl (Nat.le_of_ble_eq_true rfl) (by omega) (n := 76) rfl ?_
              show PW zm_X8_order d 76 [(3, .int (f_X8_bytesRefusal I sh)), (0, .ref 0), (1, .int sh), (2, .int k)] [.int (f_X2_fewestUpset (m_X2_weigh (m_X2_read I L np (42 + 2 * sh.toNatClampNeg)) (n_X2_read I L np (42 + 2 * sh.toNatClampNeg)) np) np)] SH ((m_X2_weigh (m_X2_read I L np (42 + 2 * sh.toNatClampNeg)) (n_X2_read I L np (42 + 2 * sh.toNatClampNeg)) np), (n_X2_weigh (m_X2_read I L np (42 + 2 * sh.toNatClampNeg)) (n_X2_read I L np (42 + 2 * sh.toNatClampNeg)) np), z_R b) 0 0 _
              refine p_goto (z_dec zd_X8_order 41 rfl) (t := 87) (by decide) ?_
              exact p_iret (z_dec zd_X8_order 46 rfl) rfl ⟨(by unfold f_X8_order; rw [if_neg h4, if_pos h9, if_pos h21, if_pos h34, if_pos h66]), rfl, (z_3 (by unfold m_X8_order; rw [if_neg h4, if_pos h9, if_pos h21, if_pos h34, if_pos h66]) (by unfold n_X8_order; rw [if_neg h4, if_pos h9, if_pos h21, if_pos h34, if_pos h66]))⟩
          · refine p_bipush (z_dec zd_X8_order 21 rfl) (v := (-2)) (by decide) (n := 39) rfl ?_
            exact p_iret (z_dec zd_X8_order 22 rfl) rfl ⟨(by unfold f_X8_order; rw [if_neg h4, if_pos h9, if_pos h21, if_neg h34]), rfl, (z_3 (by unfold m_X8_order; rw [if_neg h4, if_pos h9, if_pos h21, if_neg h34]) (by unfold n_X8_order; rw [if_neg h4, if_pos h9, if_pos h21, if_neg h34]))⟩
        · refine p_iload_n (z_dec zd_X8_order 14 rfl) rfl 0 rfl (n := 25) rfl ?_
          exact p_iret (z_dec zd_X8_order 15 rfl) rfl ⟨(by unfold f_X8_order; rw [if_neg h4, if_pos h9, if_neg h21]), rfl, (z_3 (by unfold m_X8_order; rw [if_neg h4, if_pos h9, if_neg h21]) (by unfold n_X8_order; rw [if_neg h4, if_pos h9, if_neg h21]))⟩
      · refine p_iconst (z_dec zd_X8_order 6 rfl) (v := (-1)) (by decide) (n := 13) rfl ?_
        exact p_iret (z_dec zd_X8_order 7 rfl) rfl ⟨(by unfold f_X8_order; rw [if_neg h4, if_neg h9]), rfl, (z_3 (by unfold m_X8_order; rw [if_neg h4, if_neg h9]) (by unfold n_X8_order; rw [if_neg h4, if_neg h9]))⟩
  exact hentry
