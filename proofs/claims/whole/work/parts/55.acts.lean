theorem z_ruR (I : Nat → Nat → Int32) (rn : Nat) (v : Int32) : m_X9_runs I rn v 54 35 = nI (rn + 1) := by
  unfold m_X9_runs
  split <;> (rw [z_up_s]; exact nI_1 rn)
theorem z_ruF (I : Nat → Nat → Int32) (rn : Nat) (v : Int32) (j : Nat) (h : j ≠ 35) : m_X9_runs I rn v 54 j = I 54 j := by
  unfold m_X9_runs
  split
  · rw [z_up_j _ _ h]
  · rw [z_up_j _ _ h, z_up_k _ _ (by decide)]
def f_X9_judgesAs_0 (I : Nat → Nat → Int32) (rn : Nat) (x : Int32) : Int32 := (x + (I 54 37))
def m_X9_judgesAs_0 (I : Nat → Nat → Int32) (rn : Nat) (x : Int32) : Nat → Nat → Int32 := (m_X9_runs I rn 1)
set_option maxHeartbeats 1000000 in
set_option maxRecDepth 100000 in
theorem c_X9_judgesAs_0 (d : Nat) (hd : 1 ≤ d) (b : Bool) (I : Nat → Nat → Int32) (L : Nat → Nat → Int64) (rn : Nat) (hrn : I 54 35 = nI rn) (hr1000 : rn < 1000) (x : Int32) : z_CT zm_X9_judgesAs d [.ref 54, .int 0, .int x] SH (I, L, z_R b) 0 0 (z_ret (some (.int (f_X9_judgesAs_0 I rn x))) ((m_X9_judgesAs_0 I rn x), L, z_R b)) := by
  refine z_enter (by decide +kernel) (Nat.le_of_ble_eq_true rfl) ?_
  have hentry : PW zm_X9_judgesAs d 0 [(0, .ref 54), (1, .int 0), (2, .int x)] [] SH (I, L, z_R b) 0 0 (z_ret (some (.int (f_X9_judgesAs_0 I rn x))) ((m_X9_judgesAs_0 I rn x), L, z_R b)) := by
    refine p_iload_n (z_dec zd_X9_judgesAs 0 rfl) rfl 1 rfl (n := 1) rfl ?_
    refine p_iconst (z_dec zd_X9_judgesAs 1 rfl) (v := 1) (by decide) (n := 2) rfl ?_
    refine p_icmp_eq (z_dec zd_X9_judgesAs 2 rfl) (t := 16) (by decide) (n := 5) rfl (fun h2 => ?_) (fun h2 => ?_)
    · exact absurd h2 (by decide)
    · refine p_iload_n (z_dec zd_X9_judgesAs 3 rfl) rfl 1 rfl (n := 6) rfl ?_
      refine p_iconst (z_dec zd_X9_judgesAs 4 rfl) (v := 4) (by decide) (n := 7) rfl ?_
      refine p_icmp_eq (z_dec zd_X9_judgesAs 5 rfl) (t := 16) (by decide) (n := 10) rfl (fun h7 => ?_) (fun h7 => ?_)
      · exact absurd h7 (by decide)
      · refine p_iload_n (z_dec zd_X9_judgesAs 6 rfl) rfl 1 rfl (n := 11) rfl ?_
        refine p_bipush (z_dec zd_X9_judgesAs 7 rfl) (v := 7) (by decide) (n := 13) rfl ?_
        refine p_icmp_ne (z_dec zd_X9_judgesAs 8 rfl) (t := 31) (by decide) (n := 16) rfl (fun h13 => ?_) (fun h13 => ?_)
        · refine p_iload_n (z_dec zd_X9_judgesAs 19 rfl) rfl 1 rfl (n := 32) rfl ?_
          refine p_bipush (z_dec zd_X9_judgesAs 20 rfl) (v := 6) (by decide) (n := 34) rfl ?_
          refine p_icmp_ne (z_dec zd_X9_judgesAs 21 rfl) (t := 52) (by decide) (n := 37) rfl (fun h34 => ?_) (fun h34 => ?_)
          · refine p_aload_n (z_dec zd_X9_judgesAs 32 rfl) rfl 0 rfl (n := 53) rfl ?_
            refine p_iconst (z_dec zd_X9_judgesAs 33 rfl) (v := 1) (by decide) (n := 54) rfl ?_
            refine q_callV (As := [.int 1]) (rest := []) (z_dec zd_X9_judgesAs 34 rfl) zk_X9_300 zv_X9_runs (c_X9_runs (d - 1) (by omega) b I L rn hrn hr1000 1) rfl ⟨_, _, rfl⟩ rfl rfl (Nat.le_of_ble_eq_true rfl) (by omega) (n := 57) rfl ?_
            show PW zm_X9_judgesAs d 57 [(0, .ref 54), (1, .int 0), (2, .int x)] [] SH ((m_X9_runs I rn 1), L, z_R b) 0 0 _
            refine p_iload_n (z_dec zd_X9_judgesAs 35 rfl) rfl 2 rfl (n := 58) rfl ?_
            refine p_aload_n (z_dec zd_X9_judgesAs 36 rfl) rfl 0 rfl (n := 59) rfl ?_
            refine q_getI (z_dec zd_X9_judgesAs 37 rfl) zf_X9_306 (by decide) rfl (v := (I 54 37)) (z_ruF _ _ _ _ (by decide)) (n := 62) rfl ?_
            refine p_iadd (z_dec zd_X9_judgesAs 38 rfl) (n := 63) rfl ?_
            exact p_iret (z_dec zd_X9_judgesAs 39 rfl) rfl ⟨(by unfold f_X9_judgesAs_0; rfl), rfl, (z_3 (by unfold m_X9_judgesAs_0; rfl) rfl)⟩
          · exact absurd h34 (by decide)
        · exact absurd h13 (by decide)
  exact hentry
