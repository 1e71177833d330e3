theorem z_wi {v lo hi : Int64} (h : ¬ f_X9_within v lo hi = 0) : lo ≤ v ∧ v ≤ hi := by
  unfold f_X9_within at h
  by_cases h1 : lg_cmp v lo < 0
  · rw [if_pos h1] at h; exact absurd rfl h
  · rw [if_neg h1] at h
    by_cases h2 : 0 < lg_cmp v hi
    · rw [if_pos h2] at h; exact absurd rfl h
    · rw [lg_cmp_lt] at h1
      rw [lg_cmp_gt] at h2
      exact ⟨Int64.not_lt.mp h1, Int64.not_lt.mp h2⟩
theorem z_with {x : Int32} {N : Nat} {hi : Int64} (hN : hi.toInt = N) (h : ¬ f_X9_within x.toInt64 0 hi = 0) : x = nI x.toNatClampNeg ∧ x.toNatClampNeg ≤ N := by
  obtain ⟨h1, h2⟩ := z_wi h
  rw [Int64.le_iff_toInt_le, Int32.toInt_toInt64] at h1 h2
  have h3 : ¬ x < 0 := by
    rw [Int32.lt_iff_toInt_lt]
    have : (0 : Int64).toInt = 0 := rfl
    have : (0 : Int32).toInt = 0 := rfl
    omega
  obtain ⟨j, hj, rfl⟩ := nI_of h3
  rw [nI_toInt hj] at h2
  rw [nI_clamp hj]
  exact ⟨rfl, by omega⟩
theorem z_shf {x : Int32} (h : ¬ f_X9_isShelf x = 0) : x = nI x.toNatClampNeg ∧ x.toNatClampNeg < 6 := by
  obtain ⟨h1, h2⟩ := z_with (N := 5) rfl h
  exact ⟨h1, by omega⟩
theorem z_one {np : Nat} {x : Int32} (hn10 : np ≤ 10) (h : ¬ f_X9_isOne np x.toInt64 = 0) : x = nI x.toNatClampNeg ∧ x.toNatClampNeg < np := by
  unfold f_X9_isOne at h
  rcases Nat.eq_zero_or_pos np with e | e
  · subst e
    obtain ⟨h1, h2⟩ := z_wi h
    have := Int64.le_trans h1 h2
    exact absurd this (by decide)
  · rw [z_pred e] at h
    obtain ⟨h1, h2⟩ := z_with (N := np - 1) (by rw [nI_l (by omega), lN_toInt (by omega)]) h
    exact ⟨h1, by omega⟩
theorem z_plof {np : Nat} {n what : Int32} (hn10 : np ≤ 10) (h : ¬ f_X9_placeOf np n what < 0) : f_X9_placeOf np n what = nI (f_X9_placeOf np n what).toNatClampNeg ∧ (f_X9_placeOf np n what).toNatClampNeg < 42 := by
  unfold f_X9_placeOf at h ⊢
  by_cases h1 : f_X9_within what.toInt64 0 3 = 0
  · rw [if_pos h1] at h ⊢
    by_cases h2 : n = 0
    · rw [if_pos h2] at h ⊢
      by_cases h3 : f_X9_within what.toInt64 4 5 = 0
      · rw [if_pos h3] at h; exact absurd (by decide) h
      · rw [if_neg h3] at h ⊢
        obtain ⟨g1, g2⟩ := z_wi h3
        rw [Int64.le_iff_toInt_le, Int32.toInt_toInt64] at g1 g2
        have e4 : (4 : Int64).toInt = 4 := rfl
        have e5 : (5 : Int64).toInt = 5 := rfl
        have h3 : ¬ what < 0 := by
          rw [Int32.lt_iff_toInt_lt]
          have : (0 : Int32).toInt = 0 := rfl
          omega
        obtain ⟨j, hj, rfl⟩ := nI_of h3
        rw [nI_toInt hj] at g1 g2
        rw [show (40 : Int32) + nI j - 4 = nI (40 + j - 4) from z_subE (z_addE (a := 40) rfl rfl) (b := 4) rfl (by omega), nI_clamp (by omega)]
        exact ⟨rfl, by omega⟩
    · rw [if_neg h2] at h; exact absurd (by decide) h
  · rw [if_neg h1] at h ⊢
    by_cases h2 : f_X9_isOne np n.toInt64 = 0
    · rw [if_pos h2] at h; exact absurd (by decide) h
    · rw [if_neg h2]
      obtain ⟨a1, a2⟩ := z_with (N := 3) rfl h1
      obtain ⟨b1, b2⟩ := z_one hn10 h2
      generalize what.toNatClampNeg = w at a1 a2
      generalize n.toNatClampNeg = q at b1 b2
      subst a1; subst b1
      rw [show (10 : Int32) * nI w + nI q = nI (10 * w + q) from z_addE (z_mulE (a := 10) rfl rfl) rfl, nI_clamp (by omega)]
      exact ⟨rfl, by omega⟩
def f_X9_feed (I : Nat → Nat → Int32) (tm : Nat) (letter : Int32) : Int32 := if (f_X9_within (letter.toInt64) 0 255) = 0 then (-1) else if (nI tm) = 120 then (-3) else ((nI tm) + 1)
def m_X9_feed (I : Nat → Nat → Int32) (tm : Nat) (letter : Int32) : Nat → Nat → Int32 := if (f_X9_within (letter.toInt64) 0 255) = 0 then I else if (nI tm) = 120 then I else (z_up (z_up I 59 tm letter) 54 8 ((nI tm) + 1))
set_option maxHeartbeats 4000000 in
set_option maxRecDepth 100000 in
theorem c_X9_feed (d : Nat) (hd : 1 ≤ d) (b : Bool) (I : Nat → Nat → Int32) (L : Nat → Nat → Int64) (tm : Nat) (htm : I 54 8 = nI tm) (ht120 : tm ≤ 120) (letter : Int32) : z_CT zm_X9_feed d [.ref 54, .int letter] SH (I, L, z_R b) 0 0 (z_ret (some (.int (f_X9_feed I tm letter))) ((m_X9_feed I tm letter), L, z_R b)) := by
  refine z_enter (by decide +kernel) (Nat.le_of_ble_eq_true rfl) ?_
  have hentry : PW zm_X9_feed d 0 [(0, .ref 54), (1, .int letter)] [] SH (I, L, z_R b) 0 0 (z_ret (some (.int (f_X9_feed I tm letter))) ((m_X9_feed I tm letter), L, z_R b)) := by
    refine p_iload_n (z_dec zd_X9_feed 0 rfl) rfl 1 rfl (n := 1) rfl ?_
    refine p_i2l (z_dec zd_X9_feed 1 rfl) (n := 2) rfl ?_
    refine p_lconst (z_dec zd_X9_feed 2 rfl) (v := 0) (by decide) (n := 3) rfl ?_
    refine p_ldc2 (z_dec zd_X9_feed 3 rfl) zq_X9_104 (n := 6) rfl ?_
    refine q_callS (As := [.long (letter.toInt64), .long 0, .long 255]) (rest := []) (z_dec zd_X9_feed 4 rfl) zk_X9_96 zs_X9_within (c_X9_within (d - 1) (by omega) b I L (letter.toInt64) 0 255) rfl rfl (Nat.le_of_ble_eq_true rfl) (by omega) (n := 9) rfl ?_
    show PW zm_X9_feed d 9 [(0, .ref 54), (1, .int letter)] [.int (f_X9_within (letter.toInt64) 0 255)] SH (I, L, z_R b) 0 0 _
    refine p_if_ne (z_dec zd_X9_feed 5 rfl) (t := 14) (by decide) (n := 12) rfl (fun h9 => ?_) (fun h9 => ?_)
    · refine p_aload_n (z_dec zd_X9_feed 8 rfl) rfl 0 rfl (n := 15) rfl ?_
      refine q_getI (z_dec zd_X9_feed 9 rfl) zf_X9_141 (by decide) rfl (v := (nI tm)) htm (n := 18) rfl ?_
      refine p_bipush (z_dec zd_X9_feed 10 rfl) (v := 120) (by decide) (n := 20) rfl ?_
      refine p_icmp_ne (z_dec zd_X9_feed 11 rfl) (t := 26) (by decide) (n := 23) rfl (fun h20 => ?_) (fun h20 => ?_)
      · have htl : tm < 120 := z_ne120 ht120 h20
        refine p_aload_n (z_dec zd_X9_feed 14 rfl) rfl 0 rfl (n := 27) rfl ?_
        refine q_getR (z_dec zd_X9_feed 15 rfl) zf_X9_22 (i := 59) rfl rfl (n := 30) rfl ?_
        refine p_aload_n (z_dec zd_X9_feed 16 rfl) rfl 0 rfl (n := 31) rfl ?_
        refine q_getI (z_dec zd_X9_feed 17 rfl) zf_X9_141 (by decide) rfl (v := (nI tm)) htm (n := 34) rfl ?_
        refine p_iload_n (z_dec zd_X9_feed 18 rfl) rfl 1 rfl (n := 35) rfl ?_
        refine q_iast (z_dec zd_X9_feed 19 rfl) rfl (by decide) (tm) rfl (by omega) (n := 36) rfl ?_
        refine p_aload_n (z_dec zd_X9_feed 20 rfl) rfl 0 rfl (n := 37) rfl ?_
        refine p_dup (z_dec zd_X9_feed 21 rfl) rfl (n := 38) rfl ?_
        refine q_getI (z_dec zd_X9_feed 22 rfl) zf_X9_141 (by decide) rfl (v := (nI tm)) htm (n := 41) rfl ?_
        refine p_iconst (z_dec zd_X9_feed 23 rfl) (v := 1) (by decide) (n := 42) rfl ?_
        refine p_iadd (z_dec zd_X9_feed 24 rfl) (n := 43) rfl ?_
        refine q_putI (z_dec zd_X9_feed 25 rfl) zp_X9_141 (fun q => by cases q) rfl (n := 46) rfl ?_
        refine p_aload_n (z_dec zd_X9_feed 26 rfl) rfl 0 rfl (n := 47) rfl ?_
        refine q_getI (z_dec zd_X9_feed 27 rfl) zf_X9_141 (by decide) rfl (v := ((nI tm) + 1)) rfl (n := 50) rfl ?_
        exact p_iret (z_dec zd_X9_feed 28 rfl) rfl ⟨(by unfold f_X9_feed; rw [if_neg h9, if_neg h20]), rfl, (z_3 (by unfold m_X9_feed; rw [if_neg h9, if_neg h20]) rfl)⟩
      · refine p_bipush (z_dec zd_X9_feed 12 rfl) (v := (-3)) (by decide) (n := 25) rfl ?_
        exact p_iret (z_dec zd_X9_feed 13 rfl) rfl ⟨(by unfold f_X9_feed; rw [if_neg h9, if_pos h20]), rfl, (z_3 (by unfold m_X9_feed; rw [if_neg h9, if_pos h20]) rfl)⟩
    · refine p_iconst (z_dec zd_X9_feed 6 rfl) (v := (-1)) (by decide) (n := 13) rfl ?_
      exact p_iret (z_dec zd_X9_feed 7 rfl) rfl ⟨(by unfold f_X9_feed; rw [if_pos h9]), rfl, (z_3 (by unfold m_X9_feed; rw [if_pos h9]) rfl)⟩
  exact hentry
def f_X9_led (I : Nat → Nat → Int32) (what : Int32) : Int32 := if (f_X9_within (what.toInt64) 0 4) = 0 then (-1) else (I 70 what.toNatClampNeg)
set_option maxHeartbeats 4000000 in
set_option maxRecDepth 100000 in
theorem c_X9_led (d : Nat) (hd : 1 ≤ d) (b : Bool) (I : Nat → Nat → Int32) (L : Nat → Nat → Int64) (what : Int32) : z_CT zm_X9_led d [.ref 54, .int what] SH (I, L, z_R b) 0 0 (z_ret (some (.int (f_X9_led I what))) (I, L, z_R b)) := by
  refine z_enter (by decide +kernel) (Nat.le_of_ble_eq_true rfl) ?_
  have hentry : PW zm_X9_led d 0 [(0, .ref 54), (1, .int what)] [] SH (I, L, z_R b) 0 0 (z_ret (some (.int (f_X9_led I what))) (I, L, z_R b)) := by
    refine p_iload_n (z_dec zd_X9_led 0 rfl) rfl 1 rfl (n := 1) rfl ?_
    refine p_i2l (z_dec zd_X9_led 1 rfl) (n := 2) rfl ?_
    refine p_lconst (z_dec zd_X9_led 2 rfl) (v := 0) (by decide) (n := 3) rfl ?_
    refine p_ldc2 (z_dec zd_X9_led 3 rfl) zq_X9_125 (n := 6) rfl ?_
    refine q_callS (As := [.long (what.toInt64), .long 0, .long 4]) (rest := []) (z_dec zd_X9_led 4 rfl) zk_X9_96 zs_X9_within (c_X9_within (d - 1) (by omega) b I L (what.toInt64) 0 4) rfl rfl (Nat.le_of_ble_eq_true rfl) (by omega) (n := 9) rfl ?_
    show PW zm_X9_led d 9 [(0, .ref 54), (1, .int what)] [.int (f_X9_within (what.toInt64) 0 4)] SH (I, L, z_R b) 0 0 _
    refine p_if_eq (z_dec zd_X9_led 5 rfl) (t := 21) (by decide) (n := 12) rfl (fun h9 => ?_) (fun h9 => ?_)
    · refine p_iconst (z_dec zd_X9_led 11 rfl) (v := (-1)) (by decide) (n := 22) rfl ?_
      exact p_iret (z_dec zd_X9_led 12 rfl) rfl ⟨(by unfold f_X9_led; rw [if_pos h9]), rfl, rfl⟩
    · have hj := z_with (N := 4) rfl h9
      refine p_aload_n (z_dec zd_X9_led 6 rfl) rfl 0 rfl (n := 13) rfl ?_
      refine q_getR (z_dec zd_X9_led 7 rfl) zf_X9_55 (i := 70) rfl rfl (n := 16) rfl ?_
      refine p_iload_n (z_dec zd_X9_led 8 rfl) rfl 1 rfl (n := 17) rfl ?_
      refine q_iald (z_dec zd_X9_led 9 rfl) rfl (by decide) (what.toNatClampNeg) hj.1 (Nat.lt_succ_of_le hj.2) (v := (I 70 what.toNatClampNeg)) rfl (n := 18) rfl ?_
      refine p_goto (z_dec zd_X9_led 10 rfl) (t := 22) (by decide) ?_
      exact p_iret (z_dec zd_X9_led 12 rfl) rfl ⟨(by unfold f_X9_led; rw [if_neg h9]), rfl, rfl⟩
  exact hentry
def f_X9_of (I : Nat → Nat → Int32) (np : Nat) (n : Int32) (what : Int32) : Int32 := if (f_X9_placeOf np n what) < 0 then (-2000000000) else (I 55 ((f_X9_placeOf np n what).toNatClampNeg))
set_option maxHeartbeats 4000000 in
set_option maxRecDepth 100000 in
theorem c_X9_of (d : Nat) (hd : 3 ≤ d) (b : Bool) (I : Nat → Nat → Int32) (L : Nat → Nat → Int64) (np : Nat) (hnp : I 54 6 = nI np) (hn10 : np ≤ 10) (n : Int32) (what : Int32) : z_CT zm_X9_of d [.ref 54, .int n, .int what] SH (I, L, z_R b) 0 0 (z_ret (some (.int (f_X9_of I np n what))) (I, L, z_R b)) := by
  refine z_enter (by decide +kernel) (Nat.le_of_ble_eq_true rfl) ?_
  have hentry : PW zm_X9_of d 0 [(0, .ref 54), (1, .int n), (2, .int what)] [] SH (I, L, z_R b) 0 0 (z_ret (some (.int (f_X9_of I np n what))) (I, L, z_R b)) := by
    refine p_aload_n (z_dec zd_X9_of 0 rfl) rfl 0 rfl (n := 1) rfl ?_
    refine p_iload_n (z_dec zd_X9_of 1 rfl) rfl 1 rfl (n := 2) rfl ?_
    refine p_iload_n (z_dec zd_X9_of 2 rfl) rfl 2 rfl (n := 3) rfl ?_
    refine q_callV (As := [.int n, .int what]) (rest := []) (z_dec zd_X9_of 3 rfl) zk_X9_129 zv_X9_placeOf (c_X9_placeOf (d - 1) (by omega) b I L np hnp hn10 n what) rfl ⟨_, _, rfl⟩ rfl rfl (Nat.le_of_ble_eq_true rfl) (by omega) (n := 6) rfl ?_
    show PW zm_X9_of d 6 [(0, .ref 54), (1, .int n), (2, .int what)] [.int (f_X9_placeOf np n what)] SH (I, L, z_R b) 0 0 _
    refine p_istore_n (z_dec zd_X9_of 4 rfl) rfl (lv2 := [(3, .int (f_X9_placeOf np n what)), (0, .ref 54), (1, .int n), (2, .int what)]) (by decide) rfl (n := 7) rfl ?_
    refine p_iload_n (z_dec zd_X9_of 5 rfl) rfl 0 rfl (n := 8) rfl ?_
    refine p_if_lt (z_dec zd_X9_of 6 rfl) (t := 20) (by decide) (n := 11) rfl (fun h8 => ?_) (fun h8 => ?_)
    · refine p_ldc (z_dec zd_X9_of 12 rfl) zq_X9_140 (n := 22) rfl ?_
      exact p_iret (z_dec zd_X9_of 13 rfl) rfl ⟨(by unfold f_X9_of; rw [if_pos h8]), rfl, rfl⟩
    · have hj := z_plof hn10 h8
      refine p_aload_n (z_dec zd_X9_of 7 rfl) rfl 1 rfl (n := 12) rfl ?_
      refine q_getR (z_dec zd_X9_of 8 rfl) zf_X9_9 (i := 55) rfl rfl (n := 15) rfl ?_
      refine p_iload_n (z_dec zd_X9_of 9 rfl) rfl 0 rfl (n := 16) rfl ?_
      refine q_iald (z_dec zd_X9_of 10 rfl) rfl (by decide) ((f_X9_placeOf np n what).toNatClampNeg) hj.1 hj.2 (v := (I 55 ((f_X9_placeOf np n what).toNatClampNeg))) rfl (n := 17) rfl ?_
      refine p_goto (z_dec zd_X9_of 11 rfl) (t := 22) (by decide) ?_
      exact p_iret (z_dec zd_X9_of 13 rfl) rfl ⟨(by unfold f_X9_of; rw [if_neg h8]), rfl, rfl⟩
  exact hentry
def m_X9_adds (I : Nat → Nat → Int32) (np : Nat) (sk : Int32) (gr : Int32) (lo : Int32) : Nat → Nat → Int32 := (z_up (z_up (z_up (z_up I 55 np sk) 55 (10 + np) gr) 55 (20 + np) lo) 54 6 ((nI np) + 1))
set_option maxHeartbeats 4000000 in
set_option maxRecDepth 100000 in
theorem c_X9_adds (d : Nat) (hd : 0 ≤ d) (b : Bool) (I : Nat → Nat → Int32) (L : Nat → Nat → Int64) (np : Nat) (hnp : I 54 6 = nI np) (hn10 : np ≤ 10) (sk : Int32) (gr : Int32) (lo : Int32) (hnl : np < 10) : z_CT zm_X9_adds d [.ref 54, .int sk, .int gr, .int lo] SH (I, L, z_R b) 0 0 (z_ret (none) ((m_X9_adds I np sk gr lo), L, z_R b)) := by
  refine z_enter (by decide +kernel) (Nat.le_of_ble_eq_true rfl) ?_
  have hentry : PW zm_X9_adds d 0 [(0, .ref 54), (1, .int sk), (2, .int gr), (3, .int lo)] [] SH (I, L, z_R b) 0 0 (z_ret (none) ((m_X9_adds I np sk gr lo), L, z_R b)) := by
    refine p_aload_n (z_dec zd_X9_adds 0 rfl) rfl 0 rfl (n := 1) rfl ?_
    refine q_getR (z_dec zd_X9_adds 1 rfl) zf_X9_9 (i := 55) rfl rfl (n := 4) rfl ?_
    refine p_aload_n (z_dec zd_X9_adds 2 rfl) rfl 0 rfl (n := 5) rfl ?_
    refine q_getI (z_dec zd_X9_adds 3 rfl) zf_X9_93 (by decide) rfl (v := (nI np)) hnp (n := 8) rfl ?_
    refine p_iload_n (z_dec zd_X9_adds 4 rfl) rfl 1 rfl (n := 9) rfl ?_
    refine q_iast (z_dec zd_X9_adds 5 rfl) rfl (by decide) (np) rfl (by omega) (n := 10) rfl ?_
    refine p_aload_n (z_dec zd_X9_adds 6 rfl) rfl 0 rfl (n := 11) rfl ?_
    refine q_getR (z_dec zd_X9_adds 7 rfl) zf_X9_9 (i := 55) rfl rfl (n := 14) rfl ?_
    refine p_bipush (z_dec zd_X9_adds 8 rfl) (v := 10) (by decide) (n := 16) rfl ?_
    refine p_aload_n (z_dec zd_X9_adds 9 rfl) rfl 0 rfl (n := 17) rfl ?_
    refine q_getI (z_dec zd_X9_adds 10 rfl) zf_X9_93 (by decide) rfl (v := (nI np)) hnp (n := 20) rfl ?_
    refine p_iadd (z_dec zd_X9_adds 11 rfl) (n := 21) rfl ?_
    refine p_iload_n (z_dec zd_X9_adds 12 rfl) rfl 2 rfl (n := 22) rfl ?_
    refine q_iast (z_dec zd_X9_adds 13 rfl) rfl (by decide) (10 + np) (z_addE rfl rfl) (by omega) (n := 23) rfl ?_
    refine p_aload_n (z_dec zd_X9_adds 14 rfl) rfl 0 rfl (n := 24) rfl ?_
    refine q_getR (z_dec zd_X9_adds 15 rfl) zf_X9_9 (i := 55) rfl rfl (n := 27) rfl ?_
    refine p_bipush (z_dec zd_X9_adds 16 rfl) (v := 20) (by decide) (n := 29) rfl ?_
    refine p_aload_n (z_dec zd_X9_adds 17 rfl) rfl 0 rfl (n := 30) rfl ?_
    refine q_getI (z_dec zd_X9_adds 18 rfl) zf_X9_93 (by decide) rfl (v := (nI np)) hnp (n := 33) rfl ?_
    refine p_iadd (z_dec zd_X9_adds 19 rfl) (n := 34) rfl ?_
    refine p_iload_n (z_dec zd_X9_adds 20 rfl) rfl 3 rfl (n := 35) rfl ?_
    refine q_iast (z_dec zd_X9_adds 21 rfl) rfl (by decide) (20 + np) (z_addE rfl rfl) (by omega) (n := 36) rfl ?_
    refine p_aload_n (z_dec zd_X9_adds 22 rfl) rfl 0 rfl (n := 37) rfl ?_
    refine p_dup (z_dec zd_X9_adds 23 rfl) rfl (n := 38) rfl ?_
    refine q_getI (z_dec zd_X9_adds 24 rfl) zf_X9_93 (by decide) rfl (v := (nI np)) hnp (n := 41) rfl ?_
    refine p_iconst (z_dec zd_X9_adds 25 rfl) (v := 1) (by decide) (n := 42) rfl ?_
    refine p_iadd (z_dec zd_X9_adds 26 rfl) (n := 43) rfl ?_
    refine q_putI (z_dec zd_X9_adds 27 rfl) zp_X9_93 (fun q => by cases q) rfl (n := 46) rfl ?_
    exact p_vret (z_dec zd_X9_adds 28 rfl) rfl ⟨rfl, rfl, (z_3 (by unfold m_X9_adds; rfl) rfl)⟩
  exact hentry
def f_X9_isBody (bo : Nat) (w : Int32) : Int32 := (f_X9_within (w.toInt64) 0 (((nI bo) - 1).toInt64))
set_option maxHeartbeats 4000000 in
set_option maxRecDepth 100000 in
theorem c_X9_isBody (d : Nat) (hd : 1 ≤ d) (b : Bool) (I : Nat → Nat → Int32) (L : Nat → Nat → Int64) (bo : Nat) (hbo : I 54 32 = nI bo) (hb50 : bo ≤ 50) (w : Int32) : z_CT zm_X9_isBody d [.ref 54, .int w] SH (I, L, z_R b) 0 0 (z_ret (some (.int (f_X9_isBody bo w))) (I, L, z_R b)) := by
  refine z_enter (by decide +kernel) (Nat.le_of_ble_eq_true rfl) ?_
  have hentry : PW zm_X9_isBody d 0 [(0, .ref 54), (1, .int w)] [] SH (I, L, z_R b) 0 0 (z_ret (some (.int (f_X9_isBody bo w))) (I, L, z_R b)) := by
    refine p_iload_n (z_dec zd_X9_isBody 0 rfl) rfl 1 rfl (n := 1) rfl ?_
    refine p_i2l (z_dec zd_X9_isBody 1 rfl) (n := 2) rfl ?_
    refine p_lconst (z_dec zd_X9_isBody 2 rfl) (v := 0) (by decide) (n := 3) rfl ?_
    refine p_aload_n (z_dec zd_X9_isBody 3 rfl) rfl 0 rfl (n := 4) rfl ?_
    refine q_getI (z_dec zd_X9_isBody 4 rfl) zf_X9_292 (by decide) rfl (v := (nI bo)) hbo (n := 7) rfl ?_
    refine p_iconst (z_dec zd_X9_isBody 5 rfl) (v := 1) (by decide) (n := 8) rfl ?_
    refine p_isub (z_dec zd_X9_isBody 6 rfl) (n := 9) rfl ?_
    refine p_i2l (z_dec zd_X9_isBody 7 rfl) (n := 10) rfl ?_
    refine q_callS (As := [.long (w.toInt64), .long 0, .long (((nI bo) - 1).toInt64)]) (rest := []) (z_dec zd_X9_isBody 8 rfl) zk_X9_96 zs_X9_within (c_X9_within (d - 1) (by omega) b I L (w.toInt64) 0 (((nI bo) - 1).toInt64)) rfl rfl (Nat.le_of_ble_eq_true rfl) (by omega) (n := 13) rfl ?_
    show PW zm_X9_isBody d 13 [(0, .ref 54), (1, .int w)] [.int (f_X9_within (w.toInt64) 0 (((nI bo) - 1).toInt64))] SH (I, L, z_R b) 0 0 _
    exact p_zret (z_dec zd_X9_isBody 9 rfl) rfl (by apply fb_X9_within) ⟨(by unfold f_X9_isBody; rfl), rfl, rfl⟩
  exact hentry
theorem fb_X9_isBody (bo : Nat) (w : Int32) : f_X9_isBody bo w = 0 ∨ f_X9_isBody bo w = 1 := by
  unfold f_X9_isBody
  (repeat' split) <;> first | exact Or.inl rfl | exact Or.inr rfl | apply fb_X9_within
def f_X9_kindOf (I : Nat → Nat → Int32) (w : Nat) : Int32 := (I 73 w)
set_option maxHeartbeats 4000000 in
set_option maxRecDepth 100000 in
theorem c_X9_kindOf (d : Nat) (hd : 0 ≤ d) (b : Bool) (I : Nat → Nat → Int32) (L : Nat → Nat → Int64) (w : Nat) (hw : w < 50) : z_CT zm_X9_kindOf d [.ref 54, .int (nI w)] SH (I, L, z_R b) 0 0 (z_ret (some (.int (f_X9_kindOf I w))) (I, L, z_R b)) := by
  refine z_enter (by decide +kernel) (Nat.le_of_ble_eq_true rfl) ?_
  have hentry : PW zm_X9_kindOf d 0 [(0, .ref 54), (1, .int (nI w))] [] SH (I, L, z_R b) 0 0 (z_ret (some (.int (f_X9_kindOf I w))) (I, L, z_R b)) := by
    refine p_aload_n (z_dec zd_X9_kindOf 0 rfl) rfl 0 rfl (n := 1) rfl ?_
    refine q_getR (z_dec zd_X9_kindOf 1 rfl) zf_X9_64 (i := 73) rfl rfl (n := 4) rfl ?_
    refine p_iload_n (z_dec zd_X9_kindOf 2 rfl) rfl 1 rfl (n := 5) rfl ?_
    refine q_iald (z_dec zd_X9_kindOf 3 rfl) rfl (by decide) (w) rfl (by omega) (v := (I 73 w)) rfl (n := 6) rfl ?_
    exact p_iret (z_dec zd_X9_kindOf 4 rfl) rfl ⟨(by unfold f_X9_kindOf; rfl), rfl, rfl⟩
  exact hentry
def f_X9_body (I : Nat → Nat → Int32) (bo : Nat) (kind : Int32) : Int32 := if (f_X9_within (kind.toInt64) 0 7) = 0 then (-1) else if (nI bo) = 50 then (-3) else (((nI bo) + 1) - 1)
def m_X9_body (I : Nat → Nat → Int32) (bo : Nat) (kind : Int32) : Nat → Nat → Int32 := if (f_X9_within (kind.toInt64) 0 7) = 0 then I else if (nI bo) = 50 then I else (z_up (z_up I 73 bo kind) 54 32 ((nI bo) + 1))
set_option maxHeartbeats 4000000 in
set_option maxRecDepth 100000 in
theorem c_X9_body (d : Nat) (hd : 1 ≤ d) (b : Bool) (I : Nat → Nat → Int32) (L : Nat → Nat → Int64) (bo : Nat) (hbo : I 54 32 = nI bo) (hb50 : bo ≤ 50) (kind : Int32) : z_CT zm_X9_body d [.ref 54, .int kind] SH (I, L, z_R b) 0 0 (z_ret (some (.int (f_X9_body I bo kind))) ((m_X9_body I bo kind), L, z_R b)) := by
  refine z_enter (by decide +kernel) (Nat.le_of_ble_eq_true rfl) ?_
  have hentry : PW zm_X9_body d 0 [(0, .ref 54), (1, .int kind)] [] SH (I, L, z_R b) 0 0 (z_ret (some (.int (f_X9_body I bo kind))) ((m_X9_body I bo kind), L, z_R b)) := by
    refine p_iload_n (z_dec zd_X9_body 0 rfl) rfl 1 rfl (n := 1) rfl ?_
    refine p_i2l (z_dec zd_X9_body 1 rfl) (n := 2) rfl ?_
    refine p_lconst (z_dec zd_X9_body 2 rfl) (v := 0) (by decide) (n := 3) rfl ?_
    refine p_ldc2 (z_dec zd_X9_body 3 rfl) zq_X9_295 (n := 6) rfl ?_
    refine q_callS (As := [.long (kind.toInt64), .long 0, .long 7]) (rest := []) (z_dec zd_X9_body 4 rfl) zk_X9_96 zs_X9_within (c_X9_within (d - 1) (by omega) b I L (kind.toInt64) 0 7) rfl rfl (Nat.le_of_ble_eq_true rfl) (by omega) (n := 9) rfl ?_
    show PW zm_X9_body d 9 [(0, .ref 54), (1, .int kind)] [.int (f_X9_within (kind.toInt64) 0 7)] SH (I, L, z_R b) 0 0 _
    refine p_if_ne (z_dec zd_X9_body 5 rfl) (t := 14) (by decide) (n := 12) rfl (fun h9 => ?_) (fun h9 => ?_)
    · refine p_aload_n (z_dec zd_X9_body 8 rfl) rfl 0 rfl (n := 15) rfl ?_
      refine q_getI (z_dec zd_X9_body 9 rfl) zf_X9_292 (by decide) rfl (v := (nI bo)) hbo (n := 18) rfl ?_
      refine p_bipush (z_dec zd_X9_body 10 rfl) (v := 50) (by decide) (n := 20) rfl ?_
      refine p_icmp_ne (z_dec zd_X9_body 11 rfl) (t := 26) (by decide) (n := 23) rfl (fun h20 => ?_) (fun h20 => ?_)
      · have hbl : bo < 50 := z_ne50 hb50 h20
        refine p_aload_n (z_dec zd_X9_body 14 rfl) rfl 0 rfl (n := 27) rfl ?_
        refine q_getR (z_dec zd_X9_body 15 rfl) zf_X9_64 (i := 73) rfl rfl (n := 30) rfl ?_
        refine p_aload_n (z_dec zd_X9_body 16 rfl) rfl 0 rfl (n := 31) rfl ?_
        refine q_getI (z_dec zd_X9_body 17 rfl) zf_X9_292 (by decide) rfl (v := (nI bo)) hbo (n := 34) rfl ?_
        refine p_iload_n (z_dec zd_X9_body 18 rfl) rfl 1 rfl (n := 35) rfl ?_
        refine q_iast (z_dec zd_X9_body 19 rfl) rfl (by decide) (bo) rfl (by omega) (n := 36) rfl ?_
        refine p_aload_n (z_dec zd_X9_body 20 rfl) rfl 0 rfl (n := 37) rfl ?_
        refine p_dup (z_dec zd_X9_body 21 rfl) rfl (n := 38) rfl ?_
        refine q_getI (z_dec zd_X9_body 22 rfl) zf_X9_292 (by decide) rfl (v := (nI bo)) hbo (n := 41) rfl ?_
        refine p_iconst (z_dec zd_X9_body 23 rfl) (v := 1) (by decide) (n := 42) rfl ?_
        refine p_iadd (z_dec zd_X9_body 24 rfl) (n := 43) rfl ?_
        refine q_putI (z_dec zd_X9_body 25 rfl) zp_X9_292 (fun q => by cases q) rfl (n := 46) rfl ?_
        refine p_aload_n (z_dec zd_X9_body 26 rfl) rfl 0 rfl (n := 47) rfl ?_
        refine q_getI (z_dec zd_X9_body 27 rfl) zf_X9_292 (by decide) rfl (v := ((nI bo) + 1)) rfl (n := 50) rfl ?_
        refine p_iconst (z_dec zd_X9_body 28 rfl) (v := 1) (by decide) (n := 51) rfl ?_
        refine p_isub (z_dec zd_X9_body 29 rfl) (n := 52) rfl ?_
        exact p_iret (z_dec zd_X9_body 30 rfl) rfl ⟨(by unfold f_X9_body; rw [if_neg h9, if_neg h20]), rfl, (z_3 (by unfold m_X9_body; rw [if_neg h9, if_neg h20]) rfl)⟩
      · refine p_bipush (z_dec zd_X9_body 12 rfl) (v := (-3)) (by decide) (n := 25) rfl ?_
        exact p_iret (z_dec zd_X9_body 13 rfl) rfl ⟨(by unfold f_X9_body; rw [if_neg h9, if_pos h20]), rfl, (z_3 (by unfold m_X9_body; rw [if_neg h9, if_pos h20]) rfl)⟩
    · refine p_iconst (z_dec zd_X9_body 6 rfl) (v := (-1)) (by decide) (n := 13) rfl ?_
      exact p_iret (z_dec zd_X9_body 7 rfl) rfl ⟨(by unfold f_X9_body; rw [if_pos h9]), rfl, (z_3 (by unfold m_X9_body; rw [if_pos h9]) rfl)⟩
  exact hentry
def f_X9_trace (I : Nat → Nat → Int32) (i : Int32) : Int32 := if i < 0 then (-1) else if (I 54 35) ≤ i then (-1) else if 24 ≤ i then (-1) else (I 74 i.toNatClampNeg)
set_option maxHeartbeats 4000000 in
set_option maxRecDepth 100000 in
theorem c_X9_trace (d : Nat) (hd : 0 ≤ d) (b : Bool) (I : Nat → Nat → Int32) (L : Nat → Nat → Int64) (i : Int32) : z_CT zm_X9_trace d [.ref 54, .int i] SH (I, L, z_R b) 0 0 (z_ret (some (.int (f_X9_trace I i))) (I, L, z_R b)) := by
  refine z_enter (by decide +kernel) (Nat.le_of_ble_eq_true rfl) ?_
  have hentry : PW zm_X9_trace d 0 [(0, .ref 54), (1, .int i)] [] SH (I, L, z_R b) 0 0 (z_ret (some (.int (f_X9_trace I i))) (I, L, z_R b)) := by
    refine p_iload_n (z_dec zd_X9_trace 0 rfl) rfl 1 rfl (n := 1) rfl ?_
    refine p_if_lt (z_dec zd_X9_trace 1 rfl) (t := 27) (by decide) (n := 4) rfl (fun h1 => ?_) (fun h1 => ?_)
    · refine p_iconst (z_dec zd_X9_trace 14 rfl) (v := (-1)) (by decide) (n := 28) rfl ?_
      exact p_iret (z_dec zd_X9_trace 15 rfl) rfl ⟨(by unfold f_X9_trace; rw [if_pos h1]), rfl, rfl⟩
    · refine p_iload_n (z_dec zd_X9_trace 2 rfl) rfl 1 rfl (n := 5) rfl ?_
      refine p_aload_n (z_dec zd_X9_trace 3 rfl) rfl 0 rfl (n := 6) rfl ?_
      refine q_getI (z_dec zd_X9_trace 4 rfl) zf_X9_297 (by decide) rfl (v := (I 54 35)) rfl (n := 9) rfl ?_
      refine p_icmp_ge (z_dec zd_X9_trace 5 rfl) (t := 27) (by decide) (n := 12) rfl (fun h9 => ?_) (fun h9 => ?_)
      · refine p_iconst (z_dec zd_X9_trace 14 rfl) (v := (-1)) (by decide) (n := 28) rfl ?_
        exact p_iret (z_dec zd_X9_trace 15 rfl) rfl ⟨(by unfold f_X9_trace; rw [if_neg h1, if_pos h9]), rfl, rfl⟩
      · refine p_iload_n (z_dec zd_X9_trace 6 rfl) rfl 1 rfl (n := 13) rfl ?_
        refine p_bipush (z_dec zd_X9_trace 7 rfl) (v := 24) (by decide) (n := 15) rfl ?_
        refine p_icmp_ge (z_dec zd_X9_trace 8 rfl) (t := 27) (by decide) (n := 18) rfl (fun h15 => ?_) (fun h15 => ?_)
        · refine p_iconst (z_dec zd_X9_trace 14 rfl) (v := (-1)) (by decide) (n := 28) rfl ?_
          exact p_iret (z_dec zd_X9_trace 15 rfl) rfl ⟨(by unfold f_X9_trace; rw [if_neg h1, if_neg h9, if_pos h15]), rfl, rfl⟩
        · have hj := z_in24 h1 h15
          refine p_aload_n (z_dec zd_X9_trace 9 rfl) rfl 0 rfl (n := 19) rfl ?_
          refine q_getR (z_dec zd_X9_trace 10 rfl) zf_X9_67 (i := 74) rfl rfl (n := 22) rfl ?_
          refine p_iload_n (z_dec zd_X9_trace 11 rfl) rfl 1 rfl (n := 23) rfl ?_
          refine q_iald (z_dec zd_X9_trace 12 rfl) rfl (by decide) (i.toNatClampNeg) hj.1 hj.2 (v := (I 74 i.toNatClampNeg)) rfl (n := 24) rfl ?_
          refine p_goto (z_dec zd_X9_trace 13 rfl) (t := 28) (by decide) ?_
          exact p_iret (z_dec zd_X9_trace 15 rfl) rfl ⟨(by unfold f_X9_trace; rw [if_neg h1, if_neg h9, if_neg h15]), rfl, rfl⟩
  exact hentry
def f_X9_undo (I : Nat → Nat → Int32) (dn : Nat) : Int32 := if (nI dn) = 0 then (-5) else (nI (dn - 1))
def m_X9_undo (I : Nat → Nat → Int32) (dn : Nat) : Nat → Nat → Int32 := if (nI dn) = 0 then I else (z_up (z_up I 54 5 (nI (dn - 1))) 55 ((I 56 (dn - 1)).toNatClampNeg) (I 57 (dn - 1)))
set_option maxHeartbeats 4000000 in
set_option maxRecDepth 100000 in
theorem c_X9_undo (d : Nat) (hd : 0 ≤ d) (b : Bool) (I : Nat → Nat → Int32) (L : Nat → Nat → Int64) (dn : Nat) (hdn : I 54 5 = nI dn) (hd40 : dn ≤ 40) (hca : ∀ j, j < 40 → I 56 j = nI (I 56 j).toNatClampNeg ∧ (I 56 j).toNatClampNeg < 42) : z_CT zm_X9_undo d [.ref 54] SH (I, L, z_R b) 0 0 (z_ret (some (.int (f_X9_undo I dn))) ((m_X9_undo I dn), L, z_R b)) := by
  refine z_enter (by decide +kernel) (Nat.le_of_ble_eq_true rfl) ?_
  have hentry : PW zm_X9_undo d 0 [(0, .ref 54)] [] SH (I, L, z_R b) 0 0 (z_ret (some (.int (f_X9_undo I dn))) ((m_X9_undo I dn), L, z_R b)) := by
    refine p_aload_n (z_dec zd_X9_undo 0 rfl) rfl 0 rfl (n := 1) rfl ?_
    refine q_getI (z_dec zd_X9_undo 1 rfl) zf_X9_87 (by decide) rfl (v := (nI dn)) hdn (n := 4) rfl ?_
    refine p_if_ne (z_dec zd_X9_undo 2 rfl) (t := 10) (by decide) (n := 7) rfl (fun h4 => ?_) (fun h4 => ?_)
    · have hdl : 0 < dn := z_ne0 hd40 h4
      refine p_aload_n (z_dec zd_X9_undo 5 rfl) rfl 0 rfl (n := 11) rfl ?_
      refine p_dup (z_dec zd_X9_undo 6 rfl) rfl (n := 12) rfl ?_
      refine q_getI (z_dec zd_X9_undo 7 rfl) zf_X9_87 (by decide) rfl (v := (nI dn)) hdn (n := 15) rfl ?_
      refine p_iconst (z_dec zd_X9_undo 8 rfl) (v := 1) (by decide) (n := 16) rfl ?_
      refine p_isub (z_dec zd_X9_undo 9 rfl) (n := 17) rfl ?_
      refine z_lv rfl (show _ = [.int (nI (dn - 1)), .ref 54] from (by rw [z_pred hdl])) rfl ?_
      refine q_putI (z_dec zd_X9_undo 10 rfl) zp_X9_87 (fun q => by cases q) rfl (n := 20) rfl ?_
      refine p_aload_n (z_dec zd_X9_undo 11 rfl) rfl 0 rfl (n := 21) rfl ?_
      refine q_getR (z_dec zd_X9_undo 12 rfl) zf_X9_9 (i := 55) rfl rfl (n := 24) rfl ?_
      refine p_aload_n (z_dec zd_X9_undo 13 rfl) rfl 0 rfl (n := 25) rfl ?_
      refine q_getR (z_dec zd_X9_undo 14 rfl) zf_X9_13 (i := 56) rfl rfl (n := 28) rfl ?_
      refine p_aload_n (z_dec zd_X9_undo 15 rfl) rfl 0 rfl (n := 29) rfl ?_
      refine q_getI (z_dec zd_X9_undo 16 rfl) zf_X9_87 (by decide) rfl (v := (nI (dn - 1))) rfl (n := 32) rfl ?_
      refine q_iald (z_dec zd_X9_undo 17 rfl) rfl (by decide) ((dn - 1)) rfl (by omega) (v := (I 56 (dn - 1))) rfl (n := 33) rfl ?_
      refine p_aload_n (z_dec zd_X9_undo 18 rfl) rfl 0 rfl (n := 34) rfl ?_
      refine q_getR (z_dec zd_X9_undo 19 rfl) zf_X9_16 (i := 57) rfl rfl (n := 37) rfl ?_
      refine p_aload_n (z_dec zd_X9_undo 20 rfl) rfl 0 rfl (n := 38) rfl ?_
      refine q_getI (z_dec zd_X9_undo 21 rfl) zf_X9_87 (by decide) rfl (v := (nI (dn - 1))) rfl (n := 41) rfl ?_
      refine q_iald (z_dec zd_X9_undo 22 rfl) rfl (by decide) ((dn - 1)) rfl (by omega) (v := (I 57 (dn - 1))) rfl (n := 42) rfl ?_
      refine q_iast (z_dec zd_X9_undo 23 rfl) rfl (by decide) ((I 56 (dn - 1)).toNatClampNeg) (hca _ (by omega)).1 (hca _ (by omega)).2 (n := 43) rfl ?_
      refine p_aload_n (z_dec zd_X9_undo 24 rfl) rfl 0 rfl (n := 44) rfl ?_
      refine q_getI (z_dec zd_X9_undo 25 rfl) zf_X9_87 (by decide) rfl (v := (nI (dn - 1))) rfl (n := 47) rfl ?_
      exact p_iret (z_dec zd_X9_undo 26 rfl) rfl ⟨(by unfold f_X9_undo; rw [if_neg h4]), rfl, (z_3 (by unfold m_X9_undo; rw [if_neg h4]) rfl)⟩
    · refine p_bipush (z_dec zd_X9_undo 3 rfl) (v := (-5)) (by decide) (n := 9) rfl ?_
      exact p_iret (z_dec zd_X9_undo 4 rfl) rfl ⟨(by unfold f_X9_undo; rw [if_pos h4]), rfl, (z_3 (by unfold m_X9_undo; rw [if_pos h4]) rfl)⟩
  exact hentry
def f_X9_redo (I : Nat → Nat → Int32) (dn : Nat) : Int32 := if (nI dn) = (I 54 4) then (-5) else ((I 54 4) - ((nI dn) + 1))
def m_X9_redo (I : Nat → Nat → Int32) (dn : Nat) : Nat → Nat → Int32 := if (nI dn) = (I 54 4) then I else (z_up (z_up I 55 ((I 56 dn).toNatClampNeg) (I 58 dn)) 54 5 ((nI dn) + 1))
set_option maxHeartbeats 4000000 in
set_option maxRecDepth 100000 in
theorem c_X9_redo (d : Nat) (hd : 0 ≤ d) (b : Bool) (I : Nat → Nat → Int32) (L : Nat → Nat → Int64) (dn : Nat) (hdn : I 54 5 = nI dn) (hd40 : dn ≤ 40) (hca : ∀ j, j < 40 → I 56 j = nI (I 56 j).toNatClampNeg ∧ (I 56 j).toNatClampNeg < 42) (hdk : ¬ nI dn = I 54 4 → dn < 40) : z_CT zm_X9_redo d [.ref 54] SH (I, L, z_R b) 0 0 (z_ret (some (.int (f_X9_redo I dn))) ((m_X9_redo I dn), L, z_R b)) := by
  refine z_enter (by decide +kernel) (Nat.le_of_ble_eq_true rfl) ?_
  have hentry : PW zm_X9_redo d 0 [(0, .ref 54)] [] SH (I, L, z_R b) 0 0 (z_ret (some (.int (f_X9_redo I dn))) ((m_X9_redo I dn), L, z_R b)) := by
    refine p_aload_n (z_dec zd_X9_redo 0 rfl) rfl 0 rfl (n := 1) rfl ?_
    refine q_getI (z_dec zd_X9_redo 1 rfl) zf_X9_87 (by decide) rfl (v := (nI dn)) hdn (n := 4) rfl ?_
    refine p_aload_n (z_dec zd_X9_redo 2 rfl) rfl 0 rfl (n := 5) rfl ?_
    refine q_getI (z_dec zd_X9_redo 3 rfl) zf_X9_90 (by decide) rfl (v := (I 54 4)) rfl (n := 8) rfl ?_
    refine p_icmp_ne (z_dec zd_X9_redo 4 rfl) (t := 14) (by decide) (n := 11) rfl (fun h8 => ?_) (fun h8 => ?_)
    · have hdl : dn < 40 := hdk h8
      refine p_aload_n (z_dec zd_X9_redo 7 rfl) rfl 0 rfl (n := 15) rfl ?_
      refine q_getR (z_dec zd_X9_redo 8 rfl) zf_X9_9 (i := 55) rfl rfl (n := 18) rfl ?_
      refine p_aload_n (z_dec zd_X9_redo 9 rfl) rfl 0 rfl (n := 19) rfl ?_
      refine q_getR (z_dec zd_X9_redo 10 rfl) zf_X9_13 (i := 56) rfl rfl (n := 22) rfl ?_
      refine p_aload_n (z_dec zd_X9_redo 11 rfl) rfl 0 rfl (n := 23) rfl ?_
      refine q_getI (z_dec zd_X9_redo 12 rfl) zf_X9_87 (by decide) rfl (v := (nI dn)) hdn (n := 26) rfl ?_
      refine q_iald (z_dec zd_X9_redo 13 rfl) rfl (by decide) (dn) rfl (by omega) (v := (I 56 dn)) rfl (n := 27) rfl ?_
      refine p_aload_n (z_dec zd_X9_redo 14 rfl) rfl 0 rfl (n := 28) rfl ?_
      refine q_getR (z_dec zd_X9_redo 15 rfl) zf_X9_19 (i := 58) rfl rfl (n := 31) rfl ?_
      refine p_aload_n (z_dec zd_X9_redo 16 rfl) rfl 0 rfl (n := 32) rfl ?_
      refine q_getI (z_dec zd_X9_redo 17 rfl) zf_X9_87 (by decide) rfl (v := (nI dn)) hdn (n := 35) rfl ?_
      refine q_iald (z_dec zd_X9_redo 18 rfl) rfl (by decide) (dn) rfl (by omega) (v := (I 58 dn)) rfl (n := 36) rfl ?_
      refine q_iast (z_dec zd_X9_redo 19 rfl) rfl (by decide) ((I 56 dn).toNatClampNeg) (hca _ (by omega)).1 (hca _ (by omega)).2 (n := 37) rfl ?_
      refine p_aload_n (z_dec zd_X9_redo 20 rfl) rfl 0 rfl (n := 38) rfl ?_
      refine p_dup (z_dec zd_X9_redo 21 rfl) rfl (n := 39) rfl ?_
      refine q_getI (z_dec zd_X9_redo 22 rfl) zf_X9_87 (by decide) rfl (v := (nI dn)) hdn (n := 42) rfl ?_
      refine p_iconst (z_dec zd_X9_redo 23 rfl) (v := 1) (by decide) (n := 43) rfl ?_
      refine p_iadd (z_dec zd_X9_redo 24 rfl) (n := 44) rfl ?_
      refine q_putI (z_dec zd_X9_redo 25 rfl) zp_X9_87 (fun q => by cases q) rfl (n := 47) rfl ?_
      refine p_aload_n (z_dec zd_X9_redo 26 rfl) rfl 0 rfl (n := 48) rfl ?_
      refine q_getI (z_dec zd_X9_redo 27 rfl) zf_X9_90 (by decide) rfl (v := (I 54 4)) rfl (n := 51) rfl ?_
      refine p_aload_n (z_dec zd_X9_redo 28 rfl) rfl 0 rfl (n := 52) rfl ?_
      refine q_getI (z_dec zd_X9_redo 29 rfl) zf_X9_87 (by decide) rfl (v := ((nI dn) + 1)) rfl (n := 55) rfl ?_
      refine p_isub (z_dec zd_X9_redo 30 rfl) (n := 56) rfl ?_
      exact p_iret (z_dec zd_X9_redo 31 rfl) rfl ⟨(by unfold f_X9_redo; rw [if_neg h8]), rfl, (z_3 (by unfold m_X9_redo; rw [if_neg h8]) rfl)⟩
    · refine p_bipush (z_dec zd_X9_redo 5 rfl) (v := (-5)) (by decide) (n := 13) rfl ?_
      exact p_iret (z_dec zd_X9_redo 6 rfl) rfl ⟨(by unfold f_X9_redo; rw [if_pos h8]), rfl, (z_3 (by unfold m_X9_redo; rw [if_pos h8]) rfl)⟩
  exact hentry
def f_X9_lemonade (I : Nat → Nat → Int32) (np : Nat) (one : Int32) : Int32 := if (f_X9_isOne np (one.toInt64)) = 0 then (-1) else (f_X9_soured (I 55 (10 + one.toNatClampNeg)) 0)
def m_X9_lemonade (I : Nat → Nat → Int32) (np : Nat) (one : Int32) : Nat → Nat → Int32 := if (f_X9_isOne np (one.toInt64)) = 0 then I else (z_up (z_up I 55 (10 + one.toNatClampNeg) (f_X9_soured (I 55 (10 + one.toNatClampNeg)) 0)) 70 2 ((I 70 2) + 1))
set_option maxHeartbeats 4000000 in
set_option maxRecDepth 100000 in
theorem c_X9_lemonade (d : Nat) (hd : 2 ≤ d) (b : Bool) (I : Nat → Nat → Int32) (L : Nat → Nat → Int64) (np : Nat) (hnp : I 54 6 = nI np) (hn10 : np ≤ 10) (one : Int32) : z_CT zm_X9_lemonade d [.ref 54, .int one] SH (I, L, z_R b) 0 0 (z_ret (some (.int (f_X9_lemonade I np one))) ((m_X9_lemonade I np one), L, z_R b)) := by
  refine z_enter (by decide +kernel) (Nat.le_of_ble_eq_true rfl) ?_
  have hentry : PW zm_X9_lemonade d 0 [(0, .ref 54), (1, .int one)] [] SH (I, L, z_R b) 0 0 (z_ret (some (.int (f_X9_lemonade I np one))) ((m_X9_lemonade I np one), L, z_R b)) := by
    refine p_aload_n (z_dec zd_X9_lemonade 0 rfl) rfl 0 rfl (n := 1) rfl ?_
    refine p_iload_n (z_dec zd_X9_lemonade 1 rfl) rfl 1 rfl (n := 2) rfl ?_
    refine p_i2l (z_dec zd_X9_lemonade 2 rfl) (n := 3) rfl ?_
    refine q_callV (As := [.long (one.toInt64)]) (rest := []) (z_dec zd_X9_lemonade 3 rfl) zk_X9_121 zv_X9_isOne (c_X9_isOne (d - 1) (by omega) b I L np hnp hn10 (one.toInt64)) rfl ⟨_, _, rfl⟩ rfl rfl (Nat.le_of_ble_eq_true rfl) (by omega) (n := 6) rfl ?_
    show PW zm_X9_lemonade d 6 [(0, .ref 54), (1, .int one)] [.int (f_X9_isOne np (one.toInt64))] SH (I, L, z_R b) 0 0 _
    refine p_if_ne (z_dec zd_X9_lemonade 4 rfl) (t := 11) (by decide) (n := 9) rfl (fun h6 => ?_) (fun h6 => ?_)
    · have hj := z_one hn10 h6
      refine p_aload_n (z_dec zd_X9_lemonade 7 rfl) rfl 0 rfl (n := 12) rfl ?_
      refine q_getR (z_dec zd_X9_lemonade 8 rfl) zf_X9_9 (i := 55) rfl rfl (n := 15) rfl ?_
      refine p_bipush (z_dec zd_X9_lemonade 9 rfl) (v := 10) (by decide) (n := 17) rfl ?_
      refine p_iload_n (z_dec zd_X9_lemonade 10 rfl) rfl 1 rfl (n := 18) rfl ?_
      refine p_iadd (z_dec zd_X9_lemonade 11 rfl) (n := 19) rfl ?_
      refine p_aload_n (z_dec zd_X9_lemonade 12 rfl) rfl 0 rfl (n := 20) rfl ?_
      refine q_getR (z_dec zd_X9_lemonade 13 rfl) zf_X9_9 (i := 55) rfl rfl (n := 23) rfl ?_
      refine p_bipush (z_dec zd_X9_lemonade 14 rfl) (v := 10) (by decide) (n := 25) rfl ?_
      refine p_iload_n (z_dec zd_X9_lemonade 15 rfl) rfl 1 rfl (n := 26) rfl ?_
      refine p_iadd (z_dec zd_X9_lemonade 16 rfl) (n := 27) rfl ?_
      refine q_iald (z_dec zd_X9_lemonade 17 rfl) rfl (by decide) (10 + one.toNatClampNeg) (z_addE rfl hj.1) (by omega) (v := (I 55 (10 + one.toNatClampNeg))) rfl (n := 28) rfl ?_
      refine p_iconst (z_dec zd_X9_lemonade 18 rfl) (v := 0) (by decide) (n := 29) rfl ?_
      refine q_callS (As := [.int (I 55 (10 + one.toNatClampNeg)), .int 0]) (rest := [.int (10 + one), .ref 55]) (z_dec zd_X9_lemonade 19 rfl) zk_X9_272 zs_X9_soured (c_X9_soured (d - 1) (by omega) b I L (I 55 (10 + one.toNatClampNeg)) 0) rfl rfl (Nat.le_of_ble_eq_true rfl) (by omega) (n := 32) rfl ?_
      show PW zm_X9_lemonade d 32 [(0, .ref 54), (1, .int one)] [.int (f_X9_soured (I 55 (10 + one.toNatClampNeg)) 0), .int (10 + one), .ref 55] SH (I, L, z_R b) 0 0 _
      refine q_iast (z_dec zd_X9_lemonade 20 rfl) rfl (by decide) (10 + one.toNatClampNeg) (z_addE rfl hj.1) (by omega) (n := 33) rfl ?_
      refine p_aload_n (z_dec zd_X9_lemonade 21 rfl) rfl 0 rfl (n := 34) rfl ?_
      refine q_getR (z_dec zd_X9_lemonade 22 rfl) zf_X9_55 (i := 70) rfl rfl (n := 37) rfl ?_
      refine p_iconst (z_dec zd_X9_lemonade 23 rfl) (v := 2) (by decide) (n := 38) rfl ?_
      refine p_dup2 (z_dec zd_X9_lemonade 24 rfl) rfl rfl (n := 39) rfl ?_
      refine q_iald (z_dec zd_X9_lemonade 25 rfl) rfl (by decide) (2) rfl (by decide) (v := (I 70 2)) rfl (n := 40) rfl ?_
      refine p_iconst (z_dec zd_X9_lemonade 26 rfl) (v := 1) (by decide) (n := 41) rfl ?_
      refine p_iadd (z_dec zd_X9_lemonade 27 rfl) (n := 42) rfl ?_
      refine q_iast (z_dec zd_X9_lemonade 28 rfl) rfl (by decide) (2) rfl (by decide) (n := 43) rfl ?_
      refine p_aload_n (z_dec zd_X9_lemonade 29 rfl) rfl 0 rfl (n := 44) rfl ?_
      refine q_getR (z_dec zd_X9_lemonade 30 rfl) zf_X9_9 (i := 55) rfl rfl (n := 47) rfl ?_
      refine p_bipush (z_dec zd_X9_lemonade 31 rfl) (v := 10) (by decide) (n := 49) rfl ?_
      refine p_iload_n (z_dec zd_X9_lemonade 32 rfl) rfl 1 rfl (n := 50) rfl ?_
      refine p_iadd (z_dec zd_X9_lemonade 33 rfl) (n := 51) rfl ?_
      refine q_iald (z_dec zd_X9_lemonade 34 rfl) rfl (by decide) (10 + one.toNatClampNeg) (z_addE rfl hj.1) (by omega) (v := (f_X9_soured (I 55 (10 + one.toNatClampNeg)) 0)) (by simp [z_up]) (n := 52) rfl ?_
      exact p_iret (z_dec zd_X9_lemonade 35 rfl) rfl ⟨(by unfold f_X9_lemonade; rw [if_neg h6]), rfl, (z_3 (by unfold m_X9_lemonade; rw [if_neg h6]) rfl)⟩
    · refine p_iconst (z_dec zd_X9_lemonade 5 rfl) (v := (-1)) (by decide) (n := 10) rfl ?_
      exact p_iret (z_dec zd_X9_lemonade 6 rfl) rfl ⟨(by unfold f_X9_lemonade; rw [if_pos h6]), rfl, (z_3 (by unfold m_X9_lemonade; rw [if_pos h6]) rfl)⟩
  exact hentry
def f_X9_rowIs (I : Nat → Nat → Int32) (sh : Int32) (sort : Int32) : Int32 := if (f_X9_isShelf sh) = 0 then (-1) else if 0 ≤ (I 75 sh.toNatClampNeg) then if (I 75 sh.toNatClampNeg) = (50 + sort) then 1 else (-12) else (-11)
set_option maxHeartbeats 4000000 in
set_option maxRecDepth 100000 in
theorem c_X9_rowIs (d : Nat) (hd : 2 ≤ d) (b : Bool) (I : Nat → Nat → Int32) (L : Nat → Nat → Int64) (sh : Int32) (sort : Int32) : z_CT zm_X9_rowIs d [.ref 54, .int sh, .int sort] SH (I, L, z_R b) 0 0 (z_ret (some (.int (f_X9_rowIs I sh sort))) (I, L, z_R b)) := by
  refine z_enter (by decide +kernel) (Nat.le_of_ble_eq_true rfl) ?_
  have hentry : PW zm_X9_rowIs d 0 [(0, .ref 54), (1, .int sh), (2, .int sort)] [] SH (I, L, z_R b) 0 0 (z_ret (some (.int (f_X9_rowIs I sh sort))) (I, L, z_R b)) := by
    refine p_iload_n (z_dec zd_X9_rowIs 0 rfl) rfl 1 rfl (n := 1) rfl ?_
    refine q_callS (As := [.int sh]) (rest := []) (z_dec zd_X9_rowIs 1 rfl) zk_X9_113 zs_X9_isShelf (c_X9_isShelf (d - 1) (by omega) b I L sh) rfl rfl (Nat.le_of_ble_eq_true rfl) (by omega) (n := 4) rfl ?_
    show PW zm_X9_rowIs d 4 [(0, .ref 54), (1, .int sh), (2, .int sort)] [.int (f_X9_isShelf sh)] SH (I, L, z_R b) 0 0 _
    refine p_if_ne (z_dec zd_X9_rowIs 2 rfl) (t := 11) (by decide) (n := 7) rfl (fun h4 => ?_) (fun h4 => ?_)
    · have hj_sh := z_shf h4
      refine p_aload_n (z_dec zd_X9_rowIs 5 rfl) rfl 0 rfl (n := 12) rfl ?_
      refine q_getR (z_dec zd_X9_rowIs 6 rfl) zf_X9_70 (i := 75) rfl rfl (n := 15) rfl ?_
      refine p_iload_n (z_dec zd_X9_rowIs 7 rfl) rfl 1 rfl (n := 16) rfl ?_
      refine q_iald (z_dec zd_X9_rowIs 8 rfl) rfl (by decide) (sh.toNatClampNeg) hj_sh.1 hj_sh.2 (v := (I 75 sh.toNatClampNeg)) rfl (n := 17) rfl ?_
      refine p_if_ge (z_dec zd_X9_rowIs 9 rfl) (t := 25) (by decide) (n := 20) rfl (fun h17 => ?_) (fun h17 => ?_)
      · refine p_aload_n (z_dec zd_X9_rowIs 12 rfl) rfl 0 rfl (n := 26) rfl ?_
        refine q_getR (z_dec zd_X9_rowIs 13 rfl) zf_X9_70 (i := 75) rfl rfl (n := 29) rfl ?_
        refine p_iload_n (z_dec zd_X9_rowIs 14 rfl) rfl 1 rfl (n := 30) rfl ?_
        refine q_iald (z_dec zd_X9_rowIs 15 rfl) rfl (by decide) (sh.toNatClampNeg) hj_sh.1 hj_sh.2 (v := (I 75 sh.toNatClampNeg)) rfl (n := 31) rfl ?_
        refine p_bipush (z_dec zd_X9_rowIs 16 rfl) (v := 50) (by decide) (n := 33) rfl ?_
        refine p_iload_n (z_dec zd_X9_rowIs 17 rfl) rfl 2 rfl (n := 34) rfl ?_
        refine p_iadd (z_dec zd_X9_rowIs 18 rfl) (n := 35) rfl ?_
        refine p_icmp_ne (z_dec zd_X9_rowIs 19 rfl) (t := 42) (by decide) (n := 38) rfl (fun h35 => ?_) (fun h35 => ?_)
        · refine p_bipush (z_dec zd_X9_rowIs 22 rfl) (v := (-12)) (by decide) (n := 44) rfl ?_
          exact p_iret (z_dec zd_X9_rowIs 23 rfl) rfl ⟨(by unfold f_X9_rowIs; rw [if_neg h4, if_pos h17, if_neg h35]), rfl, rfl⟩
        · refine p_iconst (z_dec zd_X9_rowIs 20 rfl) (v := 1) (by decide) (n := 39) rfl ?_
          refine p_goto (z_dec zd_X9_rowIs 21 rfl) (t := 44) (by decide) ?_
          exact p_iret (z_dec zd_X9_rowIs 23 rfl) rfl ⟨(by unfold f_X9_rowIs; rw [if_neg h4, if_pos h17, if_pos h35]), rfl, rfl⟩
      · refine p_bipush (z_dec zd_X9_rowIs 10 rfl) (v := (-11)) (by decide) (n := 22) rfl ?_
        refine p_goto (z_dec zd_X9_rowIs 11 rfl) (t := 44) (by decide) ?_
        exact p_iret (z_dec zd_X9_rowIs 23 rfl) rfl ⟨(by unfold f_X9_rowIs; rw [if_neg h4, if_neg h17]), rfl, rfl⟩
    · refine p_iconst (z_dec zd_X9_rowIs 3 rfl) (v := (-1)) (by decide) (n := 8) rfl ?_
      refine p_goto (z_dec zd_X9_rowIs 4 rfl) (t := 44) (by decide) ?_
      exact p_iret (z_dec zd_X9_rowIs 23 rfl) rfl ⟨(by unfold f_X9_rowIs; rw [if_pos h4]), rfl, rfl⟩
  exact hentry
def f_X9_refusal (I : Nat → Nat → Int32) (sh : Int32) (i : Int32) : Int32 := if (f_X9_isShelf sh) = 0 then (-1) else if 0 ≤ (I 75 sh.toNatClampNeg) then if 50 ≤ (I 75 sh.toNatClampNeg) then if i < 0 then (-13) else if (I 76 sh.toNatClampNeg) ≤ i then (-13) else 0 else (-12) else (-11)
set_option maxHeartbeats 4000000 in
set_option maxRecDepth 100000 in
theorem c_X9_refusal (d : Nat) (hd : 2 ≤ d) (b : Bool) (I : Nat → Nat → Int32) (L : Nat → Nat → Int64) (sh : Int32) (i : Int32) : z_CT zm_X9_refusal d [.ref 54, .int sh, .int i] SH (I, L, z_R b) 0 0 (z_ret (some (.int (f_X9_refusal I sh i))) (I, L, z_R b)) := by
  refine z_enter (by decide +kernel) (Nat.le_of_ble_eq_true rfl) ?_
  have hentry : PW zm_X9_refusal d 0 [(0, .ref 54), (1, .int sh), (2, .int i)] [] SH (I, L, z_R b) 0 0 (z_ret (some (.int (f_X9_refusal I sh i))) (I, L, z_R b)) := by
    refine p_iload_n (z_dec zd_X9_refusal 0 rfl) rfl 1 rfl (n := 1) rfl ?_
    refine q_callS (As := [.int sh]) (rest := []) (z_dec zd_X9_refusal 1 rfl) zk_X9_113 zs_X9_isShelf (c_X9_isShelf (d - 1) (by omega) b I L sh) rfl rfl (Nat.le_of_ble_eq_true rfl) (by omega) (n := 4) rfl ?_
    show PW zm_X9_refusal d 4 [(0, .ref 54), (1, .int sh), (2, .int i)] [.int (f_X9_isShelf sh)] SH (I, L, z_R b) 0 0 _
    refine p_if_ne (z_dec zd_X9_refusal 2 rfl) (t := 9) (by decide) (n := 7) rfl (fun h4 => ?_) (fun h4 => ?_)
    · have hj_sh := z_shf h4
      refine p_aload_n (z_dec zd_X9_refusal 5 rfl) rfl 0 rfl (n := 10) rfl ?_
      refine q_getR (z_dec zd_X9_refusal 6 rfl) zf_X9_70 (i := 75) rfl rfl (n := 13) rfl ?_
      refine p_iload_n (z_dec zd_X9_refusal 7 rfl) rfl 1 rfl (n := 14) rfl ?_
      refine q_iald (z_dec zd_X9_refusal 8 rfl) rfl (by decide) (sh.toNatClampNeg) hj_sh.1 hj_sh.2 (v := (I 75 sh.toNatClampNeg)) rfl (n := 15) rfl ?_
      refine p_if_ge (z_dec zd_X9_refusal 9 rfl) (t := 21) (by decide) (n := 18) rfl (fun h15 => ?_) (fun h15 => ?_)
      · refine p_aload_n (z_dec zd_X9_refusal 12 rfl) rfl 0 rfl (n := 22) rfl ?_
        refine q_getR (z_dec zd_X9_refusal 13 rfl) zf_X9_70 (i := 75) rfl rfl (n := 25) rfl ?_
        refine p_iload_n (z_dec zd_X9_refusal 14 rfl) rfl 1 rfl (n := 26) rfl ?_
        refine q_iald (z_dec zd_X9_refusal 15 rfl) rfl (by decide) (sh.toNatClampNeg) hj_sh.1 hj_sh.2 (v := (I 75 sh.toNatClampNeg)) rfl (n := 27) rfl ?_
        refine p_bipush (z_dec zd_X9_refusal 16 rfl) (v := 50) (by decide) (n := 29) rfl ?_
        refine p_icmp_ge (z_dec zd_X9_refusal 17 rfl) (t := 35) (by decide) (n := 32) rfl (fun h29 => ?_) (fun h29 => ?_)
        · refine p_iload_n (z_dec zd_X9_refusal 20 rfl) rfl 2 rfl (n := 36) rfl ?_
          refine p_if_lt (z_dec zd_X9_refusal 21 rfl) (t := 53) (by decide) (n := 39) rfl (fun h36 => ?_) (fun h36 => ?_)
          · refine p_bipush (z_dec zd_X9_refusal 30 rfl) (v := (-13)) (by decide) (n := 55) rfl ?_
            exact p_iret (z_dec zd_X9_refusal 31 rfl) rfl ⟨(by unfold f_X9_refusal; rw [if_neg h4, if_pos h15, if_pos h29, if_pos h36]), rfl, rfl⟩
          · refine p_iload_n (z_dec zd_X9_refusal 22 rfl) rfl 2 rfl (n := 40) rfl ?_
            refine p_aload_n (z_dec zd_X9_refusal 23 rfl) rfl 0 rfl (n := 41) rfl ?_
            refine q_getR (z_dec zd_X9_refusal 24 rfl) zf_X9_73 (i := 76) rfl rfl (n := 44) rfl ?_
            refine p_iload_n (z_dec zd_X9_refusal 25 rfl) rfl 1 rfl (n := 45) rfl ?_
            refine q_iald (z_dec zd_X9_refusal 26 rfl) rfl (by decide) (sh.toNatClampNeg) hj_sh.1 hj_sh.2 (v := (I 76 sh.toNatClampNeg)) rfl (n := 46) rfl ?_
            refine p_icmp_ge (z_dec zd_X9_refusal 27 rfl) (t := 53) (by decide) (n := 49) rfl (fun h46 => ?_) (fun h46 => ?_)
            · refine p_bipush (z_dec zd_X9_refusal 30 rfl) (v := (-13)) (by decide) (n := 55) rfl ?_
              exact p_iret (z_dec zd_X9_refusal 31 rfl) rfl ⟨(by unfold f_X9_refusal; rw [if_neg h4, if_pos h15, if_pos h29, if_neg h36, if_pos h46]), rfl, rfl⟩
            · refine p_iconst (z_dec zd_X9_refusal 28 rfl) (v := 0) (by decide) (n := 50) rfl ?_
              refine p_goto (z_dec zd_X9_refusal 29 rfl) (t := 55) (by decide) ?_
              exact p_iret (z_dec zd_X9_refusal 31 rfl) rfl ⟨(by unfold f_X9_refusal; rw [if_neg h4, if_pos h15, if_pos h29, if_neg h36, if_neg h46]), rfl, rfl⟩
        · refine p_bipush (z_dec zd_X9_refusal 18 rfl) (v := (-12)) (by decide) (n := 34) rfl ?_
          exact p_iret (z_dec zd_X9_refusal 19 rfl) rfl ⟨(by unfold f_X9_refusal; rw [if_neg h4, if_pos h15, if_neg h29]), rfl, rfl⟩
      · refine p_bipush (z_dec zd_X9_refusal 10 rfl) (v := (-11)) (by decide) (n := 20) rfl ?_
        exact p_iret (z_dec zd_X9_refusal 11 rfl) rfl ⟨(by unfold f_X9_refusal; rw [if_neg h4, if_neg h15]), rfl, rfl⟩
    · refine p_iconst (z_dec zd_X9_refusal 3 rfl) (v := (-1)) (by decide) (n := 8) rfl ?_
      exact p_iret (z_dec zd_X9_refusal 4 rfl) rfl ⟨(by unfold f_X9_refusal; rw [if_pos h4]), rfl, rfl⟩
  exact hentry
